set_option maxHeartbeats 4000000 in
set_option maxRecDepth 100000 in
/-- readKind -/
theorem w_readKindX (l : Launch) (hl0 : l.stackTraces = false) (D : va_G) (A : Nat → Prop) (sad : Nat → Nat) (τ : zTy) (fi : zFi) (fr : zFr) (ol : Int64) (L a : Nat) (hF : zFix τ fr) (hn : fi 1 1 = nI L) (ha : fi 1 2 = nI a) (hn4 : L ≤ 400) (han : a ≤ L) : Met l yX11_readKind wsX11_readKind ({ frames := 5, cells := 0, slots := 0, locals := 108 }) (va_Pc [.ref (τ.1 0)] (zQc D A sad τ fi fr ol)) (va_Qi (fun (r : Int32) (u : zFi) => (∃ k x, k < 4 ∧ r = nI k ∧ zKnd (fi 2) L a = some (k, x) ∧ x ≤ L ∧ u = zu fi 1 2 (nI x)) ∨ (r = -1 ∧ zKnd (fi 2) L a = none ∧ u = fi)) (fun (u : zFi) (t : State) => zH D A τ u fr ol t t.heap) A) 0 0 A := by
  refine Met.ofW (cc := cX11_readKind) (maxL := 1) (ret := (some .int)) (by decide) rfl ?_
  intro p9 e9 s m args below meth c9 s₁ B hml hv
  obtain ⟨rfl, hz, hH, hA⟩ := hv
  have hx := B.exec
  have hb := B.bytes
  have hr := B.returns
  have hts := atoms_spec (ws := wsX11_readKind) B.pre
  have hown : s.vm.findClass RX11 = some m.cls := findClass_of_methodNamed B.named
  have hlocks := B.notSynchronized
  have hS : va_S A s.heap s.heap [] := va_S.rf
  have hl := lv_entry ([.ref (τ.1 0)]) (n := 1) (Nat.le_of_ble_eq_true rfl)
  rw [lg_entry_eq]
  generalize (lg_sl ([.ref (τ.1 0)]) ++ List.replicate (1 - (lg_sl ([.ref (τ.1 0)])).length) Slot.unset).toArray = ls at hl ⊢
  have hl : lv_has ls 1 [(0, .ref (τ.1 0))] := hl
  have hiX11 : ∀ w ∈ u_ws RX11 TX11 16, w ∈ wsX11_readKind := fun _ h => List.mem_cons_of_mem _ (List.mem_append_left _ (List.mem_append_right _ h))
  have hw1 := hts (.fieldLink RX11 10 "PostHouse" "tape" "LPostHouse$Tape;") (by decide +kernel)
  refine lv_aload_n hx hb dX11_readKind_0 rfl (lv_at hl 0 rfl) ?_
  refine zGetR (D := D) (ci := 11) (C := RX11) (T := TX11) (N := 16) hx hb hts hiX11 hown hH (zk_0 hF) rfl 0 (by decide) rfl hw1 (fun _ h9 => h9) dX11_readKind_1 (zr_0_0 hF) ?_
  refine zLdcW hx hb hown (hz.1.2.2.2.1 1 _ rfl).2 dX11_readKind_4 ?_
  refine va_calli (va_runV (As := [.ref (sad 1)]) (rest := []) ⟨hx, hb, hml, hown, hts⟩ (t_takesWord l hl0 D A sad τ fi fr ol L a hF hn ha (by omega) (by omega) 1 ((424, "behind", [98, 101, 104, 105, 110, 100])) rfl) (cwV 1 hts gX11_readKind_X7_takesWord rfl rfl rfl (by decide +kernel) ⟨Nat.le_of_ble_eq_true rfl, Nat.le_of_ble_eq_true rfl⟩) ⟨zQc_bl, zRecv hH (zk_1 hF) rfl, zQc_at hz hS hA hH⟩ rfl rfl hl.1 rfl (lv_room (Nat.le_of_ble_eq_true rfl)) dX11_readKind_7 ⟨Nat.le_of_ble_eq_true rfl, Nat.le_of_ble_eq_true rfl⟩) hS (fun q _ h => h) (fun q h => h) (fun r101 u9 t9 H1 locs ht9 hvm9 hw hB hz1 hk1 hS => ?_)
  have hH := zMv ht9 hvm9 hB
  clear hB
  generalize u9 = f102 at hw hH
  generalize H1 = H at hH hS ⊢
  rcases hw with ⟨rfl, hw103, b104, ef102, hs105⟩ | ⟨rfl, hn106, ef102⟩
  · have zhs105 := hs105.1
    have yhs105 := hs105.2.1
    have q107 : f102 1 1 = nI L := by rw [ef102, zu_n (fun h9 => absurd h9.2 (by decide))]; exact hn
    have q108 : f102 1 2 = nI b104 := by rw [ef102]; exact zu_s
    refine lv_if_eq (tgt := 15) hx hb dX11_readKind_10 (by decide) (fun c109 => absurd c109 (by decide)) (fun c109 => ?_)
    refine lv_iconst (v := nI 0) hx hb dX11_readKind_13 (by decide) ?_
    refine W.widen (k := 0) (n := 0) (by decide) (by decide) ?_
    exact W.iret (v := nI 0) hx hb hr (fun t9 ht9 hW9 => ⟨⟨nI 0, f102, rfl, Or.inl ⟨0, b104, by omega, rfl, by simp only [zKnd, (zWrd_yes hw103 hs105 : zWrd (fi 2) L [98, 101, 104, 105, 110, 100] a = some b104)], by omega, ef102⟩, zEnd1 hH ht9 hW9⟩, hS.F ht9⟩) hS.2.2 dX11_readKind_14
  · have ef102 := ef102.symm
    subst ef102
    refine lv_if_eq (tgt := 15) hx hb dX11_readKind_10 (by decide) (fun c110 => ?_) (fun c110 => absurd (by decide) c110)
    refine lv_aload_n hx hb dX11_readKind_15 rfl (lv_at hl 0 rfl) ?_
    refine zGetR (D := D) (ci := 11) (C := RX11) (T := TX11) (N := 16) hx hb hts hiX11 hown hH (zk_0 hF) rfl 0 (by decide) rfl hw1 (fun _ h9 => h9) dX11_readKind_16 (zr_0_0 hF) ?_
    refine zLdcW hx hb hown (hz.1.2.2.2.1 2 _ rfl).2 dX11_readKind_19 ?_
    refine va_calli (va_runV (As := [.ref (sad 2)]) (rest := []) ⟨hx, hb, hml, hown, hts⟩ (t_takesWord l hl0 D A sad τ fi fr ol L a hF hn ha (by omega) (by omega) 2 ((426, "post", [112, 111, 115, 116])) rfl) (cwV 1 hts gX11_readKind_X7_takesWord rfl rfl rfl (by decide +kernel) ⟨Nat.le_of_ble_eq_true rfl, Nat.le_of_ble_eq_true rfl⟩) ⟨zQc_bl, zRecv hH (zk_1 hF) rfl, zQc_at hz hS hA hH⟩ rfl rfl hl.1 rfl (lv_room (Nat.le_of_ble_eq_true rfl)) dX11_readKind_22 ⟨Nat.le_of_ble_eq_true rfl, Nat.le_of_ble_eq_true rfl⟩) hS (fun q _ h => h) (fun q h => h) (fun r111 u9 t9 H1 locs ht9 hvm9 hw hB hz1 hk1 hS => ?_)
    have hH := zMv ht9 hvm9 hB
    clear hB
    generalize u9 = f112 at hw hH
    generalize H1 = H at hH hS ⊢
    rcases hw with ⟨rfl, hw113, b114, ef112, hs115⟩ | ⟨rfl, hn116, ef112⟩
    · have zhs115 := hs115.1
      have yhs115 := hs115.2.1
      have q117 : f112 1 1 = nI L := by rw [ef112, zu_n (fun h9 => absurd h9.2 (by decide))]; exact hn
      have q118 : f112 1 2 = nI b114 := by rw [ef112]; exact zu_s
      refine lv_if_eq (tgt := 30) hx hb dX11_readKind_25 (by decide) (fun c119 => absurd c119 (by decide)) (fun c119 => ?_)
      refine lv_iconst (v := nI 1) hx hb dX11_readKind_28 (by decide) ?_
      refine W.widen (k := 0) (n := 0) (by decide) (by decide) ?_
      exact W.iret (v := nI 1) hx hb hr (fun t9 ht9 hW9 => ⟨⟨nI 1, f112, rfl, Or.inl ⟨1, b114, by omega, rfl, by simp only [zKnd, (zWrd_no hn106 han : zWrd (fi 2) L [98, 101, 104, 105, 110, 100] a = none), (zWrd_yes hw113 hs115 : zWrd (fi 2) L [112, 111, 115, 116] a = some b114)], by omega, ef112⟩, zEnd1 hH ht9 hW9⟩, hS.F ht9⟩) hS.2.2 dX11_readKind_29
    · have ef112 := ef112.symm
      subst ef112
      refine lv_if_eq (tgt := 30) hx hb dX11_readKind_25 (by decide) (fun c120 => ?_) (fun c120 => absurd (by decide) c120)
      refine lv_aload_n hx hb dX11_readKind_30 rfl (lv_at hl 0 rfl) ?_
      refine zGetR (D := D) (ci := 11) (C := RX11) (T := TX11) (N := 16) hx hb hts hiX11 hown hH (zk_0 hF) rfl 0 (by decide) rfl hw1 (fun _ h9 => h9) dX11_readKind_31 (zr_0_0 hF) ?_
      refine zLdcW hx hb hown (hz.1.2.2.2.1 3 _ rfl).2 dX11_readKind_34 ?_
      refine va_calli (va_runV (As := [.ref (sad 3)]) (rest := []) ⟨hx, hb, hml, hown, hts⟩ (t_takesWord l hl0 D A sad τ fi fr ol L a hF hn ha (by omega) (by omega) 3 ((427, "free", [102, 114, 101, 101])) rfl) (cwV 1 hts gX11_readKind_X7_takesWord rfl rfl rfl (by decide +kernel) ⟨Nat.le_of_ble_eq_true rfl, Nat.le_of_ble_eq_true rfl⟩) ⟨zQc_bl, zRecv hH (zk_1 hF) rfl, zQc_at hz hS hA hH⟩ rfl rfl hl.1 rfl (lv_room (Nat.le_of_ble_eq_true rfl)) dX11_readKind_37 ⟨Nat.le_of_ble_eq_true rfl, Nat.le_of_ble_eq_true rfl⟩) hS (fun q _ h => h) (fun q h => h) (fun r121 u9 t9 H1 locs ht9 hvm9 hw hB hz1 hk1 hS => ?_)
      have hH := zMv ht9 hvm9 hB
      clear hB
      generalize u9 = f122 at hw hH
      generalize H1 = H at hH hS ⊢
      rcases hw with ⟨rfl, hw123, b124, ef122, hs125⟩ | ⟨rfl, hn126, ef122⟩
      · have zhs125 := hs125.1
        have yhs125 := hs125.2.1
        have q127 : f122 1 1 = nI L := by rw [ef122, zu_n (fun h9 => absurd h9.2 (by decide))]; exact hn
        have q128 : f122 1 2 = nI b124 := by rw [ef122]; exact zu_s
        refine lv_if_eq (tgt := 45) hx hb dX11_readKind_40 (by decide) (fun c129 => absurd c129 (by decide)) (fun c129 => ?_)
        refine lv_iconst (v := nI 2) hx hb dX11_readKind_43 (by decide) ?_
        refine W.widen (k := 0) (n := 0) (by decide) (by decide) ?_
        exact W.iret (v := nI 2) hx hb hr (fun t9 ht9 hW9 => ⟨⟨nI 2, f122, rfl, Or.inl ⟨2, b124, by omega, rfl, by simp only [zKnd, (zWrd_no hn106 han : zWrd (fi 2) L [98, 101, 104, 105, 110, 100] a = none), (zWrd_no hn116 han : zWrd (fi 2) L [112, 111, 115, 116] a = none), (zWrd_yes hw123 hs125 : zWrd (fi 2) L [102, 114, 101, 101] a = some b124)], by omega, ef122⟩, zEnd1 hH ht9 hW9⟩, hS.F ht9⟩) hS.2.2 dX11_readKind_44
      · have ef122 := ef122.symm
        subst ef122
        refine lv_if_eq (tgt := 45) hx hb dX11_readKind_40 (by decide) (fun c130 => ?_) (fun c130 => absurd (by decide) c130)
        refine lv_aload_n hx hb dX11_readKind_45 rfl (lv_at hl 0 rfl) ?_
        refine zGetR (D := D) (ci := 11) (C := RX11) (T := TX11) (N := 16) hx hb hts hiX11 hown hH (zk_0 hF) rfl 0 (by decide) rfl hw1 (fun _ h9 => h9) dX11_readKind_46 (zr_0_0 hF) ?_
        refine zLdcW hx hb hown (hz.1.2.2.2.1 4 _ rfl).2 dX11_readKind_49 ?_
        refine va_calli (va_runV (As := [.ref (sad 4)]) (rest := []) ⟨hx, hb, hml, hown, hts⟩ (t_takesWord l hl0 D A sad τ fi fr ol L a hF hn ha (by omega) (by omega) 4 ((429, "back", [98, 97, 99, 107])) rfl) (cwV 1 hts gX11_readKind_X7_takesWord rfl rfl rfl (by decide +kernel) ⟨Nat.le_of_ble_eq_true rfl, Nat.le_of_ble_eq_true rfl⟩) ⟨zQc_bl, zRecv hH (zk_1 hF) rfl, zQc_at hz hS hA hH⟩ rfl rfl hl.1 rfl (lv_room (Nat.le_of_ble_eq_true rfl)) dX11_readKind_52 ⟨Nat.le_of_ble_eq_true rfl, Nat.le_of_ble_eq_true rfl⟩) hS (fun q _ h => h) (fun q h => h) (fun r131 u9 t9 H1 locs ht9 hvm9 hw hB hz1 hk1 hS => ?_)
        have hH := zMv ht9 hvm9 hB
        clear hB
        generalize u9 = f132 at hw hH
        generalize H1 = H at hH hS ⊢
        rcases hw with ⟨rfl, hw133, b134, ef132, hs135⟩ | ⟨rfl, hn136, ef132⟩
        · have zhs135 := hs135.1
          have yhs135 := hs135.2.1
          have q137 : f132 1 1 = nI L := by rw [ef132, zu_n (fun h9 => absurd h9.2 (by decide))]; exact hn
          have q138 : f132 1 2 = nI b134 := by rw [ef132]; exact zu_s
          refine lv_if_eq (tgt := 62) hx hb dX11_readKind_55 (by decide) (fun c139 => absurd c139 (by decide)) (fun c139 => ?_)
          refine lv_iconst (v := nI 3) hx hb dX11_readKind_58 (by decide) ?_
          refine lv_goto (tgt := 63) hx hb dX11_readKind_59 (by decide) ?_
          refine W.widen (k := 0) (n := 0) (by decide) (by decide) ?_
          exact W.iret (v := nI 3) hx hb hr (fun t9 ht9 hW9 => ⟨⟨nI 3, f132, rfl, Or.inl ⟨3, b134, by omega, rfl, by simp only [zKnd, (zWrd_no hn106 han : zWrd (fi 2) L [98, 101, 104, 105, 110, 100] a = none), (zWrd_no hn116 han : zWrd (fi 2) L [112, 111, 115, 116] a = none), (zWrd_no hn126 han : zWrd (fi 2) L [102, 114, 101, 101] a = none), (zWrd_yes hw133 hs135 : zWrd (fi 2) L [98, 97, 99, 107] a = some b134)], by omega, ef132⟩, zEnd1 hH ht9 hW9⟩, hS.F ht9⟩) hS.2.2 dX11_readKind_63
        · have ef132 := ef132.symm
          subst ef132
          refine lv_if_eq (tgt := 62) hx hb dX11_readKind_55 (by decide) (fun c140 => ?_) (fun c140 => absurd (by decide) c140)
          refine lv_iconst (v := (-1)) hx hb dX11_readKind_62 (by decide) ?_
          refine W.widen (k := 0) (n := 0) (by decide) (by decide) ?_
          exact W.iret (v := (-1)) hx hb hr (fun t9 ht9 hW9 => ⟨⟨(-1), fi, rfl, Or.inr ⟨rfl, by simp only [zKnd, (zWrd_no hn106 han : zWrd (fi 2) L [98, 101, 104, 105, 110, 100] a = none), (zWrd_no hn116 han : zWrd (fi 2) L [112, 111, 115, 116] a = none), (zWrd_no hn126 han : zWrd (fi 2) L [102, 114, 101, 101] a = none), (zWrd_no hn136 han : zWrd (fi 2) L [98, 97, 99, 107] a = none)], rfl⟩, zEnd1 hH ht9 hW9⟩, hS.F ht9⟩) hS.2.2 dX11_readKind_63
set_option maxHeartbeats 4000000 in
set_option maxRecDepth 100000 in
/-- readThing -/
theorem w_readThingXN (l : Launch) (hl0 : l.stackTraces = false) (D : va_G) (A : Nat → Prop) (sad : Nat → Nat) (τ : zTy) (fi : zFi) (fr : zFr) (ol : Int64) (L a : Nat) (hF : zFix τ fr) (hn : fi 1 1 = nI L) (ha : fi 1 2 = nI a) (hn4 : L ≤ 400) (han : a ≤ L) (n : Nat) (hT : zTh τ fi fr n) : Met l yX11_readThing wsX11_readThing ({ frames := 3, cells := 0, slots := 0, locals := 69 }) (va_Pc [.ref (τ.1 0), .null] (zQc D A sad τ fi fr ol)) (va_Qq (fun (r : Option Nat) (u : zFi) => ((∃ t, t < n ∧ r = some (τ.1 (300 + t)) ∧ zStp fi u (zExc (zThg (fi 2) L (fun t9 => fi (300 + t9) 1) n none a) a) (fun xx => u 1 2 = nI xx.2 ∧ xx.1 = t)) ∨ (r = none ∧ zStp fi u (zExc (zThg (fi 2) L (fun t9 => fi (300 + t9) 1) n none a) a) (fun _ => False))) ∧ (∃ b, b ≤ L ∧ u 1 2 = nI b) ∧ ∀ i k, ¬ (i = 1 ∧ 2 ≤ k) → u i k = fi i k) (fun (u : zFi) (t : State) => zH D A τ u fr ol t t.heap) A) 0 0 A := by
  refine Met.ofW (cc := cX11_readThing) (maxL := 4) (ret := (some (.object "PostHouse$Thing"))) (by decide) rfl ?_
  intro p9 e9 s m args below meth c9 s₁ B hml hv
  obtain ⟨rfl, hz, hH, hA⟩ := hv
  have hx := B.exec
  have hb := B.bytes
  have hr := B.returns
  have hts := atoms_spec (ws := wsX11_readThing) B.pre
  have hown : s.vm.findClass RX11 = some m.cls := findClass_of_methodNamed B.named
  have hlocks := B.notSynchronized
  have hS : va_S A s.heap s.heap [] := va_S.rf
  have hl := lv_entry ([.ref (τ.1 0), .null]) (n := 4) (Nat.le_of_ble_eq_true rfl)
  rw [lg_entry_eq]
  generalize (lg_sl ([.ref (τ.1 0), .null]) ++ List.replicate (4 - (lg_sl ([.ref (τ.1 0), .null])).length) Slot.unset).toArray = ls at hl ⊢
  have hl : lv_has ls 4 [(0, .ref (τ.1 0)), (1, .null)] := hl
  have hn30 := hT.1
  have hiX11 : ∀ w ∈ u_ws RX11 TX11 16, w ∈ wsX11_readThing := fun _ h => List.mem_cons_of_mem _ (List.mem_append_left _ (List.mem_append_left _ (List.mem_append_left _ (List.mem_append_right _ h))))
  have hw1 := hts (.fieldLink RX11 10 "PostHouse" "tape" "LPostHouse$Tape;") (by decide +kernel)
  have hiX7 : ∀ w ∈ u_ws RX7 TX7 4, w ∈ wsX11_readThing := fun _ h => List.mem_cons_of_mem _ (List.mem_append_left _ (List.mem_append_left _ (List.mem_append_right _ h)))
  have hw3 := hts (.fieldLink RX11 413 "PostHouse$Tape" "next" "I") (by decide +kernel)
  have hw4 := hts (.fieldLink RX11 19 "PostHouse" "book" "LPostHouse$Book;") (by decide +kernel)
  refine lv_aload_n hx hb dX11_readThing_0 rfl (lv_at hl 0 rfl) ?_
  refine zGetR (D := D) (ci := 11) (C := RX11) (T := TX11) (N := 16) hx hb hts hiX11 hown hH (zk_0 hF) rfl 0 (by decide) rfl hw1 (fun _ h9 => h9) dX11_readThing_1 (zr_0_0 hF) ?_
  refine zGetI (D := D) (ci := 7) (C := RX7) (T := TX7) (N := 4) hx hb hts hiX7 hown hH (zk_1 hF) rfl 2 (by decide) rfl hw3 (fun _ h9 => h9) dX11_readThing_4 ha ?_
  refine lv_istore_n (lv' := [(2, .int (nI a)), (0, .ref (τ.1 0)), (1, .null)]) hx hb dX11_readThing_7 rfl hl (by decide) rfl (fun ls hl => ?_)
  refine lv_aload_n hx hb dX11_readThing_8 rfl (lv_at hl 1 rfl) ?_
  refine zGetR (D := D) (ci := 11) (C := RX11) (T := TX11) (N := 16) hx hb hts hiX11 hown hH (zk_0 hF) rfl 1 (by decide) rfl hw4 (fun _ h9 => h9) dX11_readThing_9 (zr_0_1 hF) ?_
  refine lv_aload_n hx hb dX11_readThing_12 rfl (lv_at hl 1 rfl) ?_
  refine zGetR (D := D) (ci := 11) (C := RX11) (T := TX11) (N := 16) hx hb hts hiX11 hown hH (zk_0 hF) rfl 0 (by decide) rfl hw1 (fun _ h9 => h9) dX11_readThing_13 (zr_0_0 hF) ?_
  refine va_calli (va_runV (As := []) (rest := [.ref (τ.1 3)]) ⟨hx, hb, hml, hown, hts⟩ (t_code l hl0 D A sad τ fi fr ol L a hF hn ha (by omega) (by omega)) (cwV 0 hts gX11_readThing_X7_code rfl rfl rfl (by decide +kernel) ⟨Nat.le_of_ble_eq_true rfl, Nat.le_of_ble_eq_true rfl⟩) ⟨zQc_bl, zRecv hH (zk_1 hF) rfl, zQc_at hz hS hA hH⟩ rfl rfl hl.1 rfl (lv_room (Nat.le_of_ble_eq_true rfl)) dX11_readThing_16 ⟨Nat.le_of_ble_eq_true rfl, Nat.le_of_ble_eq_true rfl⟩) hS (fun q _ h => h) (fun q h => h) (fun r101 u9 t9 H1 locs ht9 hvm9 hw hB hz1 hk1 hS => ?_)
  have hH := zMv ht9 hvm9 hB
  clear hB
  generalize u9 = f102 at hw hH
  generalize H1 = H at hH hS ⊢
  have hnu := zStp.num hn4 han hw
  obtain ⟨b103, hb104, q105, hf106⟩ := zTw.num ha (by omega) hw
  have q107 : f102 1 1 = nI L := by rw [hf106 1 1 (by omega)]; exact hn
  have hT := zTh.ci (fi' := f102) hT (fun i9 k9 h9 => hf106 i9 k9 (by omega))
  refine va_callq (va_runV (As := [.int r101]) (rest := []) ⟨hx, hb, hml, hown, hts⟩ (c_ofCode l hl0 D A sad τ f102 fr ol r101 hF n hT) (cwV 1 hts gX11_readThing_X0_ofCode rfl rfl rfl (by decide +kernel) ⟨Nat.le_of_ble_eq_true rfl, Nat.le_of_ble_eq_true rfl⟩) ⟨zQc_bl, zRecv hH (zk_3 hF) rfl, zQc_at hz hS hA hH⟩ rfl rfl hl.1 rfl (lv_room (Nat.le_of_ble_eq_true rfl)) dX11_readThing_19 ⟨Nat.le_of_ble_eq_true rfl, Nat.le_of_ble_eq_true rfl⟩) hS (fun q _ h => h) (fun q h => h) (fun r108 u9 t9 H1 locs ht9 hvm9 hw hB hz1 hk1 hS => ?_)
  have hH := zMv ht9 hvm9 hB
  generalize H1 = H at hH hS ⊢
  rcases hw with ⟨t, ht, hcd, hcl, rfl⟩ | ⟨hno, rfl⟩
  · skip
    refine lv_astore_n (lv' := [(3, .ref (τ.1 (300 + t))), (2, .int (nI a)), (0, .ref (τ.1 0)), (1, .null)]) hx hb dX11_readThing_22 rfl hl (by decide) rfl (fun ls hl => ?_)
    refine lv_aload_n hx hb dX11_readThing_23 rfl (lv_at hl 0 rfl) ?_
    refine lv_ifnull hx hb dX11_readThing_24 ?_
    refine lv_aload_n hx hb dX11_readThing_27 rfl (lv_at hl 0 rfl) ?_
    refine lv_aload_nN hx hb dX11_readThing_28 rfl (lv_at hl 3 rfl) ?_
    refine lv_acmp_ne (rx := (some (τ.1 (300 + t)))) (ry := none) (tgt := 42) hx hb dX11_readThing_29 (by decide) (fun c109 => ?_) (fun c109 => ?_)
    · skip
      refine lv_aload_n hx hb dX11_readThing_42 rfl (lv_at hl 0 rfl) ?_
      refine W.widen (k := 0) (n := 0) (by decide) (by decide) ?_
      exact W.aret (v := .ref (τ.1 (300 + t))) hx hb hr (Or.inl ⟨_, rfl⟩) (Or.inr ⟨_, rfl⟩) (fun t9 ht9 hW9 => ⟨⟨(some (τ.1 (300 + t))), f102, rfl, ⟨Or.inl ⟨t, ht, rfl, zStp.thgY hnu ht hcd hcl (fun j => hf106 (300 + j) 1 (by omega)) (by simp)⟩, ⟨b103, by omega, q105⟩, fun i k h => by rw [hf106 i k (by omega)]⟩, zEnd1 hH ht9 hW9⟩, hS.F ht9⟩) hS.2.2 dX11_readThing_43
    · exact absurd c109 (by simp)
  · skip
    refine lv_astore_nN (lv' := [(3, .null), (2, .int (nI a)), (0, .ref (τ.1 0)), (1, .null)]) hx hb dX11_readThing_22 rfl hl (by decide) rfl (fun ls hl => ?_)
    refine lv_aload_nN hx hb dX11_readThing_23 rfl (lv_at hl 0 rfl) ?_
    refine lv_ifnullN (tgt := 32) hx hb dX11_readThing_24 (by decide) ?_
    refine lv_aload_n hx hb dX11_readThing_32 rfl (lv_at hl 2 rfl) ?_
    refine zGetR (D := D) (ci := 11) (C := RX11) (T := TX11) (N := 16) hx hb hts hiX11 hown hH (zk_0 hF) rfl 0 (by decide) rfl hw1 (fun _ h9 => h9) dX11_readThing_33 (zr_0_0 hF) ?_
    refine lv_iload_n hx hb dX11_readThing_36 rfl (lv_at hl 1 rfl) ?_
    refine va_callv (va_runV (As := [.int (nI a)]) (rest := []) ⟨hx, hb, hml, hown, hts⟩ (t_refuse l hl0 D A sad τ f102 fr ol hF (nI a)) (cwV 1 hts gX11_readThing_X7_refuse rfl rfl rfl (by decide +kernel) ⟨Nat.le_of_ble_eq_true rfl, Nat.le_of_ble_eq_true rfl⟩) ⟨zQc_bl, zRecv hH (zk_1 hF) rfl, zQc_at hz hS hA hH⟩ rfl rfl hl.1 rfl (lv_room (Nat.le_of_ble_eq_true rfl)) dX11_readThing_37 ⟨Nat.le_of_ble_eq_true rfl, Nat.le_of_ble_eq_true rfl⟩) hS (fun q _ h => h) (fun q h => h) (fun u9 t9 H1 locs ht9 hvm9 hw hB hz1 hk1 hS => ?_)
    have hH := zMv ht9 hvm9 hB
    clear hB
    generalize u9 = f111 at hw hH
    generalize H1 = H at hH hS ⊢
    have hre := hw
    obtain ⟨b112, hb113, q114, hf115⟩ := zTw.ref (L := L) q105 (by omega) hw
    have q116 : f111 1 1 = nI L := by rw [hf115 1 1 (by omega)]; exact q107
    have hT := zTh.ci (fi' := f111) hT (fun i9 k9 h9 => hf115 i9 k9 (by omega))
    refine lv_null hx hb dX11_readThing_40 ?_
    refine W.widen (k := 0) (n := 0) (by decide) (by decide) ?_
    exact W.aret (v := .null) hx hb hr (Or.inl ⟨_, rfl⟩) (Or.inl rfl) (fun t9 ht9 hW9 => ⟨⟨none, f111, rfl, ⟨Or.inr ⟨rfl, zStp.thgN hn4 han hnu (Or.inl hno) (fun j => hf106 (300 + j) 1 (by omega)) hre⟩, ⟨b112, by omega, q114⟩, fun i k h => by rw [hf115 i k (by omega), hf106 i k (by omega)]⟩, zEnd1 hH ht9 hW9⟩, hS.F ht9⟩) hS.2.2 dX11_readThing_41
set_option maxHeartbeats 4000000 in
set_option maxRecDepth 100000 in
/-- readThing -/
theorem w_readThingXR (l : Launch) (hl0 : l.stackTraces = false) (D : va_G) (A : Nat → Prop) (sad : Nat → Nat) (τ : zTy) (fi : zFi) (fr : zFr) (ol : Int64) (L a : Nat) (hF : zFix τ fr) (hn : fi 1 1 = nI L) (ha : fi 1 2 = nI a) (hn4 : L ≤ 400) (han : a ≤ L) (n : Nat) (hT : zTh τ fi fr n) (t0 : Nat) (ht0 : t0 < n) : Met l yX11_readThing wsX11_readThing ({ frames := 3, cells := 0, slots := 0, locals := 69 }) (va_Pc [.ref (τ.1 0), .ref (τ.1 (300 + t0))] (zQc D A sad τ fi fr ol)) (va_Qq (fun (r : Option Nat) (u : zFi) => ((∃ t, t < n ∧ r = some (τ.1 (300 + t)) ∧ zStp fi u (zExc (zThg (fi 2) L (fun t9 => fi (300 + t9) 1) n (some t0) a) a) (fun xx => u 1 2 = nI xx.2 ∧ xx.1 = t)) ∨ (r = none ∧ zStp fi u (zExc (zThg (fi 2) L (fun t9 => fi (300 + t9) 1) n (some t0) a) a) (fun _ => False))) ∧ (∃ b, b ≤ L ∧ u 1 2 = nI b) ∧ ∀ i k, ¬ (i = 1 ∧ 2 ≤ k) → u i k = fi i k) (fun (u : zFi) (t : State) => zH D A τ u fr ol t t.heap) A) 0 0 A := by
  refine Met.ofW (cc := cX11_readThing) (maxL := 4) (ret := (some (.object "PostHouse$Thing"))) (by decide) rfl ?_
  intro p9 e9 s m args below meth c9 s₁ B hml hv
  obtain ⟨rfl, hz, hH, hA⟩ := hv
  have hx := B.exec
  have hb := B.bytes
  have hr := B.returns
  have hts := atoms_spec (ws := wsX11_readThing) B.pre
  have hown : s.vm.findClass RX11 = some m.cls := findClass_of_methodNamed B.named
  have hlocks := B.notSynchronized
  have hS : va_S A s.heap s.heap [] := va_S.rf
  have hl := lv_entry ([.ref (τ.1 0), .ref (τ.1 (300 + t0))]) (n := 4) (Nat.le_of_ble_eq_true rfl)
  rw [lg_entry_eq]
  generalize (lg_sl ([.ref (τ.1 0), .ref (τ.1 (300 + t0))]) ++ List.replicate (4 - (lg_sl ([.ref (τ.1 0), .ref (τ.1 (300 + t0))])).length) Slot.unset).toArray = ls at hl ⊢
  have hl : lv_has ls 4 [(0, .ref (τ.1 0)), (1, .ref (τ.1 (300 + t0)))] := hl
  have hn30 := hT.1
  have hiX11 : ∀ w ∈ u_ws RX11 TX11 16, w ∈ wsX11_readThing := fun _ h => List.mem_cons_of_mem _ (List.mem_append_left _ (List.mem_append_left _ (List.mem_append_left _ (List.mem_append_right _ h))))
  have hw1 := hts (.fieldLink RX11 10 "PostHouse" "tape" "LPostHouse$Tape;") (by decide +kernel)
  have hiX7 : ∀ w ∈ u_ws RX7 TX7 4, w ∈ wsX11_readThing := fun _ h => List.mem_cons_of_mem _ (List.mem_append_left _ (List.mem_append_left _ (List.mem_append_right _ h)))
  have hw3 := hts (.fieldLink RX11 413 "PostHouse$Tape" "next" "I") (by decide +kernel)
  have hw4 := hts (.fieldLink RX11 19 "PostHouse" "book" "LPostHouse$Book;") (by decide +kernel)
  refine lv_aload_n hx hb dX11_readThing_0 rfl (lv_at hl 0 rfl) ?_
  refine zGetR (D := D) (ci := 11) (C := RX11) (T := TX11) (N := 16) hx hb hts hiX11 hown hH (zk_0 hF) rfl 0 (by decide) rfl hw1 (fun _ h9 => h9) dX11_readThing_1 (zr_0_0 hF) ?_
  refine zGetI (D := D) (ci := 7) (C := RX7) (T := TX7) (N := 4) hx hb hts hiX7 hown hH (zk_1 hF) rfl 2 (by decide) rfl hw3 (fun _ h9 => h9) dX11_readThing_4 ha ?_
  refine lv_istore_n (lv' := [(2, .int (nI a)), (0, .ref (τ.1 0)), (1, .ref (τ.1 (300 + t0)))]) hx hb dX11_readThing_7 rfl hl (by decide) rfl (fun ls hl => ?_)
  refine lv_aload_n hx hb dX11_readThing_8 rfl (lv_at hl 1 rfl) ?_
  refine zGetR (D := D) (ci := 11) (C := RX11) (T := TX11) (N := 16) hx hb hts hiX11 hown hH (zk_0 hF) rfl 1 (by decide) rfl hw4 (fun _ h9 => h9) dX11_readThing_9 (zr_0_1 hF) ?_
  refine lv_aload_n hx hb dX11_readThing_12 rfl (lv_at hl 1 rfl) ?_
  refine zGetR (D := D) (ci := 11) (C := RX11) (T := TX11) (N := 16) hx hb hts hiX11 hown hH (zk_0 hF) rfl 0 (by decide) rfl hw1 (fun _ h9 => h9) dX11_readThing_13 (zr_0_0 hF) ?_
  refine va_calli (va_runV (As := []) (rest := [.ref (τ.1 3)]) ⟨hx, hb, hml, hown, hts⟩ (t_code l hl0 D A sad τ fi fr ol L a hF hn ha (by omega) (by omega)) (cwV 0 hts gX11_readThing_X7_code rfl rfl rfl (by decide +kernel) ⟨Nat.le_of_ble_eq_true rfl, Nat.le_of_ble_eq_true rfl⟩) ⟨zQc_bl, zRecv hH (zk_1 hF) rfl, zQc_at hz hS hA hH⟩ rfl rfl hl.1 rfl (lv_room (Nat.le_of_ble_eq_true rfl)) dX11_readThing_16 ⟨Nat.le_of_ble_eq_true rfl, Nat.le_of_ble_eq_true rfl⟩) hS (fun q _ h => h) (fun q h => h) (fun r101 u9 t9 H1 locs ht9 hvm9 hw hB hz1 hk1 hS => ?_)
  have hH := zMv ht9 hvm9 hB
  clear hB
  generalize u9 = f102 at hw hH
  generalize H1 = H at hH hS ⊢
  have hnu := zStp.num hn4 han hw
  obtain ⟨b103, hb104, q105, hf106⟩ := zTw.num ha (by omega) hw
  have q107 : f102 1 1 = nI L := by rw [hf106 1 1 (by omega)]; exact hn
  have hT := zTh.ci (fi' := f102) hT (fun i9 k9 h9 => hf106 i9 k9 (by omega))
  refine va_callq (va_runV (As := [.int r101]) (rest := []) ⟨hx, hb, hml, hown, hts⟩ (c_ofCode l hl0 D A sad τ f102 fr ol r101 hF n hT) (cwV 1 hts gX11_readThing_X0_ofCode rfl rfl rfl (by decide +kernel) ⟨Nat.le_of_ble_eq_true rfl, Nat.le_of_ble_eq_true rfl⟩) ⟨zQc_bl, zRecv hH (zk_3 hF) rfl, zQc_at hz hS hA hH⟩ rfl rfl hl.1 rfl (lv_room (Nat.le_of_ble_eq_true rfl)) dX11_readThing_19 ⟨Nat.le_of_ble_eq_true rfl, Nat.le_of_ble_eq_true rfl⟩) hS (fun q _ h => h) (fun q h => h) (fun r108 u9 t9 H1 locs ht9 hvm9 hw hB hz1 hk1 hS => ?_)
  have hH := zMv ht9 hvm9 hB
  generalize H1 = H at hH hS ⊢
  rcases hw with ⟨t, ht, hcd, hcl, rfl⟩ | ⟨hno, rfl⟩
  · skip
    refine lv_astore_n (lv' := [(3, .ref (τ.1 (300 + t))), (2, .int (nI a)), (0, .ref (τ.1 0)), (1, .ref (τ.1 (300 + t0)))]) hx hb dX11_readThing_22 rfl hl (by decide) rfl (fun ls hl => ?_)
    refine lv_aload_n hx hb dX11_readThing_23 rfl (lv_at hl 0 rfl) ?_
    refine lv_ifnull hx hb dX11_readThing_24 ?_
    refine lv_aload_n hx hb dX11_readThing_27 rfl (lv_at hl 0 rfl) ?_
    refine lv_aload_n hx hb dX11_readThing_28 rfl (lv_at hl 3 rfl) ?_
    refine lv_acmp_ne (rx := (some (τ.1 (300 + t)))) (ry := (some (τ.1 (300 + t0)))) (tgt := 42) hx hb dX11_readThing_29 (by decide) (fun c109 => ?_) (fun c109 => ?_)
    · have zt : ¬ t = t0 := fun h8 => c109 (by rw [h8])
      refine lv_aload_n hx hb dX11_readThing_42 rfl (lv_at hl 0 rfl) ?_
      refine W.widen (k := 0) (n := 0) (by decide) (by decide) ?_
      exact W.aret (v := .ref (τ.1 (300 + t))) hx hb hr (Or.inl ⟨_, rfl⟩) (Or.inr ⟨_, rfl⟩) (fun t9 ht9 hW9 => ⟨⟨(some (τ.1 (300 + t))), f102, rfl, ⟨Or.inl ⟨t, ht, rfl, zStp.thgY hnu ht hcd hcl (fun j => hf106 (300 + j) 1 (by omega)) (fun h8 => zt (Option.some.inj h8).symm)⟩, ⟨b103, by omega, q105⟩, fun i k h => by rw [hf106 i k (by omega)]⟩, zEnd1 hH ht9 hW9⟩, hS.F ht9⟩) hS.2.2 dX11_readThing_43
    · have zt : t = t0 := by have h8 := hH.inj (i := 300 + t) (j := 300 + t0) (by rw [(hT.2.2.1 t (by omega)).1.1]; decide) (by rw [(hT.2.2.1 t0 (by omega)).1.1]; decide) (Option.some.inj c109); omega
      refine lv_aload_n hx hb dX11_readThing_32 rfl (lv_at hl 2 rfl) ?_
      refine zGetR (D := D) (ci := 11) (C := RX11) (T := TX11) (N := 16) hx hb hts hiX11 hown hH (zk_0 hF) rfl 0 (by decide) rfl hw1 (fun _ h9 => h9) dX11_readThing_33 (zr_0_0 hF) ?_
      refine lv_iload_n hx hb dX11_readThing_36 rfl (lv_at hl 1 rfl) ?_
      refine va_callv (va_runV (As := [.int (nI a)]) (rest := []) ⟨hx, hb, hml, hown, hts⟩ (t_refuse l hl0 D A sad τ f102 fr ol hF (nI a)) (cwV 1 hts gX11_readThing_X7_refuse rfl rfl rfl (by decide +kernel) ⟨Nat.le_of_ble_eq_true rfl, Nat.le_of_ble_eq_true rfl⟩) ⟨zQc_bl, zRecv hH (zk_1 hF) rfl, zQc_at hz hS hA hH⟩ rfl rfl hl.1 rfl (lv_room (Nat.le_of_ble_eq_true rfl)) dX11_readThing_37 ⟨Nat.le_of_ble_eq_true rfl, Nat.le_of_ble_eq_true rfl⟩) hS (fun q _ h => h) (fun q h => h) (fun u9 t9 H1 locs ht9 hvm9 hw hB hz1 hk1 hS => ?_)
      have hH := zMv ht9 hvm9 hB
      clear hB
      generalize u9 = f111 at hw hH
      generalize H1 = H at hH hS ⊢
      have hre := hw
      obtain ⟨b112, hb113, q114, hf115⟩ := zTw.ref (L := L) q105 (by omega) hw
      have q116 : f111 1 1 = nI L := by rw [hf115 1 1 (by omega)]; exact q107
      have hT := zTh.ci (fi' := f111) hT (fun i9 k9 h9 => hf115 i9 k9 (by omega))
      refine lv_null hx hb dX11_readThing_40 ?_
      refine W.widen (k := 0) (n := 0) (by decide) (by decide) ?_
      exact W.aret (v := .null) hx hb hr (Or.inl ⟨_, rfl⟩) (Or.inl rfl) (fun t9 ht9 hW9 => ⟨⟨none, f111, rfl, ⟨Or.inr ⟨rfl, zStp.thgN hn4 han hnu (Or.inr ⟨t, ht, hcd, hcl, by rw [zt]⟩) (fun j => hf106 (300 + j) 1 (by omega)) hre⟩, ⟨b112, by omega, q114⟩, fun i k h => by rw [hf115 i k (by omega), hf106 i k (by omega)]⟩, zEnd1 hH ht9 hW9⟩, hS.F ht9⟩) hS.2.2 dX11_readThing_41
  · skip
    refine lv_astore_nN (lv' := [(3, .null), (2, .int (nI a)), (0, .ref (τ.1 0)), (1, .ref (τ.1 (300 + t0)))]) hx hb dX11_readThing_22 rfl hl (by decide) rfl (fun ls hl => ?_)
    refine lv_aload_nN hx hb dX11_readThing_23 rfl (lv_at hl 0 rfl) ?_
    refine lv_ifnullN (tgt := 32) hx hb dX11_readThing_24 (by decide) ?_
    refine lv_aload_n hx hb dX11_readThing_32 rfl (lv_at hl 2 rfl) ?_
    refine zGetR (D := D) (ci := 11) (C := RX11) (T := TX11) (N := 16) hx hb hts hiX11 hown hH (zk_0 hF) rfl 0 (by decide) rfl hw1 (fun _ h9 => h9) dX11_readThing_33 (zr_0_0 hF) ?_
    refine lv_iload_n hx hb dX11_readThing_36 rfl (lv_at hl 1 rfl) ?_
    refine va_callv (va_runV (As := [.int (nI a)]) (rest := []) ⟨hx, hb, hml, hown, hts⟩ (t_refuse l hl0 D A sad τ f102 fr ol hF (nI a)) (cwV 1 hts gX11_readThing_X7_refuse rfl rfl rfl (by decide +kernel) ⟨Nat.le_of_ble_eq_true rfl, Nat.le_of_ble_eq_true rfl⟩) ⟨zQc_bl, zRecv hH (zk_1 hF) rfl, zQc_at hz hS hA hH⟩ rfl rfl hl.1 rfl (lv_room (Nat.le_of_ble_eq_true rfl)) dX11_readThing_37 ⟨Nat.le_of_ble_eq_true rfl, Nat.le_of_ble_eq_true rfl⟩) hS (fun q _ h => h) (fun q h => h) (fun u9 t9 H1 locs ht9 hvm9 hw hB hz1 hk1 hS => ?_)
    have hH := zMv ht9 hvm9 hB
    clear hB
    generalize u9 = f118 at hw hH
    generalize H1 = H at hH hS ⊢
    have hre := hw
    obtain ⟨b119, hb120, q121, hf122⟩ := zTw.ref (L := L) q105 (by omega) hw
    have q123 : f118 1 1 = nI L := by rw [hf122 1 1 (by omega)]; exact q107
    have hT := zTh.ci (fi' := f118) hT (fun i9 k9 h9 => hf122 i9 k9 (by omega))
    refine lv_null hx hb dX11_readThing_40 ?_
    refine W.widen (k := 0) (n := 0) (by decide) (by decide) ?_
    exact W.aret (v := .null) hx hb hr (Or.inl ⟨_, rfl⟩) (Or.inl rfl) (fun t9 ht9 hW9 => ⟨⟨none, f118, rfl, ⟨Or.inr ⟨rfl, zStp.thgN hn4 han hnu (Or.inl hno) (fun j => hf106 (300 + j) 1 (by omega)) hre⟩, ⟨b119, by omega, q121⟩, fun i k h => by rw [hf122 i k (by omega), hf106 i k (by omega)]⟩, zEnd1 hH ht9 hW9⟩, hS.F ht9⟩) hS.2.2 dX11_readThing_41
set_option maxHeartbeats 4000000 in
set_option maxRecDepth 100000 in
/-- readPlace -/
theorem w_readPlaceX (l : Launch) (hl0 : l.stackTraces = false) (D : va_G) (A : Nat → Prop) (sad : Nat → Nat) (τ : zTy) (fi : zFi) (fr : zFr) (ol : Int64) (L a : Nat) (hF : zFix τ fr) (hn : fi 1 1 = nI L) (ha : fi 1 2 = nI a) (hn4 : L ≤ 400) (han : a ≤ L) (n : Nat) (hT : zTh τ fi fr n) : Met l yX11_readPlace wsX11_readPlace ({ frames := 6, cells := 0, slots := 0, locals := 129 }) (va_Pc [.ref (τ.1 0)] (zQc D A sad τ fi fr ol)) (va_Qv (fun (u : zFi) => zStp fi u (zPlc (fi 2) L (fun t9 => fi (300 + t9) 1) n a) (fun xx => u 1 2 = nI xx.1 ∧ zDft u = zup (zDft fi) xx.2.1 xx.2.2) ∧ (∃ b, b ≤ L ∧ u 1 2 = nI b) ∧ ∀ i k, ¬ ((i = 1 ∧ 2 ≤ k) ∨ i = 14) → u i k = fi i k) (fun (u : zFi) (t : State) => zH D A τ u fr ol t t.heap) A) 0 0 A := by
  refine Met.ofW (cc := cX11_readPlace) (maxL := 3) (ret := none) (by decide) rfl ?_
  intro p9 e9 s m args below meth c9 s₁ B hml hv
  obtain ⟨rfl, hz, hH, hA⟩ := hv
  have hx := B.exec
  have hb := B.bytes
  have hr := B.returns
  have hts := atoms_spec (ws := wsX11_readPlace) B.pre
  have hown : s.vm.findClass RX11 = some m.cls := findClass_of_methodNamed B.named
  have hlocks := B.notSynchronized
  have hS : va_S A s.heap s.heap [] := va_S.rf
  have hl := lv_entry ([.ref (τ.1 0)]) (n := 3) (Nat.le_of_ble_eq_true rfl)
  rw [lg_entry_eq]
  generalize (lg_sl ([.ref (τ.1 0)]) ++ List.replicate (3 - (lg_sl ([.ref (τ.1 0)])).length) Slot.unset).toArray = ls at hl ⊢
  have hl : lv_has ls 3 [(0, .ref (τ.1 0))] := hl
  have hn30 := hT.1
  have hiX11 : ∀ w ∈ u_ws RX11 TX11 16, w ∈ wsX11_readPlace := fun _ h => List.mem_cons_of_mem _ (List.mem_append_left _ (List.mem_append_left _ (List.mem_append_left _ (List.mem_append_left _ (List.mem_append_right _ h)))))
  have hw1 := hts (.fieldLink RX11 10 "PostHouse" "tape" "LPostHouse$Tape;") (by decide +kernel)
  have hw2 := hts (.fieldLink RX11 37 "PostHouse" "draft" "LPostHouse$Rules;") (by decide +kernel)
  have hiX5 : ∀ w ∈ u_ws RX5 TX5 2, w ∈ wsX11_readPlace := fun _ h => List.mem_cons_of_mem _ (List.mem_append_left _ (List.mem_append_left _ (List.mem_append_left _ (List.mem_append_right _ h))))
  have hw4 := hts (.fieldLink RX11 178 "PostHouse$Rules" "places" "[I") (by decide +kernel)
  have hiX8 : ∀ w ∈ u_ws RX8 TX8 10, w ∈ wsX11_readPlace := fun _ h => List.mem_cons_of_mem _ (List.mem_append_left _ (List.mem_append_left _ (List.mem_append_right _ h)))
  have hw6 := hts (.fieldLink RX11 181 "PostHouse$Thing" "number" "I") (by decide +kernel)
  refine lv_aload_n hx hb dX11_readPlace_0 rfl (lv_at hl 0 rfl) ?_
  refine lv_null hx hb dX11_readPlace_1 ?_
  refine va_callq (va_runV (As := [.null]) (rest := []) ⟨hx, hb, hml, hown, hts⟩ (w_readThingXN l hl0 D A sad τ fi fr ol L a hF hn ha (by omega) (by omega) n hT) (cwV 1 hts gX11_readPlace_X11_readThing rfl rfl rfl (by decide +kernel) ⟨Nat.le_of_ble_eq_true rfl, Nat.le_of_ble_eq_true rfl⟩) ⟨zQc_bl, zRecv hH (zk_0 hF) rfl, zQc_at hz hS hA hH⟩ rfl rfl hl.1 rfl (lv_room (Nat.le_of_ble_eq_true rfl)) dX11_readPlace_2 ⟨Nat.le_of_ble_eq_true rfl, Nat.le_of_ble_eq_true rfl⟩) hS (fun q _ h => h) (fun q h => h) (fun r101 u9 t9 H1 locs ht9 hvm9 hw hB hz1 hk1 hS => ?_)
  have hH := zMv ht9 hvm9 hB
  clear hB
  generalize u9 = f102 at hw hH
  generalize H1 = H at hH hS ⊢
  obtain ⟨hrt, ⟨b8, hb8, qb8⟩, hf8⟩ := hw
  obtain ⟨b103, hb104, q105, hf106⟩ := (⟨b8, hb8, qb8, fun i k q => hf8 i k q⟩ : zTw fi L f102)
  have q107 : f102 1 1 = nI L := by rw [hf106 1 1 (by omega)]; exact hn
  have hT := zTh.ci (fi' := f102) hT (fun i9 k9 h9 => hf106 i9 k9 (by omega))
  rcases hrt with ⟨t1, ht1, rfl, hs1⟩ | ⟨rfl, hs1⟩
  · skip
    refine lv_astore_n (lv' := [(1, .ref (τ.1 (300 + t1))), (0, .ref (τ.1 0))]) hx hb dX11_readPlace_5 rfl hl (by decide) rfl (fun ls hl => ?_)
    refine lv_aload_n hx hb dX11_readPlace_6 rfl (lv_at hl 1 rfl) ?_
    refine zGetR (D := D) (ci := 11) (C := RX11) (T := TX11) (N := 16) hx hb hts hiX11 hown hH (zk_0 hF) rfl 0 (by decide) rfl hw1 (fun _ h9 => h9) dX11_readPlace_7 (zr_0_0 hF) ?_
    refine zLdcW hx hb hown (hz.1.2.2.2.1 5 _ rfl).2 dX11_readPlace_10 ?_
    refine va_callv (va_runV (As := [.ref (sad 5)]) (rest := []) ⟨hx, hb, hml, hown, hts⟩ (t_needWord l hl0 D A sad τ f102 fr ol L b103 hF q107 q105 (by omega) (by omega) 5 ((435, "by", [98, 121])) rfl) (cwV 1 hts gX11_readPlace_X7_needWord rfl rfl rfl (by decide +kernel) ⟨Nat.le_of_ble_eq_true rfl, Nat.le_of_ble_eq_true rfl⟩) ⟨zQc_bl, zRecv hH (zk_1 hF) rfl, zQc_at hz hS hA hH⟩ rfl rfl hl.1 rfl (lv_room (Nat.le_of_ble_eq_true rfl)) dX11_readPlace_13 ⟨Nat.le_of_ble_eq_true rfl, Nat.le_of_ble_eq_true rfl⟩) hS (fun q _ h => h) (fun q h => h) (fun u9 t9 H1 locs ht9 hvm9 hw hB hz1 hk1 hS => ?_)
    have hH := zMv ht9 hvm9 hB
    clear hB
    generalize u9 = f109 at hw hH
    generalize H1 = H at hH hS ⊢
    have hs2 := zStp.need (by omega) (by omega) hw
    obtain ⟨b110, hb111, q112, hf113⟩ := zTw.need q105 (by omega) hw
    have q114 : f109 1 1 = nI L := by rw [hf113 1 1 (by omega)]; exact q107
    have hT := zTh.ci (fi' := f109) hT (fun i9 k9 h9 => hf113 i9 k9 (by omega))
    refine lv_aload_n hx hb dX11_readPlace_16 rfl (lv_at hl 1 rfl) ?_
    refine lv_aload_n hx hb dX11_readPlace_17 rfl (lv_at hl 0 rfl) ?_
    refine va_callq (va_runV (As := [.ref (τ.1 (300 + t1))]) (rest := []) ⟨hx, hb, hml, hown, hts⟩ (w_readThingXR l hl0 D A sad τ f109 fr ol L b110 hF q114 q112 (by omega) (by omega) n hT t1 ht1) (cwV 1 hts gX11_readPlace_X11_readThing rfl rfl rfl (by decide +kernel) ⟨Nat.le_of_ble_eq_true rfl, Nat.le_of_ble_eq_true rfl⟩) ⟨zQc_bl, zRecv hH (zk_0 hF) rfl, zQc_at hz hS hA hH⟩ rfl rfl hl.1 rfl (lv_room (Nat.le_of_ble_eq_true rfl)) dX11_readPlace_18 ⟨Nat.le_of_ble_eq_true rfl, Nat.le_of_ble_eq_true rfl⟩) hS (fun q _ h => h) (fun q h => h) (fun r115 u9 t9 H1 locs ht9 hvm9 hw hB hz1 hk1 hS => ?_)
    have hH := zMv ht9 hvm9 hB
    clear hB
    generalize u9 = f116 at hw hH
    generalize H1 = H at hH hS ⊢
    obtain ⟨hrt, ⟨b8, hb8, qb8⟩, hf8⟩ := hw
    obtain ⟨b117, hb118, q119, hf120⟩ := (⟨b8, hb8, qb8, fun i k q => hf8 i k q⟩ : zTw f109 L f116)
    have q121 : f116 1 1 = nI L := by rw [hf120 1 1 (by omega)]; exact q114
    have hT := zTh.ci (fi' := f116) hT (fun i9 k9 h9 => hf120 i9 k9 (by omega))
    rcases hrt with ⟨t2, ht2, rfl, hs3⟩ | ⟨rfl, hs3⟩
    · skip
      refine lv_astore_n (lv' := [(2, .ref (τ.1 (300 + t2))), (1, .ref (τ.1 (300 + t1))), (0, .ref (τ.1 0))]) hx hb dX11_readPlace_21 rfl hl (by decide) rfl (fun ls hl => ?_)
      refine lv_aload_n hx hb dX11_readPlace_22 rfl (lv_at hl 1 rfl) ?_
      refine lv_ifnull hx hb dX11_readPlace_23 ?_
      refine lv_aload_n hx hb dX11_readPlace_26 rfl (lv_at hl 0 rfl) ?_
      refine lv_ifnull hx hb dX11_readPlace_27 ?_
      refine lv_aload_n hx hb dX11_readPlace_30 rfl (lv_at hl 2 rfl) ?_
      refine zGetR (D := D) (ci := 11) (C := RX11) (T := TX11) (N := 16) hx hb hts hiX11 hown hH (zk_0 hF) rfl 4 (by decide) rfl hw2 (fun _ h9 => h9) dX11_readPlace_31 (zr_0_4 hF) ?_
      refine zGetR (D := D) (ci := 5) (C := RX5) (T := TX5) (N := 2) hx hb hts hiX5 hown hH (zk_12 hF) rfl 1 (by decide) rfl hw4 (fun _ h9 => h9) dX11_readPlace_34 (zr_12_1 hF) ?_
      refine lv_aload_n hx hb dX11_readPlace_37 rfl (lv_at hl 1 rfl) ?_
      refine zGetI (D := D) (ci := 8) (C := RX8) (T := TX8) (N := 10) hx hb hts hiX8 hown hH (hT.2.2.1 t1 (by omega)).1.1 rfl 0 (by decide) rfl hw6 (fun _ h9 => h9) dX11_readPlace_38 (hT.2.2.1 t1 (by omega)).2.2.2.1 ?_
      refine lv_aload_n hx hb dX11_readPlace_41 rfl (lv_at hl 0 rfl) ?_
      refine zGetI (D := D) (ci := 8) (C := RX8) (T := TX8) (N := 10) hx hb hts hiX8 hown hH (hT.2.2.1 t2 (by omega)).1.1 rfl 0 (by decide) rfl hw6 (fun _ h9 => h9) dX11_readPlace_42 (hT.2.2.1 t2 (by omega)).2.2.2.1 ?_
      refine zIastN (D := D) hx hb hH hS (zk_14 hF) (zn_14 hF) (by omega) (by omega) dX11_readPlace_45 (fun H locs hH hS => ?_)
      obtain ⟨f122, ef122⟩ : ∃ f9 : zFi, f9 = zu f116 14 t1 (nI t2) := ⟨_, rfl⟩
      rw [← ef122] at hH
      have q123 : f122 1 1 = nI L := by rw [ef122, zu_n (fun h9 => absurd h9.1 (by decide))]; exact q121
      have q124 : f122 1 2 = nI b117 := by rw [ef122, zu_n (fun h9 => absurd h9.1 (by decide))]; exact q119
      have q125 : f122 14 t1 = nI t2 := by rw [ef122]; exact zu_s
      have hT := zTh.ci (fi' := f122) hT (fun i9 k9 h9 => by rw [ef122]; exact zu_n (by omega))
      refine W.widen (k := 0) (n := 0) (by decide) (by decide) ?_
      exact W.vret hx hb hr (fun t9 ht9 hW9 => ⟨⟨f122, rfl, ⟨zStp.plcY hn4 han hs1 q105 (by omega) (by funext k; rw [hf106 2 k (by omega)]) hs2 q112 (by omega) (by funext k; rw [hf113 2 k (by omega), hf106 2 k (by omega)]) (by funext k; rw [hf113 (300 + k) 1 (by omega), hf106 (300 + k) 1 (by omega)]) hs3 (by rw [ef122, zu_n (by omega)]) (fun y hy => ⟨by rw [ef122, zu_n (by omega)]; exact hy.1, by rw [zDft_plc (by omega) ef122, zDft_cg (f := f116) (g := fi) (fun i k q => by rw [hf120 i k (by omega), hf113 i k (by omega), hf106 i k (by omega)]), hy.2]⟩), ⟨b117, by omega, q124⟩, fun i k h => by rw [ef122, zu_n (by omega), hf120 i k (by omega), hf113 i k (by omega), hf106 i k (by omega)]⟩, zEnd1 hH ht9 hW9⟩, hS.F ht9⟩) hS.2.2 dX11_readPlace_46
    · skip
      refine lv_astore_nN (lv' := [(2, .null), (1, .ref (τ.1 (300 + t1))), (0, .ref (τ.1 0))]) hx hb dX11_readPlace_21 rfl hl (by decide) rfl (fun ls hl => ?_)
      refine lv_aload_n hx hb dX11_readPlace_22 rfl (lv_at hl 1 rfl) ?_
      refine lv_ifnull hx hb dX11_readPlace_23 ?_
      refine lv_aload_nN hx hb dX11_readPlace_26 rfl (lv_at hl 0 rfl) ?_
      refine lv_ifnullN (tgt := 46) hx hb dX11_readPlace_27 (by decide) ?_
      refine W.widen (k := 0) (n := 0) (by decide) (by decide) ?_
      exact W.vret hx hb hr (fun t9 ht9 hW9 => ⟨⟨f116, rfl, ⟨zStp.plcY hn4 han hs1 q105 (by omega) (by funext k; rw [hf106 2 k (by omega)]) hs2 q112 (by omega) (by funext k; rw [hf113 2 k (by omega), hf106 2 k (by omega)]) (by funext k; rw [hf113 (300 + k) 1 (by omega), hf106 (300 + k) 1 (by omega)]) hs3 rfl (fun y hy => hy.elim), ⟨b117, by omega, q119⟩, fun i k h => by rw [hf120 i k (by omega), hf113 i k (by omega), hf106 i k (by omega)]⟩, zEnd1 hH ht9 hW9⟩, hS.F ht9⟩) hS.2.2 dX11_readPlace_46
  · skip
    refine lv_astore_nN (lv' := [(1, .null), (0, .ref (τ.1 0))]) hx hb dX11_readPlace_5 rfl hl (by decide) rfl (fun ls hl => ?_)
    refine lv_aload_n hx hb dX11_readPlace_6 rfl (lv_at hl 1 rfl) ?_
    refine zGetR (D := D) (ci := 11) (C := RX11) (T := TX11) (N := 16) hx hb hts hiX11 hown hH (zk_0 hF) rfl 0 (by decide) rfl hw1 (fun _ h9 => h9) dX11_readPlace_7 (zr_0_0 hF) ?_
    refine zLdcW hx hb hown (hz.1.2.2.2.1 5 _ rfl).2 dX11_readPlace_10 ?_
    refine va_callv (va_runV (As := [.ref (sad 5)]) (rest := []) ⟨hx, hb, hml, hown, hts⟩ (t_needWord l hl0 D A sad τ f102 fr ol L b103 hF q107 q105 (by omega) (by omega) 5 ((435, "by", [98, 121])) rfl) (cwV 1 hts gX11_readPlace_X7_needWord rfl rfl rfl (by decide +kernel) ⟨Nat.le_of_ble_eq_true rfl, Nat.le_of_ble_eq_true rfl⟩) ⟨zQc_bl, zRecv hH (zk_1 hF) rfl, zQc_at hz hS hA hH⟩ rfl rfl hl.1 rfl (lv_room (Nat.le_of_ble_eq_true rfl)) dX11_readPlace_13 ⟨Nat.le_of_ble_eq_true rfl, Nat.le_of_ble_eq_true rfl⟩) hS (fun q _ h => h) (fun q h => h) (fun u9 t9 H1 locs ht9 hvm9 hw hB hz1 hk1 hS => ?_)
    have hH := zMv ht9 hvm9 hB
    clear hB
    generalize u9 = f127 at hw hH
    generalize H1 = H at hH hS ⊢
    have hs2 := zStp.need (by omega) (by omega) hw
    obtain ⟨b128, hb129, q130, hf131⟩ := zTw.need q105 (by omega) hw
    have q132 : f127 1 1 = nI L := by rw [hf131 1 1 (by omega)]; exact q107
    have hT := zTh.ci (fi' := f127) hT (fun i9 k9 h9 => hf131 i9 k9 (by omega))
    refine lv_aload_n hx hb dX11_readPlace_16 rfl (lv_at hl 1 rfl) ?_
    refine lv_aload_nN hx hb dX11_readPlace_17 rfl (lv_at hl 0 rfl) ?_
    refine va_callq (va_runV (As := [.null]) (rest := []) ⟨hx, hb, hml, hown, hts⟩ (w_readThingXN l hl0 D A sad τ f127 fr ol L b128 hF q132 q130 (by omega) (by omega) n hT) (cwV 1 hts gX11_readPlace_X11_readThing rfl rfl rfl (by decide +kernel) ⟨Nat.le_of_ble_eq_true rfl, Nat.le_of_ble_eq_true rfl⟩) ⟨zQc_bl, zRecv hH (zk_0 hF) rfl, zQc_at hz hS hA hH⟩ rfl rfl hl.1 rfl (lv_room (Nat.le_of_ble_eq_true rfl)) dX11_readPlace_18 ⟨Nat.le_of_ble_eq_true rfl, Nat.le_of_ble_eq_true rfl⟩) hS (fun q _ h => h) (fun q h => h) (fun r133 u9 t9 H1 locs ht9 hvm9 hw hB hz1 hk1 hS => ?_)
    have hH := zMv ht9 hvm9 hB
    clear hB
    generalize u9 = f134 at hw hH
    generalize H1 = H at hH hS ⊢
    obtain ⟨hrt, ⟨b8, hb8, qb8⟩, hf8⟩ := hw
    obtain ⟨b135, hb136, q137, hf138⟩ := (⟨b8, hb8, qb8, fun i k q => hf8 i k q⟩ : zTw f127 L f134)
    have q139 : f134 1 1 = nI L := by rw [hf138 1 1 (by omega)]; exact q132
    have hT := zTh.ci (fi' := f134) hT (fun i9 k9 h9 => hf138 i9 k9 (by omega))
    rcases hrt with ⟨t2, ht2, rfl, hs3⟩ | ⟨rfl, hs3⟩
    · skip
      refine lv_astore_n (lv' := [(2, .ref (τ.1 (300 + t2))), (1, .null), (0, .ref (τ.1 0))]) hx hb dX11_readPlace_21 rfl hl (by decide) rfl (fun ls hl => ?_)
      refine lv_aload_nN hx hb dX11_readPlace_22 rfl (lv_at hl 1 rfl) ?_
      refine lv_ifnullN (tgt := 46) hx hb dX11_readPlace_23 (by decide) ?_
      refine W.widen (k := 0) (n := 0) (by decide) (by decide) ?_
      exact W.vret hx hb hr (fun t9 ht9 hW9 => ⟨⟨f134, rfl, ⟨zStp.plcN hs1 hs2.1 hs3.1 rfl, ⟨b135, by omega, q137⟩, fun i k h => by rw [hf138 i k (by omega), hf131 i k (by omega), hf106 i k (by omega)]⟩, zEnd1 hH ht9 hW9⟩, hS.F ht9⟩) hS.2.2 dX11_readPlace_46
    · skip
      refine lv_astore_nN (lv' := [(2, .null), (1, .null), (0, .ref (τ.1 0))]) hx hb dX11_readPlace_21 rfl hl (by decide) rfl (fun ls hl => ?_)
      refine lv_aload_nN hx hb dX11_readPlace_22 rfl (lv_at hl 1 rfl) ?_
      refine lv_ifnullN (tgt := 46) hx hb dX11_readPlace_23 (by decide) ?_
      refine W.widen (k := 0) (n := 0) (by decide) (by decide) ?_
      exact W.vret hx hb hr (fun t9 ht9 hW9 => ⟨⟨f134, rfl, ⟨zStp.plcN hs1 hs2.1 hs3.1 rfl, ⟨b135, by omega, q137⟩, fun i k h => by rw [hf138 i k (by omega), hf131 i k (by omega), hf106 i k (by omega)]⟩, zEnd1 hH ht9 hW9⟩, hS.F ht9⟩) hS.2.2 dX11_readPlace_46
set_option maxHeartbeats 4000000 in
set_option maxRecDepth 100000 in
/-- readRule -/
theorem w_readRuleX (l : Launch) (hl0 : l.stackTraces = false) (D : va_G) (A : Nat → Prop) (sad : Nat → Nat) (τ : zTy) (fi : zFi) (fr : zFr) (ol : Int64) (L a : Nat) (hF : zFix τ fr) (hn : fi 1 1 = nI L) (ha : fi 1 2 = nI a) (hn4 : L ≤ 400) (han : a ≤ L) (n : Nat) (hT : zTh τ fi fr n) : Met l yX11_readRule wsX11_readRule ({ frames := 7, cells := 0, slots := 0, locals := 151 }) (va_Pc [.ref (τ.1 0)] (zQc D A sad τ fi fr ol)) (va_Qv (fun (u : zFi) => zStp fi u (zRul (fi 2) L (fun t9 => fi (300 + t9) 1) n a) (fun xx => u 1 2 = nI xx.1 ∧ zDft u = zup (zDft fi) xx.2.1 xx.2.2) ∧ (∃ b, b ≤ L ∧ u 1 2 = nI b) ∧ ∀ i k, ¬ ((i = 1 ∧ 2 ≤ k) ∨ i = 13 ∨ i = 14) → u i k = fi i k) (fun (u : zFi) (t : State) => zH D A τ u fr ol t t.heap) A) 0 0 A := by
  refine Met.ofW (cc := cX11_readRule) (maxL := 2) (ret := none) (by decide) rfl ?_
  intro p9 e9 s m args below meth c9 s₁ B hml hv
  obtain ⟨rfl, hz, hH, hA⟩ := hv
  have hx := B.exec
  have hb := B.bytes
  have hr := B.returns
  have hts := atoms_spec (ws := wsX11_readRule) B.pre
  have hown : s.vm.findClass RX11 = some m.cls := findClass_of_methodNamed B.named
  have hlocks := B.notSynchronized
  have hS : va_S A s.heap s.heap [] := va_S.rf
  have hl := lv_entry ([.ref (τ.1 0)]) (n := 2) (Nat.le_of_ble_eq_true rfl)
  rw [lg_entry_eq]
  generalize (lg_sl ([.ref (τ.1 0)]) ++ List.replicate (2 - (lg_sl ([.ref (τ.1 0)])).length) Slot.unset).toArray = ls at hl ⊢
  have hl : lv_has ls 2 [(0, .ref (τ.1 0))] := hl
  have hn30 := hT.1
  have hiX11 : ∀ w ∈ u_ws RX11 TX11 16, w ∈ wsX11_readRule := fun _ h => List.mem_cons_of_mem _ (List.mem_append_left _ (List.mem_append_left _ (List.mem_append_left _ (List.mem_append_left _ (List.mem_append_right _ h)))))
  have hw1 := hts (.fieldLink RX11 10 "PostHouse" "tape" "LPostHouse$Tape;") (by decide +kernel)
  have hw2 := hts (.fieldLink RX11 37 "PostHouse" "draft" "LPostHouse$Rules;") (by decide +kernel)
  have hiX5 : ∀ w ∈ u_ws RX5 TX5 2, w ∈ wsX11_readRule := fun _ h => List.mem_cons_of_mem _ (List.mem_append_left _ (List.mem_append_left _ (List.mem_append_right _ h)))
  have hw4 := hts (.fieldLink RX11 174 "PostHouse$Rules" "numbers" "[I") (by decide +kernel)
  have hw5 := hts (.fieldLink RX11 419 "PostHouse$Rules" "MOST" "[I") (by decide +kernel)
  have hiX7 : ∀ w ∈ u_ws RX7 TX7 4, w ∈ wsX11_readRule := fun _ h => List.mem_cons_of_mem _ (List.mem_append_left _ (List.mem_append_left _ (List.mem_append_left _ (List.mem_append_right _ h))))
  have hw7 := hts (.fieldLink RX11 413 "PostHouse$Tape" "next" "I") (by decide +kernel)
  refine lv_aload_n hx hb dX11_readRule_0 rfl (lv_at hl 0 rfl) ?_
  refine zGetR (D := D) (ci := 11) (C := RX11) (T := TX11) (N := 16) hx hb hts hiX11 hown hH (zk_0 hF) rfl 0 (by decide) rfl hw1 (fun _ h9 => h9) dX11_readRule_1 (zr_0_0 hF) ?_
  refine zLdcW hx hb hown (hz.1.2.2.2.1 0 _ rfl).2 dX11_readRule_4 ?_
  refine va_calli (va_runV (As := [.ref (sad 0)]) (rest := []) ⟨hx, hb, hml, hown, hts⟩ (t_takesWord l hl0 D A sad τ fi fr ol L a hF hn ha (by omega) (by omega) 0 ((401, "place", [112, 108, 97, 99, 101])) rfl) (cwV 1 hts gX11_readRule_X7_takesWord rfl rfl rfl (by decide +kernel) ⟨Nat.le_of_ble_eq_true rfl, Nat.le_of_ble_eq_true rfl⟩) ⟨zQc_bl, zRecv hH (zk_1 hF) rfl, zQc_at hz hS hA hH⟩ rfl rfl hl.1 rfl (lv_room (Nat.le_of_ble_eq_true rfl)) dX11_readRule_7 ⟨Nat.le_of_ble_eq_true rfl, Nat.le_of_ble_eq_true rfl⟩) hS (fun q _ h => h) (fun q h => h) (fun r101 u9 t9 H1 locs ht9 hvm9 hw hB hz1 hk1 hS => ?_)
  have hH := zMv ht9 hvm9 hB
  clear hB
  generalize u9 = f102 at hw hH
  generalize H1 = H at hH hS ⊢
  rcases hw with ⟨rfl, hw103, b104, ef102, hs105⟩ | ⟨rfl, hn106, ef102⟩
  · have zhs105 := hs105.1
    have yhs105 := hs105.2.1
    have q107 : f102 1 1 = nI L := by rw [ef102, zu_n (fun h9 => absurd h9.2 (by decide))]; exact hn
    have q108 : f102 1 2 = nI b104 := by rw [ef102]; exact zu_s
    have hT := zTh.ci (fi' := f102) hT (fun i9 k9 h9 => by rw [ef102]; exact zu_n (by omega))
    refine lv_if_eq (tgt := 18) hx hb dX11_readRule_10 (by decide) (fun c109 => absurd c109 (by decide)) (fun c109 => ?_)
    refine lv_aload_n hx hb dX11_readRule_13 rfl (lv_at hl 0 rfl) ?_
    refine va_callv (va_runV (As := []) (rest := []) ⟨hx, hb, hml, hown, hts⟩ (w_readPlaceX l hl0 D A sad τ f102 fr ol L b104 hF q107 q108 (by omega) (by omega) n hT) (cwV 0 hts gX11_readRule_X11_readPlace rfl rfl rfl (by decide +kernel) ⟨Nat.le_of_ble_eq_true rfl, Nat.le_of_ble_eq_true rfl⟩) ⟨zQc_bl, zRecv hH (zk_0 hF) rfl, zQc_at hz hS hA hH⟩ rfl rfl hl.1 rfl (lv_room (Nat.le_of_ble_eq_true rfl)) dX11_readRule_14 ⟨Nat.le_of_ble_eq_true rfl, Nat.le_of_ble_eq_true rfl⟩) hS (fun q _ h => h) (fun q h => h) (fun u9 t9 H1 locs ht9 hvm9 hw hB hz1 hk1 hS => ?_)
    have hH := zMv ht9 hvm9 hB
    clear hB
    generalize u9 = f111 at hw hH
    generalize H1 = H at hH hS ⊢
    obtain ⟨hpl, ⟨b112, hb113, q114⟩, hf115⟩ := hw
    have q116 : f111 1 1 = nI L := by rw [hf115 1 1 (by omega)]; exact q107
    have hT := zTh.ci (fi' := f111) hT (fun i9 k9 h9 => hf115 i9 k9 (by omega))
    refine W.widen (k := 0) (n := 0) (by decide) (by decide) ?_
    exact W.vret hx hb hr (fun t9 ht9 hW9 => ⟨⟨f111, rfl, ⟨zStp.rulP (zWrd_yes hw103 hs105 : zWrd (fi 2) L [112, 108, 97, 99, 101] a = some b104) ef102 hpl, ⟨b112, by omega, q114⟩, fun i k h => by rw [hf115 i k (by omega), ef102, zu_n (by omega)]⟩, zEnd1 hH ht9 hW9⟩, hS.F ht9⟩) hS.2.2 dX11_readRule_17
  · have ef102 := ef102.symm
    subst ef102
    refine lv_if_eq (tgt := 18) hx hb dX11_readRule_10 (by decide) (fun c117 => ?_) (fun c117 => absurd (by decide) c117)
    refine lv_aload_n hx hb dX11_readRule_18 rfl (lv_at hl 0 rfl) ?_
    refine va_calli (va_runV (As := []) (rest := []) ⟨hx, hb, hml, hown, hts⟩ (w_readKindX l hl0 D A sad τ fi fr ol L a hF hn ha (by omega) (by omega)) (cwV 0 hts gX11_readRule_X11_readKind rfl rfl rfl (by decide +kernel) ⟨Nat.le_of_ble_eq_true rfl, Nat.le_of_ble_eq_true rfl⟩) ⟨zQc_bl, zRecv hH (zk_0 hF) rfl, zQc_at hz hS hA hH⟩ rfl rfl hl.1 rfl (lv_room (Nat.le_of_ble_eq_true rfl)) dX11_readRule_19 ⟨Nat.le_of_ble_eq_true rfl, Nat.le_of_ble_eq_true rfl⟩) hS (fun q _ h => h) (fun q h => h) (fun r118 u9 t9 H1 locs ht9 hvm9 hw hB hz1 hk1 hS => ?_)
    have hH := zMv ht9 hvm9 hB
    clear hB
    generalize u9 = f119 at hw hH
    generalize H1 = H at hH hS ⊢
    rcases hw with ⟨kd, b120, hkd, rfl, hzk, zb120, ef119⟩ | ⟨rfl, hzk, ef119⟩
    · skip
      have q121 : f119 1 1 = nI L := by rw [ef119, zu_n (fun h9 => absurd h9.2 (by decide))]; exact hn
      have q122 : f119 1 2 = nI b120 := by rw [ef119]; exact zu_s
      have hT := zTh.ci (fi' := f119) hT (fun i9 k9 h9 => by rw [ef119]; exact zu_n (by omega))
      refine lv_istore_n (lv' := [(1, .int (nI kd)), (0, .ref (τ.1 0))]) hx hb dX11_readRule_22 rfl hl (by decide) rfl (fun ls hl => ?_)
      refine lv_iload_n hx hb dX11_readRule_23 rfl (lv_at hl 0 rfl) ?_
      refine lv_iconst (v := (-1)) hx hb dX11_readRule_24 (by decide) ?_
      refine lv_icmp_ne (tgt := 45) hx hb dX11_readRule_25 (by decide) (fun c123 => ?_) (fun c123 => False.elim (by have zc123 := zc_eq (nI_toInt (by omega)) ((by decide : ((-1) : Int32).toInt = (-1))) c123; omega))
      refine lv_aload_n hx hb dX11_readRule_45 rfl (lv_at hl 1 rfl) ?_
      refine zGetR (D := D) (ci := 11) (C := RX11) (T := TX11) (N := 16) hx hb hts hiX11 hown hH (zk_0 hF) rfl 4 (by decide) rfl hw2 (fun _ h9 => h9) dX11_readRule_46 (zr_0_4 hF) ?_
      refine zGetR (D := D) (ci := 5) (C := RX5) (T := TX5) (N := 2) hx hb hts hiX5 hown hH (zk_12 hF) rfl 0 (by decide) rfl hw4 (fun _ h9 => h9) dX11_readRule_49 (zr_12_0 hF) ?_
      refine lv_iload_n hx hb dX11_readRule_52 rfl (lv_at hl 0 rfl) ?_
      refine lv_aload_n hx hb dX11_readRule_53 rfl (lv_at hl 1 rfl) ?_
      refine zGetR (D := D) (ci := 11) (C := RX11) (T := TX11) (N := 16) hx hb hts hiX11 hown hH (zk_0 hF) rfl 0 (by decide) rfl hw1 (fun _ h9 => h9) dX11_readRule_54 (zr_0_0 hF) ?_
      refine lv_iconst (v := nI 0) hx hb dX11_readRule_57 (by decide) ?_
      refine va_gets hx hb (hz.2.2 0 _ rfl).1 hS hown hw5 (fun _ h9 => h9) dX11_readRule_58 ?_
      refine lv_iload_n hx hb dX11_readRule_61 rfl (lv_at hl 0 rfl) ?_
      refine zSti (i := 0) hx hb hz hS rfl (show kd < _ by simp only [List.length_cons, List.length_nil]; omega) (by decide) dX11_readRule_62 ?_
      refine lv_topi (fun v124 ev124 => ?_)
      refine va_calli (va_runV (As := [.int (nI 0), .int v124]) (rest := [.int (nI kd), .ref (τ.1 13)]) ⟨hx, hb, hml, hown, hts⟩ (t_number l hl0 D A sad τ f119 fr ol L b120 hF q121 q122 (by omega) (by omega) (nI 0) v124 (by decide)) (cwV 2 hts gX11_readRule_X7_number rfl rfl rfl (by decide +kernel) ⟨Nat.le_of_ble_eq_true rfl, Nat.le_of_ble_eq_true rfl⟩) ⟨zQc_bl, zRecv hH (zk_1 hF) rfl, zQc_at hz hS hA hH⟩ rfl rfl hl.1 rfl (lv_room (Nat.le_of_ble_eq_true rfl)) dX11_readRule_63 ⟨Nat.le_of_ble_eq_true rfl, Nat.le_of_ble_eq_true rfl⟩) hS (fun q _ h => h) (fun q h => h) (fun r125 u9 t9 H1 locs ht9 hvm9 hw hB hz1 hk1 hS => ?_)
      have hH := zMv ht9 hvm9 hB
      clear hB
      generalize u9 = f126 at hw hH
      generalize H1 = H at hH hS ⊢
      have hnu := zStp.num (by omega) (by omega) hw
      obtain ⟨b127, hb128, q129, hf130⟩ := zTw.num q122 (by omega) hw
      have q131 : f126 1 1 = nI L := by rw [hf130 1 1 (by omega)]; exact q121
      have hT := zTh.ci (fi' := f126) hT (fun i9 k9 h9 => hf130 i9 k9 (by omega))
      refine zIastN (D := D) hx hb hH hS (zk_13 hF) (zn_13 hF) (by omega) (by omega) dX11_readRule_66 (fun H locs hH hS => ?_)
      obtain ⟨f132, ef132⟩ : ∃ f9 : zFi, f9 = zu f126 13 kd r125 := ⟨_, rfl⟩
      rw [← ef132] at hH
      have q133 : f132 1 1 = nI L := by rw [ef132, zu_n (fun h9 => absurd h9.1 (by decide))]; exact q131
      have q134 : f132 1 2 = nI b127 := by rw [ef132, zu_n (fun h9 => absurd h9.1 (by decide))]; exact q129
      have q135 : f132 13 kd = r125 := by rw [ef132]; exact zu_s
      have hT := zTh.ci (fi' := f132) hT (fun i9 k9 h9 => by rw [ef132]; exact zu_n (by omega))
      refine W.widen (k := 0) (n := 0) (by decide) (by decide) ?_
      exact W.vret hx hb hr (fun t9 ht9 hW9 => ⟨⟨f132, rfl, ⟨zStp.rulK hn4 han (zWrd_no hn106 han : zWrd (fi 2) L [112, 108, 97, 99, 101] a = none) hzk hkd ef119 (by rw [ev124]; rfl) hnu (zDft_cg (fun i k q => hf130 i k (by omega))) ef132, ⟨b127, by omega, q134⟩, fun i k h => by rw [ef132, zu_n (by omega), hf130 i k (by omega), ef119, zu_n (by omega)]⟩, zEnd1 hH ht9 hW9⟩, hS.F ht9⟩) hS.2.2 dX11_readRule_67
    · have ef119 := ef119.symm
      subst ef119
      refine lv_istore_n (lv' := [(1, .int ((-1))), (0, .ref (τ.1 0))]) hx hb dX11_readRule_22 rfl hl (by decide) rfl (fun ls hl => ?_)
      refine lv_iload_n hx hb dX11_readRule_23 rfl (lv_at hl 0 rfl) ?_
      refine lv_iconst (v := (-1)) hx hb dX11_readRule_24 (by decide) ?_
      refine lv_icmp_ne (tgt := 45) hx hb dX11_readRule_25 (by decide) (fun c136 => absurd (by decide) c136) (fun c136 => ?_)
      refine lv_aload_n hx hb dX11_readRule_28 rfl (lv_at hl 1 rfl) ?_
      refine zGetR (D := D) (ci := 11) (C := RX11) (T := TX11) (N := 16) hx hb hts hiX11 hown hH (zk_0 hF) rfl 0 (by decide) rfl hw1 (fun _ h9 => h9) dX11_readRule_29 (zr_0_0 hF) ?_
      refine lv_aload_n hx hb dX11_readRule_32 rfl (lv_at hl 1 rfl) ?_
      refine zGetR (D := D) (ci := 11) (C := RX11) (T := TX11) (N := 16) hx hb hts hiX11 hown hH (zk_0 hF) rfl 0 (by decide) rfl hw1 (fun _ h9 => h9) dX11_readRule_33 (zr_0_0 hF) ?_
      refine zGetI (D := D) (ci := 7) (C := RX7) (T := TX7) (N := 4) hx hb hts hiX7 hown hH (zk_1 hF) rfl 2 (by decide) rfl hw7 (fun _ h9 => h9) dX11_readRule_36 ha ?_
      refine va_callv (va_runV (As := [.int (nI a)]) (rest := []) ⟨hx, hb, hml, hown, hts⟩ (t_refuse l hl0 D A sad τ fi fr ol hF (nI a)) (cwV 1 hts gX11_readRule_X7_refuse rfl rfl rfl (by decide +kernel) ⟨Nat.le_of_ble_eq_true rfl, Nat.le_of_ble_eq_true rfl⟩) ⟨zQc_bl, zRecv hH (zk_1 hF) rfl, zQc_at hz hS hA hH⟩ rfl rfl hl.1 rfl (lv_room (Nat.le_of_ble_eq_true rfl)) dX11_readRule_39 ⟨Nat.le_of_ble_eq_true rfl, Nat.le_of_ble_eq_true rfl⟩) hS (fun q _ h => h) (fun q h => h) (fun u9 t9 H1 locs ht9 hvm9 hw hB hz1 hk1 hS => ?_)
      have hH := zMv ht9 hvm9 hB
      clear hB
      generalize u9 = f138 at hw hH
      generalize H1 = H at hH hS ⊢
      have hre := hw
      obtain ⟨b139, hb140, q141, hf142⟩ := zTw.ref (L := L) ha (by omega) hw
      have q143 : f138 1 1 = nI L := by rw [hf142 1 1 (by omega)]; exact hn
      have hT := zTh.ci (fi' := f138) hT (fun i9 k9 h9 => hf142 i9 k9 (by omega))
      refine lv_goto (tgt := 67) hx hb dX11_readRule_42 (by decide) ?_
      refine W.widen (k := 0) (n := 0) (by decide) (by decide) ?_
      exact W.vret hx hb hr (fun t9 ht9 hW9 => ⟨⟨f138, rfl, ⟨zStp.rulX hn4 han (zWrd_no hn106 han : zWrd (fi 2) L [112, 108, 97, 99, 101] a = none) hzk hre, ⟨b139, by omega, q141⟩, fun i k h => by rw [hf142 i k (by omega)]⟩, zEnd1 hH ht9 hW9⟩, hS.F ht9⟩) hS.2.2 dX11_readRule_67
set_option maxHeartbeats 4000000 in
set_option maxRecDepth 100000 in
/-- rules -/
theorem w_rulesX (l : Launch) (hl0 : l.stackTraces = false) (D : va_G) (A : Nat → Prop) (sad : Nat → Nat) (τ : zTy) (fi : zFi) (fr : zFr) (ol : Int64) (L : Nat) (hF : zFix τ fr) (hn : fi 1 1 = nI L) (hn4 : L ≤ 400) (n : Nat) (hT : zTh τ fi fr n) : vx_Met l yX11_rules wsX11_rules ({ frames := 8, cells := 1, slots := 6, locals := 172 }) (va_Pc [.ref (τ.1 0)] (zQc D A sad τ fi fr ol)) (va_Qi (fun (r : Int32) (u : zFi) => (∃ m D9, zRls (fi 2) L (fun t9 => fi (300 + t9) 1) n 401 (zS (fi 2) L 0) (zDru fi) 0 = .ok (m, D9) ∧ r = nI m ∧ u 0 14 = -1 ∧ zDru u = D9) ∧ u 1 1 = nI 0 ∧ ∀ i k, ¬ (i = 1 ∨ i = 10 ∨ i = 11 ∨ i = 13 ∨ i = 14 ∨ (i = 0 ∧ k = 14)) → u i k = fi i k) (fun (u : zFi) (t : State) => zH D A τ u fr ol t t.heap) A) (vx_X (fun u : zFi => True) (fun (E : String) (u : zFi) (t : State) => (E = "java/lang/IllegalArgumentException" ∧ (∃ p, p ≤ 400 ∧ zRls (fi 2) L (fun t9 => fi (300 + t9) 1) n 401 (zS (fi 2) L 0) (zDru fi) 0 = .error p ∧ u 0 14 = nI p ∧ zDru u = zDru fi) ∧ u 1 1 = nI 0 ∧ ∀ i k, ¬ (i = 1 ∨ i = 10 ∨ i = 11 ∨ i = 13 ∨ i = 14 ∨ (i = 0 ∧ k = 14)) → u i k = fi i k) ∧ zH D A τ u fr ol t t.heap) A) 1 6 A := by
  refine vx_ofW (cc := cX11_rules) (maxL := 4) (ret := (some .int)) (by decide) rfl ?_
  intro p9 e9 s m args below meth c9 s₁ B hml ht0 hv
  obtain ⟨rfl, hz, hH, hA⟩ := hv
  have hx := B.exec
  have hb := B.bytes
  have hr := B.returns
  have hts := atoms_spec (ws := wsX11_rules) B.pre
  have hown : s.vm.findClass RX11 = some m.cls := findClass_of_methodNamed B.named
  have hlocks := B.notSynchronized
  have hS : va_S A s.heap s.heap [] := va_S.rf
  have hl := lv_entry ([.ref (τ.1 0)]) (n := 4) (Nat.le_of_ble_eq_true rfl)
  rw [lg_entry_eq]
  generalize (lg_sl ([.ref (τ.1 0)]) ++ List.replicate (4 - (lg_sl ([.ref (τ.1 0)])).length) Slot.unset).toArray = ls at hl ⊢
  have hl : lv_has ls 4 [(0, .ref (τ.1 0))] := hl
  have hn30 := hT.1
  have hT0 := hT
  have hiX11 : ∀ w ∈ u_ws RX11 TX11 16, w ∈ wsX11_rules := fun _ h => List.mem_cons_of_mem _ (List.mem_append_left _ (List.mem_append_left _ (List.mem_append_left _ (List.mem_append_left _ (List.mem_append_left _ (List.mem_append_right _ h))))))
  have hw1 := hts (.fieldLink RX11 37 "PostHouse" "draft" "LPostHouse$Rules;") (by decide +kernel)
  have hw2 := hts (.fieldLink RX11 33 "PostHouse" "rules" "LPostHouse$Rules;") (by decide +kernel)
  have hw3 := hts (.fieldLink RX11 10 "PostHouse" "tape" "LPostHouse$Tape;") (by decide +kernel)
  have hw4 := hts (.fieldLink RX11 72 "PostHouse" "fault" "I") (by decide +kernel)
  have hw5 := hts (.classLink RX11 91 "java/lang/IllegalArgumentException") (by decide +kernel)
  have hw6 := hts (.initialized "java/lang/IllegalArgumentException") (by decide +kernel)
  refine lv_aload_n hx hb dX11_rules_0 rfl (lv_at hl 0 rfl) ?_
  refine zGetR (D := D) (ci := 11) (C := RX11) (T := TX11) (N := 16) hx hb hts hiX11 hown hH (zk_0 hF) rfl 4 (by decide) rfl hw1 (fun _ h9 => h9) dX11_rules_1 (zr_0_4 hF) ?_
  refine lv_aload_n hx hb dX11_rules_4 rfl (lv_at hl 0 rfl) ?_
  refine zGetR (D := D) (ci := 11) (C := RX11) (T := TX11) (N := 16) hx hb hts hiX11 hown hH (zk_0 hF) rfl 3 (by decide) rfl hw2 (fun _ h9 => h9) dX11_rules_5 (zr_0_3 hF) ?_
  refine va_callv (va_runV (As := [.ref (τ.1 9)]) (rest := []) ⟨hx, hb, hml, hown, hts⟩ (c_copyD l hl0 D A sad τ fi fr ol hF) (cwV 1 hts gX11_rules_X5_copy rfl rfl rfl (by decide +kernel) ⟨Nat.le_of_ble_eq_true rfl, Nat.le_of_ble_eq_true rfl⟩) ⟨zQc_bl, zRecv hH (zk_12 hF) rfl, zQc_at hz hS hA hH⟩ rfl rfl hl.1 rfl (lv_room (Nat.le_of_ble_eq_true rfl)) dX11_rules_8 ⟨Nat.le_of_ble_eq_true rfl, Nat.le_of_ble_eq_true rfl⟩) hS (fun q _ h => h) (fun q h => h) (fun u9 t9 H1 locs ht9 hvm9 hw hB hz1 hk1 hS => ?_)
  have hH := zMv ht9 hvm9 hB
  clear hB
  generalize u9 = f102 at hw hH
  generalize H1 = H at hH hS ⊢
  have hc_copyD := hw
  have hf103 : ∀ i k, ¬ (i = 13 ∨ i = 14) → f102 i k = fi i k := fun i k h => by rw [hw]; show (if _ then _ else if _ then _ else _) = _; rw [if_neg (by omega), if_neg (by omega)]
  have q104 : f102 1 1 = nI L := by rw [hf103 1 1 (by omega)]; exact hn
  have hT := zTh.ci (fi' := f102) hT (fun i9 k9 h9 => hf103 i9 k9 (by omega))
  refine lv_aload_n hx hb dX11_rules_11 rfl (lv_at hl 0 rfl) ?_
  refine zGetR (D := D) (ci := 11) (C := RX11) (T := TX11) (N := 16) hx hb hts hiX11 hown hH (zk_0 hF) rfl 0 (by decide) rfl hw3 (fun _ h9 => h9) dX11_rules_12 (zr_0_0 hF) ?_
  refine va_callv (va_runV (As := []) (rest := []) ⟨hx, hb, hml, hown, hts⟩ (t_open l hl0 D A sad τ f102 fr ol L hF q104 (by omega)) (cwV 0 hts gX11_rules_X7_open rfl rfl rfl (by decide +kernel) ⟨Nat.le_of_ble_eq_true rfl, Nat.le_of_ble_eq_true rfl⟩) ⟨zQc_bl, zRecv hH (zk_1 hF) rfl, zQc_at hz hS hA hH⟩ rfl rfl hl.1 rfl (lv_room (Nat.le_of_ble_eq_true rfl)) dX11_rules_15 ⟨Nat.le_of_ble_eq_true rfl, Nat.le_of_ble_eq_true rfl⟩) hS (fun q _ h => h) (fun q h => h) (fun u9 t9 H1 locs ht9 hvm9 hw hB hz1 hk1 hS => ?_)
  have hH := zMv ht9 hvm9 hB
  clear hB
  generalize u9 = f106 at hw hH
  generalize H1 = H at hH hS ⊢
  obtain ⟨b7, e7, h7⟩ := hw
  obtain ⟨b107, hb108, q109, hf110⟩ := (⟨b7, h7.2.1, by rw [e7]; exact zu_s, fun i k q => by rw [e7, zu_n (by omega), zu_n (by omega)]⟩ : zTw f102 L f106)
  have q111 : f106 1 1 = nI L := by rw [hf110 1 1 (by omega)]; exact q104
  have hT := zTh.ci (fi' := f106) hT (fun i9 k9 h9 => hf110 i9 k9 (by omega))
  refine lv_iconst (v := nI 0) hx hb dX11_rules_18 (by decide) ?_
  refine lv_istore_n (lv' := [(1, .int (nI 0)), (0, .ref (τ.1 0))]) hx hb dX11_rules_19 rfl hl (by decide) rfl (fun ls hl => ?_)
  refine lv_iconst (v := nI 1) hx hb dX11_rules_20 (by decide) ?_
  refine lv_istore_n (lv' := [(2, .int (nI 1)), (1, .int (nI 0)), (0, .ref (τ.1 0))]) hx hb dX11_rules_21 rfl hl (by decide) rfl (fun ls hl => ?_)
  refine lv_iconst (v := nI 0) hx hb dX11_rules_22 (by decide) ?_
  refine lv_istore_n (lv' := [(3, .int (nI 0)), (2, .int (nI 1)), (1, .int (nI 0)), (0, .ref (τ.1 0))]) hx hb dX11_rules_23 rfl hl (by decide) rfl (fun ls hl => ?_)
  refine zLp (σ := Nat × Int32 × zFi) (fun x9 k9 H locs ls => (fun (i : Nat) (y : Int32) (f : zFi) => k9 = 400 - i ∧ (i ≤ 400 ∧ (∃ b, b ≤ L ∧ f 1 2 = nI b ∧ zLi (zRls (fi 2) L (fun t9 => fi (300 + t9) 1) n 401 (zS (fi 2) L 0) (zDru fi) 0) (fi 2) (fun t9 => fi (300 + t9) 1) L n i y b f) ∧ ∀ a b, ¬ ((a = 1 ∧ 2 ≤ b) ∨ a = 13 ∨ a = 14) → f a b = fi a b) ∧ zH D A τ f fr ol s H ∧ va_S A s.heap H locs ∧ lv_has ls 4 [(0, .ref (τ.1 0)), (1, .int (nI i)), (2, .int y), (3, .int (nI i))]) x9.1 x9.2.1 x9.2.2) (0, nI 1, f106) (400 - 0) (show 400 - 0 = 400 - 0 ∧ (0 ≤ 400 ∧ (∃ b, b ≤ L ∧ f106 1 2 = nI b ∧ zLi (zRls (fi 2) L (fun t9 => fi (300 + t9) 1) n 401 (zS (fi 2) L 0) (zDru fi) 0) (fi 2) (fun t9 => fi (300 + t9) 1) L n 0 (nI 1) b f106) ∧ ∀ a b, ¬ ((a = 1 ∧ 2 ≤ b) ∨ a = 13 ∨ a = 14) → f106 a b = fi a b) ∧ zH D A τ f106 fr ol s _ ∧ va_S A s.heap _ _ ∧ lv_has _ 4 [(0, .ref (τ.1 0)), (1, .int (nI 0)), (2, .int (nI 1)), (3, .int (nI 0))] from ⟨rfl, ⟨Nat.zero_le _, ⟨b7, h7.2.1, by rw [e7]; exact zu_s, Or.inr ⟨by rw [e7, zu_n (by omega)]; exact zu_s, Or.inl ⟨rfl, by omega, zLi.init hc_copyD e7 h7⟩⟩⟩, fun a b h => by rw [hf110 a b (by omega), hf103 a b (by omega)]⟩, hH, hS, lv_sub hl [3, 2, 1, 0] rfl⟩) (fun k9 ih x9 H locs ls hv9 => ?_)
  obtain ⟨i, y, f⟩ := x9
  have hv9 : k9 = 400 - i ∧ (i ≤ 400 ∧ (∃ b, b ≤ L ∧ f 1 2 = nI b ∧ zLi (zRls (fi 2) L (fun t9 => fi (300 + t9) 1) n 401 (zS (fi 2) L 0) (zDru fi) 0) (fi 2) (fun t9 => fi (300 + t9) 1) L n i y b f) ∧ ∀ a b, ¬ ((a = 1 ∧ 2 ≤ b) ∨ a = 13 ∨ a = 14) → f a b = fi a b) ∧ zH D A τ f fr ol s H ∧ va_S A s.heap H locs ∧ lv_has ls 4 [(0, .ref (τ.1 0)), (1, .int (nI i)), (2, .int y), (3, .int (nI i))] := hv9
  obtain ⟨hkih112, hv9, hH, hS, hl⟩ := hv9
  obtain ⟨h1, hpos, hfr⟩ := hv9
  have ih112 := ih
  clear ih
  obtain ⟨b6, hb6, q6, hli⟩ := hpos
  have q5 : f 1 1 = nI L := by rw [hfr 1 1 (by omega)]; exact hn
  have hT := zTh.ci (fi' := f) hT0 (fun i9 k9 h9 => hfr i9 k9 (by omega))
  refine lv_iload_n hx hb dX11_rules_24 rfl (lv_at hl 3 rfl) ?_
  refine lv_sipush (v := nI 400) hx hb dX11_rules_25 (by decide) ?_
  refine lv_icmp_ge (tgt := 58) hx hb dX11_rules_28 (by decide) (fun c113 => ?_) (fun c113 => ?_)
  · have zc113 := c113
    replace zc113 := zc_le (nI_toInt (by omega)) (nI_toInt (by omega)) zc113
    refine lv_aload_n hx hb dX11_rules_58 rfl (lv_at hl 0 rfl) ?_
    refine va_callv (va_runV (As := []) (rest := []) ⟨hx, hb, hml, hown, hts⟩ (c_closeTape l hl0 D A sad τ f fr ol L b6 hF q5 q6 (by omega) (by omega)) (cwV 0 hts gX11_rules_X11_closeTape rfl rfl rfl (by decide +kernel) ⟨Nat.le_of_ble_eq_true rfl, Nat.le_of_ble_eq_true rfl⟩) ⟨zQc_bl, zRecv hH (zk_0 hF) rfl, zQc_at hz hS hA hH⟩ rfl rfl hl.1 rfl (lv_room (Nat.le_of_ble_eq_true rfl)) dX11_rules_59 ⟨Nat.le_of_ble_eq_true rfl, Nat.le_of_ble_eq_true rfl⟩) hS (fun q _ h => h) (fun q h => h) (fun u9 t9 H1 locs ht9 hvm9 hw hB hz1 hk1 hS => ?_)
    have hH := zMv ht9 hvm9 hB
    clear hB
    generalize u9 = f115 at hw hH
    generalize H1 = H at hH hS ⊢
    obtain ⟨w116, hcl, q117, q118, hf119⟩ := hw
    have hex := hli.exit hn4 hb6 (by omega) hcl
    have q120 : f115 1 2 = nI b6 := by rw [hf119 1 2 (by omega)]; exact q6
    have hT := zTh.ci (fi' := f115) hT (fun i9 k9 h9 => hf119 i9 k9 (by omega))
    refine lv_aload_n hx hb dX11_rules_62 rfl (lv_at hl 0 rfl) ?_
    refine zGetI (D := D) (ci := 11) (C := RX11) (T := TX11) (N := 16) hx hb hts hiX11 hown hH (zk_0 hF) rfl 14 (by decide) rfl hw4 (fun _ h9 => h9) dX11_rules_63 q117 ?_
    refine lv_iconst (v := (-1)) hx hb dX11_rules_66 (by decide) ?_
    refine lv_icmp_eq (tgt := 80) hx hb dX11_rules_67 (by decide) (fun c121 => ?_) (fun c121 => ?_)
    · have zc121 := c121
      replace zc121 := zc_eq (rfl) ((by decide : ((-1) : Int32).toInt = (-1))) zc121
      refine lv_aload_n hx hb dX11_rules_80 rfl (lv_at hl 0 rfl) ?_
      refine zGetR (D := D) (ci := 11) (C := RX11) (T := TX11) (N := 16) hx hb hts hiX11 hown hH (zk_0 hF) rfl 3 (by decide) rfl hw2 (fun _ h9 => h9) dX11_rules_81 (zr_0_3 hF) ?_
      refine lv_aload_n hx hb dX11_rules_84 rfl (lv_at hl 0 rfl) ?_
      refine zGetR (D := D) (ci := 11) (C := RX11) (T := TX11) (N := 16) hx hb hts hiX11 hown hH (zk_0 hF) rfl 4 (by decide) rfl hw1 (fun _ h9 => h9) dX11_rules_85 (zr_0_4 hF) ?_
      refine va_callv (va_runV (As := [.ref (τ.1 12)]) (rest := []) ⟨hx, hb, hml, hown, hts⟩ (c_copyR l hl0 D A sad τ f115 fr ol hF) (cwV 1 hts gX11_rules_X5_copy rfl rfl rfl (by decide +kernel) ⟨Nat.le_of_ble_eq_true rfl, Nat.le_of_ble_eq_true rfl⟩) ⟨zQc_bl, zRecv hH (zk_9 hF) rfl, zQc_at hz hS hA hH⟩ rfl rfl hl.1 rfl (lv_room (Nat.le_of_ble_eq_true rfl)) dX11_rules_88 ⟨Nat.le_of_ble_eq_true rfl, Nat.le_of_ble_eq_true rfl⟩) hS (fun q _ h => h) (fun q h => h) (fun u9 t9 H1 locs ht9 hvm9 hw hB hz1 hk1 hS => ?_)
      have hH := zMv ht9 hvm9 hB
      clear hB
      generalize u9 = f123 at hw hH
      generalize H1 = H at hH hS ⊢
      have hc_copyR := hw
      have hf124 : ∀ i k, ¬ (i = 10 ∨ i = 11) → f123 i k = f115 i k := fun i k h => by rw [hw]; show (if _ then _ else if _ then _ else _) = _; rw [if_neg (by omega), if_neg (by omega)]
      have q125 : f123 1 2 = nI b6 := by rw [hf124 1 2 (by omega)]; exact q120
      have q126 : f123 0 14 = w116 := by rw [hf124 0 14 (by omega)]; exact q117
      have q127 : f123 1 1 = nI 0 := by rw [hf124 1 1 (by omega)]; exact q118
      have hT := zTh.ci (fi' := f123) hT (fun i9 k9 h9 => hf124 i9 k9 (by omega))
      refine lv_iload_n hx hb dX11_rules_91 rfl (lv_at hl 1 rfl) ?_
      refine W.widen (k := 1) (n := 6) (by decide) (by decide) ?_
      refine vx_ret ?_
      exact W.iret (v := nI i) hx hb hr (fun t9 ht9 hW9 => ⟨⟨nI i, f123, rfl, ⟨by rcases hex with ⟨p8, p81, p82, p83⟩ | ⟨p81, p82⟩; (exact absurd (p82.symm.trans c121) (nI_ne1 p81)); (exact ⟨i, _, p82, rfl, by rw [q126]; exact p81, by rw [zDru_of hc_copyR]; exact zDft_cg (fun i k q => hf119 i k (by omega))⟩), ⟨q127, fun i k h => by rw [hf124 i k (by omega), hf119 i k (by omega)]; exact hfr i k (by omega)⟩⟩, zEnd1 hH ht9 hW9⟩, hS.F ht9⟩) hS.2.2 dX11_rules_92
    · have zc121 := c121
      replace zc121 := zc_neq (rfl) ((by decide : ((-1) : Int32).toInt = (-1))) zc121
      obtain ⟨a128, ha128⟩ := hz.1.2.2.2.2.1 _ (List.mem_of_getElem? (i := 7) rfl)
      have hat : ∀ w ∈ vx_atS RX11 95 "java/lang/IllegalArgumentException" ["java/lang/RuntimeException", "java/lang/Exception"], w.before _ s = true := vx_hat (fun w h => hts w (List.mem_cons_of_mem _ (List.mem_append_right _ h))) (B := [.castable "java/lang/IllegalArgumentException" "java/lang/IllegalArgumentException", .declares (Bundle.initS "java/lang/RuntimeException"), .declares (Bundle.initS "java/lang/Exception"), .declares (Bundle.initS Bundle.tN)]) (by decide +kernel) (vx_c (va_Nw.use rfl (hz.1.2.2.2.2.2.2.2.1 _ (List.mem_of_getElem? (i := 1) rfl))) (vx_c (va_Nw.use rfl (hz.1.2.2.2.2.2.2.2.2 _ (List.mem_of_getElem? (i := 0) rfl))) (vx_c (va_Nw.use rfl (hz.1.2.2.2.2.2.2.2.2 _ (List.mem_of_getElem? (i := 1) rfl))) (vx_c (va_Nw.use rfl (hz.1.2.2.2.2.2.2.2.2 _ (List.mem_of_getElem? (i := 2) rfl))) vx_n))))
      exact vx_throwS hx hb hl0 (own := RX11) (cls := "java/lang/IllegalArgumentException") (text := "the text of the rules is wrong") (names := ["java/lang/RuntimeException", "java/lang/Exception"]) hown (by decide +kernel) (by decide +kernel) hw5 hw6 ha128 hat (by decide +kernel) hz.1.1 hz.1.2.1 hS (by rw [hml]; exact hl.1) dX11_rules_70 dX11_rules_73 dX11_rules_74 dX11_rules_76 dX11_rules_79 (fun x h9 => (ht0 x h9).elim) (Nat.le_of_ble_eq_true rfl) (Nat.le_of_ble_eq_true rfl) (Nat.le_of_ble_eq_true rfl) (Nat.le_of_ble_eq_true rfl) hlocks (fun t9 hvm9 h91 h92 => ⟨f115, trivial, ⟨⟨rfl, by rcases hex with ⟨p8, p81, p82, p83⟩ | ⟨p81, p82⟩; (exact ⟨p8, p81, p83, by rw [q117]; exact p82, zDru_cg (fun i k h => by rw [hf119 i k (by omega)]; exact hfr i k (by omega))⟩); exact absurd p81 c121, ⟨q118, fun i k h => by rw [hf119 i k (by omega)]; exact hfr i k (by omega)⟩⟩, zThr hH hvm9 h92⟩, zF2 hS h91 h92⟩) hS.2.2 (by decide) (by decide)
  · have zc113 := c113
    replace zc113 := zc_nle (nI_toInt (by omega)) (nI_toInt (by omega)) zc113
    refine lv_iload_n hx hb dX11_rules_31 rfl (lv_at hl 2 rfl) ?_
    refine lv_if_eq (tgt := 58) hx hb dX11_rules_32 (by decide) (fun c129 => ?_) (fun c129 => ?_)
    · have zc129 := c129
      replace zc129 := zc_eq (rfl) ((by decide : (0 : Int32).toInt = 0)) zc129
      refine lv_aload_n hx hb dX11_rules_58 rfl (lv_at hl 0 rfl) ?_
      refine va_callv (va_runV (As := []) (rest := []) ⟨hx, hb, hml, hown, hts⟩ (c_closeTape l hl0 D A sad τ f fr ol L b6 hF q5 q6 (by omega) (by omega)) (cwV 0 hts gX11_rules_X11_closeTape rfl rfl rfl (by decide +kernel) ⟨Nat.le_of_ble_eq_true rfl, Nat.le_of_ble_eq_true rfl⟩) ⟨zQc_bl, zRecv hH (zk_0 hF) rfl, zQc_at hz hS hA hH⟩ rfl rfl hl.1 rfl (lv_room (Nat.le_of_ble_eq_true rfl)) dX11_rules_59 ⟨Nat.le_of_ble_eq_true rfl, Nat.le_of_ble_eq_true rfl⟩) hS (fun q _ h => h) (fun q h => h) (fun u9 t9 H1 locs ht9 hvm9 hw hB hz1 hk1 hS => ?_)
      have hH := zMv ht9 hvm9 hB
      clear hB
      generalize u9 = f131 at hw hH
      generalize H1 = H at hH hS ⊢
      obtain ⟨w132, hcl, q133, q134, hf135⟩ := hw
      have hex := hli.exit hn4 hb6 (by omega) hcl
      have q136 : f131 1 2 = nI b6 := by rw [hf135 1 2 (by omega)]; exact q6
      have hT := zTh.ci (fi' := f131) hT (fun i9 k9 h9 => hf135 i9 k9 (by omega))
      refine lv_aload_n hx hb dX11_rules_62 rfl (lv_at hl 0 rfl) ?_
      refine zGetI (D := D) (ci := 11) (C := RX11) (T := TX11) (N := 16) hx hb hts hiX11 hown hH (zk_0 hF) rfl 14 (by decide) rfl hw4 (fun _ h9 => h9) dX11_rules_63 q133 ?_
      refine lv_iconst (v := (-1)) hx hb dX11_rules_66 (by decide) ?_
      refine lv_icmp_eq (tgt := 80) hx hb dX11_rules_67 (by decide) (fun c137 => ?_) (fun c137 => ?_)
      · have zc137 := c137
        replace zc137 := zc_eq (rfl) ((by decide : ((-1) : Int32).toInt = (-1))) zc137
        refine lv_aload_n hx hb dX11_rules_80 rfl (lv_at hl 0 rfl) ?_
        refine zGetR (D := D) (ci := 11) (C := RX11) (T := TX11) (N := 16) hx hb hts hiX11 hown hH (zk_0 hF) rfl 3 (by decide) rfl hw2 (fun _ h9 => h9) dX11_rules_81 (zr_0_3 hF) ?_
        refine lv_aload_n hx hb dX11_rules_84 rfl (lv_at hl 0 rfl) ?_
        refine zGetR (D := D) (ci := 11) (C := RX11) (T := TX11) (N := 16) hx hb hts hiX11 hown hH (zk_0 hF) rfl 4 (by decide) rfl hw1 (fun _ h9 => h9) dX11_rules_85 (zr_0_4 hF) ?_
        refine va_callv (va_runV (As := [.ref (τ.1 12)]) (rest := []) ⟨hx, hb, hml, hown, hts⟩ (c_copyR l hl0 D A sad τ f131 fr ol hF) (cwV 1 hts gX11_rules_X5_copy rfl rfl rfl (by decide +kernel) ⟨Nat.le_of_ble_eq_true rfl, Nat.le_of_ble_eq_true rfl⟩) ⟨zQc_bl, zRecv hH (zk_9 hF) rfl, zQc_at hz hS hA hH⟩ rfl rfl hl.1 rfl (lv_room (Nat.le_of_ble_eq_true rfl)) dX11_rules_88 ⟨Nat.le_of_ble_eq_true rfl, Nat.le_of_ble_eq_true rfl⟩) hS (fun q _ h => h) (fun q h => h) (fun u9 t9 H1 locs ht9 hvm9 hw hB hz1 hk1 hS => ?_)
        have hH := zMv ht9 hvm9 hB
        clear hB
        generalize u9 = f139 at hw hH
        generalize H1 = H at hH hS ⊢
        have hc_copyR := hw
        have hf140 : ∀ i k, ¬ (i = 10 ∨ i = 11) → f139 i k = f131 i k := fun i k h => by rw [hw]; show (if _ then _ else if _ then _ else _) = _; rw [if_neg (by omega), if_neg (by omega)]
        have q141 : f139 1 2 = nI b6 := by rw [hf140 1 2 (by omega)]; exact q136
        have q142 : f139 0 14 = w132 := by rw [hf140 0 14 (by omega)]; exact q133
        have q143 : f139 1 1 = nI 0 := by rw [hf140 1 1 (by omega)]; exact q134
        have hT := zTh.ci (fi' := f139) hT (fun i9 k9 h9 => hf140 i9 k9 (by omega))
        refine lv_iload_n hx hb dX11_rules_91 rfl (lv_at hl 1 rfl) ?_
        refine W.widen (k := 1) (n := 6) (by decide) (by decide) ?_
        refine vx_ret ?_
        exact W.iret (v := nI i) hx hb hr (fun t9 ht9 hW9 => ⟨⟨nI i, f139, rfl, ⟨by rcases hex with ⟨p8, p81, p82, p83⟩ | ⟨p81, p82⟩; (exact absurd (p82.symm.trans c137) (nI_ne1 p81)); (exact ⟨i, _, p82, rfl, by rw [q142]; exact p81, by rw [zDru_of hc_copyR]; exact zDft_cg (fun i k q => hf135 i k (by omega))⟩), ⟨q143, fun i k h => by rw [hf140 i k (by omega), hf135 i k (by omega)]; exact hfr i k (by omega)⟩⟩, zEnd1 hH ht9 hW9⟩, hS.F ht9⟩) hS.2.2 dX11_rules_92
      · have zc137 := c137
        replace zc137 := zc_neq (rfl) ((by decide : ((-1) : Int32).toInt = (-1))) zc137
        obtain ⟨a144, ha144⟩ := hz.1.2.2.2.2.1 _ (List.mem_of_getElem? (i := 7) rfl)
        have hat : ∀ w ∈ vx_atS RX11 95 "java/lang/IllegalArgumentException" ["java/lang/RuntimeException", "java/lang/Exception"], w.before _ s = true := vx_hat (fun w h => hts w (List.mem_cons_of_mem _ (List.mem_append_right _ h))) (B := [.castable "java/lang/IllegalArgumentException" "java/lang/IllegalArgumentException", .declares (Bundle.initS "java/lang/RuntimeException"), .declares (Bundle.initS "java/lang/Exception"), .declares (Bundle.initS Bundle.tN)]) (by decide +kernel) (vx_c (va_Nw.use rfl (hz.1.2.2.2.2.2.2.2.1 _ (List.mem_of_getElem? (i := 1) rfl))) (vx_c (va_Nw.use rfl (hz.1.2.2.2.2.2.2.2.2 _ (List.mem_of_getElem? (i := 0) rfl))) (vx_c (va_Nw.use rfl (hz.1.2.2.2.2.2.2.2.2 _ (List.mem_of_getElem? (i := 1) rfl))) (vx_c (va_Nw.use rfl (hz.1.2.2.2.2.2.2.2.2 _ (List.mem_of_getElem? (i := 2) rfl))) vx_n))))
        exact vx_throwS hx hb hl0 (own := RX11) (cls := "java/lang/IllegalArgumentException") (text := "the text of the rules is wrong") (names := ["java/lang/RuntimeException", "java/lang/Exception"]) hown (by decide +kernel) (by decide +kernel) hw5 hw6 ha144 hat (by decide +kernel) hz.1.1 hz.1.2.1 hS (by rw [hml]; exact hl.1) dX11_rules_70 dX11_rules_73 dX11_rules_74 dX11_rules_76 dX11_rules_79 (fun x h9 => (ht0 x h9).elim) (Nat.le_of_ble_eq_true rfl) (Nat.le_of_ble_eq_true rfl) (Nat.le_of_ble_eq_true rfl) (Nat.le_of_ble_eq_true rfl) hlocks (fun t9 hvm9 h91 h92 => ⟨f131, trivial, ⟨⟨rfl, by rcases hex with ⟨p8, p81, p82, p83⟩ | ⟨p81, p82⟩; (exact ⟨p8, p81, p83, by rw [q133]; exact p82, zDru_cg (fun i k h => by rw [hf135 i k (by omega)]; exact hfr i k (by omega))⟩); exact absurd p81 c137, ⟨q134, fun i k h => by rw [hf135 i k (by omega)]; exact hfr i k (by omega)⟩⟩, zThr hH hvm9 h92⟩, zF2 hS h91 h92⟩) hS.2.2 (by decide) (by decide)
    · have zc129 := c129
      replace zc129 := zc_neq (rfl) ((by decide : (0 : Int32).toInt = 0)) zc129
      refine lv_aload_n hx hb dX11_rules_35 rfl (lv_at hl 0 rfl) ?_
      refine va_callv (va_runV (As := []) (rest := []) ⟨hx, hb, hml, hown, hts⟩ (w_readRuleX l hl0 D A sad τ f fr ol L b6 hF q5 q6 (by omega) (by omega) n hT) (cwV 0 hts gX11_rules_X11_readRule rfl rfl rfl (by decide +kernel) ⟨Nat.le_of_ble_eq_true rfl, Nat.le_of_ble_eq_true rfl⟩) ⟨zQc_bl, zRecv hH (zk_0 hF) rfl, zQc_at hz hS hA hH⟩ rfl rfl hl.1 rfl (lv_room (Nat.le_of_ble_eq_true rfl)) dX11_rules_36 ⟨Nat.le_of_ble_eq_true rfl, Nat.le_of_ble_eq_true rfl⟩) hS (fun q _ h => h) (fun q h => h) (fun u9 t9 H1 locs ht9 hvm9 hw hB hz1 hk1 hS => ?_)
      have hH := zMv ht9 hvm9 hB
      clear hB
      generalize u9 = f146 at hw hH
      generalize H1 = H at hH hS ⊢
      obtain ⟨hru, ⟨b147, hb148, q149⟩, hf150⟩ := hw
      have q151 : f146 1 1 = nI L := by rw [hf150 1 1 (by omega)]; exact q5
      have hT := zTh.ci (fi' := f146) hT (fun i9 k9 h9 => hf150 i9 k9 (by omega))
      refine lv_iinc (v := nI (i + 1)) (lv' := [(1, .int (nI (i + 1))), (0, .ref (τ.1 0)), (2, .int y), (3, .int (nI i))]) hx hb dX11_rules_39 hl (k := 1) rfl (by rw [show (Int32.ofInt 1 : Int32) = nI 1 from by decide, nI_add]) (by decide) rfl (fun ls hl => ?_)
      refine lv_aload_n hx hb dX11_rules_42 rfl (lv_at hl 1 rfl) ?_
      refine zGetR (D := D) (ci := 11) (C := RX11) (T := TX11) (N := 16) hx hb hts hiX11 hown hH (zk_0 hF) rfl 0 (by decide) rfl hw3 (fun _ h9 => h9) dX11_rules_43 (zr_0_0 hF) ?_
      refine lv_bipush (v := nI 59) hx hb dX11_rules_46 (by decide) ?_
      refine va_calli (va_runV (As := [.int (nI 59)]) (rest := []) ⟨hx, hb, hml, hown, hts⟩ (t_takesSign l hl0 D A sad τ f146 fr ol L b147 hF q151 q149 (by omega) (by omega) (nI 59)) (cwV 1 hts gX11_rules_X7_takesSign rfl rfl rfl (by decide +kernel) ⟨Nat.le_of_ble_eq_true rfl, Nat.le_of_ble_eq_true rfl⟩) ⟨zQc_bl, zRecv hH (zk_1 hF) rfl, zQc_at hz hS hA hH⟩ rfl rfl hl.1 rfl (lv_room (Nat.le_of_ble_eq_true rfl)) dX11_rules_48 ⟨Nat.le_of_ble_eq_true rfl, Nat.le_of_ble_eq_true rfl⟩) hS (fun q _ h => h) (fun q h => h) (fun r152 u9 t9 H1 locs ht9 hvm9 hw hB hz1 hk1 hS => ?_)
      have hH := zMv ht9 hvm9 hB
      clear hB
      generalize u9 = f153 at hw hH
      generalize H1 = H at hH hS ⊢
      have hsn := hw
      have hsg : r152 = 1 ∨ r152 = 0 := hw.elim (fun h => Or.inl h.1) (fun h => Or.inr h.1)
      obtain ⟨b154, hb155, q156, hf157⟩ := zTw.sign q149 (by omega) hw
      have q158 : f153 1 1 = nI L := by rw [hf157 1 1 (by omega)]; exact q151
      have hT := zTh.ci (fi' := f153) hT (fun i9 k9 h9 => hf157 i9 k9 (by omega))
      refine lv_istore_n (lv' := [(2, .int r152), (1, .int (nI (i + 1))), (0, .ref (τ.1 0)), (3, .int (nI i))]) hx hb dX11_rules_51 rfl hl (by decide) rfl (fun ls hl => ?_)
      refine lv_iinc (v := nI (i + 1)) (lv' := [(3, .int (nI (i + 1))), (2, .int r152), (1, .int (nI (i + 1))), (0, .ref (τ.1 0))]) hx hb dX11_rules_52 hl (k := 3) rfl (by rw [show (Int32.ofInt 1 : Int32) = nI 1 from by decide, nI_add]) (by decide) rfl (fun ls hl => ?_)
      refine lv_goto (tgt := 24) hx hb dX11_rules_55 (by decide) ?_
      exact ih112 (400 - (i + 1)) (by omega) (i + 1, r152, f153) _ _ _ (show 400 - (i + 1) = 400 - (i + 1) ∧ ((i + 1) ≤ 400 ∧ (∃ b, b ≤ L ∧ f153 1 2 = nI b ∧ zLi (zRls (fi 2) L (fun t9 => fi (300 + t9) 1) n 401 (zS (fi 2) L 0) (zDru fi) 0) (fi 2) (fun t9 => fi (300 + t9) 1) L n (i + 1) r152 b f153) ∧ ∀ a b, ¬ ((a = 1 ∧ 2 ≤ b) ∨ a = 13 ∨ a = 14) → f153 a b = fi a b) ∧ zH D A τ f153 fr ol s _ ∧ va_S A s.heap _ _ ∧ lv_has _ 4 [(0, .ref (τ.1 0)), (1, .int (nI (i + 1))), (2, .int r152), (3, .int (nI (i + 1)))] from ⟨rfl, ⟨by omega, ⟨b154, by omega, q156, hli.step hn4 hb6 (by omega) (by omega) (by funext k; exact hfr 2 k (by omega)) (by funext k; exact hfr (300 + k) 1 (by omega)) hru q149 (by omega) (by funext k; rw [hf150 2 k (by omega)]; exact hfr 2 k (by omega)) (by decide) hsn q156 (by omega)⟩, fun a b h => by rw [hf157 a b (by omega), hf150 a b (by omega)]; exact hfr a b h⟩, hH, hS, lv_sub hl [3, 2, 1, 0] rfl⟩)
