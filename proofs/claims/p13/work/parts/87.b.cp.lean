set_option maxHeartbeats 4000000 in
set_option maxRecDepth 100000 in
/-- readKind -/
theorem w_readKindX (l : Launch) (hl0 : l.stackTraces = false) (D : va_G) (A : Nat → Prop) (sad : Nat → Nat) (τ : zTy) (fi : zFi) (fr : zFr) (ol : Int64) (L a : Nat) (hF : zFix τ fr) (hn : fi 1 1 = nI L) (ha : fi 1 2 = nI a) (hn4 : L ≤ 400) (han : a ≤ L) : Met l yX11_readKind wsX11_readKind ({ frames := 5, cells := 0, slots := 0, locals := 108 }) (va_Pc [.ref (τ.1 0)] (zQc D A sad τ fi fr ol)) (va_Qi (fun (r : Int32) (u : zFi) => (∃ k x, k < 4 ∧ r = nI k ∧ zKnd (fi 2) L a = some (k, x) ∧ x ≤ L ∧ u = zu fi 1 2 (nI x)) ∨ (r = -1 ∧ zKnd (fi 2) L a = none ∧ u = fi)) (fun (u : zFi) (t : State) => zH D A τ u fr ol t t.heap) A) 0 0 A := by
  refine Met.ofW (cc := cX11_readKind) (maxL := 1) (ret := (some .int)) (by decide) rfl ?_
  intro p9 e9 s m args below meth c9 s₁ B hml hv
  obtain ⟨rfl, hz, hH, hA⟩ := hv
  have hx := B.exec
  have hb := B.bytes
  have hr := B.returns
  have hts := atoms_spec (ws := wsX11_readKind) B.pre
  have hown : s.vm.findClass RX11 = some m.cls := findClass_of_methodNamed B.named
  have hlocks := B.notSynchronized
  have hS : va_S A s.heap s.heap [] := va_S.rf
  have hl := lv_entry ([.ref (τ.1 0)]) (n := 1) (Nat.le_of_ble_eq_true rfl)
  rw [lg_entry_eq]
  generalize (lg_sl ([.ref (τ.1 0)]) ++ List.replicate (1 - (lg_sl ([.ref (τ.1 0)])).length) Slot.unset).toArray = ls at hl ⊢
  have hl : lv_has ls 1 [(0, .ref (τ.1 0))] := hl
  have hiX11 : ∀ w ∈ u_ws RX11 TX11 16, w ∈ wsX11_readKind := fun _ h => List.mem_cons_of_mem _ (List.mem_append_left _ (List.mem_append_right _ h))
  have hw1 := hts (.fieldLink RX11 10 "PostHouse" "tape" "LPostHouse$Tape;") (by decide +kernel)
  refine lv_aload_n hx hb dX11_readKind_0 rfl (lv_at hl 0 rfl) ?_
  refine zGetR (D := D) (ci := 11) (C := RX11) (T := TX11) (N := 16) hx hb hts hiX11 hown hH (zk_0 hF) rfl 0 (by decide) rfl hw1 (fun _ h9 => h9) dX11_readKind_1 (zr_0_0 hF) ?_
  refine zLdcW hx hb hown (hz.1.2.2.2.1 1 _ rfl).2 dX11_readKind_4 ?_
  refine va_calli (va_runV (As := [.ref (sad 1)]) (rest := []) ⟨hx, hb, hml, hown, hts⟩ (t_takesWord l hl0 D A sad τ fi fr ol L a hF hn ha (by omega) (by omega) 1 ((424, "behind", [98, 101, 104, 105, 110, 100])) rfl) (cwV 1 hts gX11_readKind_X7_takesWord rfl rfl rfl (by decide +kernel) ⟨Nat.le_of_ble_eq_true rfl, Nat.le_of_ble_eq_true rfl⟩) ⟨zQc_bl, zRecv hH (zk_1 hF) rfl, zQc_at hz hS hA hH⟩ rfl rfl hl.1 rfl (lv_room (Nat.le_of_ble_eq_true rfl)) dX11_readKind_7 ⟨Nat.le_of_ble_eq_true rfl, Nat.le_of_ble_eq_true rfl⟩) hS (fun q _ h => h) (fun q h => h) (fun r101 u9 t9 H1 locs ht9 hvm9 hw hB hz1 hk1 hS => ?_)
  have hH := zMv ht9 hvm9 hB
  clear hB
  generalize u9 = f102 at hw hH
  generalize H1 = H at hH hS ⊢
  rcases hw with ⟨rfl, hw103, b104, ef102, hs105⟩ | ⟨rfl, hn106, ef102⟩
  · have zhs105 := hs105.1
    have yhs105 := hs105.2.1
    have q107 : f102 1 1 = nI L := by rw [ef102, zu_n (fun h9 => absurd h9.2 (by decide))]; exact hn
    have q108 : f102 1 2 = nI b104 := by rw [ef102]; exact zu_s
    refine lv_if_eq (tgt := 15) hx hb dX11_readKind_10 (by decide) (fun c109 => absurd c109 (by decide)) (fun c109 => ?_)
    refine lv_iconst (v := nI 0) hx hb dX11_readKind_13 (by decide) ?_
    refine W.widen (k := 0) (n := 0) (by decide) (by decide) ?_
    exact W.iret (v := nI 0) hx hb hr (fun t9 ht9 hW9 => ⟨⟨nI 0, f102, rfl, Or.inl ⟨0, b104, by omega, rfl, by simp only [zKnd, (zWrd_yes hw103 hs105 : zWrd (fi 2) L [98, 101, 104, 105, 110, 100] a = some b104)], by omega, ef102⟩, zEnd1 hH ht9 hW9⟩, hS.F ht9⟩) hS.2.2 dX11_readKind_14
  · have ef102 := ef102.symm
    subst ef102
    refine lv_if_eq (tgt := 15) hx hb dX11_readKind_10 (by decide) (fun c110 => ?_) (fun c110 => absurd (by decide) c110)
    refine lv_aload_n hx hb dX11_readKind_15 rfl (lv_at hl 0 rfl) ?_
    refine zGetR (D := D) (ci := 11) (C := RX11) (T := TX11) (N := 16) hx hb hts hiX11 hown hH (zk_0 hF) rfl 0 (by decide) rfl hw1 (fun _ h9 => h9) dX11_readKind_16 (zr_0_0 hF) ?_
    refine zLdcW hx hb hown (hz.1.2.2.2.1 2 _ rfl).2 dX11_readKind_19 ?_
    refine va_calli (va_runV (As := [.ref (sad 2)]) (rest := []) ⟨hx, hb, hml, hown, hts⟩ (t_takesWord l hl0 D A sad τ fi fr ol L a hF hn ha (by omega) (by omega) 2 ((426, "post", [112, 111, 115, 116])) rfl) (cwV 1 hts gX11_readKind_X7_takesWord rfl rfl rfl (by decide +kernel) ⟨Nat.le_of_ble_eq_true rfl, Nat.le_of_ble_eq_true rfl⟩) ⟨zQc_bl, zRecv hH (zk_1 hF) rfl, zQc_at hz hS hA hH⟩ rfl rfl hl.1 rfl (lv_room (Nat.le_of_ble_eq_true rfl)) dX11_readKind_22 ⟨Nat.le_of_ble_eq_true rfl, Nat.le_of_ble_eq_true rfl⟩) hS (fun q _ h => h) (fun q h => h) (fun r111 u9 t9 H1 locs ht9 hvm9 hw hB hz1 hk1 hS => ?_)
    have hH := zMv ht9 hvm9 hB
    clear hB
    generalize u9 = f112 at hw hH
    generalize H1 = H at hH hS ⊢
    rcases hw with ⟨rfl, hw113, b114, ef112, hs115⟩ | ⟨rfl, hn116, ef112⟩
    · have zhs115 := hs115.1
      have yhs115 := hs115.2.1
      have q117 : f112 1 1 = nI L := by rw [ef112, zu_n (fun h9 => absurd h9.2 (by decide))]; exact hn
      have q118 : f112 1 2 = nI b114 := by rw [ef112]; exact zu_s
      refine lv_if_eq (tgt := 30) hx hb dX11_readKind_25 (by decide) (fun c119 => absurd c119 (by decide)) (fun c119 => ?_)
      refine lv_iconst (v := nI 1) hx hb dX11_readKind_28 (by decide) ?_
      refine W.widen (k := 0) (n := 0) (by decide) (by decide) ?_
      exact W.iret (v := nI 1) hx hb hr (fun t9 ht9 hW9 => ⟨⟨nI 1, f112, rfl, Or.inl ⟨1, b114, by omega, rfl, by simp only [zKnd, (zWrd_no hn106 han : zWrd (fi 2) L [98, 101, 104, 105, 110, 100] a = none), (zWrd_yes hw113 hs115 : zWrd (fi 2) L [112, 111, 115, 116] a = some b114)], by omega, ef112⟩, zEnd1 hH ht9 hW9⟩, hS.F ht9⟩) hS.2.2 dX11_readKind_29
    · have ef112 := ef112.symm
      subst ef112
      refine lv_if_eq (tgt := 30) hx hb dX11_readKind_25 (by decide) (fun c120 => ?_) (fun c120 => absurd (by decide) c120)
      refine lv_aload_n hx hb dX11_readKind_30 rfl (lv_at hl 0 rfl) ?_
      refine zGetR (D := D) (ci := 11) (C := RX11) (T := TX11) (N := 16) hx hb hts hiX11 hown hH (zk_0 hF) rfl 0 (by decide) rfl hw1 (fun _ h9 => h9) dX11_readKind_31 (zr_0_0 hF) ?_
      refine zLdcW hx hb hown (hz.1.2.2.2.1 3 _ rfl).2 dX11_readKind_34 ?_
      refine va_calli (va_runV (As := [.ref (sad 3)]) (rest := []) ⟨hx, hb, hml, hown, hts⟩ (t_takesWord l hl0 D A sad τ fi fr ol L a hF hn ha (by omega) (by omega) 3 ((427, "free", [102, 114, 101, 101])) rfl) (cwV 1 hts gX11_readKind_X7_takesWord rfl rfl rfl (by decide +kernel) ⟨Nat.le_of_ble_eq_true rfl, Nat.le_of_ble_eq_true rfl⟩) ⟨zQc_bl, zRecv hH (zk_1 hF) rfl, zQc_at hz hS hA hH⟩ rfl rfl hl.1 rfl (lv_room (Nat.le_of_ble_eq_true rfl)) dX11_readKind_37 ⟨Nat.le_of_ble_eq_true rfl, Nat.le_of_ble_eq_true rfl⟩) hS (fun q _ h => h) (fun q h => h) (fun r121 u9 t9 H1 locs ht9 hvm9 hw hB hz1 hk1 hS => ?_)
      have hH := zMv ht9 hvm9 hB
      clear hB
      generalize u9 = f122 at hw hH
      generalize H1 = H at hH hS ⊢
      rcases hw with ⟨rfl, hw123, b124, ef122, hs125⟩ | ⟨rfl, hn126, ef122⟩
      · have zhs125 := hs125.1
        have yhs125 := hs125.2.1
        have q127 : f122 1 1 = nI L := by rw [ef122, zu_n (fun h9 => absurd h9.2 (by decide))]; exact hn
        have q128 : f122 1 2 = nI b124 := by rw [ef122]; exact zu_s
        refine lv_if_eq (tgt := 45) hx hb dX11_readKind_40 (by decide) (fun c129 => absurd c129 (by decide)) (fun c129 => ?_)
        refine lv_iconst (v := nI 2) hx hb dX11_readKind_43 (by decide) ?_
        refine W.widen (k := 0) (n := 0) (by decide) (by decide) ?_
        exact W.iret (v := nI 2) hx hb hr (fun t9 ht9 hW9 => ⟨⟨nI 2, f122, rfl, Or.inl ⟨2, b124, by omega, rfl, by simp only [zKnd, (zWrd_no hn106 han : zWrd (fi 2) L [98, 101, 104, 105, 110, 100] a = none), (zWrd_no hn116 han : zWrd (fi 2) L [112, 111, 115, 116] a = none), (zWrd_yes hw123 hs125 : zWrd (fi 2) L [102, 114, 101, 101] a = some b124)], by omega, ef122⟩, zEnd1 hH ht9 hW9⟩, hS.F ht9⟩) hS.2.2 dX11_readKind_44
      · have ef122 := ef122.symm
        subst ef122
        refine lv_if_eq (tgt := 45) hx hb dX11_readKind_40 (by decide) (fun c130 => ?_) (fun c130 => absurd (by decide) c130)
        refine lv_aload_n hx hb dX11_readKind_45 rfl (lv_at hl 0 rfl) ?_
        refine zGetR (D := D) (ci := 11) (C := RX11) (T := TX11) (N := 16) hx hb hts hiX11 hown hH (zk_0 hF) rfl 0 (by decide) rfl hw1 (fun _ h9 => h9) dX11_readKind_46 (zr_0_0 hF) ?_
        refine zLdcW hx hb hown (hz.1.2.2.2.1 4 _ rfl).2 dX11_readKind_49 ?_
        refine va_calli (va_runV (As := [.ref (sad 4)]) (rest := []) ⟨hx, hb, hml, hown, hts⟩ (t_takesWord l hl0 D A sad τ fi fr ol L a hF hn ha (by omega) (by omega) 4 ((429, "back", [98, 97, 99, 107])) rfl) (cwV 1 hts gX11_readKind_X7_takesWord rfl rfl rfl (by decide +kernel) ⟨Nat.le_of_ble_eq_true rfl, Nat.le_of_ble_eq_true rfl⟩) ⟨zQc_bl, zRecv hH (zk_1 hF) rfl, zQc_at hz hS hA hH⟩ rfl rfl hl.1 rfl (lv_room (Nat.le_of_ble_eq_true rfl)) dX11_readKind_52 ⟨Nat.le_of_ble_eq_true rfl, Nat.le_of_ble_eq_true rfl⟩) hS (fun q _ h => h) (fun q h => h) (fun r131 u9 t9 H1 locs ht9 hvm9 hw hB hz1 hk1 hS => ?_)
        have hH := zMv ht9 hvm9 hB
        clear hB
        generalize u9 = f132 at hw hH
        generalize H1 = H at hH hS ⊢
        rcases hw with ⟨rfl, hw133, b134, ef132, hs135⟩ | ⟨rfl, hn136, ef132⟩
        · have zhs135 := hs135.1
          have yhs135 := hs135.2.1
          have q137 : f132 1 1 = nI L := by rw [ef132, zu_n (fun h9 => absurd h9.2 (by decide))]; exact hn
          have q138 : f132 1 2 = nI b134 := by rw [ef132]; exact zu_s
          refine lv_if_eq (tgt := 62) hx hb dX11_readKind_55 (by decide) (fun c139 => absurd c139 (by decide)) (fun c139 => ?_)
          refine lv_iconst (v := nI 3) hx hb dX11_readKind_58 (by decide) ?_
          refine lv_goto (tgt := 63) hx hb dX11_readKind_59 (by decide) ?_
          refine W.widen (k := 0) (n := 0) (by decide) (by decide) ?_
          exact W.iret (v := nI 3) hx hb hr (fun t9 ht9 hW9 => ⟨⟨nI 3, f132, rfl, Or.inl ⟨3, b134, by omega, rfl, by simp only [zKnd, (zWrd_no hn106 han : zWrd (fi 2) L [98, 101, 104, 105, 110, 100] a = none), (zWrd_no hn116 han : zWrd (fi 2) L [112, 111, 115, 116] a = none), (zWrd_no hn126 han : zWrd (fi 2) L [102, 114, 101, 101] a = none), (zWrd_yes hw133 hs135 : zWrd (fi 2) L [98, 97, 99, 107] a = some b134)], by omega, ef132⟩, zEnd1 hH ht9 hW9⟩, hS.F ht9⟩) hS.2.2 dX11_readKind_63
        · have ef132 := ef132.symm
          subst ef132
          refine lv_if_eq (tgt := 62) hx hb dX11_readKind_55 (by decide) (fun c140 => ?_) (fun c140 => absurd (by decide) c140)
          refine lv_iconst (v := (-1)) hx hb dX11_readKind_62 (by decide) ?_
          refine W.widen (k := 0) (n := 0) (by decide) (by decide) ?_
          exact W.iret (v := (-1)) hx hb hr (fun t9 ht9 hW9 => ⟨⟨(-1), fi, rfl, Or.inr ⟨rfl, by simp only [zKnd, (zWrd_no hn106 han : zWrd (fi 2) L [98, 101, 104, 105, 110, 100] a = none), (zWrd_no hn116 han : zWrd (fi 2) L [112, 111, 115, 116] a = none), (zWrd_no hn126 han : zWrd (fi 2) L [102, 114, 101, 101] a = none), (zWrd_no hn136 han : zWrd (fi 2) L [98, 97, 99, 107] a = none)], rfl⟩, zEnd1 hH ht9 hW9⟩, hS.F ht9⟩) hS.2.2 dX11_readKind_63
set_option maxHeartbeats 4000000 in
set_option maxRecDepth 100000 in
/-- readThing -/
theorem w_readThingXN (l : Launch) (hl0 : l.stackTraces = false) (D : va_G) (A : Nat → Prop) (sad : Nat → Nat) (τ : zTy) (fi : zFi) (fr : zFr) (ol : Int64) (L a : Nat) (hF : zFix τ fr) (hn : fi 1 1 = nI L) (ha : fi 1 2 = nI a) (hn4 : L ≤ 400) (han : a ≤ L) (n : Nat) (hT : zTh τ fi fr n) : Met l yX11_readThing wsX11_readThing ({ frames := 3, cells := 0, slots := 0, locals := 69 }) (va_Pc [.ref (τ.1 0), .null] (zQc D A sad τ fi fr ol)) (va_Qq (fun (r : Option Nat) (u : zFi) => ((∃ t, t < n ∧ r = some (τ.1 (300 + t)) ∧ zStp fi u (zExc (zThg (fi 2) L (fun t9 => fi (300 + t9) 1) n none a) a) (fun xx => u 1 2 = nI xx.2 ∧ xx.1 = t)) ∨ (r = none ∧ zStp fi u (zExc (zThg (fi 2) L (fun t9 => fi (300 + t9) 1) n none a) a) (fun _ => False))) ∧ (∃ b, b ≤ L ∧ u 1 2 = nI b) ∧ ∀ i k, ¬ (i = 1 ∧ 2 ≤ k) → u i k = fi i k) (fun (u : zFi) (t : State) => zH D A τ u fr ol t t.heap) A) 0 0 A := by
  refine Met.ofW (cc := cX11_readThing) (maxL := 4) (ret := (some (.object "PostHouse$Thing"))) (by decide) rfl ?_
  intro p9 e9 s m args below meth c9 s₁ B hml hv
  obtain ⟨rfl, hz, hH, hA⟩ := hv
  have hx := B.exec
  have hb := B.bytes
  have hr := B.returns
  have hts := atoms_spec (ws := wsX11_readThing) B.pre
  have hown : s.vm.findClass RX11 = some m.cls := findClass_of_methodNamed B.named
  have hlocks := B.notSynchronized
  have hS : va_S A s.heap s.heap [] := va_S.rf
  have hl := lv_entry ([.ref (τ.1 0), .null]) (n := 4) (Nat.le_of_ble_eq_true rfl)
  rw [lg_entry_eq]
  generalize (lg_sl ([.ref (τ.1 0), .null]) ++ List.replicate (4 - (lg_sl ([.ref (τ.1 0), .null])).length) Slot.unset).toArray = ls at hl ⊢
  have hl : lv_has ls 4 [(0, .ref (τ.1 0)), (1, .null)] := hl
  have hn30 := hT.1
  have hiX11 : ∀ w ∈ u_ws RX11 TX11 16, w ∈ wsX11_readThing := fun _ h => List.mem_cons_of_mem _ (List.mem_append_left _ (List.mem_append_left _ (List.mem_append_left _ (List.mem_append_right _ h))))
  have hw1 := hts (.fieldLink RX11 10 "PostHouse" "tape" "LPostHouse$Tape;") (by decide +kernel)
  have hiX7 : ∀ w ∈ u_ws RX7 TX7 4, w ∈ wsX11_readThing := fun _ h => List.mem_cons_of_mem _ (List.mem_append_left _ (List.mem_append_left _ (List.mem_append_right _ h)))
  have hw3 := hts (.fieldLink RX11 413 "PostHouse$Tape" "next" "I") (by decide +kernel)
  have hw4 := hts (.fieldLink RX11 19 "PostHouse" "book" "LPostHouse$Book;") (by decide +kernel)
  refine lv_aload_n hx hb dX11_readThing_0 rfl (lv_at hl 0 rfl) ?_
  refine zGetR (D := D) (ci := 11) (C := RX11) (T := TX11) (N := 16) hx hb hts hiX11 hown hH (zk_0 hF) rfl 0 (by decide) rfl hw1 (fun _ h9 => h9) dX11_readThing_1 (zr_0_0 hF) ?_
  refine zGetI (D := D) (ci := 7) (C := RX7) (T := TX7) (N := 4) hx hb hts hiX7 hown hH (zk_1 hF) rfl 2 (by decide) rfl hw3 (fun _ h9 => h9) dX11_readThing_4 ha ?_
  refine lv_istore_n (lv' := [(2, .int (nI a)), (0, .ref (τ.1 0)), (1, .null)]) hx hb dX11_readThing_7 rfl hl (by decide) rfl (fun ls hl => ?_)
  refine lv_aload_n hx hb dX11_readThing_8 rfl (lv_at hl 1 rfl) ?_
  refine zGetR (D := D) (ci := 11) (C := RX11) (T := TX11) (N := 16) hx hb hts hiX11 hown hH (zk_0 hF) rfl 1 (by decide) rfl hw4 (fun _ h9 => h9) dX11_readThing_9 (zr_0_1 hF) ?_
  refine lv_aload_n hx hb dX11_readThing_12 rfl (lv_at hl 1 rfl) ?_
  refine zGetR (D := D) (ci := 11) (C := RX11) (T := TX11) (N := 16) hx hb hts hiX11 hown hH (zk_0 hF) rfl 0 (by decide) rfl hw1 (fun _ h9 => h9) dX11_readThing_13 (zr_0_0 hF) ?_
  refine va_calli (va_runV (As := []) (rest := [.ref (τ.1 3)]) ⟨hx, hb, hml, hown, hts⟩ (t_code l hl0 D A sad τ fi fr ol L a hF hn ha (by omega) (by omega)) (cwV 0 hts gX11_readThing_X7_code rfl rfl rfl (by decide +kernel) ⟨Nat.le_of_ble_eq_true rfl, Nat.le_of_ble_eq_true rfl⟩) ⟨zQc_bl, zRecv hH (zk_1 hF) rfl, zQc_at hz hS hA hH⟩ rfl rfl hl.1 rfl (lv_room (Nat.le_of_ble_eq_true rfl)) dX11_readThing_16 ⟨Nat.le_of_ble_eq_true rfl, Nat.le_of_ble_eq_true rfl⟩) hS (fun q _ h => h) (fun q h => h) (fun r101 u9 t9 H1 locs ht9 hvm9 hw hB hz1 hk1 hS => ?_)
  have hH := zMv ht9 hvm9 hB
  clear hB
  generalize u9 = f102 at hw hH
  generalize H1 = H at hH hS ⊢
  have hnu := zStp.num hn4 han hw
  obtain ⟨b103, hb104, q105, hf106⟩ := zTw.num ha (by omega) hw
  have q107 : f102 1 1 = nI L := by rw [hf106 1 1 (by omega)]; exact hn
  have hT := zTh.ci (fi' := f102) hT (fun i9 k9 h9 => hf106 i9 k9 (by omega))
  refine va_callq (va_runV (As := [.int r101]) (rest := []) ⟨hx, hb, hml, hown, hts⟩ (c_ofCode l hl0 D A sad τ f102 fr ol r101 hF n hT) (cwV 1 hts gX11_readThing_X0_ofCode rfl rfl rfl (by decide +kernel) ⟨Nat.le_of_ble_eq_true rfl, Nat.le_of_ble_eq_true rfl⟩) ⟨zQc_bl, zRecv hH (zk_3 hF) rfl, zQc_at hz hS hA hH⟩ rfl rfl hl.1 rfl (lv_room (Nat.le_of_ble_eq_true rfl)) dX11_readThing_19 ⟨Nat.le_of_ble_eq_true rfl, Nat.le_of_ble_eq_true rfl⟩) hS (fun q _ h => h) (fun q h => h) (fun r108 u9 t9 H1 locs ht9 hvm9 hw hB hz1 hk1 hS => ?_)
  have hH := zMv ht9 hvm9 hB
  generalize H1 = H at hH hS ⊢
  rcases hw with ⟨t, ht, hcd, hcl, rfl⟩ | ⟨hno, rfl⟩
  · skip
    refine lv_astore_n (lv' := [(3, .ref (τ.1 (300 + t))), (2, .int (nI a)), (0, .ref (τ.1 0)), (1, .null)]) hx hb dX11_readThing_22 rfl hl (by decide) rfl (fun ls hl => ?_)
    refine lv_aload_n hx hb dX11_readThing_23 rfl (lv_at hl 0 rfl) ?_
    refine lv_ifnull hx hb dX11_readThing_24 ?_
    refine lv_aload_n hx hb dX11_readThing_27 rfl (lv_at hl 0 rfl) ?_
    refine lv_aload_nN hx hb dX11_readThing_28 rfl (lv_at hl 3 rfl) ?_
    refine lv_acmp_ne (rx := (some (τ.1 (300 + t)))) (ry := none) (tgt := 42) hx hb dX11_readThing_29 (by decide) (fun c109 => ?_) (fun c109 => ?_)
    · skip
      refine lv_aload_n hx hb dX11_readThing_42 rfl (lv_at hl 0 rfl) ?_
      refine W.widen (k := 0) (n := 0) (by decide) (by decide) ?_
      exact W.aret (v := .ref (τ.1 (300 + t))) hx hb hr (Or.inl ⟨_, rfl⟩) (Or.inr ⟨_, rfl⟩) (fun t9 ht9 hW9 => ⟨⟨(some (τ.1 (300 + t))), f102, rfl, ⟨Or.inl ⟨t, ht, rfl, zStp.thgY hnu ht hcd hcl (fun j => hf106 (300 + j) 1 (by omega)) (by simp)⟩, ⟨b103, by omega, q105⟩, fun i k h => by rw [hf106 i k (by omega)]⟩, zEnd1 hH ht9 hW9⟩, hS.F ht9⟩) hS.2.2 dX11_readThing_43
    · exact absurd c109 (by simp)
  · skip
    refine lv_astore_nN (lv' := [(3, .null), (2, .int (nI a)), (0, .ref (τ.1 0)), (1, .null)]) hx hb dX11_readThing_22 rfl hl (by decide) rfl (fun ls hl => ?_)
    refine lv_aload_nN hx hb dX11_readThing_23 rfl (lv_at hl 0 rfl) ?_
    refine lv_ifnullN (tgt := 32) hx hb dX11_readThing_24 (by decide) ?_
    refine lv_aload_n hx hb dX11_readThing_32 rfl (lv_at hl 2 rfl) ?_
    refine zGetR (D := D) (ci := 11) (C := RX11) (T := TX11) (N := 16) hx hb hts hiX11 hown hH (zk_0 hF) rfl 0 (by decide) rfl hw1 (fun _ h9 => h9) dX11_readThing_33 (zr_0_0 hF) ?_
    refine lv_iload_n hx hb dX11_readThing_36 rfl (lv_at hl 1 rfl) ?_
    refine va_callv (va_runV (As := [.int (nI a)]) (rest := []) ⟨hx, hb, hml, hown, hts⟩ (t_refuse l hl0 D A sad τ f102 fr ol hF (nI a)) (cwV 1 hts gX11_readThing_X7_refuse rfl rfl rfl (by decide +kernel) ⟨Nat.le_of_ble_eq_true rfl, Nat.le_of_ble_eq_true rfl⟩) ⟨zQc_bl, zRecv hH (zk_1 hF) rfl, zQc_at hz hS hA hH⟩ rfl rfl hl.1 rfl (lv_room (Nat.le_of_ble_eq_true rfl)) dX11_readThing_37 ⟨Nat.le_of_ble_eq_true rfl, Nat.le_of_ble_eq_true rfl⟩) hS (fun q _ h => h) (fun q h => h) (fun u9 t9 H1 locs ht9 hvm9 hw hB hz1 hk1 hS => ?_)
    have hH := zMv ht9 hvm9 hB
    clear hB
    generalize u9 = f111 at hw hH
    generalize H1 = H at hH hS ⊢
    have hre := hw
    obtain ⟨b112, hb113, q114, hf115⟩ := zTw.ref (L := L) q105 (by omega) hw
    have q116 : f111 1 1 = nI L := by rw [hf115 1 1 (by omega)]; exact q107
    have hT := zTh.ci (fi' := f111) hT (fun i9 k9 h9 => hf115 i9 k9 (by omega))
    refine lv_null hx hb dX11_readThing_40 ?_
    refine W.widen (k := 0) (n := 0) (by decide) (by decide) ?_
    exact W.aret (v := .null) hx hb hr (Or.inl ⟨_, rfl⟩) (Or.inl rfl) (fun t9 ht9 hW9 => ⟨⟨none, f111, rfl, ⟨Or.inr ⟨rfl, zStp.thgN hn4 han hnu (Or.inl hno) (fun j => hf106 (300 + j) 1 (by omega)) hre⟩, ⟨b112, by omega, q114⟩, fun i k h => by rw [hf115 i k (by omega), hf106 i k (by omega)]⟩, zEnd1 hH ht9 hW9⟩, hS.F ht9⟩) hS.2.2 dX11_readThing_41
set_option maxHeartbeats 4000000 in
set_option maxRecDepth 100000 in
/-- readThing -/
theorem w_readThingXR (l : Launch) (hl0 : l.stackTraces = false) (D : va_G) (A : Nat → Prop) (sad : Nat → Nat) (τ : zTy) (fi : zFi) (fr : zFr) (ol : Int64) (L a : Nat) (hF : zFix τ fr) (hn : fi 1 1 = nI L) (ha : fi 1 2 = nI a) (hn4 : L ≤ 400) (han : a ≤ L) (n : Nat) (hT : zTh τ fi fr n) (t0 : Nat) (ht0 : t0 < n) : Met l yX11_readThing wsX11_readThing ({ frames := 3, cells := 0, slots := 0, locals := 69 }) (va_Pc [.ref (τ.1 0), .ref (τ.1 (300 + t0))] (zQc D A sad τ fi fr ol)) (va_Qq (fun (r : Option Nat) (u : zFi) => ((∃ t, t < n ∧ r = some (τ.1 (300 + t)) ∧ zStp fi u (zExc (zThg (fi 2) L (fun t9 => fi (300 + t9) 1) n (some t0) a) a) (fun xx => u 1 2 = nI xx.2 ∧ xx.1 = t)) ∨ (r = none ∧ zStp fi u (zExc (zThg (fi 2) L (fun t9 => fi (300 + t9) 1) n (some t0) a) a) (fun _ => False))) ∧ (∃ b, b ≤ L ∧ u 1 2 = nI b) ∧ ∀ i k, ¬ (i = 1 ∧ 2 ≤ k) → u i k = fi i k) (fun (u : zFi) (t : State) => zH D A τ u fr ol t t.heap) A) 0 0 A := by
  refine Met.ofW (cc := cX11_readThing) (maxL := 4) (ret := (some (.object "PostHouse$Thing"))) (by decide) rfl ?_
  intro p9 e9 s m args below meth c9 s₁ B hml hv
  obtain ⟨rfl, hz, hH, hA⟩ := hv
  have hx := B.exec
  have hb := B.bytes
  have hr := B.returns
  have hts := atoms_spec (ws := wsX11_readThing) B.pre
  have hown : s.vm.findClass RX11 = some m.cls := findClass_of_methodNamed B.named
  have hlocks := B.notSynchronized
  have hS : va_S A s.heap s.heap [] := va_S.rf
  have hl := lv_entry ([.ref (τ.1 0), .ref (τ.1 (300 + t0))]) (n := 4) (Nat.le_of_ble_eq_true rfl)
  rw [lg_entry_eq]
  generalize (lg_sl ([.ref (τ.1 0), .ref (τ.1 (300 + t0))]) ++ List.replicate (4 - (lg_sl ([.ref (τ.1 0), .ref (τ.1 (300 + t0))])).length) Slot.unset).toArray = ls at hl ⊢
  have hl : lv_has ls 4 [(0, .ref (τ.1 0)), (1, .ref (τ.1 (300 + t0)))] := hl
  have hn30 := hT.1
  have hiX11 : ∀ w ∈ u_ws RX11 TX11 16, w ∈ wsX11_readThing := fun _ h => List.mem_cons_of_mem _ (List.mem_append_left _ (List.mem_append_left _ (List.mem_append_left _ (List.mem_append_right _ h))))
  have hw1 := hts (.fieldLink RX11 10 "PostHouse" "tape" "LPostHouse$Tape;") (by decide +kernel)
  have hiX7 : ∀ w ∈ u_ws RX7 TX7 4, w ∈ wsX11_readThing := fun _ h => List.mem_cons_of_mem _ (List.mem_append_left _ (List.mem_append_left _ (List.mem_append_right _ h)))
  have hw3 := hts (.fieldLink RX11 413 "PostHouse$Tape" "next" "I") (by decide +kernel)
  have hw4 := hts (.fieldLink RX11 19 "PostHouse" "book" "LPostHouse$Book;") (by decide +kernel)
  refine lv_aload_n hx hb dX11_readThing_0 rfl (lv_at hl 0 rfl) ?_
  refine zGetR (D := D) (ci := 11) (C := RX11) (T := TX11) (N := 16) hx hb hts hiX11 hown hH (zk_0 hF) rfl 0 (by decide) rfl hw1 (fun _ h9 => h9) dX11_readThing_1 (zr_0_0 hF) ?_
  refine zGetI (D := D) (ci := 7) (C := RX7) (T := TX7) (N := 4) hx hb hts hiX7 hown hH (zk_1 hF) rfl 2 (by decide) rfl hw3 (fun _ h9 => h9) dX11_readThing_4 ha ?_
  refine lv_istore_n (lv' := [(2, .int (nI a)), (0, .ref (τ.1 0)), (1, .ref (τ.1 (300 + t0)))]) hx hb dX11_readThing_7 rfl hl (by decide) rfl (fun ls hl => ?_)
  refine lv_aload_n hx hb dX11_readThing_8 rfl (lv_at hl 1 rfl) ?_
  refine zGetR (D := D) (ci := 11) (C := RX11) (T := TX11) (N := 16) hx hb hts hiX11 hown hH (zk_0 hF) rfl 1 (by decide) rfl hw4 (fun _ h9 => h9) dX11_readThing_9 (zr_0_1 hF) ?_
  refine lv_aload_n hx hb dX11_readThing_12 rfl (lv_at hl 1 rfl) ?_
  refine zGetR (D := D) (ci := 11) (C := RX11) (T := TX11) (N := 16) hx hb hts hiX11 hown hH (zk_0 hF) rfl 0 (by decide) rfl hw1 (fun _ h9 => h9) dX11_readThing_13 (zr_0_0 hF) ?_
  refine va_calli (va_runV (As := []) (rest := [.ref (τ.1 3)]) ⟨hx, hb, hml, hown, hts⟩ (t_code l hl0 D A sad τ fi fr ol L a hF hn ha (by omega) (by omega)) (cwV 0 hts gX11_readThing_X7_code rfl rfl rfl (by decide +kernel) ⟨Nat.le_of_ble_eq_true rfl, Nat.le_of_ble_eq_true rfl⟩) ⟨zQc_bl, zRecv hH (zk_1 hF) rfl, zQc_at hz hS hA hH⟩ rfl rfl hl.1 rfl (lv_room (Nat.le_of_ble_eq_true rfl)) dX11_readThing_16 ⟨Nat.le_of_ble_eq_true rfl, Nat.le_of_ble_eq_true rfl⟩) hS (fun q _ h => h) (fun q h => h) (fun r101 u9 t9 H1 locs ht9 hvm9 hw hB hz1 hk1 hS => ?_)
  have hH := zMv ht9 hvm9 hB
  clear hB
  generalize u9 = f102 at hw hH
  generalize H1 = H at hH hS ⊢
  have hnu := zStp.num hn4 han hw
  obtain ⟨b103, hb104, q105, hf106⟩ := zTw.num ha (by omega) hw
  have q107 : f102 1 1 = nI L := by rw [hf106 1 1 (by omega)]; exact hn
  have hT := zTh.ci (fi' := f102) hT (fun i9 k9 h9 => hf106 i9 k9 (by omega))
  refine va_callq (va_runV (As := [.int r101]) (rest := []) ⟨hx, hb, hml, hown, hts⟩ (c_ofCode l hl0 D A sad τ f102 fr ol r101 hF n hT) (cwV 1 hts gX11_readThing_X0_ofCode rfl rfl rfl (by decide +kernel) ⟨Nat.le_of_ble_eq_true rfl, Nat.le_of_ble_eq_true rfl⟩) ⟨zQc_bl, zRecv hH (zk_3 hF) rfl, zQc_at hz hS hA hH⟩ rfl rfl hl.1 rfl (lv_room (Nat.le_of_ble_eq_true rfl)) dX11_readThing_19 ⟨Nat.le_of_ble_eq_true rfl, Nat.le_of_ble_eq_true rfl⟩) hS (fun q _ h => h) (fun q h => h) (fun r108 u9 t9 H1 locs ht9 hvm9 hw hB hz1 hk1 hS => ?_)
  have hH := zMv ht9 hvm9 hB
  generalize H1 = H at hH hS ⊢
  rcases hw with ⟨t, ht, hcd, hcl, rfl⟩ | ⟨hno, rfl⟩
  · skip
    refine lv_astore_n (lv' := [(3, .ref (τ.1 (300 + t))), (2, .int (nI a)), (0, .ref (τ.1 0)), (1, .ref (τ.1 (300 + t0)))]) hx hb dX11_readThing_22 rfl hl (by decide) rfl (fun ls hl => ?_)
    refine lv_aload_n hx hb dX11_readThing_23 rfl (lv_at hl 0 rfl) ?_
    refine lv_ifnull hx hb dX11_readThing_24 ?_
    refine lv_aload_n hx hb dX11_readThing_27 rfl (lv_at hl 0 rfl) ?_
    refine lv_aload_n hx hb dX11_readThing_28 rfl (lv_at hl 3 rfl) ?_
    refine lv_acmp_ne (rx := (some (τ.1 (300 + t)))) (ry := (some (τ.1 (300 + t0)))) (tgt := 42) hx hb dX11_readThing_29 (by decide) (fun c109 => ?_) (fun c109 => ?_)
    · have zt : ¬ t = t0 := fun h8 => c109 (by rw [h8])
      refine lv_aload_n hx hb dX11_readThing_42 rfl (lv_at hl 0 rfl) ?_
      refine W.widen (k := 0) (n := 0) (by decide) (by decide) ?_
      exact W.aret (v := .ref (τ.1 (300 + t))) hx hb hr (Or.inl ⟨_, rfl⟩) (Or.inr ⟨_, rfl⟩) (fun t9 ht9 hW9 => ⟨⟨(some (τ.1 (300 + t))), f102, rfl, ⟨Or.inl ⟨t, ht, rfl, zStp.thgY hnu ht hcd hcl (fun j => hf106 (300 + j) 1 (by omega)) (fun h8 => zt (Option.some.inj h8).symm)⟩, ⟨b103, by omega, q105⟩, fun i k h => by rw [hf106 i k (by omega)]⟩, zEnd1 hH ht9 hW9⟩, hS.F ht9⟩) hS.2.2 dX11_readThing_43
    · have zt : t = t0 := by have h8 := hH.inj (i := 300 + t) (j := 300 + t0) (by rw [(hT.2.2.1 t (by omega)).1.1]; decide) (by rw [(hT.2.2.1 t0 (by omega)).1.1]; decide) (Option.some.inj c109); omega
      refine lv_aload_n hx hb dX11_readThing_32 rfl (lv_at hl 2 rfl) ?_
      refine zGetR (D := D) (ci := 11) (C := RX11) (T := TX11) (N := 16) hx hb hts hiX11 hown hH (zk_0 hF) rfl 0 (by decide) rfl hw1 (fun _ h9 => h9) dX11_readThing_33 (zr_0_0 hF) ?_
      refine lv_iload_n hx hb dX11_readThing_36 rfl (lv_at hl 1 rfl) ?_
      refine va_callv (va_runV (As := [.int (nI a)]) (rest := []) ⟨hx, hb, hml, hown, hts⟩ (t_refuse l hl0 D A sad τ f102 fr ol hF (nI a)) (cwV 1 hts gX11_readThing_X7_refuse rfl rfl rfl (by decide +kernel) ⟨Nat.le_of_ble_eq_true rfl, Nat.le_of_ble_eq_true rfl⟩) ⟨zQc_bl, zRecv hH (zk_1 hF) rfl, zQc_at hz hS hA hH⟩ rfl rfl hl.1 rfl (lv_room (Nat.le_of_ble_eq_true rfl)) dX11_readThing_37 ⟨Nat.le_of_ble_eq_true rfl, Nat.le_of_ble_eq_true rfl⟩) hS (fun q _ h => h) (fun q h => h) (fun u9 t9 H1 locs ht9 hvm9 hw hB hz1 hk1 hS => ?_)
      have hH := zMv ht9 hvm9 hB
      clear hB
      generalize u9 = f111 at hw hH
      generalize H1 = H at hH hS ⊢
      have hre := hw
      obtain ⟨b112, hb113, q114, hf115⟩ := zTw.ref (L := L) q105 (by omega) hw
      have q116 : f111 1 1 = nI L := by rw [hf115 1 1 (by omega)]; exact q107
      have hT := zTh.ci (fi' := f111) hT (fun i9 k9 h9 => hf115 i9 k9 (by omega))
      refine lv_null hx hb dX11_readThing_40 ?_
      refine W.widen (k := 0) (n := 0) (by decide) (by decide) ?_
      exact W.aret (v := .null) hx hb hr (Or.inl ⟨_, rfl⟩) (Or.inl rfl) (fun t9 ht9 hW9 => ⟨⟨none, f111, rfl, ⟨Or.inr ⟨rfl, zStp.thgN hn4 han hnu (Or.inr ⟨t, ht, hcd, hcl, by rw [zt]⟩) (fun j => hf106 (300 + j) 1 (by omega)) hre⟩, ⟨b112, by omega, q114⟩, fun i k h => by rw [hf115 i k (by omega), hf106 i k (by omega)]⟩, zEnd1 hH ht9 hW9⟩, hS.F ht9⟩) hS.2.2 dX11_readThing_41
  · skip
    refine lv_astore_nN (lv' := [(3, .null), (2, .int (nI a)), (0, .ref (τ.1 0)), (1, .ref (τ.1 (300 + t0)))]) hx hb dX11_readThing_22 rfl hl (by decide) rfl (fun ls hl => ?_)
    refine lv_aload_nN hx hb dX11_readThing_23 rfl (lv_at hl 0 rfl) ?_
    refine lv_ifnullN (tgt := 32) hx hb dX11_readThing_24 (by decide) ?_
    refine lv_aload_n hx hb dX11_readThing_32 rfl (lv_at hl 2 rfl) ?_
    refine zGetR (D := D) (ci := 11) (C := RX11) (T := TX11) (N := 16) hx hb hts hiX11 hown hH (zk_0 hF) rfl 0 (by decide) rfl hw1 (fun _ h9 => h9) dX11_readThing_33 (zr_0_0 hF) ?_
    refine lv_iload_n hx hb dX11_readThing_36 rfl (lv_at hl 1 rfl) ?_
    refine va_callv (va_runV (As := [.int (nI a)]) (rest := []) ⟨hx, hb, hml, hown, hts⟩ (t_refuse l hl0 D A sad τ f102 fr ol hF (nI a)) (cwV 1 hts gX11_readThing_X7_refuse rfl rfl rfl (by decide +kernel) ⟨Nat.le_of_ble_eq_true rfl, Nat.le_of_ble_eq_true rfl⟩) ⟨zQc_bl, zRecv hH (zk_1 hF) rfl, zQc_at hz hS hA hH⟩ rfl rfl hl.1 rfl (lv_room (Nat.le_of_ble_eq_true rfl)) dX11_readThing_37 ⟨Nat.le_of_ble_eq_true rfl, Nat.le_of_ble_eq_true rfl⟩) hS (fun q _ h => h) (fun q h => h) (fun u9 t9 H1 locs ht9 hvm9 hw hB hz1 hk1 hS => ?_)
    have hH := zMv ht9 hvm9 hB
    clear hB
    generalize u9 = f118 at hw hH
    generalize H1 = H at hH hS ⊢
    have hre := hw
    obtain ⟨b119, hb120, q121, hf122⟩ := zTw.ref (L := L) q105 (by omega) hw
    have q123 : f118 1 1 = nI L := by rw [hf122 1 1 (by omega)]; exact q107
    have hT := zTh.ci (fi' := f118) hT (fun i9 k9 h9 => hf122 i9 k9 (by omega))
    refine lv_null hx hb dX11_readThing_40 ?_
    refine W.widen (k := 0) (n := 0) (by decide) (by decide) ?_
    exact W.aret (v := .null) hx hb hr (Or.inl ⟨_, rfl⟩) (Or.inl rfl) (fun t9 ht9 hW9 => ⟨⟨none, f118, rfl, ⟨Or.inr ⟨rfl, zStp.thgN hn4 han hnu (Or.inl hno) (fun j => hf106 (300 + j) 1 (by omega)) hre⟩, ⟨b119, by omega, q121⟩, fun i k h => by rw [hf122 i k (by omega), hf106 i k (by omega)]⟩, zEnd1 hH ht9 hW9⟩, hS.F ht9⟩) hS.2.2 dX11_readThing_41
set_option maxHeartbeats 4000000 in
set_option maxRecDepth 100000 in
/-- readPlace -/
theorem w_readPlaceX (l : Launch) (hl0 : l.stackTraces = false) (D : va_G) (A : Nat → Prop) (sad : Nat → Nat) (τ : zTy) (fi : zFi) (fr : zFr) (ol : Int64) (L a : Nat) (hF : zFix τ fr) (hn : fi 1 1 = nI L) (ha : fi 1 2 = nI a) (hn4 : L ≤ 400) (han : a ≤ L) (n : Nat) (hT : zTh τ fi fr n) : Met l yX11_readPlace wsX11_readPlace ({ frames := 6, cells := 0, slots := 0, locals := 129 }) (va_Pc [.ref (τ.1 0)] (zQc D A sad τ fi fr ol)) (va_Qv (fun (u : zFi) => zStp fi u (zPlc (fi 2) L (fun t9 => fi (300 + t9) 1) n a) (fun xx => u 1 2 = nI xx.1 ∧ zDft u = zup (zDft fi) xx.2.1 xx.2.2) ∧ (∃ b, b ≤ L ∧ u 1 2 = nI b) ∧ ∀ i k, ¬ ((i = 1 ∧ 2 ≤ k) ∨ i = 14) → u i k = fi i k) (fun (u : zFi) (t : State) => zH D A τ u fr ol t t.heap) A) 0 0 A := by
  refine Met.ofW (cc := cX11_readPlace) (maxL := 3) (ret := none) (by decide) rfl ?_
  intro p9 e9 s m args below meth c9 s₁ B hml hv
  obtain ⟨rfl, hz, hH, hA⟩ := hv
  have hx := B.exec
  have hb := B.bytes
  have hr := B.returns
  have hts := atoms_spec (ws := wsX11_readPlace) B.pre
  have hown : s.vm.findClass RX11 = some m.cls := findClass_of_methodNamed B.named
  have hlocks := B.notSynchronized
  have hS : va_S A s.heap s.heap [] := va_S.rf
  have hl := lv_entry ([.ref (τ.1 0)]) (n := 3) (Nat.le_of_ble_eq_true rfl)
  rw [lg_entry_eq]
  generalize (lg_sl ([.ref (τ.1 0)]) ++ List.replicate (3 - (lg_sl ([.ref (τ.1 0)])).length) Slot.unset).toArray = ls at hl ⊢
  have hl : lv_has ls 3 [(0, .ref (τ.1 0))] := hl
  have hn30 := hT.1
  have hiX11 : ∀ w ∈ u_ws RX11 TX11 16, w ∈ wsX11_readPlace := fun _ h => List.mem_cons_of_mem _ (List.mem_append_left _ (List.mem_append_left _ (List.mem_append_left _ (List.mem_append_left _ (List.mem_append_right _ h)))))
  have hw1 := hts (.fieldLink RX11 10 "PostHouse" "tape" "LPostHouse$Tape;") (by decide +kernel)
  have hw2 := hts (.fieldLink RX11 37 "PostHouse" "draft" "LPostHouse$Rules;") (by decide +kernel)
  have hiX5 : ∀ w ∈ u_ws RX5 TX5 2, w ∈ wsX11_readPlace := fun _ h => List.mem_cons_of_mem _ (List.mem_append_left _ (List.mem_append_left _ (List.mem_append_left _ (List.mem_append_right _ h))))
  have hw4 := hts (.fieldLink RX11 178 "PostHouse$Rules" "places" "[I") (by decide +kernel)
  have hiX8 : ∀ w ∈ u_ws RX8 TX8 10, w ∈ wsX11_readPlace := fun _ h => List.mem_cons_of_mem _ (List.mem_append_left _ (List.mem_append_left _ (List.mem_append_right _ h)))
  have hw6 := hts (.fieldLink RX11 181 "PostHouse$Thing" "number" "I") (by decide +kernel)
  refine lv_aload_n hx hb dX11_readPlace_0 rfl (lv_at hl 0 rfl) ?_
  refine lv_null hx hb dX11_readPlace_1 ?_
  refine va_callq (va_runV (As := [.null]) (rest := []) ⟨hx, hb, hml, hown, hts⟩ (w_readThingXN l hl0 D A sad τ fi fr ol L a hF hn ha (by omega) (by omega) n hT) (cwV 1 hts gX11_readPlace_X11_readThing rfl rfl rfl (by decide +kernel) ⟨Nat.le_of_ble_eq_true rfl, Nat.le_of_ble_eq_true rfl⟩) ⟨zQc_bl, zRecv hH (zk_0 hF) rfl, zQc_at hz hS hA hH⟩ rfl rfl hl.1 rfl (lv_room (Nat.le_of_ble_eq_true rfl)) dX11_readPlace_2 ⟨Nat.le_of_ble_eq_true rfl, Nat.le_of_ble_eq_true rfl⟩) hS (fun q _ h => h) (fun q h => h) (fun r101 u9 t9 H1 locs ht9 hvm9 hw hB hz1 hk1 hS => ?_)
  have hH := zMv ht9 hvm9 hB
  clear hB
  generalize u9 = f102 at hw hH
  generalize H1 = H at hH hS ⊢
  obtain ⟨hrt, ⟨b8, hb8, qb8⟩, hf8⟩ := hw
  obtain ⟨b103, hb104, q105, hf106⟩ := (⟨b8, hb8, qb8, fun i k q => hf8 i k q⟩ : zTw fi L f102)
  have q107 : f102 1 1 = nI L := by rw [hf106 1 1 (by omega)]; exact hn
  have hT := zTh.ci (fi' := f102) hT (fun i9 k9 h9 => hf106 i9 k9 (by omega))
  rcases hrt with ⟨t1, ht1, rfl, hs1⟩ | ⟨rfl, hs1⟩
  · skip
    refine lv_astore_n (lv' := [(1, .ref (τ.1 (300 + t1))), (0, .ref (τ.1 0))]) hx hb dX11_readPlace_5 rfl hl (by decide) rfl (fun ls hl => ?_)
    refine lv_aload_n hx hb dX11_readPlace_6 rfl (lv_at hl 1 rfl) ?_
    refine zGetR (D := D) (ci := 11) (C := RX11) (T := TX11) (N := 16) hx hb hts hiX11 hown hH (zk_0 hF) rfl 0 (by decide) rfl hw1 (fun _ h9 => h9) dX11_readPlace_7 (zr_0_0 hF) ?_
    refine zLdcW hx hb hown (hz.1.2.2.2.1 5 _ rfl).2 dX11_readPlace_10 ?_
    refine va_callv (va_runV (As := [.ref (sad 5)]) (rest := []) ⟨hx, hb, hml, hown, hts⟩ (t_needWord l hl0 D A sad τ f102 fr ol L b103 hF q107 q105 (by omega) (by omega) 5 ((435, "by", [98, 121])) rfl) (cwV 1 hts gX11_readPlace_X7_needWord rfl rfl rfl (by decide +kernel) ⟨Nat.le_of_ble_eq_true rfl, Nat.le_of_ble_eq_true rfl⟩) ⟨zQc_bl, zRecv hH (zk_1 hF) rfl, zQc_at hz hS hA hH⟩ rfl rfl hl.1 rfl (lv_room (Nat.le_of_ble_eq_true rfl)) dX11_readPlace_13 ⟨Nat.le_of_ble_eq_true rfl, Nat.le_of_ble_eq_true rfl⟩) hS (fun q _ h => h) (fun q h => h) (fun u9 t9 H1 locs ht9 hvm9 hw hB hz1 hk1 hS => ?_)
    have hH := zMv ht9 hvm9 hB
    clear hB
    generalize u9 = f109 at hw hH
    generalize H1 = H at hH hS ⊢
    have hs2 := zStp.need (by omega) (by omega) hw
    obtain ⟨b110, hb111, q112, hf113⟩ := zTw.need q105 (by omega) hw
    have q114 : f109 1 1 = nI L := by rw [hf113 1 1 (by omega)]; exact q107
    have hT := zTh.ci (fi' := f109) hT (fun i9 k9 h9 => hf113 i9 k9 (by omega))
    refine lv_aload_n hx hb dX11_readPlace_16 rfl (lv_at hl 1 rfl) ?_
    refine lv_aload_n hx hb dX11_readPlace_17 rfl (lv_at hl 0 rfl) ?_
    refine va_callq (va_runV (As := [.ref (τ.1 (300 + t1))]) (rest := []) ⟨hx, hb, hml, hown, hts⟩ (w_readThingXR l hl0 D A sad τ f109 fr ol L b110 hF q114 q112 (by omega) (by omega) n hT t1 ht1) (cwV 1 hts gX11_readPlace_X11_readThing rfl rfl rfl (by decide +kernel) ⟨Nat.le_of_ble_eq_true rfl, Nat.le_of_ble_eq_true rfl⟩) ⟨zQc_bl, zRecv hH (zk_0 hF) rfl, zQc_at hz hS hA hH⟩ rfl rfl hl.1 rfl (lv_room (Nat.le_of_ble_eq_true rfl)) dX11_readPlace_18 ⟨Nat.le_of_ble_eq_true rfl, Nat.le_of_ble_eq_true rfl⟩) hS (fun q _ h => h) (fun q h => h) (fun r115 u9 t9 H1 locs ht9 hvm9 hw hB hz1 hk1 hS => ?_)
    have hH := zMv ht9 hvm9 hB
    clear hB
    generalize u9 = f116 at hw hH
    generalize H1 = H at hH hS ⊢
    obtain ⟨hrt, ⟨b8, hb8, qb8⟩, hf8⟩ := hw
    obtain ⟨b117, hb118, q119, hf120⟩ := (⟨b8, hb8, qb8, fun i k q => hf8 i k q⟩ : zTw f109 L f116)
    have q121 : f116 1 1 = nI L := by rw [hf120 1 1 (by omega)]; exact q114
    have hT := zTh.ci (fi' := f116) hT (fun i9 k9 h9 => hf120 i9 k9 (by omega))
    rcases hrt with ⟨t2, ht2, rfl, hs3⟩ | ⟨rfl, hs3⟩
    · skip
      refine lv_astore_n (lv' := [(2, .ref (τ.1 (300 + t2))), (1, .ref (τ.1 (300 + t1))), (0, .ref (τ.1 0))]) hx hb dX11_readPlace_21 rfl hl (by decide) rfl (fun ls hl => ?_)
      refine lv_aload_n hx hb dX11_readPlace_22 rfl (lv_at hl 1 rfl) ?_
      refine lv_ifnull hx hb dX11_readPlace_23 ?_
      refine lv_aload_n hx hb dX11_readPlace_26 rfl (lv_at hl 0 rfl) ?_
      refine lv_ifnull hx hb dX11_readPlace_27 ?_
      refine lv_aload_n hx hb dX11_readPlace_30 rfl (lv_at hl 2 rfl) ?_
      refine zGetR (D := D) (ci := 11) (C := RX11) (T := TX11) (N := 16) hx hb hts hiX11 hown hH (zk_0 hF) rfl 4 (by decide) rfl hw2 (fun _ h9 => h9) dX11_readPlace_31 (zr_0_4 hF) ?_
      refine zGetR (D := D) (ci := 5) (C := RX5) (T := TX5) (N := 2) hx hb hts hiX5 hown hH (zk_12 hF) rfl 1 (by decide) rfl hw4 (fun _ h9 => h9) dX11_readPlace_34 (zr_12_1 hF) ?_
      refine lv_aload_n hx hb dX11_readPlace_37 rfl (lv_at hl 1 rfl) ?_
      refine zGetI (D := D) (ci := 8) (C := RX8) (T := TX8) (N := 10) hx hb hts hiX8 hown hH (hT.2.2.1 t1 (by omega)).1.1 rfl 0 (by decide) rfl hw6 (fun _ h9 => h9) dX11_readPlace_38 (hT.2.2.1 t1 (by omega)).2.2.2.1 ?_
      refine lv_aload_n hx hb dX11_readPlace_41 rfl (lv_at hl 0 rfl) ?_
      refine zGetI (D := D) (ci := 8) (C := RX8) (T := TX8) (N := 10) hx hb hts hiX8 hown hH (hT.2.2.1 t2 (by omega)).1.1 rfl 0 (by decide) rfl hw6 (fun _ h9 => h9) dX11_readPlace_42 (hT.2.2.1 t2 (by omega)).2.2.2.1 ?_
      refine zIastN (D := D) hx hb hH hS (zk_14 hF) (zn_14 hF) (by omega) (by omega) dX11_readPlace_45 (fun H locs hH hS => ?_)
      obtain ⟨f122, ef122⟩ : ∃ f9 : zFi, f9 = zu f116 14 t1 (nI t2) := ⟨_, rfl⟩
      rw [← ef122] at hH
      have q123 : f122 1 1 = nI L := by rw [ef122, zu_n (fun h9 => absurd h9.1 (by decide))]; exact q121
      have q124 : f122 1 2 = nI b117 := by rw [ef122, zu_n (fun h9 => absurd h9.1 (by decide))]; exact q119
      have q125 : f122 14 t1 = nI t2 := by rw [ef122]; exact zu_s
      have hT := zTh.ci (fi' := f122) hT (fun i9 k9 h9 => by rw [ef122]; exact zu_n (by omega))
      refine W.widen (k := 0) (n := 0) (by decide) (by decide) ?_
      exact W.vret hx hb hr (fun t9 ht9 hW9 => ⟨⟨f122, rfl, ⟨zStp.plcY hn4 han hs1 q105 (by omega) (by funext k; rw [hf106 2 k (by omega)]) hs2 q112 (by omega) (by funext k; rw [hf113 2 k (by omega), hf106 2 k (by omega)]) (by funext k; rw [hf113 (300 + k) 1 (by omega), hf106 (300 + k) 1 (by omega)]) hs3 (by rw [ef122, zu_n (by omega)]) (fun y hy => ⟨by rw [ef122, zu_n (by omega)]; exact hy.1, by rw [zDft_plc (by omega) ef122, zDft_cg (f := f116) (g := fi) (fun i k q => by rw [hf120 i k (by omega), hf113 i k (by omega), hf106 i k (by omega)]), hy.2]⟩), ⟨b117, by omega, q124⟩, fun i k h => by rw [ef122, zu_n (by omega), hf120 i k (by omega), hf113 i k (by omega), hf106 i k (by omega)]⟩, zEnd1 hH ht9 hW9⟩, hS.F ht9⟩) hS.2.2 dX11_readPlace_46
    · skip
      refine lv_astore_nN (lv' := [(2, .null), (1, .ref (τ.1 (300 + t1))), (0, .ref (τ.1 0))]) hx hb dX11_readPlace_21 rfl hl (by decide) rfl (fun ls hl => ?_)
      refine lv_aload_n hx hb dX11_readPlace_22 rfl (lv_at hl 1 rfl) ?_
      refine lv_ifnull hx hb dX11_readPlace_23 ?_
      refine lv_aload_nN hx hb dX11_readPlace_26 rfl (lv_at hl 0 rfl) ?_
      refine lv_ifnullN (tgt := 46) hx hb dX11_readPlace_27 (by decide) ?_
      refine W.widen (k := 0) (n := 0) (by decide) (by decide) ?_
      exact W.vret hx hb hr (fun t9 ht9 hW9 => ⟨⟨f116, rfl, ⟨zStp.plcY hn4 han hs1 q105 (by omega) (by funext k; rw [hf106 2 k (by omega)]) hs2 q112 (by omega) (by funext k; rw [hf113 2 k (by omega), hf106 2 k (by omega)]) (by funext k; rw [hf113 (300 + k) 1 (by omega), hf106 (300 + k) 1 (by omega)]) hs3 rfl (fun y hy => hy.elim), ⟨b117, by omega, q119⟩, fun i k h => by rw [hf120 i k (by omega), hf113 i k (by omega), hf106 i k (by omega)]⟩, zEnd1 hH ht9 hW9⟩, hS.F ht9⟩) hS.2.2 dX11_readPlace_46
  · skip
    refine lv_astore_nN (lv' := [(1, .null), (0, .ref (τ.1 0))]) hx hb dX11_readPlace_5 rfl hl (by decide) rfl (fun ls hl => ?_)
    refine lv_aload_n hx hb dX11_readPlace_6 rfl (lv_at hl 1 rfl) ?_
    refine zGetR (D := D) (ci := 11) (C := RX11) (T := TX11) (N := 16) hx hb hts hiX11 hown hH (zk_0 hF) rfl 0 (by decide) rfl hw1 (fun _ h9 => h9) dX11_readPlace_7 (zr_0_0 hF) ?_
    refine zLdcW hx hb hown (hz.1.2.2.2.1 5 _ rfl).2 dX11_readPlace_10 ?_
    refine va_callv (va_runV (As := [.ref (sad 5)]) (rest := []) ⟨hx, hb, hml, hown, hts⟩ (t_needWord l hl0 D A sad τ f102 fr ol L b103 hF q107 q105 (by omega) (by omega) 5 ((435, "by", [98, 121])) rfl) (cwV 1 hts gX11_readPlace_X7_needWord rfl rfl rfl (by decide +kernel) ⟨Nat.le_of_ble_eq_true rfl, Nat.le_of_ble_eq_true rfl⟩) ⟨zQc_bl, zRecv hH (zk_1 hF) rfl, zQc_at hz hS hA hH⟩ rfl rfl hl.1 rfl (lv_room (Nat.le_of_ble_eq_true rfl)) dX11_readPlace_13 ⟨Nat.le_of_ble_eq_true rfl, Nat.le_of_ble_eq_true rfl⟩) hS (fun q _ h => h) (fun q h => h) (fun u9 t9 H1 locs ht9 hvm9 hw hB hz1 hk1 hS => ?_)
    have hH := zMv ht9 hvm9 hB
    clear hB
    generalize u9 = f127 at hw hH
    generalize H1 = H at hH hS ⊢
    have hs2 := zStp.need (by omega) (by omega) hw
    obtain ⟨b128, hb129, q130, hf131⟩ := zTw.need q105 (by omega) hw
    have q132 : f127 1 1 = nI L := by rw [hf131 1 1 (by omega)]; exact q107
    have hT := zTh.ci (fi' := f127) hT (fun i9 k9 h9 => hf131 i9 k9 (by omega))
    refine lv_aload_n hx hb dX11_readPlace_16 rfl (lv_at hl 1 rfl) ?_
    refine lv_aload_nN hx hb dX11_readPlace_17 rfl (lv_at hl 0 rfl) ?_
    refine va_callq (va_runV (As := [.null]) (rest := []) ⟨hx, hb, hml, hown, hts⟩ (w_readThingXN l hl0 D A sad τ f127 fr ol L b128 hF q132 q130 (by omega) (by omega) n hT) (cwV 1 hts gX11_readPlace_X11_readThing rfl rfl rfl (by decide +kernel) ⟨Nat.le_of_ble_eq_true rfl, Nat.le_of_ble_eq_true rfl⟩) ⟨zQc_bl, zRecv hH (zk_0 hF) rfl, zQc_at hz hS hA hH⟩ rfl rfl hl.1 rfl (lv_room (Nat.le_of_ble_eq_true rfl)) dX11_readPlace_18 ⟨Nat.le_of_ble_eq_true rfl, Nat.le_of_ble_eq_true rfl⟩) hS (fun q _ h => h) (fun q h => h) (fun r133 u9 t9 H1 locs ht9 hvm9 hw hB hz1 hk1 hS => ?_)
    have hH := zMv ht9 hvm9 hB
    clear hB
    generalize u9 = f134 at hw hH
    generalize H1 = H at hH hS ⊢
    obtain ⟨hrt, ⟨b8, hb8, qb8⟩, hf8⟩ := hw
    obtain ⟨b135, hb136, q137, hf138⟩ := (⟨b8, hb8, qb8, fun i k q => hf8 i k q⟩ : zTw f127 L f134)
    have q139 : f134 1 1 = nI L := by rw [hf138 1 1 (by omega)]; exact q132
    have hT := zTh.ci (fi' := f134) hT (fun i9 k9 h9 => hf138 i9 k9 (by omega))
    rcases hrt with ⟨t2, ht2, rfl, hs3⟩ | ⟨rfl, hs3⟩
    · skip
      refine lv_astore_n (lv' := [(2, .ref (τ.1 (300 + t2))), (1, .null), (0, .ref (τ.1 0))]) hx hb dX11_readPlace_21 rfl hl (by decide) rfl (fun ls hl => ?_)
      refine lv_aload_nN hx hb dX11_readPlace_22 rfl (lv_at hl 1 rfl) ?_
      refine lv_ifnullN (tgt := 46) hx hb dX11_readPlace_23 (by decide) ?_
      refine W.widen (k := 0) (n := 0) (by decide) (by decide) ?_
      exact W.vret hx hb hr (fun t9 ht9 hW9 => ⟨⟨f134, rfl, ⟨zStp.plcN hs1 hs2.1 hs3.1 rfl, ⟨b135, by omega, q137⟩, fun i k h => by rw [hf138 i k (by omega), hf131 i k (by omega), hf106 i k (by omega)]⟩, zEnd1 hH ht9 hW9⟩, hS.F ht9⟩) hS.2.2 dX11_readPlace_46
    · skip
      refine lv_astore_nN (lv' := [(2, .null), (1, .null), (0, .ref (τ.1 0))]) hx hb dX11_readPlace_21 rfl hl (by decide) rfl (fun ls hl => ?_)
      refine lv_aload_nN hx hb dX11_readPlace_22 rfl (lv_at hl 1 rfl) ?_
      refine lv_ifnullN (tgt := 46) hx hb dX11_readPlace_23 (by decide) ?_
      refine W.widen (k := 0) (n := 0) (by decide) (by decide) ?_
      exact W.vret hx hb hr (fun t9 ht9 hW9 => ⟨⟨f134, rfl, ⟨zStp.plcN hs1 hs2.1 hs3.1 rfl, ⟨b135, by omega, q137⟩, fun i k h => by rw [hf138 i k (by omega), hf131 i k (by omega), hf106 i k (by omega)]⟩, zEnd1 hH ht9 hW9⟩, hS.F ht9⟩) hS.2.2 dX11_readPlace_46
set_option maxHeartbeats 4000000 in
set_option maxRecDepth 100000 in
/-- readRule -/
theorem w_readRuleX (l : Launch) (hl0 : l.stackTraces = false) (D : va_G) (A : Nat → Prop) (sad : Nat → Nat) (τ : zTy) (fi : zFi) (fr : zFr) (ol : Int64) (L a : Nat) (hF : zFix τ fr) (hn : fi 1 1 = nI L) (ha : fi 1 2 = nI a) (hn4 : L ≤ 400) (han : a ≤ L) (n : Nat) (hT : zTh τ fi fr n) : Met l yX11_readRule wsX11_readRule ({ frames := 7, cells := 0, slots := 0, locals := 151 }) (va_Pc [.ref (τ.1 0)] (zQc D A sad τ fi fr ol)) (va_Qv (fun (u : zFi) => zStp fi u (zRul (fi 2) L (fun t9 => fi (300 + t9) 1) n a) (fun xx => u 1 2 = nI xx.1 ∧ zDft u = zup (zDft fi) xx.2.1 xx.2.2) ∧ (∃ b, b ≤ L ∧ u 1 2 = nI b) ∧ ∀ i k, ¬ ((i = 1 ∧ 2 ≤ k) ∨ i = 13 ∨ i = 14) → u i k = fi i k) (fun (u : zFi) (t : State) => zH D A τ u fr ol t t.heap) A) 0 0 A := by
  refine Met.ofW (cc := cX11_readRule) (maxL := 2) (ret := none) (by decide) rfl ?_
  intro p9 e9 s m args below meth c9 s₁ B hml hv
  obtain ⟨rfl, hz, hH, hA⟩ := hv
  have hx := B.exec
  have hb := B.bytes
  have hr := B.returns
  have hts := atoms_spec (ws := wsX11_readRule) B.pre
  have hown : s.vm.findClass RX11 = some m.cls := findClass_of_methodNamed B.named
  have hlocks := B.notSynchronized
  have hS : va_S A s.heap s.heap [] := va_S.rf
  have hl := lv_entry ([.ref (τ.1 0)]) (n := 2) (Nat.le_of_ble_eq_true rfl)
  rw [lg_entry_eq]
  generalize (lg_sl ([.ref (τ.1 0)]) ++ List.replicate (2 - (lg_sl ([.ref (τ.1 0)])).length) Slot.unset).toArray = ls at hl ⊢
  have hl : lv_has ls 2 [(0, .ref (τ.1 0))] := hl
  have hn30 := hT.1
  have hiX11 : ∀ w ∈ u_ws RX11 TX11 16, w ∈ wsX11_readRule := fun _ h => List.mem_cons_of_mem _ (List.mem_append_left _ (List.mem_append_left _ (List.mem_append_left _ (List.mem_append_left _ (List.mem_append_right _ h)))))
  have hw1 := hts (.fieldLink RX11 10 "PostHouse" "tape" "LPostHouse$Tape;") (by decide +kernel)
  have hw2 := hts (.fieldLink RX11 37 "PostHouse" "draft" "LPostHouse$Rules;") (by decide +kernel)
  have hiX5 : ∀ w ∈ u_ws RX5 TX5 2, w ∈ wsX11_readRule := fun _ h => List.mem_cons_of_mem _ (List.mem_append_left _ (List.mem_append_left _ (List.mem_append_right _ h)))
  have hw4 := hts (.fieldLink RX11 174 "PostHouse$Rules" "numbers" "[I") (by decide +kernel)
  have hw5 := hts (.fieldLink RX11 419 "PostHouse$Rules" "MOST" "[I") (by decide +kernel)
  have hiX7 : ∀ w ∈ u_ws RX7 TX7 4, w ∈ wsX11_readRule := fun _ h => List.mem_cons_of_mem _ (List.mem_append_left _ (List.mem_append_left _ (List.mem_append_left _ (List.mem_append_right _ h))))
  have hw7 := hts (.fieldLink RX11 413 "PostHouse$Tape" "next" "I") (by decide +kernel)
  refine lv_aload_n hx hb dX11_readRule_0 rfl (lv_at hl 0 rfl) ?_
  refine zGetR (D := D) (ci := 11) (C := RX11) (T := TX11) (N := 16) hx hb hts hiX11 hown hH (zk_0 hF) rfl 0 (by decide) rfl hw1 (fun _ h9 => h9) dX11_readRule_1 (zr_0_0 hF) ?_
  refine zLdcW hx hb hown (hz.1.2.2.2.1 0 _ rfl).2 dX11_readRule_4 ?_
  refine va_calli (va_runV (As := [.ref (sad 0)]) (rest := []) ⟨hx, hb, hml, hown, hts⟩ (t_takesWord l hl0 D A sad τ fi fr ol L a hF hn ha (by omega) (by omega) 0 ((401, "place", [112, 108, 97, 99, 101])) rfl) (cwV 1 hts gX11_readRule_X7_takesWord rfl rfl rfl (by decide +kernel) ⟨Nat.le_of_ble_eq_true rfl, Nat.le_of_ble_eq_true rfl⟩) ⟨zQc_bl, zRecv hH (zk_1 hF) rfl, zQc_at hz hS hA hH⟩ rfl rfl hl.1 rfl (lv_room (Nat.le_of_ble_eq_true rfl)) dX11_readRule_7 ⟨Nat.le_of_ble_eq_true rfl, Nat.le_of_ble_eq_true rfl⟩) hS (fun q _ h => h) (fun q h => h) (fun r101 u9 t9 H1 locs ht9 hvm9 hw hB hz1 hk1 hS => ?_)
  have hH := zMv ht9 hvm9 hB
  clear hB
  generalize u9 = f102 at hw hH
  generalize H1 = H at hH hS ⊢
  rcases hw with ⟨rfl, hw103, b104, ef102, hs105⟩ | ⟨rfl, hn106, ef102⟩
  · have zhs105 := hs105.1
    have yhs105 := hs105.2.1
    have q107 : f102 1 1 = nI L := by rw [ef102, zu_n (fun h9 => absurd h9.2 (by decide))]; exact hn
    have q108 : f102 1 2 = nI b104 := by rw [ef102]; exact zu_s
    have hT := zTh.ci (fi' := f102) hT (fun i9 k9 h9 => by rw [ef102]; exact zu_n (by omega))
    refine lv_if_eq (tgt := 18) hx hb dX11_readRule_10 (by decide) (fun c109 => absurd c109 (by decide)) (fun c109 => ?_)
    refine lv_aload_n hx hb dX11_readRule_13 rfl (lv_at hl 0 rfl) ?_
    refine va_callv (va_runV (As := []) (rest := []) ⟨hx, hb, hml, hown, hts⟩ (w_readPlaceX l hl0 D A sad τ f102 fr ol L b104 hF q107 q108 (by omega) (by omega) n hT) (cwV 0 hts gX11_readRule_X11_readPlace rfl rfl rfl (by decide +kernel) ⟨Nat.le_of_ble_eq_true rfl, Nat.le_of_ble_eq_true rfl⟩) ⟨zQc_bl, zRecv hH (zk_0 hF) rfl, zQc_at hz hS hA hH⟩ rfl rfl hl.1 rfl (lv_room (Nat.le_of_ble_eq_true rfl)) dX11_readRule_14 ⟨Nat.le_of_ble_eq_true rfl, Nat.le_of_ble_eq_true rfl⟩) hS (fun q _ h => h) (fun q h => h) (fun u9 t9 H1 locs ht9 hvm9 hw hB hz1 hk1 hS => ?_)
    have hH := zMv ht9 hvm9 hB
    clear hB
    generalize u9 = f111 at hw hH
    generalize H1 = H at hH hS ⊢
    obtain ⟨hpl, ⟨b112, hb113, q114⟩, hf115⟩ := hw
    have q116 : f111 1 1 = nI L := by rw [hf115 1 1 (by omega)]; exact q107
    have hT := zTh.ci (fi' := f111) hT (fun i9 k9 h9 => hf115 i9 k9 (by omega))
    refine W.widen (k := 0) (n := 0) (by decide) (by decide) ?_
    exact W.vret hx hb hr (fun t9 ht9 hW9 => ⟨⟨f111, rfl, ⟨zStp.rulP (zWrd_yes hw103 hs105 : zWrd (fi 2) L [112, 108, 97, 99, 101] a = some b104) ef102 hpl, ⟨b112, by omega, q114⟩, fun i k h => by rw [hf115 i k (by omega), ef102, zu_n (by omega)]⟩, zEnd1 hH ht9 hW9⟩, hS.F ht9⟩) hS.2.2 dX11_readRule_17
  · have ef102 := ef102.symm
    subst ef102
    refine lv_if_eq (tgt := 18) hx hb dX11_readRule_10 (by decide) (fun c117 => ?_) (fun c117 => absurd (by decide) c117)
    refine lv_aload_n hx hb dX11_readRule_18 rfl (lv_at hl 0 rfl) ?_
    refine va_calli (va_runV (As := []) (rest := []) ⟨hx, hb, hml, hown, hts⟩ (w_readKindX l hl0 D A sad τ fi fr ol L a hF hn ha (by omega) (by omega)) (cwV 0 hts gX11_readRule_X11_readKind rfl rfl rfl (by decide +kernel) ⟨Nat.le_of_ble_eq_true rfl, Nat.le_of_ble_eq_true rfl⟩) ⟨zQc_bl, zRecv hH (zk_0 hF) rfl, zQc_at hz hS hA hH⟩ rfl rfl hl.1 rfl (lv_room (Nat.le_of_ble_eq_true rfl)) dX11_readRule_19 ⟨Nat.le_of_ble_eq_true rfl, Nat.le_of_ble_eq_true rfl⟩) hS (fun q _ h => h) (fun q h => h) (fun r118 u9 t9 H1 locs ht9 hvm9 hw hB hz1 hk1 hS => ?_)
    have hH := zMv ht9 hvm9 hB
    clear hB
    generalize u9 = f119 at hw hH
    generalize H1 = H at hH hS ⊢
    rcases hw with ⟨kd, b120, hkd, rfl, hzk, zb120, ef119⟩ | ⟨rfl, hzk, ef119⟩
    · skip
      have q121 : f119 1 1 = nI L := by rw [ef119, zu_n (fun h9 => absurd h9.2 (by decide))]; exact hn
      have q122 : f119 1 2 = nI b120 := by rw [ef119]; exact zu_s
      have hT := zTh.ci (fi' := f119) hT (fun i9 k9 h9 => by rw [ef119]; exact zu_n (by omega))
      refine lv_istore_n (lv' := [(1, .int (nI kd)), (0, .ref (τ.1 0))]) hx hb dX11_readRule_22 rfl hl (by decide) rfl (fun ls hl => ?_)
      refine lv_iload_n hx hb dX11_readRule_23 rfl (lv_at hl 0 rfl) ?_
      refine lv_iconst (v := (-1)) hx hb dX11_readRule_24 (by decide) ?_
      refine lv_icmp_ne (tgt := 45) hx hb dX11_readRule_25 (by decide) (fun c123 => ?_) (fun c123 => False.elim (by have zc123 := zc_eq (nI_toInt (by omega)) ((by decide : ((-1) : Int32).toInt = (-1))) c123; omega))
      refine lv_aload_n hx hb dX11_readRule_45 rfl (lv_at hl 1 rfl) ?_
      refine zGetR (D := D) (ci := 11) (C := RX11) (T := TX11) (N := 16) hx hb hts hiX11 hown hH (zk_0 hF) rfl 4 (by decide) rfl hw2 (fun _ h9 => h9) dX11_readRule_46 (zr_0_4 hF) ?_
      refine zGetR (D := D) (ci := 5) (C := RX5) (T := TX5) (N := 2) hx hb hts hiX5 hown hH (zk_12 hF) rfl 0 (by decide) rfl hw4 (fun _ h9 => h9) dX11_readRule_49 (zr_12_0 hF) ?_
      refine lv_iload_n hx hb dX11_readRule_52 rfl (lv_at hl 0 rfl) ?_
      refine lv_aload_n hx hb dX11_readRule_53 rfl (lv_at hl 1 rfl) ?_
      refine zGetR (D := D) (ci := 11) (C := RX11) (T := TX11) (N := 16) hx hb hts hiX11 hown hH (zk_0 hF) rfl 0 (by decide) rfl hw1 (fun _ h9 => h9) dX11_readRule_54 (zr_0_0 hF) ?_
      refine lv_iconst (v := nI 0) hx hb dX11_readRule_57 (by decide) ?_
      refine va_gets hx hb (hz.2.2 0 _ rfl).1 hS hown hw5 (fun _ h9 => h9) dX11_readRule_58 ?_
      refine lv_iload_n hx hb dX11_readRule_61 rfl (lv_at hl 0 rfl) ?_
      refine zSti (i := 0) hx hb hz hS rfl (show kd < _ by simp only [List.length_cons, List.length_nil]; omega) (by decide) dX11_readRule_62 ?_
      refine lv_topi (fun v124 ev124 => ?_)
      refine va_calli (va_runV (As := [.int (nI 0), .int v124]) (rest := [.int (nI kd), .ref (τ.1 13)]) ⟨hx, hb, hml, hown, hts⟩ (t_number l hl0 D A sad τ f119 fr ol L b120 hF q121 q122 (by omega) (by omega) (nI 0) v124 (by decide)) (cwV 2 hts gX11_readRule_X7_number rfl rfl rfl (by decide +kernel) ⟨Nat.le_of_ble_eq_true rfl, Nat.le_of_ble_eq_true rfl⟩) ⟨zQc_bl, zRecv hH (zk_1 hF) rfl, zQc_at hz hS hA hH⟩ rfl rfl hl.1 rfl (lv_room (Nat.le_of_ble_eq_true rfl)) dX11_readRule_63 ⟨Nat.le_of_ble_eq_true rfl, Nat.le_of_ble_eq_true rfl⟩) hS (fun q _ h => h) (fun q h => h) (fun r125 u9 t9 H1 locs ht9 hvm9 hw hB hz1 hk1 hS => ?_)
      have hH := zMv ht9 hvm9 hB
      clear hB
      generalize u9 = f126 at hw hH
      generalize H1 = H at hH hS ⊢
      have hnu := zStp.num (by omega) (by omega) hw
      obtain ⟨b127, hb128, q129, hf130⟩ := zTw.num q122 (by omega) hw
      have q131 : f126 1 1 = nI L := by rw [hf130 1 1 (by omega)]; exact q121
      have hT := zTh.ci (fi' := f126) hT (fun i9 k9 h9 => hf130 i9 k9 (by omega))
      refine zIastN (D := D) hx hb hH hS (zk_13 hF) (zn_13 hF) (by omega) (by omega) dX11_readRule_66 (fun H locs hH hS => ?_)
      obtain ⟨f132, ef132⟩ : ∃ f9 : zFi, f9 = zu f126 13 kd r125 := ⟨_, rfl⟩
      rw [← ef132] at hH
      have q133 : f132 1 1 = nI L := by rw [ef132, zu_n (fun h9 => absurd h9.1 (by decide))]; exact q131
      have q134 : f132 1 2 = nI b127 := by rw [ef132, zu_n (fun h9 => absurd h9.1 (by decide))]; exact q129
      have q135 : f132 13 kd = r125 := by rw [ef132]; exact zu_s
      have hT := zTh.ci (fi' := f132) hT (fun i9 k9 h9 => by rw [ef132]; exact zu_n (by omega))
      refine W.widen (k := 0) (n := 0) (by decide) (by decide) ?_
      exact W.vret hx hb hr (fun t9 ht9 hW9 => ⟨⟨f132, rfl, ⟨zStp.rulK hn4 han (zWrd_no hn106 han : zWrd (fi 2) L [112, 108, 97, 99, 101] a = none) hzk hkd ef119 (by rw [ev124]; rfl) hnu (zDft_cg (fun i k q => hf130 i k (by omega))) ef132, ⟨b127, by omega, q134⟩, fun i k h => by rw [ef132, zu_n (by omega), hf130 i k (by omega), ef119, zu_n (by omega)]⟩, zEnd1 hH ht9 hW9⟩, hS.F ht9⟩) hS.2.2 dX11_readRule_67
    · have ef119 := ef119.symm
      subst ef119
      refine lv_istore_n (lv' := [(1, .int ((-1))), (0, .ref (τ.1 0))]) hx hb dX11_readRule_22 rfl hl (by decide) rfl (fun ls hl => ?_)
      refine lv_iload_n hx hb dX11_readRule_23 rfl (lv_at hl 0 rfl) ?_
      refine lv_iconst (v := (-1)) hx hb dX11_readRule_24 (by decide) ?_
      refine lv_icmp_ne (tgt := 45) hx hb dX11_readRule_25 (by decide) (fun c136 => absurd (by decide) c136) (fun c136 => ?_)
      refine lv_aload_n hx hb dX11_readRule_28 rfl (lv_at hl 1 rfl) ?_
      refine zGetR (D := D) (ci := 11) (C := RX11) (T := TX11) (N := 16) hx hb hts hiX11 hown hH (zk_0 hF) rfl 0 (by decide) rfl hw1 (fun _ h9 => h9) dX11_readRule_29 (zr_0_0 hF) ?_
      refine lv_aload_n hx hb dX11_readRule_32 rfl (lv_at hl 1 rfl) ?_
      refine zGetR (D := D) (ci := 11) (C := RX11) (T := TX11) (N := 16) hx hb hts hiX11 hown hH (zk_0 hF) rfl 0 (by decide) rfl hw1 (fun _ h9 => h9) dX11_readRule_33 (zr_0_0 hF) ?_
      refine zGetI (D := D) (ci := 7) (C := RX7) (T := TX7) (N := 4) hx hb hts hiX7 hown hH (zk_1 hF) rfl 2 (by decide) rfl hw7 (fun _ h9 => h9) dX11_readRule_36 ha ?_
      refine va_callv (va_runV (As := [.int (nI a)]) (rest := []) ⟨hx, hb, hml, hown, hts⟩ (t_refuse l hl0 D A sad τ fi fr ol hF (nI a)) (cwV 1 hts gX11_readRule_X7_refuse rfl rfl rfl (by decide +kernel) ⟨Nat.le_of_ble_eq_true rfl, Nat.le_of_ble_eq_true rfl⟩) ⟨zQc_bl, zRecv hH (zk_1 hF) rfl, zQc_at hz hS hA hH⟩ rfl rfl hl.1 rfl (lv_room (Nat.le_of_ble_eq_true rfl)) dX11_readRule_39 ⟨Nat.le_of_ble_eq_true rfl, Nat.le_of_ble_eq_true rfl⟩) hS (fun q _ h => h) (fun q h => h) (fun u9 t9 H1 locs ht9 hvm9 hw hB hz1 hk1 hS => ?_)
      have hH := zMv ht9 hvm9 hB
      clear hB
      generalize u9 = f138 at hw hH
      generalize H1 = H at hH hS ⊢
      have hre := hw
      obtain ⟨b139, hb140, q141, hf142⟩ := zTw.ref (L := L) ha (by omega) hw
      have q143 : f138 1 1 = nI L := by rw [hf142 1 1 (by omega)]; exact hn
      have hT := zTh.ci (fi' := f138) hT (fun i9 k9 h9 => hf142 i9 k9 (by omega))
      refine lv_goto (tgt := 67) hx hb dX11_readRule_42 (by decide) ?_
      refine W.widen (k := 0) (n := 0) (by decide) (by decide) ?_
      exact W.vret hx hb hr (fun t9 ht9 hW9 => ⟨⟨f138, rfl, ⟨zStp.rulX hn4 han (zWrd_no hn106 han : zWrd (fi 2) L [112, 108, 97, 99, 101] a = none) hzk hre, ⟨b139, by omega, q141⟩, fun i k h => by rw [hf142 i k (by omega)]⟩, zEnd1 hH ht9 hW9⟩, hS.F ht9⟩) hS.2.2 dX11_readRule_67
set_option maxHeartbeats 4000000 in
set_option maxRecDepth 100000 in
/-- rules -/
theorem w_rulesX (l : Launch) (hl0 : l.stackTraces = false) (D : va_G) (A : Nat → Prop) (sad : Nat → Nat) (τ : zTy) (fi : zFi) (fr : zFr) (ol : Int64) (L : Nat) (hF : zFix τ fr) (hn : fi 1 1 = nI L) (hn4 : L ≤ 400) (n : Nat) (hT : zTh τ fi fr n) : vx_Met l yX11_rules wsX11_rules ({ frames := 8, cells := 1, slots := 6, locals := 172 }) (va_Pc [.ref (τ.1 0)] (zQc D A sad τ fi fr ol)) (va_Qi (fun (r : Int32) (u : zFi) => (∃ m D9, zRls (fi 2) L (fun t9 => fi (300 + t9) 1) n 401 (zS (fi 2) L 0) (zDru fi) 0 = .ok (m, D9) ∧ r = nI m ∧ u 0 14 = -1 ∧ zDru u = D9) ∧ u 1 1 = nI 0 ∧ ∀ i k, ¬ (i = 1 ∨ i = 10 ∨ i = 11 ∨ i = 13 ∨ i = 14 ∨ (i = 0 ∧ k = 14)) → u i k = fi i k) (fun (u : zFi) (t : State) => zH D A τ u fr ol t t.heap) A) (vx_X (fun u : zFi => True) (fun (E : String) (u : zFi) (t : State) => (E = "java/lang/IllegalArgumentException" ∧ (∃ p, p ≤ 400 ∧ zRls (fi 2) L (fun t9 => fi (300 + t9) 1) n 401 (zS (fi 2) L 0) (zDru fi) 0 = .error p ∧ u 0 14 = nI p ∧ zDru u = zDru fi) ∧ u 1 1 = nI 0 ∧ ∀ i k, ¬ (i = 1 ∨ i = 10 ∨ i = 11 ∨ i = 13 ∨ i = 14 ∨ (i = 0 ∧ k = 14)) → u i k = fi i k) ∧ zH D A τ u fr ol t t.heap) A) 1 6 A := by
  refine vx_ofW (cc := cX11_rules) (maxL := 4) (ret := (some .int)) (by decide) rfl ?_
  intro p9 e9 s m args below meth c9 s₁ B hml ht0 hv
  obtain ⟨rfl, hz, hH, hA⟩ := hv
  have hx := B.exec
  have hb := B.bytes
  have hr := B.returns
  have hts := atoms_spec (ws := wsX11_rules) B.pre
  have hown : s.vm.findClass RX11 = some m.cls := findClass_of_methodNamed B.named
  have hlocks := B.notSynchronized
  have hS : va_S A s.heap s.heap [] := va_S.rf
  have hl := lv_entry ([.ref (τ.1 0)]) (n := 4) (Nat.le_of_ble_eq_true rfl)
  rw [lg_entry_eq]
  generalize (lg_sl ([.ref (τ.1 0)]) ++ List.replicate (4 - (lg_sl ([.ref (τ.1 0)])).length) Slot.unset).toArray = ls at hl ⊢
  have hl : lv_has ls 4 [(0, .ref (τ.1 0))] := hl
  have hn30 := hT.1
  have hT0 := hT
  have hiX11 : ∀ w ∈ u_ws RX11 TX11 16, w ∈ wsX11_rules := fun _ h => List.mem_cons_of_mem _ (List.mem_append_left _ (List.mem_append_left _ (List.mem_append_left _ (List.mem_append_left _ (List.mem_append_left _ (List.mem_append_right _ h))))))
  have hw1 := hts (.fieldLink RX11 37 "PostHouse" "draft" "LPostHouse$Rules;") (by decide +kernel)
  have hw2 := hts (.fieldLink RX11 33 "PostHouse" "rules" "LPostHouse$Rules;") (by decide +kernel)
  have hw3 := hts (.fieldLink RX11 10 "PostHouse" "tape" "LPostHouse$Tape;") (by decide +kernel)
  have hw4 := hts (.fieldLink RX11 72 "PostHouse" "fault" "I") (by decide +kernel)
  have hw5 := hts (.classLink RX11 91 "java/lang/IllegalArgumentException") (by decide +kernel)
  have hw6 := hts (.initialized "java/lang/IllegalArgumentException") (by decide +kernel)
  refine lv_aload_n hx hb dX11_rules_0 rfl (lv_at hl 0 rfl) ?_
  refine zGetR (D := D) (ci := 11) (C := RX11) (T := TX11) (N := 16) hx hb hts hiX11 hown hH (zk_0 hF) rfl 4 (by decide) rfl hw1 (fun _ h9 => h9) dX11_rules_1 (zr_0_4 hF) ?_
  refine lv_aload_n hx hb dX11_rules_4 rfl (lv_at hl 0 rfl) ?_
  refine zGetR (D := D) (ci := 11) (C := RX11) (T := TX11) (N := 16) hx hb hts hiX11 hown hH (zk_0 hF) rfl 3 (by decide) rfl hw2 (fun _ h9 => h9) dX11_rules_5 (zr_0_3 hF) ?_
  refine va_callv (va_runV (As := [.ref (τ.1 9)]) (rest := []) ⟨hx, hb, hml, hown, hts⟩ (c_copyD l hl0 D A sad τ fi fr ol hF) (cwV 1 hts gX11_rules_X5_copy rfl rfl rfl (by decide +kernel) ⟨Nat.le_of_ble_eq_true rfl, Nat.le_of_ble_eq_true rfl⟩) ⟨zQc_bl, zRecv hH (zk_12 hF) rfl, zQc_at hz hS hA hH⟩ rfl rfl hl.1 rfl (lv_room (Nat.le_of_ble_eq_true rfl)) dX11_rules_8 ⟨Nat.le_of_ble_eq_true rfl, Nat.le_of_ble_eq_true rfl⟩) hS (fun q _ h => h) (fun q h => h) (fun u9 t9 H1 locs ht9 hvm9 hw hB hz1 hk1 hS => ?_)
  have hH := zMv ht9 hvm9 hB
  clear hB
  generalize u9 = f102 at hw hH
  generalize H1 = H at hH hS ⊢
  have hc_copyD := hw
  have hf103 : ∀ i k, ¬ (i = 13 ∨ i = 14) → f102 i k = fi i k := fun i k h => by rw [hw]; show (if _ then _ else if _ then _ else _) = _; rw [if_neg (by omega), if_neg (by omega)]
  have q104 : f102 1 1 = nI L := by rw [hf103 1 1 (by omega)]; exact hn
  have hT := zTh.ci (fi' := f102) hT (fun i9 k9 h9 => hf103 i9 k9 (by omega))
  refine lv_aload_n hx hb dX11_rules_11 rfl (lv_at hl 0 rfl) ?_
  refine zGetR (D := D) (ci := 11) (C := RX11) (T := TX11) (N := 16) hx hb hts hiX11 hown hH (zk_0 hF) rfl 0 (by decide) rfl hw3 (fun _ h9 => h9) dX11_rules_12 (zr_0_0 hF) ?_
  refine va_callv (va_runV (As := []) (rest := []) ⟨hx, hb, hml, hown, hts⟩ (t_open l hl0 D A sad τ f102 fr ol L hF q104 (by omega)) (cwV 0 hts gX11_rules_X7_open rfl rfl rfl (by decide +kernel) ⟨Nat.le_of_ble_eq_true rfl, Nat.le_of_ble_eq_true rfl⟩) ⟨zQc_bl, zRecv hH (zk_1 hF) rfl, zQc_at hz hS hA hH⟩ rfl rfl hl.1 rfl (lv_room (Nat.le_of_ble_eq_true rfl)) dX11_rules_15 ⟨Nat.le_of_ble_eq_true rfl, Nat.le_of_ble_eq_true rfl⟩) hS (fun q _ h => h) (fun q h => h) (fun u9 t9 H1 locs ht9 hvm9 hw hB hz1 hk1 hS => ?_)
  have hH := zMv ht9 hvm9 hB
  clear hB
  generalize u9 = f106 at hw hH
  generalize H1 = H at hH hS ⊢
  obtain ⟨b7, e7, h7⟩ := hw
  obtain ⟨b107, hb108, q109, hf110⟩ := (⟨b7, h7.2.1, by rw [e7]; exact zu_s, fun i k q => by rw [e7, zu_n (by omega), zu_n (by omega)]⟩ : zTw f102 L f106)
  have q111 : f106 1 1 = nI L := by rw [hf110 1 1 (by omega)]; exact q104
  have hT := zTh.ci (fi' := f106) hT (fun i9 k9 h9 => hf110 i9 k9 (by omega))
  refine lv_iconst (v := nI 0) hx hb dX11_rules_18 (by decide) ?_
  refine lv_istore_n (lv' := [(1, .int (nI 0)), (0, .ref (τ.1 0))]) hx hb dX11_rules_19 rfl hl (by decide) rfl (fun ls hl => ?_)
  refine lv_iconst (v := nI 1) hx hb dX11_rules_20 (by decide) ?_
  refine lv_istore_n (lv' := [(2, .int (nI 1)), (1, .int (nI 0)), (0, .ref (τ.1 0))]) hx hb dX11_rules_21 rfl hl (by decide) rfl (fun ls hl => ?_)
  refine lv_iconst (v := nI 0) hx hb dX11_rules_22 (by decide) ?_
  refine lv_istore_n (lv' := [(3, .int (nI 0)), (2, .int (nI 1)), (1, .int (nI 0)), (0, .ref (τ.1 0))]) hx hb dX11_rules_23 rfl hl (by decide) rfl (fun ls hl => ?_)
  refine zLp (σ := Nat × Int32 × zFi) (fun x9 k9 H locs ls => (fun (i : Nat) (y : Int32) (f : zFi) => k9 = 400 - i ∧ (i ≤ 400 ∧ (∃ b, b ≤ L ∧ f 1 2 = nI b ∧ zLi (zRls (fi 2) L (fun t9 => fi (300 + t9) 1) n 401 (zS (fi 2) L 0) (zDru fi) 0) (fi 2) (fun t9 => fi (300 + t9) 1) L n i y b f) ∧ ∀ a b, ¬ ((a = 1 ∧ 2 ≤ b) ∨ a = 13 ∨ a = 14) → f a b = fi a b) ∧ zH D A τ f fr ol s H ∧ va_S A s.heap H locs ∧ lv_has ls 4 [(0, .ref (τ.1 0)), (1, .int (nI i)), (2, .int y), (3, .int (nI i))]) x9.1 x9.2.1 x9.2.2) (0, nI 1, f106) (400 - 0) (show 400 - 0 = 400 - 0 ∧ (0 ≤ 400 ∧ (∃ b, b ≤ L ∧ f106 1 2 = nI b ∧ zLi (zRls (fi 2) L (fun t9 => fi (300 + t9) 1) n 401 (zS (fi 2) L 0) (zDru fi) 0) (fi 2) (fun t9 => fi (300 + t9) 1) L n 0 (nI 1) b f106) ∧ ∀ a b, ¬ ((a = 1 ∧ 2 ≤ b) ∨ a = 13 ∨ a = 14) → f106 a b = fi a b) ∧ zH D A τ f106 fr ol s _ ∧ va_S A s.heap _ _ ∧ lv_has _ 4 [(0, .ref (τ.1 0)), (1, .int (nI 0)), (2, .int (nI 1)), (3, .int (nI 0))] from ⟨rfl, ⟨Nat.zero_le _, ⟨b7, h7.2.1, by rw [e7]; exact zu_s, Or.inr ⟨by rw [e7, zu_n (by omega)]; exact zu_s, Or.inl ⟨rfl, by omega, zLi.init hc_copyD e7 h7⟩⟩⟩, fun a b h => by rw [hf110 a b (by omega), hf103 a b (by omega)]⟩, hH, hS, lv_sub hl [3, 2, 1, 0] rfl⟩) (fun k9 ih x9 H locs ls hv9 => ?_)
  obtain ⟨i, y, f⟩ := x9
  have hv9 : k9 = 400 - i ∧ (i ≤ 400 ∧ (∃ b, b ≤ L ∧ f 1 2 = nI b ∧ zLi (zRls (fi 2) L (fun t9 => fi (300 + t9) 1) n 401 (zS (fi 2) L 0) (zDru fi) 0) (fi 2) (fun t9 => fi (300 + t9) 1) L n i y b f) ∧ ∀ a b, ¬ ((a = 1 ∧ 2 ≤ b) ∨ a = 13 ∨ a = 14) → f a b = fi a b) ∧ zH D A τ f fr ol s H ∧ va_S A s.heap H locs ∧ lv_has ls 4 [(0, .ref (τ.1 0)), (1, .int (nI i)), (2, .int y), (3, .int (nI i))] := hv9
  obtain ⟨hkih112, hv9, hH, hS, hl⟩ := hv9
  obtain ⟨h1, hpos, hfr⟩ := hv9
  have ih112 := ih
  clear ih
  obtain ⟨b6, hb6, q6, hli⟩ := hpos
  have q5 : f 1 1 = nI L := by rw [hfr 1 1 (by omega)]; exact hn
  have hT := zTh.ci (fi' := f) hT0 (fun i9 k9 h9 => hfr i9 k9 (by omega))
  refine lv_iload_n hx hb dX11_rules_24 rfl (lv_at hl 3 rfl) ?_
  refine lv_sipush (v := nI 400) hx hb dX11_rules_25 (by decide) ?_
  refine lv_icmp_ge (tgt := 58) hx hb dX11_rules_28 (by decide) (fun c113 => ?_) (fun c113 => ?_)
  · have zc113 := c113
    replace zc113 := zc_le (nI_toInt (by omega)) (nI_toInt (by omega)) zc113
    refine lv_aload_n hx hb dX11_rules_58 rfl (lv_at hl 0 rfl) ?_
    refine va_callv (va_runV (As := []) (rest := []) ⟨hx, hb, hml, hown, hts⟩ (c_closeTape l hl0 D A sad τ f fr ol L b6 hF q5 q6 (by omega) (by omega)) (cwV 0 hts gX11_rules_X11_closeTape rfl rfl rfl (by decide +kernel) ⟨Nat.le_of_ble_eq_true rfl, Nat.le_of_ble_eq_true rfl⟩) ⟨zQc_bl, zRecv hH (zk_0 hF) rfl, zQc_at hz hS hA hH⟩ rfl rfl hl.1 rfl (lv_room (Nat.le_of_ble_eq_true rfl)) dX11_rules_59 ⟨Nat.le_of_ble_eq_true rfl, Nat.le_of_ble_eq_true rfl⟩) hS (fun q _ h => h) (fun q h => h) (fun u9 t9 H1 locs ht9 hvm9 hw hB hz1 hk1 hS => ?_)
    have hH := zMv ht9 hvm9 hB
    clear hB
    generalize u9 = f115 at hw hH
    generalize H1 = H at hH hS ⊢
    obtain ⟨w116, hcl, q117, q118, hf119⟩ := hw
    have hex := hli.exit hn4 hb6 (by omega) hcl
    have q120 : f115 1 2 = nI b6 := by rw [hf119 1 2 (by omega)]; exact q6
    have hT := zTh.ci (fi' := f115) hT (fun i9 k9 h9 => hf119 i9 k9 (by omega))
    refine lv_aload_n hx hb dX11_rules_62 rfl (lv_at hl 0 rfl) ?_
    refine zGetI (D := D) (ci := 11) (C := RX11) (T := TX11) (N := 16) hx hb hts hiX11 hown hH (zk_0 hF) rfl 14 (by decide) rfl hw4 (fun _ h9 => h9) dX11_rules_63 q117 ?_
    refine lv_iconst (v := (-1)) hx hb dX11_rules_66 (by decide) ?_
    refine lv_icmp_eq (tgt := 80) hx hb dX11_rules_67 (by decide) (fun c121 => ?_) (fun c121 => ?_)
    · have zc121 := c121
      replace zc121 := zc_eq (rfl) ((by decide : ((-1) : Int32).toInt = (-1))) zc121
      refine lv_aload_n hx hb dX11_rules_80 rfl (lv_at hl 0 rfl) ?_
      refine zGetR (D := D) (ci := 11) (C := RX11) (T := TX11) (N := 16) hx hb hts hiX11 hown hH (zk_0 hF) rfl 3 (by decide) rfl hw2 (fun _ h9 => h9) dX11_rules_81 (zr_0_3 hF) ?_
      refine lv_aload_n hx hb dX11_rules_84 rfl (lv_at hl 0 rfl) ?_
      refine zGetR (D := D) (ci := 11) (C := RX11) (T := TX11) (N := 16) hx hb hts hiX11 hown hH (zk_0 hF) rfl 4 (by decide) rfl hw1 (fun _ h9 => h9) dX11_rules_85 (zr_0_4 hF) ?_
      refine va_callv (va_runV (As := [.ref (τ.1 12)]) (rest := []) ⟨hx, hb, hml, hown, hts⟩ (c_copyR l hl0 D A sad τ f115 fr ol hF) (cwV 1 hts gX11_rules_X5_copy rfl rfl rfl (by decide +kernel) ⟨Nat.le_of_ble_eq_true rfl, Nat.le_of_ble_eq_true rfl⟩) ⟨zQc_bl, zRecv hH (zk_9 hF) rfl, zQc_at hz hS hA hH⟩ rfl rfl hl.1 rfl (lv_room (Nat.le_of_ble_eq_true rfl)) dX11_rules_88 ⟨Nat.le_of_ble_eq_true rfl, Nat.le_of_ble_eq_true rfl⟩) hS (fun q _ h => h) (fun q h => h) (fun u9 t9 H1 locs ht9 hvm9 hw hB hz1 hk1 hS => ?_)
      have hH := zMv ht9 hvm9 hB
      clear hB
      generalize u9 = f123 at hw hH
      generalize H1 = H at hH hS ⊢
      have hc_copyR := hw
      have hf124 : ∀ i k, ¬ (i = 10 ∨ i = 11) → f123 i k = f115 i k := fun i k h => by rw [hw]; show (if _ then _ else if _ then _ else _) = _; rw [if_neg (by omega), if_neg (by omega)]
      have q125 : f123 1 2 = nI b6 := by rw [hf124 1 2 (by omega)]; exact q120
      have q126 : f123 0 14 = w116 := by rw [hf124 0 14 (by omega)]; exact q117
      have q127 : f123 1 1 = nI 0 := by rw [hf124 1 1 (by omega)]; exact q118
      have hT := zTh.ci (fi' := f123) hT (fun i9 k9 h9 => hf124 i9 k9 (by omega))
      refine lv_iload_n hx hb dX11_rules_91 rfl (lv_at hl 1 rfl) ?_
      refine W.widen (k := 1) (n := 6) (by decide) (by decide) ?_
      refine vx_ret ?_
      exact W.iret (v := nI i) hx hb hr (fun t9 ht9 hW9 => ⟨⟨nI i, f123, rfl, ⟨by rcases hex with ⟨p8, p81, p82, p83⟩ | ⟨p81, p82⟩; (exact absurd (p82.symm.trans c121) (nI_ne1 p81)); (exact ⟨i, _, p82, rfl, by rw [q126]; exact p81, by rw [zDru_of hc_copyR]; exact zDft_cg (fun i k q => hf119 i k (by omega))⟩), ⟨q127, fun i k h => by rw [hf124 i k (by omega), hf119 i k (by omega)]; exact hfr i k (by omega)⟩⟩, zEnd1 hH ht9 hW9⟩, hS.F ht9⟩) hS.2.2 dX11_rules_92
    · have zc121 := c121
      replace zc121 := zc_neq (rfl) ((by decide : ((-1) : Int32).toInt = (-1))) zc121
      obtain ⟨a128, ha128⟩ := hz.1.2.2.2.2.1 _ (List.mem_of_getElem? (i := 7) rfl)
      have hat : ∀ w ∈ vx_atS RX11 95 "java/lang/IllegalArgumentException" ["java/lang/RuntimeException", "java/lang/Exception"], w.before _ s = true := vx_hat (fun w h => hts w (List.mem_cons_of_mem _ (List.mem_append_right _ h))) (B := [.castable "java/lang/IllegalArgumentException" "java/lang/IllegalArgumentException", .declares (Bundle.initS "java/lang/RuntimeException"), .declares (Bundle.initS "java/lang/Exception"), .declares (Bundle.initS Bundle.tN)]) (by decide +kernel) (vx_c (va_Nw.use rfl (hz.1.2.2.2.2.2.2.2.1 _ (List.mem_of_getElem? (i := 1) rfl))) (vx_c (va_Nw.use rfl (hz.1.2.2.2.2.2.2.2.2 _ (List.mem_of_getElem? (i := 0) rfl))) (vx_c (va_Nw.use rfl (hz.1.2.2.2.2.2.2.2.2 _ (List.mem_of_getElem? (i := 1) rfl))) (vx_c (va_Nw.use rfl (hz.1.2.2.2.2.2.2.2.2 _ (List.mem_of_getElem? (i := 2) rfl))) vx_n))))
      exact vx_throwS hx hb hl0 (own := RX11) (cls := "java/lang/IllegalArgumentException") (text := "the text of the rules is wrong") (names := ["java/lang/RuntimeException", "java/lang/Exception"]) hown (by decide +kernel) (by decide +kernel) hw5 hw6 ha128 hat (by decide +kernel) hz.1.1 hz.1.2.1 hS (by rw [hml]; exact hl.1) dX11_rules_70 dX11_rules_73 dX11_rules_74 dX11_rules_76 dX11_rules_79 (fun x h9 => (ht0 x h9).elim) (Nat.le_of_ble_eq_true rfl) (Nat.le_of_ble_eq_true rfl) (Nat.le_of_ble_eq_true rfl) (Nat.le_of_ble_eq_true rfl) hlocks (fun t9 hvm9 h91 h92 => ⟨f115, trivial, ⟨⟨rfl, by rcases hex with ⟨p8, p81, p82, p83⟩ | ⟨p81, p82⟩; (exact ⟨p8, p81, p83, by rw [q117]; exact p82, zDru_cg (fun i k h => by rw [hf119 i k (by omega)]; exact hfr i k (by omega))⟩); exact absurd p81 c121, ⟨q118, fun i k h => by rw [hf119 i k (by omega)]; exact hfr i k (by omega)⟩⟩, zThr hH hvm9 h92⟩, zF2 hS h91 h92⟩) hS.2.2 (by decide) (by decide)
  · have zc113 := c113
    replace zc113 := zc_nle (nI_toInt (by omega)) (nI_toInt (by omega)) zc113
    refine lv_iload_n hx hb dX11_rules_31 rfl (lv_at hl 2 rfl) ?_
    refine lv_if_eq (tgt := 58) hx hb dX11_rules_32 (by decide) (fun c129 => ?_) (fun c129 => ?_)
    · have zc129 := c129
      replace zc129 := zc_eq (rfl) ((by decide : (0 : Int32).toInt = 0)) zc129
      refine lv_aload_n hx hb dX11_rules_58 rfl (lv_at hl 0 rfl) ?_
      refine va_callv (va_runV (As := []) (rest := []) ⟨hx, hb, hml, hown, hts⟩ (c_closeTape l hl0 D A sad τ f fr ol L b6 hF q5 q6 (by omega) (by omega)) (cwV 0 hts gX11_rules_X11_closeTape rfl rfl rfl (by decide +kernel) ⟨Nat.le_of_ble_eq_true rfl, Nat.le_of_ble_eq_true rfl⟩) ⟨zQc_bl, zRecv hH (zk_0 hF) rfl, zQc_at hz hS hA hH⟩ rfl rfl hl.1 rfl (lv_room (Nat.le_of_ble_eq_true rfl)) dX11_rules_59 ⟨Nat.le_of_ble_eq_true rfl, Nat.le_of_ble_eq_true rfl⟩) hS (fun q _ h => h) (fun q h => h) (fun u9 t9 H1 locs ht9 hvm9 hw hB hz1 hk1 hS => ?_)
      have hH := zMv ht9 hvm9 hB
      clear hB
      generalize u9 = f131 at hw hH
      generalize H1 = H at hH hS ⊢
      obtain ⟨w132, hcl, q133, q134, hf135⟩ := hw
      have hex := hli.exit hn4 hb6 (by omega) hcl
      have q136 : f131 1 2 = nI b6 := by rw [hf135 1 2 (by omega)]; exact q6
      have hT := zTh.ci (fi' := f131) hT (fun i9 k9 h9 => hf135 i9 k9 (by omega))
      refine lv_aload_n hx hb dX11_rules_62 rfl (lv_at hl 0 rfl) ?_
      refine zGetI (D := D) (ci := 11) (C := RX11) (T := TX11) (N := 16) hx hb hts hiX11 hown hH (zk_0 hF) rfl 14 (by decide) rfl hw4 (fun _ h9 => h9) dX11_rules_63 q133 ?_
      refine lv_iconst (v := (-1)) hx hb dX11_rules_66 (by decide) ?_
      refine lv_icmp_eq (tgt := 80) hx hb dX11_rules_67 (by decide) (fun c137 => ?_) (fun c137 => ?_)
      · have zc137 := c137
        replace zc137 := zc_eq (rfl) ((by decide : ((-1) : Int32).toInt = (-1))) zc137
        refine lv_aload_n hx hb dX11_rules_80 rfl (lv_at hl 0 rfl) ?_
        refine zGetR (D := D) (ci := 11) (C := RX11) (T := TX11) (N := 16) hx hb hts hiX11 hown hH (zk_0 hF) rfl 3 (by decide) rfl hw2 (fun _ h9 => h9) dX11_rules_81 (zr_0_3 hF) ?_
        refine lv_aload_n hx hb dX11_rules_84 rfl (lv_at hl 0 rfl) ?_
        refine zGetR (D := D) (ci := 11) (C := RX11) (T := TX11) (N := 16) hx hb hts hiX11 hown hH (zk_0 hF) rfl 4 (by decide) rfl hw1 (fun _ h9 => h9) dX11_rules_85 (zr_0_4 hF) ?_
        refine va_callv (va_runV (As := [.ref (τ.1 12)]) (rest := []) ⟨hx, hb, hml, hown, hts⟩ (c_copyR l hl0 D A sad τ f131 fr ol hF) (cwV 1 hts gX11_rules_X5_copy rfl rfl rfl (by decide +kernel) ⟨Nat.le_of_ble_eq_true rfl, Nat.le_of_ble_eq_true rfl⟩) ⟨zQc_bl, zRecv hH (zk_9 hF) rfl, zQc_at hz hS hA hH⟩ rfl rfl hl.1 rfl (lv_room (Nat.le_of_ble_eq_true rfl)) dX11_rules_88 ⟨Nat.le_of_ble_eq_true rfl, Nat.le_of_ble_eq_true rfl⟩) hS (fun q _ h => h) (fun q h => h) (fun u9 t9 H1 locs ht9 hvm9 hw hB hz1 hk1 hS => ?_)
        have hH := zMv ht9 hvm9 hB
        clear hB
        generalize u9 = f139 at hw hH
        generalize H1 = H at hH hS ⊢
        have hc_copyR := hw
        have hf140 : ∀ i k, ¬ (i = 10 ∨ i = 11) → f139 i k = f131 i k := fun i k h => by rw [hw]; show (if _ then _ else if _ then _ else _) = _; rw [if_neg (by omega), if_neg (by omega)]
        have q141 : f139 1 2 = nI b6 := by rw [hf140 1 2 (by omega)]; exact q136
        have q142 : f139 0 14 = w132 := by rw [hf140 0 14 (by omega)]; exact q133
        have q143 : f139 1 1 = nI 0 := by rw [hf140 1 1 (by omega)]; exact q134
        have hT := zTh.ci (fi' := f139) hT (fun i9 k9 h9 => hf140 i9 k9 (by omega))
        refine lv_iload_n hx hb dX11_rules_91 rfl (lv_at hl 1 rfl) ?_
        refine W.widen (k := 1) (n := 6) (by decide) (by decide) ?_
        refine vx_ret ?_
        exact W.iret (v := nI i) hx hb hr (fun t9 ht9 hW9 => ⟨⟨nI i, f139, rfl, ⟨by rcases hex with ⟨p8, p81, p82, p83⟩ | ⟨p81, p82⟩; (exact absurd (p82.symm.trans c137) (nI_ne1 p81)); (exact ⟨i, _, p82, rfl, by rw [q142]; exact p81, by rw [zDru_of hc_copyR]; exact zDft_cg (fun i k q => hf135 i k (by omega))⟩), ⟨q143, fun i k h => by rw [hf140 i k (by omega), hf135 i k (by omega)]; exact hfr i k (by omega)⟩⟩, zEnd1 hH ht9 hW9⟩, hS.F ht9⟩) hS.2.2 dX11_rules_92
      · have zc137 := c137
        replace zc137 := zc_neq (rfl) ((by decide : ((-1) : Int32).toInt = (-1))) zc137
        obtain ⟨a144, ha144⟩ := hz.1.2.2.2.2.1 _ (List.mem_of_getElem? (i := 7) rfl)
        have hat : ∀ w ∈ vx_atS RX11 95 "java/lang/IllegalArgumentException" ["java/lang/RuntimeException", "java/lang/Exception"], w.before _ s = true := vx_hat (fun w h => hts w (List.mem_cons_of_mem _ (List.mem_append_right _ h))) (B := [.castable "java/lang/IllegalArgumentException" "java/lang/IllegalArgumentException", .declares (Bundle.initS "java/lang/RuntimeException"), .declares (Bundle.initS "java/lang/Exception"), .declares (Bundle.initS Bundle.tN)]) (by decide +kernel) (vx_c (va_Nw.use rfl (hz.1.2.2.2.2.2.2.2.1 _ (List.mem_of_getElem? (i := 1) rfl))) (vx_c (va_Nw.use rfl (hz.1.2.2.2.2.2.2.2.2 _ (List.mem_of_getElem? (i := 0) rfl))) (vx_c (va_Nw.use rfl (hz.1.2.2.2.2.2.2.2.2 _ (List.mem_of_getElem? (i := 1) rfl))) (vx_c (va_Nw.use rfl (hz.1.2.2.2.2.2.2.2.2 _ (List.mem_of_getElem? (i := 2) rfl))) vx_n))))
        exact vx_throwS hx hb hl0 (own := RX11) (cls := "java/lang/IllegalArgumentException") (text := "the text of the rules is wrong") (names := ["java/lang/RuntimeException", "java/lang/Exception"]) hown (by decide +kernel) (by decide +kernel) hw5 hw6 ha144 hat (by decide +kernel) hz.1.1 hz.1.2.1 hS (by rw [hml]; exact hl.1) dX11_rules_70 dX11_rules_73 dX11_rules_74 dX11_rules_76 dX11_rules_79 (fun x h9 => (ht0 x h9).elim) (Nat.le_of_ble_eq_true rfl) (Nat.le_of_ble_eq_true rfl) (Nat.le_of_ble_eq_true rfl) (Nat.le_of_ble_eq_true rfl) hlocks (fun t9 hvm9 h91 h92 => ⟨f131, trivial, ⟨⟨rfl, by rcases hex with ⟨p8, p81, p82, p83⟩ | ⟨p81, p82⟩; (exact ⟨p8, p81, p83, by rw [q133]; exact p82, zDru_cg (fun i k h => by rw [hf135 i k (by omega)]; exact hfr i k (by omega))⟩); exact absurd p81 c137, ⟨q134, fun i k h => by rw [hf135 i k (by omega)]; exact hfr i k (by omega)⟩⟩, zThr hH hvm9 h92⟩, zF2 hS h91 h92⟩) hS.2.2 (by decide) (by decide)
    · have zc129 := c129
      replace zc129 := zc_neq (rfl) ((by decide : (0 : Int32).toInt = 0)) zc129
      refine lv_aload_n hx hb dX11_rules_35 rfl (lv_at hl 0 rfl) ?_
      refine va_callv (va_runV (As := []) (rest := []) ⟨hx, hb, hml, hown, hts⟩ (w_readRuleX l hl0 D A sad τ f fr ol L b6 hF q5 q6 (by omega) (by omega) n hT) (cwV 0 hts gX11_rules_X11_readRule rfl rfl rfl (by decide +kernel) ⟨Nat.le_of_ble_eq_true rfl, Nat.le_of_ble_eq_true rfl⟩) ⟨zQc_bl, zRecv hH (zk_0 hF) rfl, zQc_at hz hS hA hH⟩ rfl rfl hl.1 rfl (lv_room (Nat.le_of_ble_eq_true rfl)) dX11_rules_36 ⟨Nat.le_of_ble_eq_true rfl, Nat.le_of_ble_eq_true rfl⟩) hS (fun q _ h => h) (fun q h => h) (fun u9 t9 H1 locs ht9 hvm9 hw hB hz1 hk1 hS => ?_)
      have hH := zMv ht9 hvm9 hB
      clear hB
      generalize u9 = f146 at hw hH
      generalize H1 = H at hH hS ⊢
      obtain ⟨hru, ⟨b147, hb148, q149⟩, hf150⟩ := hw
      have q151 : f146 1 1 = nI L := by rw [hf150 1 1 (by omega)]; exact q5
      have hT := zTh.ci (fi' := f146) hT (fun i9 k9 h9 => hf150 i9 k9 (by omega))
      refine lv_iinc (v := nI (i + 1)) (lv' := [(1, .int (nI (i + 1))), (0, .ref (τ.1 0)), (2, .int y), (3, .int (nI i))]) hx hb dX11_rules_39 hl (k := 1) rfl (by rw [show (Int32.ofInt 1 : Int32) = nI 1 from by decide, nI_add]) (by decide) rfl (fun ls hl => ?_)
      refine lv_aload_n hx hb dX11_rules_42 rfl (lv_at hl 1 rfl) ?_
      refine zGetR (D := D) (ci := 11) (C := RX11) (T := TX11) (N := 16) hx hb hts hiX11 hown hH (zk_0 hF) rfl 0 (by decide) rfl hw3 (fun _ h9 => h9) dX11_rules_43 (zr_0_0 hF) ?_
      refine lv_bipush (v := nI 59) hx hb dX11_rules_46 (by decide) ?_
      refine va_calli (va_runV (As := [.int (nI 59)]) (rest := []) ⟨hx, hb, hml, hown, hts⟩ (t_takesSign l hl0 D A sad τ f146 fr ol L b147 hF q151 q149 (by omega) (by omega) (nI 59)) (cwV 1 hts gX11_rules_X7_takesSign rfl rfl rfl (by decide +kernel) ⟨Nat.le_of_ble_eq_true rfl, Nat.le_of_ble_eq_true rfl⟩) ⟨zQc_bl, zRecv hH (zk_1 hF) rfl, zQc_at hz hS hA hH⟩ rfl rfl hl.1 rfl (lv_room (Nat.le_of_ble_eq_true rfl)) dX11_rules_48 ⟨Nat.le_of_ble_eq_true rfl, Nat.le_of_ble_eq_true rfl⟩) hS (fun q _ h => h) (fun q h => h) (fun r152 u9 t9 H1 locs ht9 hvm9 hw hB hz1 hk1 hS => ?_)
      have hH := zMv ht9 hvm9 hB
      clear hB
      generalize u9 = f153 at hw hH
      generalize H1 = H at hH hS ⊢
      have hsn := hw
      have hsg : r152 = 1 ∨ r152 = 0 := hw.elim (fun h => Or.inl h.1) (fun h => Or.inr h.1)
      obtain ⟨b154, hb155, q156, hf157⟩ := zTw.sign q149 (by omega) hw
      have q158 : f153 1 1 = nI L := by rw [hf157 1 1 (by omega)]; exact q151
      have hT := zTh.ci (fi' := f153) hT (fun i9 k9 h9 => hf157 i9 k9 (by omega))
      refine lv_istore_n (lv' := [(2, .int r152), (1, .int (nI (i + 1))), (0, .ref (τ.1 0)), (3, .int (nI i))]) hx hb dX11_rules_51 rfl hl (by decide) rfl (fun ls hl => ?_)
      refine lv_iinc (v := nI (i + 1)) (lv' := [(3, .int (nI (i + 1))), (2, .int r152), (1, .int (nI (i + 1))), (0, .ref (τ.1 0))]) hx hb dX11_rules_52 hl (k := 3) rfl (by rw [show (Int32.ofInt 1 : Int32) = nI 1 from by decide, nI_add]) (by decide) rfl (fun ls hl => ?_)
      refine lv_goto (tgt := 24) hx hb dX11_rules_55 (by decide) ?_
      exact ih112 (400 - (i + 1)) (by omega) (i + 1, r152, f153) _ _ _ (show 400 - (i + 1) = 400 - (i + 1) ∧ ((i + 1) ≤ 400 ∧ (∃ b, b ≤ L ∧ f153 1 2 = nI b ∧ zLi (zRls (fi 2) L (fun t9 => fi (300 + t9) 1) n 401 (zS (fi 2) L 0) (zDru fi) 0) (fi 2) (fun t9 => fi (300 + t9) 1) L n (i + 1) r152 b f153) ∧ ∀ a b, ¬ ((a = 1 ∧ 2 ≤ b) ∨ a = 13 ∨ a = 14) → f153 a b = fi a b) ∧ zH D A τ f153 fr ol s _ ∧ va_S A s.heap _ _ ∧ lv_has _ 4 [(0, .ref (τ.1 0)), (1, .int (nI (i + 1))), (2, .int r152), (3, .int (nI (i + 1)))] from ⟨rfl, ⟨by omega, ⟨b154, by omega, q156, hli.step hn4 hb6 (by omega) (by omega) (by funext k; exact hfr 2 k (by omega)) (by funext k; exact hfr (300 + k) 1 (by omega)) hru q149 (by omega) (by funext k; rw [hf150 2 k (by omega)]; exact hfr 2 k (by omega)) (by decide) hsn q156 (by omega)⟩, fun a b h => by rw [hf157 a b (by omega), hf150 a b (by omega)]; exact hfr a b h⟩, hH, hS, lv_sub hl [3, 2, 1, 0] rfl⟩)
set_option maxHeartbeats 4000000 in
set_option maxRecDepth 100000 in
/-- readLetter -/
theorem w_readLetterX (l : Launch) (hl0 : l.stackTraces = false) (D : va_G) (A : Nat → Prop) (sad : Nat → Nat) (τ : zTy) (fi : zFi) (fr : zFr) (ol : Int64) (L a : Nat) (hF : zFix τ fr) (hn : fi 1 1 = nI L) (ha : fi 1 2 = nI a) (hn4 : L ≤ 400) (han : a ≤ L) (q : Nat) (hq5 : q ≤ 512) (hL : zLk τ fr q) (h13 : fi 1 3 = -1) (hlz : fi (3000 + q) 2 = nI 0) : Met l yX11_readLetter wsX11_readLetter ({ frames := 6, cells := 0, slots := 0, locals := 129 }) (va_Pc [.ref (τ.1 0), .ref (τ.1 (3000 + q))] (zQc D A sad τ fi fr ol)) (va_Qv (fun (u : zFi) => zLrd (zLe0 (fi 2) L a) q u ∧ (∃ b, b ≤ L ∧ u 1 2 = nI b) ∧ (∃ l, l ≤ 8 ∧ u (3000 + q) 2 = nI l) ∧ ∀ a b, ¬ ((a = 1 ∧ 2 ≤ b) ∨ (a = 3000 + q ∧ 2 ≤ b ∧ b ≤ 4) ∨ a = 4000 + q ∨ a = 5000 + q) → u a b = fi a b) (fun (u : zFi) (t : State) => zH D A τ u fr ol t t.heap) A) 0 0 A := by
  refine Met.ofW (cc := cX11_readLetter) (maxL := 5) (ret := none) (by decide) rfl ?_
  intro p9 e9 s m args below meth c9 s₁ B hml hv
  obtain ⟨rfl, hz, hH, hA⟩ := hv
  have hx := B.exec
  have hb := B.bytes
  have hr := B.returns
  have hts := atoms_spec (ws := wsX11_readLetter) B.pre
  have hown : s.vm.findClass RX11 = some m.cls := findClass_of_methodNamed B.named
  have hlocks := B.notSynchronized
  have hS : va_S A s.heap s.heap [] := va_S.rf
  have hl := lv_entry ([.ref (τ.1 0), .ref (τ.1 (3000 + q))]) (n := 5) (Nat.le_of_ble_eq_true rfl)
  rw [lg_entry_eq]
  generalize (lg_sl ([.ref (τ.1 0), .ref (τ.1 (3000 + q))]) ++ List.replicate (5 - (lg_sl ([.ref (τ.1 0), .ref (τ.1 (3000 + q))])).length) Slot.unset).toArray = ls at hl ⊢
  have hl : lv_has ls 5 [(0, .ref (τ.1 0)), (1, .ref (τ.1 (3000 + q)))] := hl
  have hiX11 : ∀ w ∈ u_ws RX11 TX11 16, w ∈ wsX11_readLetter := fun _ h => List.mem_cons_of_mem _ (List.mem_append_left _ (List.mem_append_left _ (List.mem_append_right _ h)))
  have hw1 := hts (.fieldLink RX11 10 "PostHouse" "tape" "LPostHouse$Tape;") (by decide +kernel)
  have hw2 := hts (.constant RX11 450 999999) (by decide +kernel)
  have hw3 := hts (.fieldLink RX11 234 "PostHouse$Letter" "sum" "I") (by decide +kernel)
  have hiX2 : ∀ w ∈ u_ws RX2 TX2 10, w ∈ wsX11_readLetter := fun _ h => List.mem_cons_of_mem _ (List.mem_append_left _ (List.mem_append_right _ h))
  have hw5 := hts (.fieldLink RX11 237 "PostHouse$Letter" "money" "I") (by decide +kernel)
  refine lv_iconst (v := nI 1) hx hb dX11_readLetter_0 (by decide) ?_
  refine lv_istore_n (lv' := [(2, .int (nI 1)), (0, .ref (τ.1 0)), (1, .ref (τ.1 (3000 + q)))]) hx hb dX11_readLetter_1 rfl hl (by decide) rfl (fun ls hl => ?_)
  refine lv_iconst (v := nI 0) hx hb dX11_readLetter_2 (by decide) ?_
  refine lv_istore_n (lv' := [(3, .int (nI 0)), (2, .int (nI 1)), (0, .ref (τ.1 0)), (1, .ref (τ.1 (3000 + q)))]) hx hb dX11_readLetter_3 rfl hl (by decide) rfl (fun ls hl => ?_)
  refine zLp (σ := Nat × Int32 × zFi) (fun x9 k9 H locs ls => (fun (i : Nat) (y : Int32) (f : zFi) => k9 = 8 - i ∧ (i ≤ 8 ∧ (∃ b, b ≤ L ∧ f 1 2 = nI b ∧ zLl (zLin (fi 2) L 8 a 0 (fun _ => 0) (fun _ => 0)) (fi 2) L i y b q f) ∧ f (3000 + q) 2 = nI i ∧ ∀ a b, ¬ ((a = 1 ∧ 2 ≤ b) ∨ (a = 3000 + q ∧ 2 ≤ b ∧ b ≤ 4) ∨ a = 4000 + q ∨ a = 5000 + q) → f a b = fi a b) ∧ zH D A τ f fr ol s H ∧ va_S A s.heap H locs ∧ lv_has ls 5 [(0, .ref (τ.1 0)), (1, .ref (τ.1 (3000 + q))), (2, .int y), (3, .int (nI i))]) x9.1 x9.2.1 x9.2.2) (0, nI 1, fi) (8 - 0) (show 8 - 0 = 8 - 0 ∧ (0 ≤ 8 ∧ (∃ b, b ≤ L ∧ fi 1 2 = nI b ∧ zLl (zLin (fi 2) L 8 a 0 (fun _ => 0) (fun _ => 0)) (fi 2) L 0 (nI 1) b q fi) ∧ fi (3000 + q) 2 = nI 0 ∧ ∀ a b, ¬ ((a = 1 ∧ 2 ≤ b) ∨ (a = 3000 + q ∧ 2 ≤ b ∧ b ≤ 4) ∨ a = 4000 + q ∨ a = 5000 + q) → fi a b = fi a b) ∧ zH D A τ fi fr ol s _ ∧ va_S A s.heap _ _ ∧ lv_has _ 5 [(0, .ref (τ.1 0)), (1, .ref (τ.1 (3000 + q))), (2, .int (nI 1)), (3, .int (nI 0))] from ⟨rfl, ⟨Nat.zero_le _, ⟨a, han, ha, Or.inr ⟨h13, (fun _ => 0), (fun _ => 0), fun k h => absurd h (by omega), Or.inl ⟨rfl, by omega, rfl⟩⟩⟩, hlz, fun _ _ _ => rfl⟩, hH, hS, lv_sub hl [2, 3, 1, 0] rfl⟩) (fun k9 ih x9 H locs ls hv9 => ?_)
  obtain ⟨i, y, f⟩ := x9
  have hv9 : k9 = 8 - i ∧ (i ≤ 8 ∧ (∃ b, b ≤ L ∧ f 1 2 = nI b ∧ zLl (zLin (fi 2) L 8 a 0 (fun _ => 0) (fun _ => 0)) (fi 2) L i y b q f) ∧ f (3000 + q) 2 = nI i ∧ ∀ a b, ¬ ((a = 1 ∧ 2 ≤ b) ∨ (a = 3000 + q ∧ 2 ≤ b ∧ b ≤ 4) ∨ a = 4000 + q ∨ a = 5000 + q) → f a b = fi a b) ∧ zH D A τ f fr ol s H ∧ va_S A s.heap H locs ∧ lv_has ls 5 [(0, .ref (τ.1 0)), (1, .ref (τ.1 (3000 + q))), (2, .int y), (3, .int (nI i))] := hv9
  obtain ⟨hkih101, hv9, hH, hS, hl⟩ := hv9
  obtain ⟨h1, hpos, p6, hfr⟩ := hv9
  have ih101 := ih
  clear ih
  obtain ⟨b6, hb6, q6, hll⟩ := hpos
  have q5 : f 1 1 = nI L := by rw [hfr 1 1 (by omega)]; exact hn
  refine lv_iload_n hx hb dX11_readLetter_4 rfl (lv_at hl 3 rfl) ?_
  refine lv_bipush (v := nI 8) hx hb dX11_readLetter_5 (by decide) ?_
  refine lv_icmp_ge (tgt := 81) hx hb dX11_readLetter_7 (by decide) (fun c102 => ?_) (fun c102 => ?_)
  · have zc102 := c102
    replace zc102 := zc_le (nI_toInt (by omega)) (nI_toInt (by omega)) zc102
    refine lv_aload_n hx hb dX11_readLetter_81 rfl (lv_at hl 0 rfl) ?_
    refine zGetR (D := D) (ci := 11) (C := RX11) (T := TX11) (N := 16) hx hb hts hiX11 hown hH (zk_0 hF) rfl 0 (by decide) rfl hw1 (fun _ h9 => h9) dX11_readLetter_82 (zr_0_0 hF) ?_
    refine zLdcW hx hb hown (hz.1.2.2.2.1 7 _ rfl).2 dX11_readLetter_85 ?_
    have hex := hll.exit (by omega)
    refine va_callv (va_runV (As := [.ref (sad 7)]) (rest := []) ⟨hx, hb, hml, hown, hts⟩ (t_needWord l hl0 D A sad τ f fr ol L b6 hF q5 q6 (by omega) (by omega) 7 ((449, "sum", [115, 117, 109])) rfl) (cwV 1 hts gX11_readLetter_X7_needWord rfl rfl rfl (by decide +kernel) ⟨Nat.le_of_ble_eq_true rfl, Nat.le_of_ble_eq_true rfl⟩) ⟨zQc_bl, zRecv hH (zk_1 hF) rfl, zQc_at hz hS hA hH⟩ rfl rfl hl.1 rfl (lv_room (Nat.le_of_ble_eq_true rfl)) dX11_readLetter_88 ⟨Nat.le_of_ble_eq_true rfl, Nat.le_of_ble_eq_true rfl⟩) hS (fun q _ h => h) (fun q h => h) (fun u9 t9 H1 locs ht9 hvm9 hw hB hz1 hk1 hS => ?_)
    have hH := zMv ht9 hvm9 hB
    clear hB
    generalize u9 = f104 at hw hH
    generalize H1 = H at hH hS ⊢
    have hs1 := zStp.need (by omega) (by omega) hw
    obtain ⟨b105, hb106, q107, hf108⟩ := zTw.need q6 (by omega) hw
    have q109 : f104 1 1 = nI L := by rw [hf108 1 1 (by omega)]; exact q5
    have q110 : f104 (3000 + q) 2 = nI i := by rw [hf108 (3000 + q) 2 (by omega)]; exact p6
    refine lv_aload_n hx hb dX11_readLetter_91 rfl (lv_at hl 1 rfl) ?_
    refine lv_aload_n hx hb dX11_readLetter_92 rfl (lv_at hl 0 rfl) ?_
    refine zGetR (D := D) (ci := 11) (C := RX11) (T := TX11) (N := 16) hx hb hts hiX11 hown hH (zk_0 hF) rfl 0 (by decide) rfl hw1 (fun _ h9 => h9) dX11_readLetter_93 (zr_0_0 hF) ?_
    refine lv_iconst (v := nI 0) hx hb dX11_readLetter_96 (by decide) ?_
    refine lv_ldcw (v := nI 999999) hx hb hown hw2 dX11_readLetter_97 ?_
    refine va_calli (va_runV (As := [.int (nI 0), .int (nI 999999)]) (rest := [.ref (τ.1 (3000 + q))]) ⟨hx, hb, hml, hown, hts⟩ (t_number l hl0 D A sad τ f104 fr ol L b105 hF q109 q107 (by omega) (by omega) (nI 0) (nI 999999) (by decide)) (cwV 2 hts gX11_readLetter_X7_number rfl rfl rfl (by decide +kernel) ⟨Nat.le_of_ble_eq_true rfl, Nat.le_of_ble_eq_true rfl⟩) ⟨zQc_bl, zRecv hH (zk_1 hF) rfl, zQc_at hz hS hA hH⟩ rfl rfl hl.1 rfl (lv_room (Nat.le_of_ble_eq_true rfl)) dX11_readLetter_100 ⟨Nat.le_of_ble_eq_true rfl, Nat.le_of_ble_eq_true rfl⟩) hS (fun q _ h => h) (fun q h => h) (fun r111 u9 t9 H1 locs ht9 hvm9 hw hB hz1 hk1 hS => ?_)
    have hH := zMv ht9 hvm9 hB
    clear hB
    generalize u9 = f112 at hw hH
    generalize H1 = H at hH hS ⊢
    have hs2 := zStp.num (by omega) (by omega) hw
    obtain ⟨b113, hb114, q115, hf116⟩ := zTw.num q107 (by omega) hw
    have q117 : f112 1 1 = nI L := by rw [hf116 1 1 (by omega)]; exact q109
    have q118 : f112 (3000 + q) 2 = nI i := by rw [hf116 (3000 + q) 2 (by omega)]; exact q110
    refine zPutI (D := D) (ci := 2) (ty := .int) (C := RX2) (T := TX2) (N := 10) hx hb hts hiX2 tyX2 tyX2_ok nmX2 hown hH hS hL.1.1 rfl 3 (by decide) rfl hw3 (fun _ h9 => h9) rfl (by decide +kernel) rfl rfl dX11_readLetter_103 (fun H locs hH hS => ?_)
    obtain ⟨f119, ef119⟩ : ∃ f9 : zFi, f9 = zu f112 (3000 + q) 3 r111 := ⟨_, rfl⟩
    rw [← ef119] at hH
    have q120 : f119 1 1 = nI L := by rw [ef119, zu_n (fun h9 => by omega)]; exact q117
    have q121 : f119 (3000 + q) 2 = nI i := by rw [ef119, zu_n (fun h9 => absurd h9.2 (by decide))]; exact q118
    have q122 : f119 1 2 = nI b113 := by rw [ef119, zu_n (fun h9 => by omega)]; exact q115
    have q123 : f119 (3000 + q) 3 = r111 := by rw [ef119]; exact zu_s
    refine lv_aload_n hx hb dX11_readLetter_106 rfl (lv_at hl 1 rfl) ?_
    refine lv_aload_n hx hb dX11_readLetter_107 rfl (lv_at hl 0 rfl) ?_
    refine zGetR (D := D) (ci := 11) (C := RX11) (T := TX11) (N := 16) hx hb hts hiX11 hown hH (zk_0 hF) rfl 0 (by decide) rfl hw1 (fun _ h9 => h9) dX11_readLetter_108 (zr_0_0 hF) ?_
    refine zLdcW hx hb hown (hz.1.2.2.2.1 8 _ rfl).2 dX11_readLetter_111 ?_
    refine va_calli (va_runV (As := [.ref (sad 8)]) (rest := [.ref (τ.1 (3000 + q))]) ⟨hx, hb, hml, hown, hts⟩ (t_takesWord l hl0 D A sad τ f119 fr ol L b113 hF q120 q122 (by omega) (by omega) 8 ((451, "money", [109, 111, 110, 101, 121])) rfl) (cwV 1 hts gX11_readLetter_X7_takesWord rfl rfl rfl (by decide +kernel) ⟨Nat.le_of_ble_eq_true rfl, Nat.le_of_ble_eq_true rfl⟩) ⟨zQc_bl, zRecv hH (zk_1 hF) rfl, zQc_at hz hS hA hH⟩ rfl rfl hl.1 rfl (lv_room (Nat.le_of_ble_eq_true rfl)) dX11_readLetter_114 ⟨Nat.le_of_ble_eq_true rfl, Nat.le_of_ble_eq_true rfl⟩) hS (fun q _ h => h) (fun q h => h) (fun r124 u9 t9 H1 locs ht9 hvm9 hw hB hz1 hk1 hS => ?_)
    have hH := zMv ht9 hvm9 hB
    clear hB
    generalize u9 = f125 at hw hH
    generalize H1 = H at hH hS ⊢
    rcases hw with ⟨rfl, hw126, b127, ef125, hs128⟩ | ⟨rfl, hn129, ef125⟩
    · have zhs128 := hs128.1
      have yhs128 := hs128.2.1
      have q130 : f125 1 1 = nI L := by rw [ef125, zu_n (fun h9 => absurd h9.2 (by decide))]; exact q120
      have q131 : f125 (3000 + q) 2 = nI i := by rw [ef125, zu_n (fun h9 => by omega)]; exact q121
      have q132 : f125 (3000 + q) 3 = r111 := by rw [ef125, zu_n (fun h9 => by omega)]; exact q123
      have q133 : f125 1 2 = nI b127 := by rw [ef125]; exact zu_s
      refine lv_if_eq (tgt := 134) hx hb dX11_readLetter_117 (by decide) (fun c134 => absurd c134 (by decide)) (fun c134 => ?_)
      refine lv_aload_n hx hb dX11_readLetter_120 rfl (lv_at hl 0 rfl) ?_
      refine zGetR (D := D) (ci := 11) (C := RX11) (T := TX11) (N := 16) hx hb hts hiX11 hown hH (zk_0 hF) rfl 0 (by decide) rfl hw1 (fun _ h9 => h9) dX11_readLetter_121 (zr_0_0 hF) ?_
      refine lv_iconst (v := nI 0) hx hb dX11_readLetter_124 (by decide) ?_
      refine lv_ldcw (v := nI 999999) hx hb hown hw2 dX11_readLetter_125 ?_
      refine va_calli (va_runV (As := [.int (nI 0), .int (nI 999999)]) (rest := [.ref (τ.1 (3000 + q))]) ⟨hx, hb, hml, hown, hts⟩ (t_number l hl0 D A sad τ f125 fr ol L b127 hF q130 q133 (by omega) (by omega) (nI 0) (nI 999999) (by decide)) (cwV 2 hts gX11_readLetter_X7_number rfl rfl rfl (by decide +kernel) ⟨Nat.le_of_ble_eq_true rfl, Nat.le_of_ble_eq_true rfl⟩) ⟨zQc_bl, zRecv hH (zk_1 hF) rfl, zQc_at hz hS hA hH⟩ rfl rfl hl.1 rfl (lv_room (Nat.le_of_ble_eq_true rfl)) dX11_readLetter_128 ⟨Nat.le_of_ble_eq_true rfl, Nat.le_of_ble_eq_true rfl⟩) hS (fun q _ h => h) (fun q h => h) (fun r135 u9 t9 H1 locs ht9 hvm9 hw hB hz1 hk1 hS => ?_)
      have hH := zMv ht9 hvm9 hB
      clear hB
      generalize u9 = f136 at hw hH
      generalize H1 = H at hH hS ⊢
      have hs4 := zStp.num (by omega) (by omega) hw
      obtain ⟨b137, hb138, q139, hf140⟩ := zTw.num q133 (by omega) hw
      have q141 : f136 1 1 = nI L := by rw [hf140 1 1 (by omega)]; exact q130
      have q142 : f136 (3000 + q) 2 = nI i := by rw [hf140 (3000 + q) 2 (by omega)]; exact q131
      have q143 : f136 (3000 + q) 3 = r111 := by rw [hf140 (3000 + q) 3 (by omega)]; exact q132
      refine lv_goto (tgt := 138) hx hb dX11_readLetter_131 (by decide) ?_
      refine zPutI (D := D) (ci := 2) (ty := .int) (C := RX2) (T := TX2) (N := 10) hx hb hts hiX2 tyX2 tyX2_ok nmX2 hown hH hS hL.1.1 rfl 4 (by decide) rfl hw5 (fun _ h9 => h9) rfl (by decide +kernel) rfl rfl dX11_readLetter_138 (fun H locs hH hS => ?_)
      obtain ⟨f144, ef144⟩ : ∃ f9 : zFi, f9 = zu f136 (3000 + q) 4 r135 := ⟨_, rfl⟩
      rw [← ef144] at hH
      have q145 : f144 1 1 = nI L := by rw [ef144, zu_n (fun h9 => by omega)]; exact q141
      have q146 : f144 (3000 + q) 2 = nI i := by rw [ef144, zu_n (fun h9 => absurd h9.2 (by decide))]; exact q142
      have q147 : f144 (3000 + q) 3 = r111 := by rw [ef144, zu_n (fun h9 => absurd h9.2 (by decide))]; exact q143
      have q148 : f144 1 2 = nI b137 := by rw [ef144, zu_n (fun h9 => by omega)]; exact q139
      have q149 : f144 (3000 + q) 4 = r135 := by rw [ef144]; exact zu_s
      refine W.widen (k := 0) (n := 0) (by decide) (by decide) ?_
      exact W.vret hx hb hr (fun t9 ht9 hW9 => ⟨⟨f144, rfl, ⟨zLrd.mk hn4 han hb6 hq5 (funext (fun k => hfr 2 k (by omega))) hex p6 hs1 hf108 q107 (by omega) hs2 hf116 q115 (by omega) ef119 (Or.inr ⟨b127, (zWrd_yes hw126 hs128 : zWrd (f119 2) L [109, 111, 110, 101, 121] b113 = some b127), ef125, hs4, hf140⟩) ef144, ⟨b137, by omega, q148⟩, ⟨i, by omega, q146⟩, fun a b h => by rw [ef144, zu_n (by omega), hf140 a b (by omega), ef125, zu_n (by omega), ef119, zu_n (by omega), hf116 a b (by omega), hf108 a b (by omega)]; exact hfr a b h⟩, zEnd1 hH ht9 hW9⟩, hS.F ht9⟩) hS.2.2 dX11_readLetter_141
    · have ef125 := ef125.symm
      subst ef125
      refine lv_if_eq (tgt := 134) hx hb dX11_readLetter_117 (by decide) (fun c150 => ?_) (fun c150 => absurd (by decide) c150)
      refine lv_aload_n hx hb dX11_readLetter_134 rfl (lv_at hl 1 rfl) ?_
      refine zGetI (D := D) (ci := 2) (C := RX2) (T := TX2) (N := 10) hx hb hts hiX2 hown hH hL.1.1 rfl 3 (by decide) rfl hw3 (fun _ h9 => h9) dX11_readLetter_135 q123 ?_
      refine zPutI (D := D) (ci := 2) (ty := .int) (C := RX2) (T := TX2) (N := 10) hx hb hts hiX2 tyX2 tyX2_ok nmX2 hown hH hS hL.1.1 rfl 4 (by decide) rfl hw5 (fun _ h9 => h9) rfl (by decide +kernel) rfl rfl dX11_readLetter_138 (fun H locs hH hS => ?_)
      obtain ⟨f151, ef151⟩ : ∃ f9 : zFi, f9 = zu f119 (3000 + q) 4 r111 := ⟨_, rfl⟩
      rw [← ef151] at hH
      have q152 : f151 1 1 = nI L := by rw [ef151, zu_n (fun h9 => by omega)]; exact q120
      have q153 : f151 (3000 + q) 2 = nI i := by rw [ef151, zu_n (fun h9 => absurd h9.2 (by decide))]; exact q121
      have q154 : f151 1 2 = nI b113 := by rw [ef151, zu_n (fun h9 => by omega)]; exact q122
      have q155 : f151 (3000 + q) 3 = r111 := by rw [ef151, zu_n (fun h9 => absurd h9.2 (by decide))]; exact q123
      have q156 : f151 (3000 + q) 4 = r111 := by rw [ef151]; exact zu_s
      refine W.widen (k := 0) (n := 0) (by decide) (by decide) ?_
      exact W.vret hx hb hr (fun t9 ht9 hW9 => ⟨⟨f151, rfl, ⟨zLrd.mk (g4 := f119) hn4 han hb6 hq5 (funext (fun k => hfr 2 k (by omega))) hex p6 hs1 hf108 q107 (by omega) hs2 hf116 q115 (by omega) ef119 (Or.inl ⟨(zWrd_no hn129 (by omega) : zWrd (f119 2) L [109, 111, 110, 101, 121] b113 = none), rfl, rfl⟩) ef151, ⟨b113, by omega, q154⟩, ⟨i, by omega, q153⟩, fun a b h => by rw [ef151, zu_n (by omega), ef119, zu_n (by omega), hf116 a b (by omega), hf108 a b (by omega)]; exact hfr a b h⟩, zEnd1 hH ht9 hW9⟩, hS.F ht9⟩) hS.2.2 dX11_readLetter_141
  · have zc102 := c102
    replace zc102 := zc_nle (nI_toInt (by omega)) (nI_toInt (by omega)) zc102
    refine lv_iload_n hx hb dX11_readLetter_10 rfl (lv_at hl 2 rfl) ?_
    refine lv_if_eq (tgt := 81) hx hb dX11_readLetter_11 (by decide) (fun c157 => ?_) (fun c157 => ?_)
    · have zc157 := c157
      replace zc157 := zc_eq (rfl) ((by decide : (0 : Int32).toInt = 0)) zc157
      refine lv_aload_n hx hb dX11_readLetter_81 rfl (lv_at hl 0 rfl) ?_
      refine zGetR (D := D) (ci := 11) (C := RX11) (T := TX11) (N := 16) hx hb hts hiX11 hown hH (zk_0 hF) rfl 0 (by decide) rfl hw1 (fun _ h9 => h9) dX11_readLetter_82 (zr_0_0 hF) ?_
      refine zLdcW hx hb hown (hz.1.2.2.2.1 7 _ rfl).2 dX11_readLetter_85 ?_
      have hex := hll.exit (by omega)
      refine va_callv (va_runV (As := [.ref (sad 7)]) (rest := []) ⟨hx, hb, hml, hown, hts⟩ (t_needWord l hl0 D A sad τ f fr ol L b6 hF q5 q6 (by omega) (by omega) 7 ((449, "sum", [115, 117, 109])) rfl) (cwV 1 hts gX11_readLetter_X7_needWord rfl rfl rfl (by decide +kernel) ⟨Nat.le_of_ble_eq_true rfl, Nat.le_of_ble_eq_true rfl⟩) ⟨zQc_bl, zRecv hH (zk_1 hF) rfl, zQc_at hz hS hA hH⟩ rfl rfl hl.1 rfl (lv_room (Nat.le_of_ble_eq_true rfl)) dX11_readLetter_88 ⟨Nat.le_of_ble_eq_true rfl, Nat.le_of_ble_eq_true rfl⟩) hS (fun q _ h => h) (fun q h => h) (fun u9 t9 H1 locs ht9 hvm9 hw hB hz1 hk1 hS => ?_)
      have hH := zMv ht9 hvm9 hB
      clear hB
      generalize u9 = f159 at hw hH
      generalize H1 = H at hH hS ⊢
      have hs1 := zStp.need (by omega) (by omega) hw
      obtain ⟨b160, hb161, q162, hf163⟩ := zTw.need q6 (by omega) hw
      have q164 : f159 1 1 = nI L := by rw [hf163 1 1 (by omega)]; exact q5
      have q165 : f159 (3000 + q) 2 = nI i := by rw [hf163 (3000 + q) 2 (by omega)]; exact p6
      refine lv_aload_n hx hb dX11_readLetter_91 rfl (lv_at hl 1 rfl) ?_
      refine lv_aload_n hx hb dX11_readLetter_92 rfl (lv_at hl 0 rfl) ?_
      refine zGetR (D := D) (ci := 11) (C := RX11) (T := TX11) (N := 16) hx hb hts hiX11 hown hH (zk_0 hF) rfl 0 (by decide) rfl hw1 (fun _ h9 => h9) dX11_readLetter_93 (zr_0_0 hF) ?_
      refine lv_iconst (v := nI 0) hx hb dX11_readLetter_96 (by decide) ?_
      refine lv_ldcw (v := nI 999999) hx hb hown hw2 dX11_readLetter_97 ?_
      refine va_calli (va_runV (As := [.int (nI 0), .int (nI 999999)]) (rest := [.ref (τ.1 (3000 + q))]) ⟨hx, hb, hml, hown, hts⟩ (t_number l hl0 D A sad τ f159 fr ol L b160 hF q164 q162 (by omega) (by omega) (nI 0) (nI 999999) (by decide)) (cwV 2 hts gX11_readLetter_X7_number rfl rfl rfl (by decide +kernel) ⟨Nat.le_of_ble_eq_true rfl, Nat.le_of_ble_eq_true rfl⟩) ⟨zQc_bl, zRecv hH (zk_1 hF) rfl, zQc_at hz hS hA hH⟩ rfl rfl hl.1 rfl (lv_room (Nat.le_of_ble_eq_true rfl)) dX11_readLetter_100 ⟨Nat.le_of_ble_eq_true rfl, Nat.le_of_ble_eq_true rfl⟩) hS (fun q _ h => h) (fun q h => h) (fun r166 u9 t9 H1 locs ht9 hvm9 hw hB hz1 hk1 hS => ?_)
      have hH := zMv ht9 hvm9 hB
      clear hB
      generalize u9 = f167 at hw hH
      generalize H1 = H at hH hS ⊢
      have hs2 := zStp.num (by omega) (by omega) hw
      obtain ⟨b168, hb169, q170, hf171⟩ := zTw.num q162 (by omega) hw
      have q172 : f167 1 1 = nI L := by rw [hf171 1 1 (by omega)]; exact q164
      have q173 : f167 (3000 + q) 2 = nI i := by rw [hf171 (3000 + q) 2 (by omega)]; exact q165
      refine zPutI (D := D) (ci := 2) (ty := .int) (C := RX2) (T := TX2) (N := 10) hx hb hts hiX2 tyX2 tyX2_ok nmX2 hown hH hS hL.1.1 rfl 3 (by decide) rfl hw3 (fun _ h9 => h9) rfl (by decide +kernel) rfl rfl dX11_readLetter_103 (fun H locs hH hS => ?_)
      obtain ⟨f174, ef174⟩ : ∃ f9 : zFi, f9 = zu f167 (3000 + q) 3 r166 := ⟨_, rfl⟩
      rw [← ef174] at hH
      have q175 : f174 1 1 = nI L := by rw [ef174, zu_n (fun h9 => by omega)]; exact q172
      have q176 : f174 (3000 + q) 2 = nI i := by rw [ef174, zu_n (fun h9 => absurd h9.2 (by decide))]; exact q173
      have q177 : f174 1 2 = nI b168 := by rw [ef174, zu_n (fun h9 => by omega)]; exact q170
      have q178 : f174 (3000 + q) 3 = r166 := by rw [ef174]; exact zu_s
      refine lv_aload_n hx hb dX11_readLetter_106 rfl (lv_at hl 1 rfl) ?_
      refine lv_aload_n hx hb dX11_readLetter_107 rfl (lv_at hl 0 rfl) ?_
      refine zGetR (D := D) (ci := 11) (C := RX11) (T := TX11) (N := 16) hx hb hts hiX11 hown hH (zk_0 hF) rfl 0 (by decide) rfl hw1 (fun _ h9 => h9) dX11_readLetter_108 (zr_0_0 hF) ?_
      refine zLdcW hx hb hown (hz.1.2.2.2.1 8 _ rfl).2 dX11_readLetter_111 ?_
      refine va_calli (va_runV (As := [.ref (sad 8)]) (rest := [.ref (τ.1 (3000 + q))]) ⟨hx, hb, hml, hown, hts⟩ (t_takesWord l hl0 D A sad τ f174 fr ol L b168 hF q175 q177 (by omega) (by omega) 8 ((451, "money", [109, 111, 110, 101, 121])) rfl) (cwV 1 hts gX11_readLetter_X7_takesWord rfl rfl rfl (by decide +kernel) ⟨Nat.le_of_ble_eq_true rfl, Nat.le_of_ble_eq_true rfl⟩) ⟨zQc_bl, zRecv hH (zk_1 hF) rfl, zQc_at hz hS hA hH⟩ rfl rfl hl.1 rfl (lv_room (Nat.le_of_ble_eq_true rfl)) dX11_readLetter_114 ⟨Nat.le_of_ble_eq_true rfl, Nat.le_of_ble_eq_true rfl⟩) hS (fun q _ h => h) (fun q h => h) (fun r179 u9 t9 H1 locs ht9 hvm9 hw hB hz1 hk1 hS => ?_)
      have hH := zMv ht9 hvm9 hB
      clear hB
      generalize u9 = f180 at hw hH
      generalize H1 = H at hH hS ⊢
      rcases hw with ⟨rfl, hw181, b182, ef180, hs183⟩ | ⟨rfl, hn184, ef180⟩
      · have zhs183 := hs183.1
        have yhs183 := hs183.2.1
        have q185 : f180 1 1 = nI L := by rw [ef180, zu_n (fun h9 => absurd h9.2 (by decide))]; exact q175
        have q186 : f180 (3000 + q) 2 = nI i := by rw [ef180, zu_n (fun h9 => by omega)]; exact q176
        have q187 : f180 (3000 + q) 3 = r166 := by rw [ef180, zu_n (fun h9 => by omega)]; exact q178
        have q188 : f180 1 2 = nI b182 := by rw [ef180]; exact zu_s
        refine lv_if_eq (tgt := 134) hx hb dX11_readLetter_117 (by decide) (fun c189 => absurd c189 (by decide)) (fun c189 => ?_)
        refine lv_aload_n hx hb dX11_readLetter_120 rfl (lv_at hl 0 rfl) ?_
        refine zGetR (D := D) (ci := 11) (C := RX11) (T := TX11) (N := 16) hx hb hts hiX11 hown hH (zk_0 hF) rfl 0 (by decide) rfl hw1 (fun _ h9 => h9) dX11_readLetter_121 (zr_0_0 hF) ?_
        refine lv_iconst (v := nI 0) hx hb dX11_readLetter_124 (by decide) ?_
        refine lv_ldcw (v := nI 999999) hx hb hown hw2 dX11_readLetter_125 ?_
        refine va_calli (va_runV (As := [.int (nI 0), .int (nI 999999)]) (rest := [.ref (τ.1 (3000 + q))]) ⟨hx, hb, hml, hown, hts⟩ (t_number l hl0 D A sad τ f180 fr ol L b182 hF q185 q188 (by omega) (by omega) (nI 0) (nI 999999) (by decide)) (cwV 2 hts gX11_readLetter_X7_number rfl rfl rfl (by decide +kernel) ⟨Nat.le_of_ble_eq_true rfl, Nat.le_of_ble_eq_true rfl⟩) ⟨zQc_bl, zRecv hH (zk_1 hF) rfl, zQc_at hz hS hA hH⟩ rfl rfl hl.1 rfl (lv_room (Nat.le_of_ble_eq_true rfl)) dX11_readLetter_128 ⟨Nat.le_of_ble_eq_true rfl, Nat.le_of_ble_eq_true rfl⟩) hS (fun q _ h => h) (fun q h => h) (fun r190 u9 t9 H1 locs ht9 hvm9 hw hB hz1 hk1 hS => ?_)
        have hH := zMv ht9 hvm9 hB
        clear hB
        generalize u9 = f191 at hw hH
        generalize H1 = H at hH hS ⊢
        have hs4 := zStp.num (by omega) (by omega) hw
        obtain ⟨b192, hb193, q194, hf195⟩ := zTw.num q188 (by omega) hw
        have q196 : f191 1 1 = nI L := by rw [hf195 1 1 (by omega)]; exact q185
        have q197 : f191 (3000 + q) 2 = nI i := by rw [hf195 (3000 + q) 2 (by omega)]; exact q186
        have q198 : f191 (3000 + q) 3 = r166 := by rw [hf195 (3000 + q) 3 (by omega)]; exact q187
        refine lv_goto (tgt := 138) hx hb dX11_readLetter_131 (by decide) ?_
        refine zPutI (D := D) (ci := 2) (ty := .int) (C := RX2) (T := TX2) (N := 10) hx hb hts hiX2 tyX2 tyX2_ok nmX2 hown hH hS hL.1.1 rfl 4 (by decide) rfl hw5 (fun _ h9 => h9) rfl (by decide +kernel) rfl rfl dX11_readLetter_138 (fun H locs hH hS => ?_)
        obtain ⟨f199, ef199⟩ : ∃ f9 : zFi, f9 = zu f191 (3000 + q) 4 r190 := ⟨_, rfl⟩
        rw [← ef199] at hH
        have q200 : f199 1 1 = nI L := by rw [ef199, zu_n (fun h9 => by omega)]; exact q196
        have q201 : f199 (3000 + q) 2 = nI i := by rw [ef199, zu_n (fun h9 => absurd h9.2 (by decide))]; exact q197
        have q202 : f199 (3000 + q) 3 = r166 := by rw [ef199, zu_n (fun h9 => absurd h9.2 (by decide))]; exact q198
        have q203 : f199 1 2 = nI b192 := by rw [ef199, zu_n (fun h9 => by omega)]; exact q194
        have q204 : f199 (3000 + q) 4 = r190 := by rw [ef199]; exact zu_s
        refine W.widen (k := 0) (n := 0) (by decide) (by decide) ?_
        exact W.vret hx hb hr (fun t9 ht9 hW9 => ⟨⟨f199, rfl, ⟨zLrd.mk hn4 han hb6 hq5 (funext (fun k => hfr 2 k (by omega))) hex p6 hs1 hf163 q162 (by omega) hs2 hf171 q170 (by omega) ef174 (Or.inr ⟨b182, (zWrd_yes hw181 hs183 : zWrd (f174 2) L [109, 111, 110, 101, 121] b168 = some b182), ef180, hs4, hf195⟩) ef199, ⟨b192, by omega, q203⟩, ⟨i, by omega, q201⟩, fun a b h => by rw [ef199, zu_n (by omega), hf195 a b (by omega), ef180, zu_n (by omega), ef174, zu_n (by omega), hf171 a b (by omega), hf163 a b (by omega)]; exact hfr a b h⟩, zEnd1 hH ht9 hW9⟩, hS.F ht9⟩) hS.2.2 dX11_readLetter_141
      · have ef180 := ef180.symm
        subst ef180
        refine lv_if_eq (tgt := 134) hx hb dX11_readLetter_117 (by decide) (fun c205 => ?_) (fun c205 => absurd (by decide) c205)
        refine lv_aload_n hx hb dX11_readLetter_134 rfl (lv_at hl 1 rfl) ?_
        refine zGetI (D := D) (ci := 2) (C := RX2) (T := TX2) (N := 10) hx hb hts hiX2 hown hH hL.1.1 rfl 3 (by decide) rfl hw3 (fun _ h9 => h9) dX11_readLetter_135 q178 ?_
        refine zPutI (D := D) (ci := 2) (ty := .int) (C := RX2) (T := TX2) (N := 10) hx hb hts hiX2 tyX2 tyX2_ok nmX2 hown hH hS hL.1.1 rfl 4 (by decide) rfl hw5 (fun _ h9 => h9) rfl (by decide +kernel) rfl rfl dX11_readLetter_138 (fun H locs hH hS => ?_)
        obtain ⟨f206, ef206⟩ : ∃ f9 : zFi, f9 = zu f174 (3000 + q) 4 r166 := ⟨_, rfl⟩
        rw [← ef206] at hH
        have q207 : f206 1 1 = nI L := by rw [ef206, zu_n (fun h9 => by omega)]; exact q175
        have q208 : f206 (3000 + q) 2 = nI i := by rw [ef206, zu_n (fun h9 => absurd h9.2 (by decide))]; exact q176
        have q209 : f206 1 2 = nI b168 := by rw [ef206, zu_n (fun h9 => by omega)]; exact q177
        have q210 : f206 (3000 + q) 3 = r166 := by rw [ef206, zu_n (fun h9 => absurd h9.2 (by decide))]; exact q178
        have q211 : f206 (3000 + q) 4 = r166 := by rw [ef206]; exact zu_s
        refine W.widen (k := 0) (n := 0) (by decide) (by decide) ?_
        exact W.vret hx hb hr (fun t9 ht9 hW9 => ⟨⟨f206, rfl, ⟨zLrd.mk (g4 := f174) hn4 han hb6 hq5 (funext (fun k => hfr 2 k (by omega))) hex p6 hs1 hf163 q162 (by omega) hs2 hf171 q170 (by omega) ef174 (Or.inl ⟨(zWrd_no hn184 (by omega) : zWrd (f174 2) L [109, 111, 110, 101, 121] b168 = none), rfl, rfl⟩) ef206, ⟨b168, by omega, q209⟩, ⟨i, by omega, q208⟩, fun a b h => by rw [ef206, zu_n (by omega), ef174, zu_n (by omega), hf171 a b (by omega), hf163 a b (by omega)]; exact hfr a b h⟩, zEnd1 hH ht9 hW9⟩, hS.F ht9⟩) hS.2.2 dX11_readLetter_141
    · have zc157 := c157
      replace zc157 := zc_neq (rfl) ((by decide : (0 : Int32).toInt = 0)) zc157
      refine lv_aload_n hx hb dX11_readLetter_14 rfl (lv_at hl 0 rfl) ?_
      refine zGetR (D := D) (ci := 11) (C := RX11) (T := TX11) (N := 16) hx hb hts hiX11 hown hH (zk_0 hF) rfl 0 (by decide) rfl hw1 (fun _ h9 => h9) dX11_readLetter_15 (zr_0_0 hF) ?_
      refine va_calli (va_runV (As := []) (rest := []) ⟨hx, hb, hml, hown, hts⟩ (t_code l hl0 D A sad τ f fr ol L b6 hF q5 q6 (by omega) (by omega)) (cwV 0 hts gX11_readLetter_X7_code rfl rfl rfl (by decide +kernel) ⟨Nat.le_of_ble_eq_true rfl, Nat.le_of_ble_eq_true rfl⟩) ⟨zQc_bl, zRecv hH (zk_1 hF) rfl, zQc_at hz hS hA hH⟩ rfl rfl hl.1 rfl (lv_room (Nat.le_of_ble_eq_true rfl)) dX11_readLetter_18 ⟨Nat.le_of_ble_eq_true rfl, Nat.le_of_ble_eq_true rfl⟩) hS (fun q _ h => h) (fun q h => h) (fun r212 u9 t9 H1 locs ht9 hvm9 hw hB hz1 hk1 hS => ?_)
      have hH := zMv ht9 hvm9 hB
      clear hB
      generalize u9 = f213 at hw hH
      generalize H1 = H at hH hS ⊢
      have hl1 := zStp.num (by omega) (by omega) hw
      obtain ⟨b214, hb215, q216, hf217⟩ := zTw.num q6 (by omega) hw
      have q218 : f213 1 1 = nI L := by rw [hf217 1 1 (by omega)]; exact q5
      have q219 : f213 (3000 + q) 2 = nI i := by rw [hf217 (3000 + q) 2 (by omega)]; exact p6
      refine lv_istore (lv' := [(4, .int r212), (0, .ref (τ.1 0)), (1, .ref (τ.1 (3000 + q))), (2, .int y), (3, .int (nI i))]) hx hb dX11_readLetter_21 hl (by decide) rfl (fun ls hl => ?_)
      refine lv_aload_n hx hb dX11_readLetter_23 rfl (lv_at hl 1 rfl) ?_
      refine zGetR (D := D) (ci := 11) (C := RX11) (T := TX11) (N := 16) hx hb hts hiX11 hown hH (zk_0 hF) rfl 0 (by decide) rfl hw1 (fun _ h9 => h9) dX11_readLetter_24 (zr_0_0 hF) ?_
      refine zLdcW hx hb hown (hz.1.2.2.2.1 6 _ rfl).2 dX11_readLetter_27 ?_
      refine va_callv (va_runV (As := [.ref (sad 6)]) (rest := []) ⟨hx, hb, hml, hown, hts⟩ (t_needWord l hl0 D A sad τ f213 fr ol L b214 hF q218 q216 (by omega) (by omega) 6 ((443, "x", [120])) rfl) (cwV 1 hts gX11_readLetter_X7_needWord rfl rfl rfl (by decide +kernel) ⟨Nat.le_of_ble_eq_true rfl, Nat.le_of_ble_eq_true rfl⟩) ⟨zQc_bl, zRecv hH (zk_1 hF) rfl, zQc_at hz hS hA hH⟩ rfl rfl hl.1 rfl (lv_room (Nat.le_of_ble_eq_true rfl)) dX11_readLetter_30 ⟨Nat.le_of_ble_eq_true rfl, Nat.le_of_ble_eq_true rfl⟩) hS (fun q _ h => h) (fun q h => h) (fun u9 t9 H1 locs ht9 hvm9 hw hB hz1 hk1 hS => ?_)
      have hH := zMv ht9 hvm9 hB
      clear hB
      generalize u9 = f221 at hw hH
      generalize H1 = H at hH hS ⊢
      have hl2 := zStp.need (by omega) (by omega) hw
      obtain ⟨b222, hb223, q224, hf225⟩ := zTw.need q216 (by omega) hw
      have q226 : f221 1 1 = nI L := by rw [hf225 1 1 (by omega)]; exact q218
      have q227 : f221 (3000 + q) 2 = nI i := by rw [hf225 (3000 + q) 2 (by omega)]; exact q219
      refine lv_aload_n hx hb dX11_readLetter_33 rfl (lv_at hl 2 rfl) ?_
      refine lv_iload hx hb dX11_readLetter_34 (lv_at hl 0 rfl) ?_
      refine lv_aload_n hx hb dX11_readLetter_36 rfl (lv_at hl 1 rfl) ?_
      refine zGetR (D := D) (ci := 11) (C := RX11) (T := TX11) (N := 16) hx hb hts hiX11 hown hH (zk_0 hF) rfl 0 (by decide) rfl hw1 (fun _ h9 => h9) dX11_readLetter_37 (zr_0_0 hF) ?_
      refine lv_iconst (v := nI 1) hx hb dX11_readLetter_40 (by decide) ?_
      refine lv_bipush (v := nI 99) hx hb dX11_readLetter_41 (by decide) ?_
      refine va_calli (va_runV (As := [.int (nI 1), .int (nI 99)]) (rest := [.int r212, .ref (τ.1 (3000 + q))]) ⟨hx, hb, hml, hown, hts⟩ (t_number l hl0 D A sad τ f221 fr ol L b222 hF q226 q224 (by omega) (by omega) (nI 1) (nI 99) (by decide)) (cwV 2 hts gX11_readLetter_X7_number rfl rfl rfl (by decide +kernel) ⟨Nat.le_of_ble_eq_true rfl, Nat.le_of_ble_eq_true rfl⟩) ⟨zQc_bl, zRecv hH (zk_1 hF) rfl, zQc_at hz hS hA hH⟩ rfl rfl hl.1 rfl (lv_room (Nat.le_of_ble_eq_true rfl)) dX11_readLetter_43 ⟨Nat.le_of_ble_eq_true rfl, Nat.le_of_ble_eq_true rfl⟩) hS (fun q _ h => h) (fun q h => h) (fun r228 u9 t9 H1 locs ht9 hvm9 hw hB hz1 hk1 hS => ?_)
      have hH := zMv ht9 hvm9 hB
      clear hB
      generalize u9 = f229 at hw hH
      generalize H1 = H at hH hS ⊢
      have hl3 := zStp.num (by omega) (by omega) hw
      obtain ⟨b230, hb231, q232, hf233⟩ := zTw.num q224 (by omega) hw
      have q234 : f229 1 1 = nI L := by rw [hf233 1 1 (by omega)]; exact q226
      have q235 : f229 (3000 + q) 2 = nI i := by rw [hf233 (3000 + q) 2 (by omega)]; exact q227
      refine va_callv (va_runV (As := [.int r212, .int r228]) (rest := []) ⟨hx, hb, hml, hown, hts⟩ (c_addLine l hl0 D A sad τ f229 fr ol r212 r228 q hq5 hL i (by omega) q235) (cwV 2 hts gX11_readLetter_X2_addLine rfl rfl rfl (by decide +kernel) ⟨Nat.le_of_ble_eq_true rfl, Nat.le_of_ble_eq_true rfl⟩) ⟨zQc_bl, zRecv hH hL.1.1 rfl, zQc_at hz hS hA hH⟩ rfl rfl hl.1 rfl (lv_room (Nat.le_of_ble_eq_true rfl)) dX11_readLetter_46 ⟨Nat.le_of_ble_eq_true rfl, Nat.le_of_ble_eq_true rfl⟩) hS (fun q _ h => h) (fun q h => h) (fun u9 t9 H1 locs ht9 hvm9 hw hB hz1 hk1 hS => ?_)
      have hH := zMv ht9 hvm9 hB
      clear hB
      generalize u9 = f237 at hw hH
      generalize H1 = H at hH hS ⊢
      have e4 : f237 = zu (zu (zu f229 (4000 + q) i r212) (5000 + q) i r228) (3000 + q) 2 (nI (i + 1)) := by rcases hw with h9 | h9; exact h9.2; exact absurd h9.1 (by omega)
      have hfA : ∀ a9 b9, ¬ ((a9 = 3000 + q ∧ b9 = 2) ∨ a9 = 4000 + q ∨ a9 = 5000 + q) → f237 a9 b9 = f229 a9 b9 := fun a9 b9 h9 => by rw [e4, zu_n (by omega), zu_n (by omega), zu_n (by omega)]
      have q238 : f237 (3000 + q) 2 = nI (i + 1) := by rw [e4]; exact zu_s
      have q239 : f237 1 1 = nI L := by rw [hfA 1 1 (by omega)]; exact q234
      have q240 : f237 1 2 = nI b230 := by rw [hfA 1 2 (by omega)]; exact q232
      refine lv_iload_n hx hb dX11_readLetter_49 rfl (lv_at hl 4 rfl) ?_
      refine lv_iconst (v := nI 1) hx hb dX11_readLetter_50 (by decide) ?_
      refine lv_iadd hx hb dX11_readLetter_51 ?_
      refine lv_topi (fun v241 ev241 => ?_)
      obtain rfl : v241 = nI (i + 1) := ev241.trans (nI_add _ _)
      refine lv_bipush (v := nI 8) hx hb dX11_readLetter_52 (by decide) ?_
      refine lv_icmp_ge (tgt := 73) hx hb dX11_readLetter_54 (by decide) (fun c242 => ?_) (fun c242 => ?_)
      · have zc242 := c242
        replace zc242 := zc_le (nI_toInt (by omega)) (nI_toInt (by omega)) zc242
        refine lv_iconst (v := nI 0) hx hb dX11_readLetter_73 (by decide) ?_
        refine lv_istore_n (lv' := [(2, .int (nI 0)), (4, .int r212), (0, .ref (τ.1 0)), (1, .ref (τ.1 (3000 + q))), (3, .int (nI i))]) hx hb dX11_readLetter_74 rfl hl (by decide) rfl (fun ls hl => ?_)
        refine lv_iinc (v := nI (i + 1)) (lv' := [(3, .int (nI (i + 1))), (2, .int (nI 0)), (4, .int r212), (0, .ref (τ.1 0)), (1, .ref (τ.1 (3000 + q)))]) hx hb dX11_readLetter_75 hl (k := 4) rfl (by rw [show (Int32.ofInt 1 : Int32) = nI 1 from by decide, nI_add]) (by decide) rfl (fun ls hl => ?_)
        refine lv_goto (tgt := 4) hx hb dX11_readLetter_78 (by decide) ?_
        exact ih101 (8 - (i + 1)) (by omega) (i + 1, nI 0, f237) _ _ _ (show 8 - (i + 1) = 8 - (i + 1) ∧ ((i + 1) ≤ 8 ∧ (∃ b, b ≤ L ∧ f237 1 2 = nI b ∧ zLl (zLin (fi 2) L 8 a 0 (fun _ => 0) (fun _ => 0)) (fi 2) L (i + 1) (nI 0) b q f237) ∧ f237 (3000 + q) 2 = nI (i + 1) ∧ ∀ a b, ¬ ((a = 1 ∧ 2 ≤ b) ∨ (a = 3000 + q ∧ 2 ≤ b ∧ b ≤ 4) ∨ a = 4000 + q ∨ a = 5000 + q) → f237 a b = fi a b) ∧ zH D A τ f237 fr ol s _ ∧ va_S A s.heap _ _ ∧ lv_has _ 5 [(0, .ref (τ.1 0)), (1, .ref (τ.1 (3000 + q))), (2, .int (nI 0)), (3, .int (nI (i + 1)))] from ⟨rfl, ⟨by omega, ⟨b230, by omega, q240, hll.step (x := nI 44) hn4 hb6 (by omega) hq5 (by omega) (by have h9 := zStp.ln1 hn4 hb6 hl1 q216 (by omega) (funext (fun k => hf217 2 k (by omega))) hl2 q224 (by omega) (funext (fun k => by rw [hf225 2 k (by omega), hf217 2 k (by omega)])) hl3; rw [show f 2 = fi 2 from funext (fun k => hfr 2 k (by omega))] at h9; exact h9) (fun k => ⟨by rw [hf233 _ _ (by omega), hf225 _ _ (by omega), hf217 _ _ (by omega)], by rw [hf233 _ _ (by omega), hf225 _ _ (by omega), hf217 _ _ (by omega)]⟩) e4 q240 (by omega) (funext (fun k => by rw [hfA 2 k (by omega), hf233 2 k (by omega), hf225 2 k (by omega), hf217 2 k (by omega)]; exact hfr 2 k (by omega))) (by decide) (Or.inr ⟨rfl, rfl, fun h9 => absurd h9 (by omega)⟩) q240 (by omega)⟩, q238, fun a b h => by rw [hfA a b (by omega), hf233 a b (by omega), hf225 a b (by omega), hf217 a b (by omega)]; exact hfr a b h⟩, hH, hS, lv_sub hl [3, 4, 1, 0] rfl⟩)
      · have zc242 := c242
        replace zc242 := zc_nle (nI_toInt (by omega)) (nI_toInt (by omega)) zc242
        refine lv_aload_n hx hb dX11_readLetter_57 rfl (lv_at hl 1 rfl) ?_
        refine zGetR (D := D) (ci := 11) (C := RX11) (T := TX11) (N := 16) hx hb hts hiX11 hown hH (zk_0 hF) rfl 0 (by decide) rfl hw1 (fun _ h9 => h9) dX11_readLetter_58 (zr_0_0 hF) ?_
        refine lv_bipush (v := nI 44) hx hb dX11_readLetter_61 (by decide) ?_
        refine va_calli (va_runV (As := [.int (nI 44)]) (rest := []) ⟨hx, hb, hml, hown, hts⟩ (t_takesSign l hl0 D A sad τ f237 fr ol L b230 hF q239 q240 (by omega) (by omega) (nI 44)) (cwV 1 hts gX11_readLetter_X7_takesSign rfl rfl rfl (by decide +kernel) ⟨Nat.le_of_ble_eq_true rfl, Nat.le_of_ble_eq_true rfl⟩) ⟨zQc_bl, zRecv hH (zk_1 hF) rfl, zQc_at hz hS hA hH⟩ rfl rfl hl.1 rfl (lv_room (Nat.le_of_ble_eq_true rfl)) dX11_readLetter_63 ⟨Nat.le_of_ble_eq_true rfl, Nat.le_of_ble_eq_true rfl⟩) hS (fun q _ h => h) (fun q h => h) (fun r243 u9 t9 H1 locs ht9 hvm9 hw hB hz1 hk1 hS => ?_)
        have hH := zMv ht9 hvm9 hB
        clear hB
        generalize u9 = f244 at hw hH
        generalize H1 = H at hH hS ⊢
        have hsn := hw
        have hsg : r243 = 1 ∨ r243 = 0 := hw.elim (fun h => Or.inl h.1) (fun h => Or.inr h.1)
        obtain ⟨b245, hb246, q247, hf248⟩ := zTw.sign q240 (by omega) hw
        have q249 : f244 1 1 = nI L := by rw [hf248 1 1 (by omega)]; exact q239
        have q250 : f244 (3000 + q) 2 = nI (i + 1) := by rw [hf248 (3000 + q) 2 (by omega)]; exact q238
        refine lv_if_eq (tgt := 73) hx hb dX11_readLetter_66 (by decide) (fun c251 => ?_) (fun c251 => ?_)
        · have zc251 := c251
          replace zc251 := zc_eq (rfl) ((by decide : (0 : Int32).toInt = 0)) zc251
          refine lv_iconst (v := nI 0) hx hb dX11_readLetter_73 (by decide) ?_
          refine lv_istore_n (lv' := [(2, .int (nI 0)), (4, .int r212), (0, .ref (τ.1 0)), (1, .ref (τ.1 (3000 + q))), (3, .int (nI i))]) hx hb dX11_readLetter_74 rfl hl (by decide) rfl (fun ls hl => ?_)
          refine lv_iinc (v := nI (i + 1)) (lv' := [(3, .int (nI (i + 1))), (2, .int (nI 0)), (4, .int r212), (0, .ref (τ.1 0)), (1, .ref (τ.1 (3000 + q)))]) hx hb dX11_readLetter_75 hl (k := 4) rfl (by rw [show (Int32.ofInt 1 : Int32) = nI 1 from by decide, nI_add]) (by decide) rfl (fun ls hl => ?_)
          refine lv_goto (tgt := 4) hx hb dX11_readLetter_78 (by decide) ?_
          exact ih101 (8 - (i + 1)) (by omega) (i + 1, nI 0, f244) _ _ _ (show 8 - (i + 1) = 8 - (i + 1) ∧ ((i + 1) ≤ 8 ∧ (∃ b, b ≤ L ∧ f244 1 2 = nI b ∧ zLl (zLin (fi 2) L 8 a 0 (fun _ => 0) (fun _ => 0)) (fi 2) L (i + 1) (nI 0) b q f244) ∧ f244 (3000 + q) 2 = nI (i + 1) ∧ ∀ a b, ¬ ((a = 1 ∧ 2 ≤ b) ∨ (a = 3000 + q ∧ 2 ≤ b ∧ b ≤ 4) ∨ a = 4000 + q ∨ a = 5000 + q) → f244 a b = fi a b) ∧ zH D A τ f244 fr ol s _ ∧ va_S A s.heap _ _ ∧ lv_has _ 5 [(0, .ref (τ.1 0)), (1, .ref (τ.1 (3000 + q))), (2, .int (nI 0)), (3, .int (nI (i + 1)))] from ⟨rfl, ⟨by omega, ⟨b245, by omega, q247, hll.step (x := nI 44) hn4 hb6 (by omega) hq5 (by omega) (by have h9 := zStp.ln1 hn4 hb6 hl1 q216 (by omega) (funext (fun k => hf217 2 k (by omega))) hl2 q224 (by omega) (funext (fun k => by rw [hf225 2 k (by omega), hf217 2 k (by omega)])) hl3; rw [show f 2 = fi 2 from funext (fun k => hfr 2 k (by omega))] at h9; exact h9) (fun k => ⟨by rw [hf233 _ _ (by omega), hf225 _ _ (by omega), hf217 _ _ (by omega)], by rw [hf233 _ _ (by omega), hf225 _ _ (by omega), hf217 _ _ (by omega)]⟩) e4 q240 (by omega) (funext (fun k => by rw [hfA 2 k (by omega), hf233 2 k (by omega), hf225 2 k (by omega), hf217 2 k (by omega)]; exact hfr 2 k (by omega))) (by decide) (Or.inr (by rcases hsn with ⟨g1, _⟩ | ⟨_, g2, g3⟩; (exfalso; rw [g1] at zc251; exact absurd zc251 (by decide)); exact ⟨rfl, g2, fun _ => g3⟩)) q247 (by omega)⟩, q250, fun a b h => by rw [hf248 a b (by omega), hfA a b (by omega), hf233 a b (by omega), hf225 a b (by omega), hf217 a b (by omega)]; exact hfr a b h⟩, hH, hS, lv_sub hl [3, 4, 1, 0] rfl⟩)
        · have zc251 := c251
          replace zc251 := zc_neq (rfl) ((by decide : (0 : Int32).toInt = 0)) zc251
          refine lv_iconst (v := nI 1) hx hb dX11_readLetter_69 (by decide) ?_
          refine lv_goto (tgt := 74) hx hb dX11_readLetter_70 (by decide) ?_
          refine lv_istore_n (lv' := [(2, .int (nI 1)), (4, .int r212), (0, .ref (τ.1 0)), (1, .ref (τ.1 (3000 + q))), (3, .int (nI i))]) hx hb dX11_readLetter_74 rfl hl (by decide) rfl (fun ls hl => ?_)
          refine lv_iinc (v := nI (i + 1)) (lv' := [(3, .int (nI (i + 1))), (2, .int (nI 1)), (4, .int r212), (0, .ref (τ.1 0)), (1, .ref (τ.1 (3000 + q)))]) hx hb dX11_readLetter_75 hl (k := 4) rfl (by rw [show (Int32.ofInt 1 : Int32) = nI 1 from by decide, nI_add]) (by decide) rfl (fun ls hl => ?_)
          refine lv_goto (tgt := 4) hx hb dX11_readLetter_78 (by decide) ?_
          exact ih101 (8 - (i + 1)) (by omega) (i + 1, nI 1, f244) _ _ _ (show 8 - (i + 1) = 8 - (i + 1) ∧ ((i + 1) ≤ 8 ∧ (∃ b, b ≤ L ∧ f244 1 2 = nI b ∧ zLl (zLin (fi 2) L 8 a 0 (fun _ => 0) (fun _ => 0)) (fi 2) L (i + 1) (nI 1) b q f244) ∧ f244 (3000 + q) 2 = nI (i + 1) ∧ ∀ a b, ¬ ((a = 1 ∧ 2 ≤ b) ∨ (a = 3000 + q ∧ 2 ≤ b ∧ b ≤ 4) ∨ a = 4000 + q ∨ a = 5000 + q) → f244 a b = fi a b) ∧ zH D A τ f244 fr ol s _ ∧ va_S A s.heap _ _ ∧ lv_has _ 5 [(0, .ref (τ.1 0)), (1, .ref (τ.1 (3000 + q))), (2, .int (nI 1)), (3, .int (nI (i + 1)))] from ⟨rfl, ⟨by omega, ⟨b245, by omega, q247, hll.step (x := nI 44) hn4 hb6 (by omega) hq5 (by omega) (by have h9 := zStp.ln1 hn4 hb6 hl1 q216 (by omega) (funext (fun k => hf217 2 k (by omega))) hl2 q224 (by omega) (funext (fun k => by rw [hf225 2 k (by omega), hf217 2 k (by omega)])) hl3; rw [show f 2 = fi 2 from funext (fun k => hfr 2 k (by omega))] at h9; exact h9) (fun k => ⟨by rw [hf233 _ _ (by omega), hf225 _ _ (by omega), hf217 _ _ (by omega)], by rw [hf233 _ _ (by omega), hf225 _ _ (by omega), hf217 _ _ (by omega)]⟩) e4 q240 (by omega) (funext (fun k => by rw [hfA 2 k (by omega), hf233 2 k (by omega), hf225 2 k (by omega), hf217 2 k (by omega)]; exact hfr 2 k (by omega))) (by decide) (Or.inl (by rcases hsn with ⟨_, g1, g2, g3⟩ | ⟨g1, _⟩; exact ⟨rfl, by omega, g1, g2, g3⟩; exact absurd (by rw [g1]; decide) zc251)) q247 (by omega)⟩, q250, fun a b h => by rw [hf248 a b (by omega), hfA a b (by omega), hf233 a b (by omega), hf225 a b (by omega), hf217 a b (by omega)]; exact hfr a b h⟩, hH, hS, lv_sub hl [3, 4, 1, 0] rfl⟩)
set_option maxHeartbeats 4000000 in
set_option maxRecDepth 100000 in
/-- letter -/
theorem c_letterX (l : Launch) (hl0 : l.stackTraces = false) (D : va_G) (A : Nat → Prop) (sad : Nat → Nat) (τ : zTy) (fi : zFi) (fr : zFr) (ol : Int64) (L : Nat) (hF : zFix τ fr) (hn : fi 1 1 = nI L) (hn4 : L ≤ 400) (n : Nat) (hT : zTh τ fi fr n) (o : Nat) (hO : zOr τ fi fr n o) (q : Nat) (hDo : zDo τ fi fr q) : vx_Met l yX11_letter wsX11_letter ({ frames := 7, cells := 14, slots := 126, locals := 153 }) (va_Pc [.ref (τ.1 0)] (zQc D A sad τ fi fr ol)) (va_Qi (fun (r : Int32) (u : zTy × zFi × zFr) => ((o < 60 ∧ r = nI o ∧ zLo τ fi fr n o q u.1 u.2.1 u.2.2) ∨ (q < 512 ∧ zLd τ fi fr q u.1 u.2.1 u.2.2)) ∧ u.2.1 0 14 = zFv (zLet (fi 2) L (zS (fi 2) L 0))) (fun (u : zTy × zFi × zFr) (t : State) => zH D A u.1 u.2.1 u.2.2 ol t t.heap) A) (vx_X (fun u : zTy × zFi × zFr => True) (fun (E : String) (u : zTy × zFi × zFr) (t : State) => ((E = "java/lang/IllegalArgumentException" ∨ E = "java/lang/UnsupportedOperationException") ∧ zLg τ fi fr q u.1 u.2.1 u.2.2 ∧ u.2.1 0 14 = zFv (zLet (fi 2) L (zS (fi 2) L 0))) ∧ zH D A u.1 u.2.1 u.2.2 ol t t.heap) A) 14 126 A := by
  refine vx_ofW (cc := cX11_letter) (maxL := 3) (ret := (some .int)) (by decide) rfl ?_
  intro p9 e9 s m args below meth c9 s₁ B hml ht0 hv
  obtain ⟨rfl, hz, hH, hA⟩ := hv
  have hx := B.exec
  have hb := B.bytes
  have hr := B.returns
  have hts := atoms_spec (ws := wsX11_letter) B.pre
  have hown : s.vm.findClass RX11 = some m.cls := findClass_of_methodNamed B.named
  have hlocks := B.notSynchronized
  have hS : va_S A s.heap s.heap [] := va_S.rf
  have hl := lv_entry ([.ref (τ.1 0)]) (n := 3) (Nat.le_of_ble_eq_true rfl)
  rw [lg_entry_eq]
  generalize (lg_sl ([.ref (τ.1 0)]) ++ List.replicate (3 - (lg_sl ([.ref (τ.1 0)])).length) Slot.unset).toArray = ls at hl ⊢
  have hl : lv_has ls 3 [(0, .ref (τ.1 0))] := hl
  have hn30 := hT.1
  have hq5 := hDo.1
  have hdd := hDo.2.2.2 q (Nat.le_refl _) (by omega)
  have hcl0 := hH.2.2.2
  have hiX2 : ∀ w ∈ u_ws RX2 TX2 10, w ∈ wsX11_letter := fun _ h => List.mem_cons_of_mem _ (List.mem_append_left _ (List.mem_append_left _ (List.mem_append_left _ (List.mem_append_left _ (List.mem_append_left _ (List.mem_append_left _ (List.mem_append_left _ (List.mem_append_left _ (List.mem_append_left _ (List.mem_append_right _ h))))))))))
  have hw1 := hts (.classLink RX11 40 RX2) (by decide +kernel)
  have hw2 := hts (.instantiable RX2 10) (by decide +kernel)
  have hw3 := hts (.initialized RX2) (by decide +kernel)
  have hw4 := hts (.instanceMethod yX2_init) (by decide +kernel)
  have hiX11 : ∀ w ∈ u_ws RX11 TX11 16, w ∈ wsX11_letter := fun _ h => List.mem_cons_of_mem _ (List.mem_append_left _ (List.mem_append_left _ (List.mem_append_left _ (List.mem_append_left _ (List.mem_append_left _ (List.mem_append_left _ (List.mem_append_left _ (List.mem_append_left _ (List.mem_append_right _ h)))))))))
  have hw6 := hts (.fieldLink RX11 10 "PostHouse" "tape" "LPostHouse$Tape;") (by decide +kernel)
  have hw7 := hts (.fieldLink RX11 72 "PostHouse" "fault" "I") (by decide +kernel)
  have hw8 := hts (.classLink RX11 107 "java/lang/UnsupportedOperationException") (by decide +kernel)
  have hw9 := hts (.initialized "java/lang/UnsupportedOperationException") (by decide +kernel)
  have hw10 := hts (.fieldLink RX11 215 "PostHouse" "doubtCount" "I") (by decide +kernel)
  have hw11 := hts (.fieldLink RX11 220 "PostHouse$Letter" "waits" "Z") (by decide +kernel)
  have hw12 := hts (.fieldLink RX11 42 "PostHouse" "doubts" "[LPostHouse$Letter;") (by decide +kernel)
  have hw13 := hts (.fieldLink RX11 201 "PostHouse$Letter" "mendings" "I") (by decide +kernel)
  have hw14 := hts (.fieldLink RX11 204 "PostHouse" "mendedAtOnce" "I") (by decide +kernel)
  have hw15 := hts (.classLink RX11 91 "java/lang/IllegalArgumentException") (by decide +kernel)
  have hw16 := hts (.initialized "java/lang/IllegalArgumentException") (by decide +kernel)
  refine zNew (D := D) (fs := [.null, .null, .int 0, .int 0, .int 0, .int 0, .int 0, .int 0, .int 0, .int 0]) (ci := 2) (C := RX2) (T := TX2) (N := 10) hx hb hts hiX2 tyX2 tyX2_ok hown hw1 hw2 hw3 hH hS hA rfl (3000 + q) hdd.1 (fun _ => rfl) (by decide) (Nat.le_of_ble_eq_true rfl) (Nat.le_of_ble_eq_true rfl) dX11_letter_0 (fun q9 c9 H hH8 hS => ?_)
  obtain ⟨τ101, eτ101⟩ : ∃ t9 : zTy, t9 = (va_up τ.1 (3000 + q) q9, va_up τ.2.1 (3000 + q) c9, va_up τ.2.2.1 (3000 + q) 18, va_up τ.2.2.2 (3000 + q) 0) := ⟨_, rfl⟩
  obtain ⟨f102, ef102⟩ : ∃ f9 : zFi, f9 = va_up fi (3000 + q) (fun _ => 0) := ⟨_, rfl⟩
  obtain ⟨g103, eg103⟩ : ∃ f9 : zFr, f9 = va_up fr (3000 + q) (fun _ => none) := ⟨_, rfl⟩
  have hH : zH D A τ101 f102 g103 ol s H := by rw [eτ101, ef102, eg103]; exact hH8
  clear hH8
  have hqτ101 : τ101.1 (3000 + q) = q9 := by rw [eτ101]; exact va_up_self _ _ _
  have haτ101 : ∀ i, i ≠ 3000 + q → τ101.1 i = τ.1 i := fun i h => by rw [eτ101]; exact va_up_ne _ _ h
  have hkτ101 : τ101.2.2.1 (3000 + q) = 18 := by rw [eτ101]; exact va_up_self _ _ _
  have hnτ101 : τ101.2.2.2 (3000 + q) = 0 := by rw [eτ101]; exact va_up_self _ _ _
  have hbτ101 : ∀ i, i ≠ 3000 + q → τ101.2.2.1 i = τ.2.2.1 i ∧ τ101.2.2.2 i = τ.2.2.2 i := fun i h => by rw [eτ101]; exact ⟨va_up_ne _ _ h, va_up_ne _ _ h⟩
  have hFτ101 : zFix τ101 g103 := by rw [eτ101, eg103]; exact hF.up (by omega)
  clear eτ101
  subst hqτ101
  rw [show τ.1 0 = τ101.1 0 from (haτ101 0 (by omega)).symm] at hl
  have q104 : f102 1 1 = nI L := by rw [ef102, va_up_ne _ _ (by omega)]; exact hn
  refine W.widen (k := 1) (n := 10) (by decide) (by decide) ?_
  refine lv_dup hx hb dX11_letter_3 rfl ?_
  have hznn := hz.1.2.2.2.2.2.1 _ (List.mem_of_getElem? (i := 5) rfl)
  refine va_callv (va_runIN (host := RX11) (As := []) (rest := [.ref (τ101.1 (3000 + q))]) ⟨hx, hb, hml, hown, hts⟩ (c_Letter_init l hl0 D A sad τ101 f102 g103 ol hFτ101 q hkτ101 (⟨by rw [(hbτ101 (4000 + q) (by omega)).1]; exact hdd.2.1, by rw [(hbτ101 (5000 + q) (by omega)).1]; exact hdd.2.2⟩) hq5) ⟨va_cnB (host := RX11) (y := yX2_init) 0 hts gX11_letter_X2_init_n184 rfl rfl rfl hznn hw3 (by decide +kernel) ⟨Nat.le_of_ble_eq_true rfl, Nat.le_of_ble_eq_true rfl⟩, rfl, hw4⟩ ⟨zQc_bl, zQc_at hz hS hA hH⟩ rfl rfl hl.1 rfl (lv_room (Nat.le_of_ble_eq_true rfl)) dX11_letter_4 ⟨Nat.le_of_ble_eq_true rfl, Nat.le_of_ble_eq_true rfl⟩) hS (fun q _ h => h) (fun q h => h) (fun u9 t9 H1 locs ht9 hvm9 hw hB hz1 hk1 hS => ?_)
  obtain ⟨τ106, f107, g108⟩ := u9
  have hH := zMv ht9 hvm9 hB
  clear hB
  simp only at hw hH
  generalize H1 = H at hH hS ⊢
  refine W.widen (k := 3) (n := 26) (by decide) (by decide) ?_
  have hlw := zLw.of hq5 haτ101 hbτ101 ef102 eg103 hw
  have ha6 : ∀ i, ¬ (i = 4000 + q ∨ i = 5000 + q) → τ106.1 i = τ101.1 i := fun i h => (hw.1 i (by omega) (by omega)).1
  have hL := hlw.1.1
  have hF6 := hlw.1.2
  have hno := hlw.no hcl0 hdd
  have hT := zTh.cg (τ' := τ106) (fi' := f107) (fr' := g108) hT (fun i9 k9 h9 => hlw.2.2.1 i9 k9 (by omega)) (fun i9 k9 h9 => hlw.2.2.2.1 i9 k9 (by omega)) (fun i9 h8 h9 => (hlw.2.1 i9 (by omega)).2)
  have hO := zOr.cg (τ' := τ106) (fi' := f107) (fr' := g108) hO (Nat.le_refl _) (fun i9 k9 h9 => hlw.2.2.1 i9 k9 (by omega)) (fun i9 k9 h9 => hlw.2.2.2.1 i9 k9 (by omega)) (fun i9 h8 h9 => (hlw.2.1 i9 (by omega)).2)
  have hDa := zDa.of hDo hlw
  have p1 : f107 1 1 = nI L := by rw [hlw.2.2.1 _ _ (by omega)]; exact hn
  have p2 : f107 (3000 + q) 2 = nI 0 := by rw [hlw.2.2.2.2.1]; decide
  have p3 : f107 (3000 + q) 6 = nI 0 := by rw [hlw.2.2.2.2.1]; decide
  rw [show τ101.1 0 = τ106.1 0 from (ha6 0 (by omega)).symm] at hl
  refine W.eq (g2 := F0 m 7 ls [.ref (τ106.1 (3000 + q))]) (by rw [ha6 (3000 + q) (by omega)]) ?_
  refine lv_astore_n (lv' := [(1, .ref (τ106.1 (3000 + q))), (0, .ref (τ106.1 0))]) hx hb dX11_letter_7 rfl hl (by decide) rfl (fun ls hl => ?_)
  refine lv_aload_n hx hb dX11_letter_8 rfl (lv_at hl 1 rfl) ?_
  refine zGetR (D := D) (ci := 11) (C := RX11) (T := TX11) (N := 16) hx hb hts hiX11 hown hH (zk_0 hF6) rfl 0 (by decide) rfl hw6 (fun _ h9 => h9) dX11_letter_9 (zr_0_0 hF6) ?_
  refine va_callv (va_runV (As := []) (rest := []) ⟨hx, hb, hml, hown, hts⟩ (t_open l hl0 D A sad τ106 f107 g108 ol L hF6 p1 (by omega)) (cwV 0 hts gX11_letter_X7_open rfl rfl rfl (by decide +kernel) ⟨Nat.le_of_ble_eq_true rfl, Nat.le_of_ble_eq_true rfl⟩) ⟨zQc_bl, zRecv hH (zk_1 hF6) rfl, zQc_at hz hS hA hH⟩ rfl rfl hl.1 rfl (lv_room (Nat.le_of_ble_eq_true rfl)) dX11_letter_12 ⟨Nat.le_of_ble_eq_true rfl, Nat.le_of_ble_eq_true rfl⟩) hS (fun q _ h => h) (fun q h => h) (fun u9 t9 H1 locs ht9 hvm9 hw hB hz1 hk1 hS => ?_)
  have hH := zMv ht9 hvm9 hB
  clear hB
  generalize u9 = f110 at hw hH
  generalize H1 = H at hH hS ⊢
  obtain ⟨b7, e7, h7⟩ := hw
  obtain ⟨b111, hb112, q113, hf114⟩ := (⟨b7, h7.2.1, by rw [e7]; exact zu_s, fun i k q => by rw [e7, zu_n (by omega), zu_n (by omega)]⟩ : zTw f107 L f110)
  have q115 : f110 1 1 = nI L := by rw [hf114 1 1 (by omega)]; exact p1
  have q116 : f110 (3000 + q) 2 = nI 0 := by rw [hf114 (3000 + q) 2 (by omega)]; exact p2
  have q117 : f110 (3000 + q) 6 = nI 0 := by rw [hf114 (3000 + q) 6 (by omega)]; exact p3
  have hT := zTh.ci (fi' := f110) hT (fun i9 k9 h9 => hf114 i9 k9 (by omega))
  have hO := zOr.ci (fi' := f110) hO (fun i9 k9 h9 => hf114 i9 k9 (by omega))
  have hDa := zDa.ci (fi' := f110) hDa (fun i9 k9 h9 => hf114 i9 k9 (by omega))
  have hG2 : f107 2 = fi 2 := funext (fun k => hlw.2.2.1 2 k (by omega))
  have hF2 : f110 2 = fi 2 := by rw [← hG2]; funext k; rw [e7, zu_n (by omega), zu_n (by omega)]
  have h13 : f110 1 3 = -1 := by rw [e7, zu_n (by omega)]; exact zu_s
  have hbz : b111 = zS (fi 2) L 0 := by rw [← hG2, ← h7.eq]; exact zNj (by omega) (by have h9 := h7.2.1; omega) (q113.symm.trans (by rw [e7]; exact zu_s))
  refine lv_aload_n hx hb dX11_letter_15 rfl (lv_at hl 1 rfl) ?_
  refine lv_aload_n hx hb dX11_letter_16 rfl (lv_at hl 0 rfl) ?_
  refine va_callv (va_runV (As := [.ref (τ106.1 (3000 + q))]) (rest := []) ⟨hx, hb, hml, hown, hts⟩ (w_readLetterX l hl0 D A sad τ106 f110 g108 ol L b111 hF6 q115 q113 (by omega) (by omega) q hq5 hL h13 q116) (cwV 1 hts gX11_letter_X11_readLetter rfl rfl rfl (by decide +kernel) ⟨Nat.le_of_ble_eq_true rfl, Nat.le_of_ble_eq_true rfl⟩) ⟨zQc_bl, zRecv hH (zk_0 hF6) rfl, zQc_at hz hS hA hH⟩ rfl rfl hl.1 rfl (lv_room (Nat.le_of_ble_eq_true rfl)) dX11_letter_17 ⟨Nat.le_of_ble_eq_true rfl, Nat.le_of_ble_eq_true rfl⟩) hS (fun q _ h => h) (fun q h => h) (fun u9 t9 H1 locs ht9 hvm9 hw hB hz1 hk1 hS => ?_)
  have hH := zMv ht9 hvm9 hB
  clear hB
  generalize u9 = f119 at hw hH
  generalize H1 = H at hH hS ⊢
  obtain ⟨hrd, ⟨b8, hb8, qb8⟩, ⟨l8, hl8, ql8⟩, hf8⟩ := hw
  rw [hF2, hbz] at hrd
  have q120 : f119 1 1 = nI L := by rw [hf8 1 1 (by omega)]; exact q115
  have q121 : f119 (3000 + q) 6 = nI 0 := by rw [hf8 (3000 + q) 6 (by omega)]; exact q117
  have hT := zTh.ci (fi' := f119) hT (fun i9 k9 h9 => hf8 i9 k9 (by omega))
  have hO := zOr.ci (fi' := f119) hO (fun i9 k9 h9 => hf8 i9 k9 (by omega))
  have hDa := zDa.ci (fi' := f119) hDa (fun i9 k9 h9 => hf8 i9 k9 (by omega))
  refine lv_aload_n hx hb dX11_letter_20 rfl (lv_at hl 1 rfl) ?_
  refine va_callv (va_runV (As := []) (rest := []) ⟨hx, hb, hml, hown, hts⟩ (c_closeTape l hl0 D A sad τ106 f119 g108 ol L b8 hF6 q120 qb8 (by omega) (by omega)) (cwV 0 hts gX11_letter_X11_closeTape rfl rfl rfl (by decide +kernel) ⟨Nat.le_of_ble_eq_true rfl, Nat.le_of_ble_eq_true rfl⟩) ⟨zQc_bl, zRecv hH (zk_0 hF6) rfl, zQc_at hz hS hA hH⟩ rfl rfl hl.1 rfl (lv_room (Nat.le_of_ble_eq_true rfl)) dX11_letter_21 ⟨Nat.le_of_ble_eq_true rfl, Nat.le_of_ble_eq_true rfl⟩) hS (fun q _ h => h) (fun q h => h) (fun u9 t9 H1 locs ht9 hvm9 hw hB hz1 hk1 hS => ?_)
  have hH := zMv ht9 hvm9 hB
  clear hB
  generalize u9 = f123 at hw hH
  generalize H1 = H at hH hS ⊢
  obtain ⟨w124, hcl, q125, q126, hf127⟩ := hw
  have hfv := zFv_of hn4 (zS_le (by omega)) hrd qb8 hb8 hcl
  have q128 : f123 (3000 + q) 6 = nI 0 := by rw [hf127 (3000 + q) 6 (by omega)]; exact q121
  have q129 : f123 1 2 = nI b8 := by rw [hf127 1 2 (by omega)]; exact qb8
  have q130 : f123 (3000 + q) 2 = nI l8 := by rw [hf127 (3000 + q) 2 (by omega)]; exact ql8
  have hT := zTh.ci (fi' := f123) hT (fun i9 k9 h9 => hf127 i9 k9 (by omega))
  have hO := zOr.ci (fi' := f123) hO (fun i9 k9 h9 => hf127 i9 k9 (by omega))
  have hDa := zDa.ci (fi' := f123) hDa (fun i9 k9 h9 => hf127 i9 k9 (by omega))
  refine lv_aload_n hx hb dX11_letter_24 rfl (lv_at hl 1 rfl) ?_
  refine zGetI (D := D) (ci := 11) (C := RX11) (T := TX11) (N := 16) hx hb hts hiX11 hown hH (zk_0 hF6) rfl 14 (by decide) rfl hw7 (fun _ h9 => h9) dX11_letter_25 q125 ?_
  refine lv_iconst (v := (-1)) hx hb dX11_letter_28 (by decide) ?_
  refine lv_icmp_eq (tgt := 42) hx hb dX11_letter_29 (by decide) (fun c131 => ?_) (fun c131 => ?_)
  · have zc131 := c131
    replace zc131 := zc_eq (rfl) ((by decide : ((-1) : Int32).toInt = (-1))) zc131
    refine lv_aload_n hx hb dX11_letter_42 rfl (lv_at hl 1 rfl) ?_
    refine lv_aload_n hx hb dX11_letter_43 rfl (lv_at hl 0 rfl) ?_
    refine va_calli (va_runV (As := [.ref (τ106.1 (3000 + q))]) (rest := []) ⟨hx, hb, hml, hown, hts⟩ (c_mend l hl0 D A sad τ106 f123 g108 ol hF6 n hT q hq5 hL l8 (by omega) q130 0 (by omega) q128) (cwV 1 hts gX11_letter_X11_mend rfl rfl rfl (by decide +kernel) ⟨Nat.le_of_ble_eq_true rfl, Nat.le_of_ble_eq_true rfl⟩) ⟨zQc_bl, zRecv hH (zk_0 hF6) rfl, zQc_at hz hS hA hH⟩ rfl rfl hl.1 rfl (lv_room (Nat.le_of_ble_eq_true rfl)) dX11_letter_44 ⟨Nat.le_of_ble_eq_true rfl, Nat.le_of_ble_eq_true rfl⟩) hS (fun q _ h => h) (fun q h => h) (fun r132 u9 t9 H1 locs ht9 hvm9 hw hB hz1 hk1 hS => ?_)
    have hH := zMv ht9 hvm9 hB
    clear hB
    generalize u9 = f133 at hw hH
    generalize H1 = H at hH hS ⊢
    have hf134 := hw
    clear hw
    have q135 : f133 1 2 = nI b8 := by rw [hf134 1 2 (by omega)]; exact q129
    have q136 : f133 (3000 + q) 2 = nI l8 := by rw [hf134 (3000 + q) 2 (by omega)]; exact q130
    have q137 : f133 0 14 = w124 := by rw [hf134 0 14 (by omega)]; exact q125
    have q138 : f133 1 1 = nI 0 := by rw [hf134 1 1 (by omega)]; exact q126
    have hT := zTh.ci (fi' := f133) hT (fun i9 k9 h9 => hf134 i9 k9 (by omega))
    have hO := zOr.ci (fi' := f133) hO (fun i9 k9 h9 => hf134 i9 k9 (by omega))
    have hDa := zDa.ci (fi' := f133) hDa (fun i9 k9 h9 => hf134 i9 k9 (by omega))
    refine lv_istore_n (lv' := [(2, .int r132), (1, .ref (τ106.1 (3000 + q))), (0, .ref (τ106.1 0))]) hx hb dX11_letter_47 rfl hl (by decide) rfl (fun ls hl => ?_)
    refine lv_iload_n hx hb dX11_letter_48 rfl (lv_at hl 0 rfl) ?_
    refine lv_if_eq (tgt := 88) hx hb dX11_letter_49 (by decide) (fun c139 => ?_) (fun c139 => ?_)
    · have zc139 := c139
      replace zc139 := zc_eq (rfl) ((by decide : (0 : Int32).toInt = 0)) zc139
      refine lv_aload_n hx hb dX11_letter_88 rfl (lv_at hl 2 rfl) ?_
      refine va_calli (va_runV (As := []) (rest := []) ⟨hx, hb, hml, hown, hts⟩ (c_waitingA l hl0 D A sad τ106 f133 g108 ol hF6 q hDa) (cwV 0 hts gX11_letter_X11_waitingDoubts rfl rfl rfl (by decide +kernel) ⟨Nat.le_of_ble_eq_true rfl, Nat.le_of_ble_eq_true rfl⟩) ⟨zQc_bl, zRecv hH (zk_0 hF6) rfl, zQc_at hz hS hA hH⟩ rfl rfl hl.1 rfl (lv_room (Nat.le_of_ble_eq_true rfl)) dX11_letter_89 ⟨Nat.le_of_ble_eq_true rfl, Nat.le_of_ble_eq_true rfl⟩) hS (fun q _ h => h) (fun q h => h) (fun r140 u9 t9 H1 locs ht9 hvm9 hw hB hz1 hk1 hS => ?_)
      have hH := zMv ht9 hvm9 hB
      generalize H1 = H at hH hS ⊢
      refine lv_bipush (v := nI 20) hx hb dX11_letter_92 (by decide) ?_
      refine lv_icmp_ge (tgt := 107) hx hb dX11_letter_94 (by decide) (fun c141 => ?_) (fun c141 => ?_)
      · have zc141 := c141
        replace zc141 := zc_le (nI_toInt (by omega)) (rfl) zc141
        obtain ⟨a142, ha142⟩ := hz.1.2.2.2.2.1 _ (List.mem_of_getElem? (i := 10) rfl)
        have hat : ∀ w ∈ vx_atS RX11 111 "java/lang/UnsupportedOperationException" ["java/lang/RuntimeException", "java/lang/Exception"], w.before _ s = true := vx_hat (fun w h => hts w (List.mem_cons_of_mem _ (List.mem_append_right _ h))) (B := [.castable "java/lang/UnsupportedOperationException" "java/lang/UnsupportedOperationException", .declares (Bundle.initS "java/lang/RuntimeException"), .declares (Bundle.initS "java/lang/Exception"), .declares (Bundle.initS Bundle.tN)]) (by decide +kernel) (vx_c (va_Nw.use rfl (hz.1.2.2.2.2.2.2.2.1 _ (List.mem_of_getElem? (i := 2) rfl))) (vx_c (va_Nw.use rfl (hz.1.2.2.2.2.2.2.2.2 _ (List.mem_of_getElem? (i := 0) rfl))) (vx_c (va_Nw.use rfl (hz.1.2.2.2.2.2.2.2.2 _ (List.mem_of_getElem? (i := 1) rfl))) (vx_c (va_Nw.use rfl (hz.1.2.2.2.2.2.2.2.2 _ (List.mem_of_getElem? (i := 2) rfl))) vx_n))))
        have hH := hH.dropL hno
        obtain ⟨τ143, eτ143⟩ : ∃ t9 : zTy, t9 = zDr τ106 q := ⟨_, rfl⟩
        rw [← eτ143] at hH
        exact vx_throwS hx hb hl0 (own := RX11) (cls := "java/lang/UnsupportedOperationException") (text := "too many doubts wait") (names := ["java/lang/RuntimeException", "java/lang/Exception"]) hown (by decide +kernel) (by decide +kernel) hw8 hw9 ha142 hat (by decide +kernel) hz.1.1 hz.1.2.1 hS (by rw [hml]; exact hl.1) dX11_letter_107 dX11_letter_110 dX11_letter_111 dX11_letter_113 dX11_letter_116 (fun x h9 => (ht0 x h9).elim) (Nat.le_of_ble_eq_true rfl) (Nat.le_of_ble_eq_true rfl) (Nat.le_of_ble_eq_true rfl) (Nat.le_of_ble_eq_true rfl) hlocks (fun t9 hvm9 h91 h92 => ⟨(τ143, f133, g108), trivial, ⟨⟨Or.inr rfl, (show zLg τ fi fr q τ143 f133 g108 from by rw [eτ143]; exact zLg.of hlw hdd q138 (fun a b h => by rw [hf134 a b (by omega), hf127 a b (by omega), hf8 a b (by omega), hf114 a b (by omega)])), (q137.trans hfv)⟩, zThr hH hvm9 h92⟩, zF2 hS h91 h92⟩) hS.2.2 (by decide) (by decide)
      · have zc141 := c141
        replace zc141 := zc_nle (nI_toInt (by omega)) (rfl) zc141
        refine lv_aload_n hx hb dX11_letter_97 rfl (lv_at hl 2 rfl) ?_
        refine zGetI (D := D) (ci := 11) (C := RX11) (T := TX11) (N := 16) hx hb hts hiX11 hown hH (zk_0 hF6) rfl 10 (by decide) rfl hw10 (fun _ h9 => h9) dX11_letter_98 hDa.2.1 ?_
        refine lv_sipush (v := nI 512) hx hb dX11_letter_101 (by decide) ?_
        refine lv_icmp_lt (tgt := 117) hx hb dX11_letter_104 (by decide) (fun c144 => ?_) (fun c144 => ?_)
        · have zc144 := c144
          replace zc144 := zc_lt (nI_toInt (by omega)) (nI_toInt (by omega)) zc144
          refine lv_aload_n hx hb dX11_letter_117 rfl (lv_at hl 1 rfl) ?_
          refine lv_iconst (v := nI 1) hx hb dX11_letter_118 (by decide) ?_
          refine zPutI (D := D) (ci := 2) (ty := .boolean) (C := RX2) (T := TX2) (N := 10) hx hb hts hiX2 tyX2 tyX2_ok nmX2 hown hH hS hL.1.1 rfl 9 (by decide) rfl hw11 (fun _ h9 => h9) rfl (by decide +kernel) rfl rfl dX11_letter_119 (fun H locs hH hS => ?_)
          obtain ⟨f145, ef145⟩ : ∃ f9 : zFi, f9 = zu f133 (3000 + q) 9 (nI 1) := ⟨_, rfl⟩
          rw [← ef145] at hH
          have q146 : f145 1 2 = nI b8 := by rw [ef145, zu_n (fun h9 => by omega)]; exact q135
          have q147 : f145 (3000 + q) 2 = nI l8 := by rw [ef145, zu_n (fun h9 => absurd h9.2 (by decide))]; exact q136
          have q148 : f145 0 14 = w124 := by rw [ef145, zu_n (fun h9 => by omega)]; exact q137
          have q149 : f145 1 1 = nI 0 := by rw [ef145, zu_n (fun h9 => by omega)]; exact q138
          have q150 : f145 (3000 + q) 9 = nI 1 := by rw [ef145]; exact zu_s
          have hT := zTh.ci (fi' := f145) hT (fun i9 k9 h9 => by rw [ef145]; exact zu_n (by omega))
          have hO := zOr.ci (fi' := f145) hO (fun i9 k9 h9 => by rw [ef145]; exact zu_n (by omega))
          have hDa := zDa.ci (fi' := f145) hDa (fun i9 k9 h9 => by rw [ef145]; exact zu_n (by omega))
          refine lv_aload_n hx hb dX11_letter_122 rfl (lv_at hl 2 rfl) ?_
          refine zGetR (D := D) (ci := 11) (C := RX11) (T := TX11) (N := 16) hx hb hts hiX11 hown hH (zk_0 hF6) rfl 5 (by decide) rfl hw12 (fun _ h9 => h9) dX11_letter_123 (zr_0_5 hF6) ?_
          refine lv_aload_n hx hb dX11_letter_126 rfl (lv_at hl 2 rfl) ?_
          refine zGetI (D := D) (ci := 11) (C := RX11) (T := TX11) (N := 16) hx hb hts hiX11 hown hH (zk_0 hF6) rfl 10 (by decide) rfl hw10 (fun _ h9 => h9) dX11_letter_127 hDa.2.1 ?_
          refine lv_aload_n hx hb dX11_letter_130 rfl (lv_at hl 1 rfl) ?_
          refine zAastS (D := D) (rr := (RX2, TX2, 10)) hx hb hH hS (zk_15 hF6) (by decide) (by decide) rfl hL.1.1 rfl (zn_15 hF6) (by omega) (by omega) dX11_letter_131 (fun H locs hH hS => ?_)
          obtain ⟨g151, eg151⟩ : ∃ f9 : zFr, f9 = zur g108 15 q (some (3000 + q)) := ⟨_, rfl⟩
          rw [← eg151] at hH
          have hF152 : zFix τ106 g151 := by rw [eg151]; exact hF6.ur (by omega)
          refine lv_aload_n hx hb dX11_letter_132 rfl (lv_at hl 2 rfl) ?_
          refine lv_dup hx hb dX11_letter_133 rfl ?_
          refine zGetI (D := D) (ci := 11) (C := RX11) (T := TX11) (N := 16) hx hb hts hiX11 hown hH (zk_0 hF152) rfl 10 (by decide) rfl hw10 (fun _ h9 => h9) dX11_letter_134 hDa.2.1 ?_
          refine lv_iconst (v := nI 1) hx hb dX11_letter_137 (by decide) ?_
          refine lv_iadd hx hb dX11_letter_138 ?_
          refine lv_topi (fun v153 ev153 => ?_)
          obtain rfl : v153 = nI (q + 1) := ev153.trans (nI_add _ _)
          refine zPutI (D := D) (ci := 11) (ty := .int) (C := RX11) (T := TX11) (N := 16) hx hb hts hiX11 tyX11 tyX11_ok nmX11 hown hH hS (zk_0 hF152) rfl 10 (by decide) rfl hw10 (fun _ h9 => h9) rfl (by decide +kernel) rfl rfl dX11_letter_139 (fun H locs hH hS => ?_)
          obtain ⟨f154, ef154⟩ : ∃ f9 : zFi, f9 = zu f145 0 10 (nI (q + 1)) := ⟨_, rfl⟩
          rw [← ef154] at hH
          have q155 : f154 1 2 = nI b8 := by rw [ef154, zu_n (fun h9 => absurd h9.1 (by decide))]; exact q146
          have q156 : f154 (3000 + q) 2 = nI l8 := by rw [ef154, zu_n (fun h9 => by omega)]; exact q147
          have q157 : f154 0 14 = w124 := by rw [ef154, zu_n (fun h9 => absurd h9.2 (by decide))]; exact q148
          have q158 : f154 1 1 = nI 0 := by rw [ef154, zu_n (fun h9 => absurd h9.1 (by decide))]; exact q149
          have q159 : f154 (3000 + q) 9 = nI 1 := by rw [ef154, zu_n (fun h9 => by omega)]; exact q150
          have q160 : f154 0 10 = nI (q + 1) := by rw [ef154]; exact zu_s
          refine lv_iconst (v := (-1)) hx hb dX11_letter_142 (by decide) ?_
          refine lv_aload_n hx hb dX11_letter_143 rfl (lv_at hl 2 rfl) ?_
          refine zGetI (D := D) (ci := 11) (C := RX11) (T := TX11) (N := 16) hx hb hts hiX11 hown hH (zk_0 hF152) rfl 10 (by decide) rfl hw10 (fun _ h9 => h9) dX11_letter_144 q160 ?_
          refine lv_isub hx hb dX11_letter_147 ?_
          refine lv_topi (fun v161 ev161 => ?_)
          refine W.widen (k := 14) (n := 126) (by decide) (by decide) ?_
          refine vx_ret ?_
          exact W.iret (v := v161) hx hb hr (fun t9 ht9 hW9 => ⟨⟨v161, (τ106, f154, g151), rfl, (show ((o < 60 ∧ v161 = nI o ∧ zLo τ fi fr n o q τ106 f154 g151) ∨ (q < 512 ∧ zLd τ fi fr q τ106 f154 g151)) ∧ f154 0 14 = zFv (zLet (fi 2) L (zS (fi 2) L 0)) from ⟨Or.inr ⟨by omega, zLd.of hDo (by omega) hlw q138 q136 (by omega) (fun a b h => by rw [hf134 a b (by omega), hf127 a b (by omega), hf8 a b (by omega), hf114 a b (by omega)]) eg151 (by rw [ef154, ef145]) hF152⟩, (q157.trans hfv)⟩), zEnd1 hH ht9 hW9⟩, hS.F ht9⟩) hS.2.2 dX11_letter_148
        · have zc144 := c144
          replace zc144 := zc_nlt (nI_toInt (by omega)) (nI_toInt (by omega)) zc144
          obtain ⟨a162, ha162⟩ := hz.1.2.2.2.2.1 _ (List.mem_of_getElem? (i := 10) rfl)
          have hat : ∀ w ∈ vx_atS RX11 111 "java/lang/UnsupportedOperationException" ["java/lang/RuntimeException", "java/lang/Exception"], w.before _ s = true := vx_hat (fun w h => hts w (List.mem_cons_of_mem _ (List.mem_append_right _ h))) (B := [.castable "java/lang/UnsupportedOperationException" "java/lang/UnsupportedOperationException", .declares (Bundle.initS "java/lang/RuntimeException"), .declares (Bundle.initS "java/lang/Exception"), .declares (Bundle.initS Bundle.tN)]) (by decide +kernel) (vx_c (va_Nw.use rfl (hz.1.2.2.2.2.2.2.2.1 _ (List.mem_of_getElem? (i := 2) rfl))) (vx_c (va_Nw.use rfl (hz.1.2.2.2.2.2.2.2.2 _ (List.mem_of_getElem? (i := 0) rfl))) (vx_c (va_Nw.use rfl (hz.1.2.2.2.2.2.2.2.2 _ (List.mem_of_getElem? (i := 1) rfl))) (vx_c (va_Nw.use rfl (hz.1.2.2.2.2.2.2.2.2 _ (List.mem_of_getElem? (i := 2) rfl))) vx_n))))
          have hH := hH.dropL hno
          obtain ⟨τ163, eτ163⟩ : ∃ t9 : zTy, t9 = zDr τ106 q := ⟨_, rfl⟩
          rw [← eτ163] at hH
          exact vx_throwS hx hb hl0 (own := RX11) (cls := "java/lang/UnsupportedOperationException") (text := "too many doubts wait") (names := ["java/lang/RuntimeException", "java/lang/Exception"]) hown (by decide +kernel) (by decide +kernel) hw8 hw9 ha162 hat (by decide +kernel) hz.1.1 hz.1.2.1 hS (by rw [hml]; exact hl.1) dX11_letter_107 dX11_letter_110 dX11_letter_111 dX11_letter_113 dX11_letter_116 (fun x h9 => (ht0 x h9).elim) (Nat.le_of_ble_eq_true rfl) (Nat.le_of_ble_eq_true rfl) (Nat.le_of_ble_eq_true rfl) (Nat.le_of_ble_eq_true rfl) hlocks (fun t9 hvm9 h91 h92 => ⟨(τ163, f133, g108), trivial, ⟨⟨Or.inr rfl, (show zLg τ fi fr q τ163 f133 g108 from by rw [eτ163]; exact zLg.of hlw hdd q138 (fun a b h => by rw [hf134 a b (by omega), hf127 a b (by omega), hf8 a b (by omega), hf114 a b (by omega)])), (q137.trans hfv)⟩, zThr hH hvm9 h92⟩, zF2 hS h91 h92⟩) hS.2.2 (by decide) (by decide)
    · have zc139 := c139
      replace zc139 := zc_neq (rfl) ((by decide : (0 : Int32).toInt = 0)) zc139
      refine lv_aload_n hx hb dX11_letter_52 rfl (lv_at hl 2 rfl) ?_
      refine lv_aload_n hx hb dX11_letter_53 rfl (lv_at hl 1 rfl) ?_
      refine va_calli (va_runV (As := [.ref (τ106.1 (3000 + q))]) (rest := []) ⟨hx, hb, hml, hown, hts⟩ (c_isPaid l hl0 D A sad τ106 f133 g108 ol hF6 n hT q hq5 hL l8 (by omega) q136) (cwV 1 hts gX11_letter_X11_isPaid rfl rfl rfl (by decide +kernel) ⟨Nat.le_of_ble_eq_true rfl, Nat.le_of_ble_eq_true rfl⟩) ⟨zQc_bl, zRecv hH (zk_0 hF6) rfl, zQc_at hz hS hA hH⟩ rfl rfl hl.1 rfl (lv_room (Nat.le_of_ble_eq_true rfl)) dX11_letter_54 ⟨Nat.le_of_ble_eq_true rfl, Nat.le_of_ble_eq_true rfl⟩) hS (fun q _ h => h) (fun q h => h) (fun r164 u9 t9 H1 locs ht9 hvm9 hw hB hz1 hk1 hS => ?_)
      have hH := zMv ht9 hvm9 hB
      generalize H1 = H at hH hS ⊢
      refine lv_if_eq (tgt := 88) hx hb dX11_letter_57 (by decide) (fun c165 => ?_) (fun c165 => ?_)
      · have zc165 := c165
        replace zc165 := zc_eq (rfl) ((by decide : (0 : Int32).toInt = 0)) zc165
        refine lv_aload_n hx hb dX11_letter_88 rfl (lv_at hl 2 rfl) ?_
        refine va_calli (va_runV (As := []) (rest := []) ⟨hx, hb, hml, hown, hts⟩ (c_waitingA l hl0 D A sad τ106 f133 g108 ol hF6 q hDa) (cwV 0 hts gX11_letter_X11_waitingDoubts rfl rfl rfl (by decide +kernel) ⟨Nat.le_of_ble_eq_true rfl, Nat.le_of_ble_eq_true rfl⟩) ⟨zQc_bl, zRecv hH (zk_0 hF6) rfl, zQc_at hz hS hA hH⟩ rfl rfl hl.1 rfl (lv_room (Nat.le_of_ble_eq_true rfl)) dX11_letter_89 ⟨Nat.le_of_ble_eq_true rfl, Nat.le_of_ble_eq_true rfl⟩) hS (fun q _ h => h) (fun q h => h) (fun r166 u9 t9 H1 locs ht9 hvm9 hw hB hz1 hk1 hS => ?_)
        have hH := zMv ht9 hvm9 hB
        generalize H1 = H at hH hS ⊢
        refine lv_bipush (v := nI 20) hx hb dX11_letter_92 (by decide) ?_
        refine lv_icmp_ge (tgt := 107) hx hb dX11_letter_94 (by decide) (fun c167 => ?_) (fun c167 => ?_)
        · have zc167 := c167
          replace zc167 := zc_le (nI_toInt (by omega)) (rfl) zc167
          obtain ⟨a168, ha168⟩ := hz.1.2.2.2.2.1 _ (List.mem_of_getElem? (i := 10) rfl)
          have hat : ∀ w ∈ vx_atS RX11 111 "java/lang/UnsupportedOperationException" ["java/lang/RuntimeException", "java/lang/Exception"], w.before _ s = true := vx_hat (fun w h => hts w (List.mem_cons_of_mem _ (List.mem_append_right _ h))) (B := [.castable "java/lang/UnsupportedOperationException" "java/lang/UnsupportedOperationException", .declares (Bundle.initS "java/lang/RuntimeException"), .declares (Bundle.initS "java/lang/Exception"), .declares (Bundle.initS Bundle.tN)]) (by decide +kernel) (vx_c (va_Nw.use rfl (hz.1.2.2.2.2.2.2.2.1 _ (List.mem_of_getElem? (i := 2) rfl))) (vx_c (va_Nw.use rfl (hz.1.2.2.2.2.2.2.2.2 _ (List.mem_of_getElem? (i := 0) rfl))) (vx_c (va_Nw.use rfl (hz.1.2.2.2.2.2.2.2.2 _ (List.mem_of_getElem? (i := 1) rfl))) (vx_c (va_Nw.use rfl (hz.1.2.2.2.2.2.2.2.2 _ (List.mem_of_getElem? (i := 2) rfl))) vx_n))))
          have hH := hH.dropL hno
          obtain ⟨τ169, eτ169⟩ : ∃ t9 : zTy, t9 = zDr τ106 q := ⟨_, rfl⟩
          rw [← eτ169] at hH
          exact vx_throwS hx hb hl0 (own := RX11) (cls := "java/lang/UnsupportedOperationException") (text := "too many doubts wait") (names := ["java/lang/RuntimeException", "java/lang/Exception"]) hown (by decide +kernel) (by decide +kernel) hw8 hw9 ha168 hat (by decide +kernel) hz.1.1 hz.1.2.1 hS (by rw [hml]; exact hl.1) dX11_letter_107 dX11_letter_110 dX11_letter_111 dX11_letter_113 dX11_letter_116 (fun x h9 => (ht0 x h9).elim) (Nat.le_of_ble_eq_true rfl) (Nat.le_of_ble_eq_true rfl) (Nat.le_of_ble_eq_true rfl) (Nat.le_of_ble_eq_true rfl) hlocks (fun t9 hvm9 h91 h92 => ⟨(τ169, f133, g108), trivial, ⟨⟨Or.inr rfl, (show zLg τ fi fr q τ169 f133 g108 from by rw [eτ169]; exact zLg.of hlw hdd q138 (fun a b h => by rw [hf134 a b (by omega), hf127 a b (by omega), hf8 a b (by omega), hf114 a b (by omega)])), (q137.trans hfv)⟩, zThr hH hvm9 h92⟩, zF2 hS h91 h92⟩) hS.2.2 (by decide) (by decide)
        · have zc167 := c167
          replace zc167 := zc_nle (nI_toInt (by omega)) (rfl) zc167
          refine lv_aload_n hx hb dX11_letter_97 rfl (lv_at hl 2 rfl) ?_
          refine zGetI (D := D) (ci := 11) (C := RX11) (T := TX11) (N := 16) hx hb hts hiX11 hown hH (zk_0 hF6) rfl 10 (by decide) rfl hw10 (fun _ h9 => h9) dX11_letter_98 hDa.2.1 ?_
          refine lv_sipush (v := nI 512) hx hb dX11_letter_101 (by decide) ?_
          refine lv_icmp_lt (tgt := 117) hx hb dX11_letter_104 (by decide) (fun c170 => ?_) (fun c170 => ?_)
          · have zc170 := c170
            replace zc170 := zc_lt (nI_toInt (by omega)) (nI_toInt (by omega)) zc170
            refine lv_aload_n hx hb dX11_letter_117 rfl (lv_at hl 1 rfl) ?_
            refine lv_iconst (v := nI 1) hx hb dX11_letter_118 (by decide) ?_
            refine zPutI (D := D) (ci := 2) (ty := .boolean) (C := RX2) (T := TX2) (N := 10) hx hb hts hiX2 tyX2 tyX2_ok nmX2 hown hH hS hL.1.1 rfl 9 (by decide) rfl hw11 (fun _ h9 => h9) rfl (by decide +kernel) rfl rfl dX11_letter_119 (fun H locs hH hS => ?_)
            obtain ⟨f171, ef171⟩ : ∃ f9 : zFi, f9 = zu f133 (3000 + q) 9 (nI 1) := ⟨_, rfl⟩
            rw [← ef171] at hH
            have q172 : f171 1 2 = nI b8 := by rw [ef171, zu_n (fun h9 => by omega)]; exact q135
            have q173 : f171 (3000 + q) 2 = nI l8 := by rw [ef171, zu_n (fun h9 => absurd h9.2 (by decide))]; exact q136
            have q174 : f171 0 14 = w124 := by rw [ef171, zu_n (fun h9 => by omega)]; exact q137
            have q175 : f171 1 1 = nI 0 := by rw [ef171, zu_n (fun h9 => by omega)]; exact q138
            have q176 : f171 (3000 + q) 9 = nI 1 := by rw [ef171]; exact zu_s
            have hT := zTh.ci (fi' := f171) hT (fun i9 k9 h9 => by rw [ef171]; exact zu_n (by omega))
            have hO := zOr.ci (fi' := f171) hO (fun i9 k9 h9 => by rw [ef171]; exact zu_n (by omega))
            have hDa := zDa.ci (fi' := f171) hDa (fun i9 k9 h9 => by rw [ef171]; exact zu_n (by omega))
            refine lv_aload_n hx hb dX11_letter_122 rfl (lv_at hl 2 rfl) ?_
            refine zGetR (D := D) (ci := 11) (C := RX11) (T := TX11) (N := 16) hx hb hts hiX11 hown hH (zk_0 hF6) rfl 5 (by decide) rfl hw12 (fun _ h9 => h9) dX11_letter_123 (zr_0_5 hF6) ?_
            refine lv_aload_n hx hb dX11_letter_126 rfl (lv_at hl 2 rfl) ?_
            refine zGetI (D := D) (ci := 11) (C := RX11) (T := TX11) (N := 16) hx hb hts hiX11 hown hH (zk_0 hF6) rfl 10 (by decide) rfl hw10 (fun _ h9 => h9) dX11_letter_127 hDa.2.1 ?_
            refine lv_aload_n hx hb dX11_letter_130 rfl (lv_at hl 1 rfl) ?_
            refine zAastS (D := D) (rr := (RX2, TX2, 10)) hx hb hH hS (zk_15 hF6) (by decide) (by decide) rfl hL.1.1 rfl (zn_15 hF6) (by omega) (by omega) dX11_letter_131 (fun H locs hH hS => ?_)
            obtain ⟨g177, eg177⟩ : ∃ f9 : zFr, f9 = zur g108 15 q (some (3000 + q)) := ⟨_, rfl⟩
            rw [← eg177] at hH
            have hF178 : zFix τ106 g177 := by rw [eg177]; exact hF6.ur (by omega)
            refine lv_aload_n hx hb dX11_letter_132 rfl (lv_at hl 2 rfl) ?_
            refine lv_dup hx hb dX11_letter_133 rfl ?_
            refine zGetI (D := D) (ci := 11) (C := RX11) (T := TX11) (N := 16) hx hb hts hiX11 hown hH (zk_0 hF178) rfl 10 (by decide) rfl hw10 (fun _ h9 => h9) dX11_letter_134 hDa.2.1 ?_
            refine lv_iconst (v := nI 1) hx hb dX11_letter_137 (by decide) ?_
            refine lv_iadd hx hb dX11_letter_138 ?_
            refine lv_topi (fun v179 ev179 => ?_)
            obtain rfl : v179 = nI (q + 1) := ev179.trans (nI_add _ _)
            refine zPutI (D := D) (ci := 11) (ty := .int) (C := RX11) (T := TX11) (N := 16) hx hb hts hiX11 tyX11 tyX11_ok nmX11 hown hH hS (zk_0 hF178) rfl 10 (by decide) rfl hw10 (fun _ h9 => h9) rfl (by decide +kernel) rfl rfl dX11_letter_139 (fun H locs hH hS => ?_)
            obtain ⟨f180, ef180⟩ : ∃ f9 : zFi, f9 = zu f171 0 10 (nI (q + 1)) := ⟨_, rfl⟩
            rw [← ef180] at hH
            have q181 : f180 1 2 = nI b8 := by rw [ef180, zu_n (fun h9 => absurd h9.1 (by decide))]; exact q172
            have q182 : f180 (3000 + q) 2 = nI l8 := by rw [ef180, zu_n (fun h9 => by omega)]; exact q173
            have q183 : f180 0 14 = w124 := by rw [ef180, zu_n (fun h9 => absurd h9.2 (by decide))]; exact q174
            have q184 : f180 1 1 = nI 0 := by rw [ef180, zu_n (fun h9 => absurd h9.1 (by decide))]; exact q175
            have q185 : f180 (3000 + q) 9 = nI 1 := by rw [ef180, zu_n (fun h9 => by omega)]; exact q176
            have q186 : f180 0 10 = nI (q + 1) := by rw [ef180]; exact zu_s
            refine lv_iconst (v := (-1)) hx hb dX11_letter_142 (by decide) ?_
            refine lv_aload_n hx hb dX11_letter_143 rfl (lv_at hl 2 rfl) ?_
            refine zGetI (D := D) (ci := 11) (C := RX11) (T := TX11) (N := 16) hx hb hts hiX11 hown hH (zk_0 hF178) rfl 10 (by decide) rfl hw10 (fun _ h9 => h9) dX11_letter_144 q186 ?_
            refine lv_isub hx hb dX11_letter_147 ?_
            refine lv_topi (fun v187 ev187 => ?_)
            refine W.widen (k := 14) (n := 126) (by decide) (by decide) ?_
            refine vx_ret ?_
            exact W.iret (v := v187) hx hb hr (fun t9 ht9 hW9 => ⟨⟨v187, (τ106, f180, g177), rfl, (show ((o < 60 ∧ v187 = nI o ∧ zLo τ fi fr n o q τ106 f180 g177) ∨ (q < 512 ∧ zLd τ fi fr q τ106 f180 g177)) ∧ f180 0 14 = zFv (zLet (fi 2) L (zS (fi 2) L 0)) from ⟨Or.inr ⟨by omega, zLd.of hDo (by omega) hlw q138 q136 (by omega) (fun a b h => by rw [hf134 a b (by omega), hf127 a b (by omega), hf8 a b (by omega), hf114 a b (by omega)]) eg177 (by rw [ef180, ef171]) hF178⟩, (q183.trans hfv)⟩), zEnd1 hH ht9 hW9⟩, hS.F ht9⟩) hS.2.2 dX11_letter_148
          · have zc170 := c170
            replace zc170 := zc_nlt (nI_toInt (by omega)) (nI_toInt (by omega)) zc170
            obtain ⟨a188, ha188⟩ := hz.1.2.2.2.2.1 _ (List.mem_of_getElem? (i := 10) rfl)
            have hat : ∀ w ∈ vx_atS RX11 111 "java/lang/UnsupportedOperationException" ["java/lang/RuntimeException", "java/lang/Exception"], w.before _ s = true := vx_hat (fun w h => hts w (List.mem_cons_of_mem _ (List.mem_append_right _ h))) (B := [.castable "java/lang/UnsupportedOperationException" "java/lang/UnsupportedOperationException", .declares (Bundle.initS "java/lang/RuntimeException"), .declares (Bundle.initS "java/lang/Exception"), .declares (Bundle.initS Bundle.tN)]) (by decide +kernel) (vx_c (va_Nw.use rfl (hz.1.2.2.2.2.2.2.2.1 _ (List.mem_of_getElem? (i := 2) rfl))) (vx_c (va_Nw.use rfl (hz.1.2.2.2.2.2.2.2.2 _ (List.mem_of_getElem? (i := 0) rfl))) (vx_c (va_Nw.use rfl (hz.1.2.2.2.2.2.2.2.2 _ (List.mem_of_getElem? (i := 1) rfl))) (vx_c (va_Nw.use rfl (hz.1.2.2.2.2.2.2.2.2 _ (List.mem_of_getElem? (i := 2) rfl))) vx_n))))
            have hH := hH.dropL hno
            obtain ⟨τ189, eτ189⟩ : ∃ t9 : zTy, t9 = zDr τ106 q := ⟨_, rfl⟩
            rw [← eτ189] at hH
            exact vx_throwS hx hb hl0 (own := RX11) (cls := "java/lang/UnsupportedOperationException") (text := "too many doubts wait") (names := ["java/lang/RuntimeException", "java/lang/Exception"]) hown (by decide +kernel) (by decide +kernel) hw8 hw9 ha188 hat (by decide +kernel) hz.1.1 hz.1.2.1 hS (by rw [hml]; exact hl.1) dX11_letter_107 dX11_letter_110 dX11_letter_111 dX11_letter_113 dX11_letter_116 (fun x h9 => (ht0 x h9).elim) (Nat.le_of_ble_eq_true rfl) (Nat.le_of_ble_eq_true rfl) (Nat.le_of_ble_eq_true rfl) (Nat.le_of_ble_eq_true rfl) hlocks (fun t9 hvm9 h91 h92 => ⟨(τ189, f133, g108), trivial, ⟨⟨Or.inr rfl, (show zLg τ fi fr q τ189 f133 g108 from by rw [eτ189]; exact zLg.of hlw hdd q138 (fun a b h => by rw [hf134 a b (by omega), hf127 a b (by omega), hf8 a b (by omega), hf114 a b (by omega)])), (q137.trans hfv)⟩, zThr hH hvm9 h92⟩, zF2 hS h91 h92⟩) hS.2.2 (by decide) (by decide)
      · have zc165 := c165
        replace zc165 := zc_neq (rfl) ((by decide : (0 : Int32).toInt = 0)) zc165
        refine lv_aload_n hx hb dX11_letter_60 rfl (lv_at hl 2 rfl) ?_
        refine vx_callv (vx_runV (As := []) (rest := []) ⟨hx, hb, hml, hown, hts⟩ (c_needRoom l hl0 D A sad τ106 f133 g108 ol o hF6 hO.2.1 hO.1) (cwV 0 hts gX11_letter_X11_needRoomForOrder rfl rfl rfl (by decide +kernel) ⟨Nat.le_of_ble_eq_true rfl, Nat.le_of_ble_eq_true rfl⟩) ⟨zQc_bl, zRecv hH (zk_0 hF6) rfl, zQc_at hz hS hA hH⟩ rfl rfl hl.1 rfl (lv_room (Nat.le_of_ble_eq_true rfl)) dX11_letter_61 ⟨Nat.le_of_ble_eq_true rfl, Nat.le_of_ble_eq_true rfl⟩) hS (fun q _ h => h) (fun q h => h) (fun q _ h => h) (fun E ce q9 u9 t9 H1 locs ht9 hvm9 hw hB hz1 hk1 hS hce hcv hcl => ?_) (fun u9 t9 H1 locs ht9 hvm9 hw hB hz1 hk1 hS => ?_)
        · obtain ⟨hX, hB⟩ := hB
          have hH := zMv ht9 hvm9 hB
          generalize H1 = H at hH hS hce ⊢
          have hH := hH.dropL hno
          obtain ⟨τ191, eτ191⟩ : ∃ t9 : zTy, t9 = zDr τ106 q := ⟨_, rfl⟩
          rw [← eτ191] at hH
          exact vx_out (fun x h9 => (ht0 x h9).elim) hlocks hce hcv hcl (fun t9 ht9 hvm9 => ⟨(τ191, f133, g108), trivial, ⟨⟨Or.inr hX.1, (show zLg τ fi fr q τ191 f133 g108 from by rw [eτ191]; exact zLg.of hlw hdd q138 (fun a b h => by rw [hf134 a b (by omega), hf127 a b (by omega), hf8 a b (by omega), hf114 a b (by omega)])), (q137.trans hfv)⟩, zOut hH ht9 hvm9⟩, hS.F ht9⟩) hS.2.2 (by decide) (by decide)
        · skip
          have hH := zMv ht9 hvm9 hB
          generalize H1 = H at hH hS ⊢
          refine W.widen (k := 4) (n := 32) (by decide) (by decide) ?_
          have ho := hw
          refine lv_aload_n hx hb dX11_letter_64 rfl (lv_at hl 1 rfl) ?_
          refine zGetI (D := D) (ci := 2) (C := RX2) (T := TX2) (N := 10) hx hb hts hiX2 hown hH hL.1.1 rfl 5 (by decide) rfl hw13 (fun _ h9 => h9) dX11_letter_65 rfl ?_
          refine lv_iconst (v := nI 1) hx hb dX11_letter_68 (by decide) ?_
          refine lv_icmp_ne (tgt := 82) hx hb dX11_letter_69 (by decide) (fun c192 => ?_) (fun c192 => ?_)
          · have zc192 := c192
            replace zc192 := zc_neq (rfl) (nI_toInt (by omega)) zc192
            refine lv_aload_n hx hb dX11_letter_82 rfl (lv_at hl 2 rfl) ?_
            refine lv_aload_n hx hb dX11_letter_83 rfl (lv_at hl 1 rfl) ?_
            refine va_calli (va_runV (As := [.ref (τ106.1 (3000 + q))]) (rest := []) ⟨hx, hb, hml, hown, hts⟩ (c_makeOrder l hl0 D A sad τ106 f133 g108 ol hF6 n hT q hq5 hL l8 (by omega) q136 o hO ho) (cwV 1 hts gX11_letter_X11_makeOrder rfl rfl rfl (by decide +kernel) ⟨Nat.le_of_ble_eq_true rfl, Nat.le_of_ble_eq_true rfl⟩) ⟨zQc_bl, zRecv hH (zk_0 hF6) rfl, zQc_at hz hS hA hH⟩ rfl rfl hl.1 rfl (lv_room (Nat.le_of_ble_eq_true rfl)) dX11_letter_84 ⟨Nat.le_of_ble_eq_true rfl, Nat.le_of_ble_eq_true rfl⟩) hS (fun q _ h => h) (fun q h => h) (fun r193 u9 t9 H1 locs ht9 hvm9 hw hB hz1 hk1 hS => ?_)
            obtain ⟨τ194, f195, g196⟩ := u9
            have hH := zMv ht9 hvm9 hB
            clear hB
            simp only at hw hH
            generalize H1 = H at hH hS ⊢
            refine W.widen (k := 14) (n := 126) (by decide) (by decide) ?_
            have hmo197 := hw
            clear hw
            have hno2 := zNr.no hmo197.2.2.2.2.2.2.1 hno
            have hH := hH.dropL hno2
            obtain ⟨τ198, eτ198⟩ : ∃ t9 : zTy, t9 = zDr τ194 q := ⟨_, rfl⟩
            rw [← eτ198] at hH
            refine W.widen (k := 14) (n := 126) (by decide) (by decide) ?_
            refine vx_ret ?_
            exact W.iret (v := r193) hx hb hr (fun t9 ht9 hW9 => ⟨⟨r193, (τ198, f195, g196), rfl, (show ((o < 60 ∧ r193 = nI o ∧ zLo τ fi fr n o q τ198 f195 g196) ∨ (q < 512 ∧ zLd τ fi fr q τ198 f195 g196)) ∧ f195 0 14 = zFv (zLet (fi 2) L (zS (fi 2) L 0)) from ⟨Or.inl ⟨ho, hmo197.1, by rw [eτ198]; exact zLo.of ho hlw hdd q138 (fun a b h => by rw [hf134 a b (by omega), hf127 a b (by omega), hf8 a b (by omega), hf114 a b (by omega)]) hmo197.2⟩, (hmo197.2.2.2.2.1 0 14 (by omega)).trans (q137.trans hfv)⟩), zEnd1 hH ht9 hW9⟩, hS.F ht9⟩) hS.2.2 dX11_letter_87
          · have zc192 := c192
            replace zc192 := zc_eq (rfl) (nI_toInt (by omega)) zc192
            refine lv_aload_n hx hb dX11_letter_72 rfl (lv_at hl 2 rfl) ?_
            refine lv_dup hx hb dX11_letter_73 rfl ?_
            refine zGetI (D := D) (ci := 11) (C := RX11) (T := TX11) (N := 16) hx hb hts hiX11 hown hH (zk_0 hF6) rfl 13 (by decide) rfl hw14 (fun _ h9 => h9) dX11_letter_74 rfl ?_
            refine lv_iconst (v := nI 1) hx hb dX11_letter_77 (by decide) ?_
            refine lv_iadd hx hb dX11_letter_78 ?_
            refine lv_topi (fun v199 ev199 => ?_)
            refine zPutI (D := D) (ci := 11) (ty := .int) (C := RX11) (T := TX11) (N := 16) hx hb hts hiX11 tyX11 tyX11_ok nmX11 hown hH hS (zk_0 hF6) rfl 13 (by decide) rfl hw14 (fun _ h9 => h9) rfl (by decide +kernel) rfl rfl dX11_letter_79 (fun H locs hH hS => ?_)
            obtain ⟨f200, ef200⟩ : ∃ f9 : zFi, f9 = zu f133 0 13 v199 := ⟨_, rfl⟩
            rw [← ef200] at hH
            have q201 : f200 1 2 = nI b8 := by rw [ef200, zu_n (fun h9 => absurd h9.1 (by decide))]; exact q135
            have q202 : f200 (3000 + q) 2 = nI l8 := by rw [ef200, zu_n (fun h9 => by omega)]; exact q136
            have q203 : f200 0 14 = w124 := by rw [ef200, zu_n (fun h9 => absurd h9.2 (by decide))]; exact q137
            have q204 : f200 1 1 = nI 0 := by rw [ef200, zu_n (fun h9 => absurd h9.1 (by decide))]; exact q138
            have q205 : f200 0 13 = v199 := by rw [ef200]; exact zu_s
            have hT := zTh.ci (fi' := f200) hT (fun i9 k9 h9 => by rw [ef200]; exact zu_n (by omega))
            have hO := zOr.ci (fi' := f200) hO (fun i9 k9 h9 => by rw [ef200]; exact zu_n (by omega))
            have hDa := zDa.ci (fi' := f200) hDa (fun i9 k9 h9 => by rw [ef200]; exact zu_n (by omega))
            refine lv_aload_n hx hb dX11_letter_82 rfl (lv_at hl 2 rfl) ?_
            refine lv_aload_n hx hb dX11_letter_83 rfl (lv_at hl 1 rfl) ?_
            refine va_calli (va_runV (As := [.ref (τ106.1 (3000 + q))]) (rest := []) ⟨hx, hb, hml, hown, hts⟩ (c_makeOrder l hl0 D A sad τ106 f200 g108 ol hF6 n hT q hq5 hL l8 (by omega) q202 o hO ho) (cwV 1 hts gX11_letter_X11_makeOrder rfl rfl rfl (by decide +kernel) ⟨Nat.le_of_ble_eq_true rfl, Nat.le_of_ble_eq_true rfl⟩) ⟨zQc_bl, zRecv hH (zk_0 hF6) rfl, zQc_at hz hS hA hH⟩ rfl rfl hl.1 rfl (lv_room (Nat.le_of_ble_eq_true rfl)) dX11_letter_84 ⟨Nat.le_of_ble_eq_true rfl, Nat.le_of_ble_eq_true rfl⟩) hS (fun q _ h => h) (fun q h => h) (fun r206 u9 t9 H1 locs ht9 hvm9 hw hB hz1 hk1 hS => ?_)
            obtain ⟨τ207, f208, g209⟩ := u9
            have hH := zMv ht9 hvm9 hB
            clear hB
            simp only at hw hH
            generalize H1 = H at hH hS ⊢
            refine W.widen (k := 14) (n := 126) (by decide) (by decide) ?_
            have hmo210 := hw
            clear hw
            have hno2 := zNr.no hmo210.2.2.2.2.2.2.1 hno
            have hH := hH.dropL hno2
            obtain ⟨τ211, eτ211⟩ : ∃ t9 : zTy, t9 = zDr τ207 q := ⟨_, rfl⟩
            rw [← eτ211] at hH
            refine W.widen (k := 14) (n := 126) (by decide) (by decide) ?_
            refine vx_ret ?_
            exact W.iret (v := r206) hx hb hr (fun t9 ht9 hW9 => ⟨⟨r206, (τ211, f208, g209), rfl, (show ((o < 60 ∧ r206 = nI o ∧ zLo τ fi fr n o q τ211 f208 g209) ∨ (q < 512 ∧ zLd τ fi fr q τ211 f208 g209)) ∧ f208 0 14 = zFv (zLet (fi 2) L (zS (fi 2) L 0)) from ⟨Or.inl ⟨ho, hmo210.1, by rw [eτ211]; exact zLo.of ho hlw hdd q204 (fun a b h => by rw [ef200, zu_n (by omega), hf134 a b (by omega), hf127 a b (by omega), hf8 a b (by omega), hf114 a b (by omega)]) hmo210.2⟩, (hmo210.2.2.2.2.1 0 14 (by omega)).trans (q203.trans hfv)⟩), zEnd1 hH ht9 hW9⟩, hS.F ht9⟩) hS.2.2 dX11_letter_87
  · have zc131 := c131
    replace zc131 := zc_neq (rfl) ((by decide : ((-1) : Int32).toInt = (-1))) zc131
    obtain ⟨a212, ha212⟩ := hz.1.2.2.2.2.1 _ (List.mem_of_getElem? (i := 9) rfl)
    have hat : ∀ w ∈ vx_atS RX11 95 "java/lang/IllegalArgumentException" ["java/lang/RuntimeException", "java/lang/Exception"], w.before _ s = true := vx_hat (fun w h => hts w (List.mem_cons_of_mem _ (List.mem_append_left _ (List.mem_append_right _ h)))) (B := [.castable "java/lang/IllegalArgumentException" "java/lang/IllegalArgumentException", .declares (Bundle.initS "java/lang/RuntimeException"), .declares (Bundle.initS "java/lang/Exception"), .declares (Bundle.initS Bundle.tN)]) (by decide +kernel) (vx_c (va_Nw.use rfl (hz.1.2.2.2.2.2.2.2.1 _ (List.mem_of_getElem? (i := 1) rfl))) (vx_c (va_Nw.use rfl (hz.1.2.2.2.2.2.2.2.2 _ (List.mem_of_getElem? (i := 0) rfl))) (vx_c (va_Nw.use rfl (hz.1.2.2.2.2.2.2.2.2 _ (List.mem_of_getElem? (i := 1) rfl))) (vx_c (va_Nw.use rfl (hz.1.2.2.2.2.2.2.2.2 _ (List.mem_of_getElem? (i := 2) rfl))) vx_n))))
    have hH := hH.dropL hno
    obtain ⟨τ213, eτ213⟩ : ∃ t9 : zTy, t9 = zDr τ106 q := ⟨_, rfl⟩
    rw [← eτ213] at hH
    exact vx_throwS hx hb hl0 (own := RX11) (cls := "java/lang/IllegalArgumentException") (text := "the text of the letter is wrong") (names := ["java/lang/RuntimeException", "java/lang/Exception"]) hown (by decide +kernel) (by decide +kernel) hw15 hw16 ha212 hat (by decide +kernel) hz.1.1 hz.1.2.1 hS (by rw [hml]; exact hl.1) dX11_letter_32 dX11_letter_35 dX11_letter_36 dX11_letter_38 dX11_letter_41 (fun x h9 => (ht0 x h9).elim) (Nat.le_of_ble_eq_true rfl) (Nat.le_of_ble_eq_true rfl) (Nat.le_of_ble_eq_true rfl) (Nat.le_of_ble_eq_true rfl) hlocks (fun t9 hvm9 h91 h92 => ⟨(τ213, f123, g108), trivial, ⟨⟨Or.inl rfl, (show zLg τ fi fr q τ213 f123 g108 from by rw [eτ213]; exact zLg.of hlw hdd q126 (fun a b h => by rw [hf127 a b (by omega), hf8 a b (by omega), hf114 a b (by omega)])), (q125.trans hfv)⟩, zThr hH hvm9 h92⟩, zF2 hS h91 h92⟩) hS.2.2 (by decide) (by decide)
