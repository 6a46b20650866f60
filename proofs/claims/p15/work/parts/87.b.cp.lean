set_option maxHeartbeats 4000000 in
set_option maxRecDepth 100000 in
/-- readKind -/
theorem w_readKindX (l : Launch) (hl0 : l.stackTraces = false) (D : va_G) (A : Nat → Prop) (sad : Nat → Nat) (τ : zTy) (fi : zFi) (fr : zFr) (ol : Int64) (L a : Nat) (hF : zFix τ fr) (hn : fi 1 1 = nI L) (ha : fi 1 2 = nI a) (hn4 : L ≤ 400) (han : a ≤ L) : Met l yX11_readKind wsX11_readKind ({ frames := 5, cells := 0, slots := 0, locals := 108 }) (va_Pc [.ref (τ.1 0)] (zQc D A sad τ fi fr ol)) (va_Qi (fun (r : Int32) (u : zFi) => (∃ k x, k < 4 ∧ r = nI k ∧ zKnd (fi 2) L a = some (k, x) ∧ x ≤ L ∧ u = zu fi 1 2 (nI x)) ∨ (r = -1 ∧ zKnd (fi 2) L a = none ∧ u = fi)) (fun (u : zFi) (t : State) => zH D A τ u fr ol t t.heap) A) 0 0 A := by
  refine Met.ofW (cc := cX11_readKind) (maxL := 1) (ret := (some .int)) (by decide) rfl ?_
  intro p9 e9 s m args below meth c9 s₁ B hml hv
  obtain ⟨rfl, hz, hH, hA⟩ := hv
  have hx := B.exec
  have hb := B.bytes
  have hr := B.returns
  have hts := atoms_spec (ws := wsX11_readKind) B.pre
  have hown : s.vm.findClass RX11 = some m.cls := findClass_of_methodNamed B.named
  have hlocks := B.notSynchronized
  have hS : va_S A s.heap s.heap [] := va_S.rf
  have hl := lv_entry ([.ref (τ.1 0)]) (n := 1) (Nat.le_of_ble_eq_true rfl)
  rw [lg_entry_eq]
  generalize (lg_sl ([.ref (τ.1 0)]) ++ List.replicate (1 - (lg_sl ([.ref (τ.1 0)])).length) Slot.unset).toArray = ls at hl ⊢
  have hl : lv_has ls 1 [(0, .ref (τ.1 0))] := hl
  have hiX11 : ∀ w ∈ u_ws RX11 TX11 16, w ∈ wsX11_readKind := fun _ h => List.mem_cons_of_mem _ (List.mem_append_left _ (List.mem_append_right _ h))
  have hw1 := hts (.fieldLink RX11 10 "PostHouse" "tape" "LPostHouse$Tape;") (by decide +kernel)
  refine lv_aload_n hx hb dX11_readKind_0 rfl (lv_at hl 0 rfl) ?_
  refine zGetR (D := D) (ci := 11) (C := RX11) (T := TX11) (N := 16) hx hb hts hiX11 hown hH (zk_0 hF) rfl 0 (by decide) rfl hw1 (fun _ h9 => h9) dX11_readKind_1 (zr_0_0 hF) ?_
  refine zLdcW hx hb hown (hz.1.2.2.2.1 1 _ rfl).2 dX11_readKind_4 ?_
  refine va_calli (va_runV (As := [.ref (sad 1)]) (rest := []) ⟨hx, hb, hml, hown, hts⟩ (t_takesWord l hl0 D A sad τ fi fr ol L a hF hn ha (by omega) (by omega) 1 ((424, "behind", [98, 101, 104, 105, 110, 100])) rfl) (cwV 1 hts gX11_readKind_X7_takesWord rfl rfl rfl (by decide +kernel) ⟨Nat.le_of_ble_eq_true rfl, Nat.le_of_ble_eq_true rfl⟩) ⟨zQc_bl, zRecv hH (zk_1 hF) rfl, zQc_at hz hS hA hH⟩ rfl rfl hl.1 rfl (lv_room (Nat.le_of_ble_eq_true rfl)) dX11_readKind_7 ⟨Nat.le_of_ble_eq_true rfl, Nat.le_of_ble_eq_true rfl⟩) hS (fun q _ h => h) (fun q h => h) (fun r101 u9 t9 H1 locs ht9 hvm9 hw hB hz1 hk1 hS => ?_)
  have hH := zMv ht9 hvm9 hB
  clear hB
  generalize u9 = f102 at hw hH
  generalize H1 = H at hH hS ⊢
  rcases hw with ⟨rfl, hw103, b104, ef102, hs105⟩ | ⟨rfl, hn106, ef102⟩
  · have zhs105 := hs105.1
    have yhs105 := hs105.2.1
    have q107 : f102 1 1 = nI L := by rw [ef102, zu_n (fun h9 => absurd h9.2 (by decide))]; exact hn
    have q108 : f102 1 2 = nI b104 := by rw [ef102]; exact zu_s
    refine lv_if_eq (tgt := 15) hx hb dX11_readKind_10 (by decide) (fun c109 => absurd c109 (by decide)) (fun c109 => ?_)
    refine lv_iconst (v := nI 0) hx hb dX11_readKind_13 (by decide) ?_
    refine W.widen (k := 0) (n := 0) (by decide) (by decide) ?_
    exact W.iret (v := nI 0) hx hb hr (fun t9 ht9 hW9 => ⟨⟨nI 0, f102, rfl, Or.inl ⟨0, b104, by omega, rfl, by simp only [zKnd, (zWrd_yes hw103 hs105 : zWrd (fi 2) L [98, 101, 104, 105, 110, 100] a = some b104)], by omega, ef102⟩, zEnd1 hH ht9 hW9⟩, hS.F ht9⟩) hS.2.2 dX11_readKind_14
  · have ef102 := ef102.symm
    subst ef102
    refine lv_if_eq (tgt := 15) hx hb dX11_readKind_10 (by decide) (fun c110 => ?_) (fun c110 => absurd (by decide) c110)
    refine lv_aload_n hx hb dX11_readKind_15 rfl (lv_at hl 0 rfl) ?_
    refine zGetR (D := D) (ci := 11) (C := RX11) (T := TX11) (N := 16) hx hb hts hiX11 hown hH (zk_0 hF) rfl 0 (by decide) rfl hw1 (fun _ h9 => h9) dX11_readKind_16 (zr_0_0 hF) ?_
    refine zLdcW hx hb hown (hz.1.2.2.2.1 2 _ rfl).2 dX11_readKind_19 ?_
    refine va_calli (va_runV (As := [.ref (sad 2)]) (rest := []) ⟨hx, hb, hml, hown, hts⟩ (t_takesWord l hl0 D A sad τ fi fr ol L a hF hn ha (by omega) (by omega) 2 ((426, "post", [112, 111, 115, 116])) rfl) (cwV 1 hts gX11_readKind_X7_takesWord rfl rfl rfl (by decide +kernel) ⟨Nat.le_of_ble_eq_true rfl, Nat.le_of_ble_eq_true rfl⟩) ⟨zQc_bl, zRecv hH (zk_1 hF) rfl, zQc_at hz hS hA hH⟩ rfl rfl hl.1 rfl (lv_room (Nat.le_of_ble_eq_true rfl)) dX11_readKind_22 ⟨Nat.le_of_ble_eq_true rfl, Nat.le_of_ble_eq_true rfl⟩) hS (fun q _ h => h) (fun q h => h) (fun r111 u9 t9 H1 locs ht9 hvm9 hw hB hz1 hk1 hS => ?_)
    have hH := zMv ht9 hvm9 hB
    clear hB
    generalize u9 = f112 at hw hH
    generalize H1 = H at hH hS ⊢
    rcases hw with ⟨rfl, hw113, b114, ef112, hs115⟩ | ⟨rfl, hn116, ef112⟩
    · have zhs115 := hs115.1
      have yhs115 := hs115.2.1
      have q117 : f112 1 1 = nI L := by rw [ef112, zu_n (fun h9 => absurd h9.2 (by decide))]; exact hn
      have q118 : f112 1 2 = nI b114 := by rw [ef112]; exact zu_s
      refine lv_if_eq (tgt := 30) hx hb dX11_readKind_25 (by decide) (fun c119 => absurd c119 (by decide)) (fun c119 => ?_)
      refine lv_iconst (v := nI 1) hx hb dX11_readKind_28 (by decide) ?_
      refine W.widen (k := 0) (n := 0) (by decide) (by decide) ?_
      exact W.iret (v := nI 1) hx hb hr (fun t9 ht9 hW9 => ⟨⟨nI 1, f112, rfl, Or.inl ⟨1, b114, by omega, rfl, by simp only [zKnd, (zWrd_no hn106 han : zWrd (fi 2) L [98, 101, 104, 105, 110, 100] a = none), (zWrd_yes hw113 hs115 : zWrd (fi 2) L [112, 111, 115, 116] a = some b114)], by omega, ef112⟩, zEnd1 hH ht9 hW9⟩, hS.F ht9⟩) hS.2.2 dX11_readKind_29
    · have ef112 := ef112.symm
      subst ef112
      refine lv_if_eq (tgt := 30) hx hb dX11_readKind_25 (by decide) (fun c120 => ?_) (fun c120 => absurd (by decide) c120)
      refine lv_aload_n hx hb dX11_readKind_30 rfl (lv_at hl 0 rfl) ?_
      refine zGetR (D := D) (ci := 11) (C := RX11) (T := TX11) (N := 16) hx hb hts hiX11 hown hH (zk_0 hF) rfl 0 (by decide) rfl hw1 (fun _ h9 => h9) dX11_readKind_31 (zr_0_0 hF) ?_
      refine zLdcW hx hb hown (hz.1.2.2.2.1 3 _ rfl).2 dX11_readKind_34 ?_
      refine va_calli (va_runV (As := [.ref (sad 3)]) (rest := []) ⟨hx, hb, hml, hown, hts⟩ (t_takesWord l hl0 D A sad τ fi fr ol L a hF hn ha (by omega) (by omega) 3 ((427, "free", [102, 114, 101, 101])) rfl) (cwV 1 hts gX11_readKind_X7_takesWord rfl rfl rfl (by decide +kernel) ⟨Nat.le_of_ble_eq_true rfl, Nat.le_of_ble_eq_true rfl⟩) ⟨zQc_bl, zRecv hH (zk_1 hF) rfl, zQc_at hz hS hA hH⟩ rfl rfl hl.1 rfl (lv_room (Nat.le_of_ble_eq_true rfl)) dX11_readKind_37 ⟨Nat.le_of_ble_eq_true rfl, Nat.le_of_ble_eq_true rfl⟩) hS (fun q _ h => h) (fun q h => h) (fun r121 u9 t9 H1 locs ht9 hvm9 hw hB hz1 hk1 hS => ?_)
      have hH := zMv ht9 hvm9 hB
      clear hB
      generalize u9 = f122 at hw hH
      generalize H1 = H at hH hS ⊢
      rcases hw with ⟨rfl, hw123, b124, ef122, hs125⟩ | ⟨rfl, hn126, ef122⟩
      · have zhs125 := hs125.1
        have yhs125 := hs125.2.1
        have q127 : f122 1 1 = nI L := by rw [ef122, zu_n (fun h9 => absurd h9.2 (by decide))]; exact hn
        have q128 : f122 1 2 = nI b124 := by rw [ef122]; exact zu_s
        refine lv_if_eq (tgt := 45) hx hb dX11_readKind_40 (by decide) (fun c129 => absurd c129 (by decide)) (fun c129 => ?_)
        refine lv_iconst (v := nI 2) hx hb dX11_readKind_43 (by decide) ?_
        refine W.widen (k := 0) (n := 0) (by decide) (by decide) ?_
        exact W.iret (v := nI 2) hx hb hr (fun t9 ht9 hW9 => ⟨⟨nI 2, f122, rfl, Or.inl ⟨2, b124, by omega, rfl, by simp only [zKnd, (zWrd_no hn106 han : zWrd (fi 2) L [98, 101, 104, 105, 110, 100] a = none), (zWrd_no hn116 han : zWrd (fi 2) L [112, 111, 115, 116] a = none), (zWrd_yes hw123 hs125 : zWrd (fi 2) L [102, 114, 101, 101] a = some b124)], by omega, ef122⟩, zEnd1 hH ht9 hW9⟩, hS.F ht9⟩) hS.2.2 dX11_readKind_44
      · have ef122 := ef122.symm
        subst ef122
        refine lv_if_eq (tgt := 45) hx hb dX11_readKind_40 (by decide) (fun c130 => ?_) (fun c130 => absurd (by decide) c130)
        refine lv_aload_n hx hb dX11_readKind_45 rfl (lv_at hl 0 rfl) ?_
        refine zGetR (D := D) (ci := 11) (C := RX11) (T := TX11) (N := 16) hx hb hts hiX11 hown hH (zk_0 hF) rfl 0 (by decide) rfl hw1 (fun _ h9 => h9) dX11_readKind_46 (zr_0_0 hF) ?_
        refine zLdcW hx hb hown (hz.1.2.2.2.1 4 _ rfl).2 dX11_readKind_49 ?_
        refine va_calli (va_runV (As := [.ref (sad 4)]) (rest := []) ⟨hx, hb, hml, hown, hts⟩ (t_takesWord l hl0 D A sad τ fi fr ol L a hF hn ha (by omega) (by omega) 4 ((429, "back", [98, 97, 99, 107])) rfl) (cwV 1 hts gX11_readKind_X7_takesWord rfl rfl rfl (by decide +kernel) ⟨Nat.le_of_ble_eq_true rfl, Nat.le_of_ble_eq_true rfl⟩) ⟨zQc_bl, zRecv hH (zk_1 hF) rfl, zQc_at hz hS hA hH⟩ rfl rfl hl.1 rfl (lv_room (Nat.le_of_ble_eq_true rfl)) dX11_readKind_52 ⟨Nat.le_of_ble_eq_true rfl, Nat.le_of_ble_eq_true rfl⟩) hS (fun q _ h => h) (fun q h => h) (fun r131 u9 t9 H1 locs ht9 hvm9 hw hB hz1 hk1 hS => ?_)
        have hH := zMv ht9 hvm9 hB
        clear hB
        generalize u9 = f132 at hw hH
        generalize H1 = H at hH hS ⊢
        rcases hw with ⟨rfl, hw133, b134, ef132, hs135⟩ | ⟨rfl, hn136, ef132⟩
        · have zhs135 := hs135.1
          have yhs135 := hs135.2.1
          have q137 : f132 1 1 = nI L := by rw [ef132, zu_n (fun h9 => absurd h9.2 (by decide))]; exact hn
          have q138 : f132 1 2 = nI b134 := by rw [ef132]; exact zu_s
          refine lv_if_eq (tgt := 62) hx hb dX11_readKind_55 (by decide) (fun c139 => absurd c139 (by decide)) (fun c139 => ?_)
          refine lv_iconst (v := nI 3) hx hb dX11_readKind_58 (by decide) ?_
          refine lv_goto (tgt := 63) hx hb dX11_readKind_59 (by decide) ?_
          refine W.widen (k := 0) (n := 0) (by decide) (by decide) ?_
          exact W.iret (v := nI 3) hx hb hr (fun t9 ht9 hW9 => ⟨⟨nI 3, f132, rfl, Or.inl ⟨3, b134, by omega, rfl, by simp only [zKnd, (zWrd_no hn106 han : zWrd (fi 2) L [98, 101, 104, 105, 110, 100] a = none), (zWrd_no hn116 han : zWrd (fi 2) L [112, 111, 115, 116] a = none), (zWrd_no hn126 han : zWrd (fi 2) L [102, 114, 101, 101] a = none), (zWrd_yes hw133 hs135 : zWrd (fi 2) L [98, 97, 99, 107] a = some b134)], by omega, ef132⟩, zEnd1 hH ht9 hW9⟩, hS.F ht9⟩) hS.2.2 dX11_readKind_63
        · have ef132 := ef132.symm
          subst ef132
          refine lv_if_eq (tgt := 62) hx hb dX11_readKind_55 (by decide) (fun c140 => ?_) (fun c140 => absurd (by decide) c140)
          refine lv_iconst (v := (-1)) hx hb dX11_readKind_62 (by decide) ?_
          refine W.widen (k := 0) (n := 0) (by decide) (by decide) ?_
          exact W.iret (v := (-1)) hx hb hr (fun t9 ht9 hW9 => ⟨⟨(-1), fi, rfl, Or.inr ⟨rfl, by simp only [zKnd, (zWrd_no hn106 han : zWrd (fi 2) L [98, 101, 104, 105, 110, 100] a = none), (zWrd_no hn116 han : zWrd (fi 2) L [112, 111, 115, 116] a = none), (zWrd_no hn126 han : zWrd (fi 2) L [102, 114, 101, 101] a = none), (zWrd_no hn136 han : zWrd (fi 2) L [98, 97, 99, 107] a = none)], rfl⟩, zEnd1 hH ht9 hW9⟩, hS.F ht9⟩) hS.2.2 dX11_readKind_63
set_option maxHeartbeats 4000000 in
set_option maxRecDepth 100000 in
/-- readThing -/
theorem w_readThingXN (l : Launch) (hl0 : l.stackTraces = false) (D : va_G) (A : Nat → Prop) (sad : Nat → Nat) (τ : zTy) (fi : zFi) (fr : zFr) (ol : Int64) (L a : Nat) (hF : zFix τ fr) (hn : fi 1 1 = nI L) (ha : fi 1 2 = nI a) (hn4 : L ≤ 400) (han : a ≤ L) (n : Nat) (hT : zTh τ fi fr n) : Met l yX11_readThing wsX11_readThing ({ frames := 3, cells := 0, slots := 0, locals := 69 }) (va_Pc [.ref (τ.1 0), .null] (zQc D A sad τ fi fr ol)) (va_Qq (fun (r : Option Nat) (u : zFi) => ((∃ t, t < n ∧ r = some (τ.1 (300 + t)) ∧ zStp fi u (zExc (zThg (fi 2) L (fun t9 => fi (300 + t9) 1) n none a) a) (fun xx => u 1 2 = nI xx.2 ∧ xx.1 = t)) ∨ (r = none ∧ zStp fi u (zExc (zThg (fi 2) L (fun t9 => fi (300 + t9) 1) n none a) a) (fun _ => False))) ∧ (∃ b, b ≤ L ∧ u 1 2 = nI b) ∧ ∀ i k, ¬ (i = 1 ∧ 2 ≤ k) → u i k = fi i k) (fun (u : zFi) (t : State) => zH D A τ u fr ol t t.heap) A) 0 0 A := by
  refine Met.ofW (cc := cX11_readThing) (maxL := 4) (ret := (some (.object "PostHouse$Thing"))) (by decide) rfl ?_
  intro p9 e9 s m args below meth c9 s₁ B hml hv
  obtain ⟨rfl, hz, hH, hA⟩ := hv
  have hx := B.exec
  have hb := B.bytes
  have hr := B.returns
  have hts := atoms_spec (ws := wsX11_readThing) B.pre
  have hown : s.vm.findClass RX11 = some m.cls := findClass_of_methodNamed B.named
  have hlocks := B.notSynchronized
  have hS : va_S A s.heap s.heap [] := va_S.rf
  have hl := lv_entry ([.ref (τ.1 0), .null]) (n := 4) (Nat.le_of_ble_eq_true rfl)
  rw [lg_entry_eq]
  generalize (lg_sl ([.ref (τ.1 0), .null]) ++ List.replicate (4 - (lg_sl ([.ref (τ.1 0), .null])).length) Slot.unset).toArray = ls at hl ⊢
  have hl : lv_has ls 4 [(0, .ref (τ.1 0)), (1, .null)] := hl
  have hn30 := hT.1
  have hiX11 : ∀ w ∈ u_ws RX11 TX11 16, w ∈ wsX11_readThing := fun _ h => List.mem_cons_of_mem _ (List.mem_append_left _ (List.mem_append_left _ (List.mem_append_left _ (List.mem_append_right _ h))))
  have hw1 := hts (.fieldLink RX11 10 "PostHouse" "tape" "LPostHouse$Tape;") (by decide +kernel)
  have hiX7 : ∀ w ∈ u_ws RX7 TX7 4, w ∈ wsX11_readThing := fun _ h => List.mem_cons_of_mem _ (List.mem_append_left _ (List.mem_append_left _ (List.mem_append_right _ h)))
  have hw3 := hts (.fieldLink RX11 413 "PostHouse$Tape" "next" "I") (by decide +kernel)
  have hw4 := hts (.fieldLink RX11 19 "PostHouse" "book" "LPostHouse$Book;") (by decide +kernel)
  refine lv_aload_n hx hb dX11_readThing_0 rfl (lv_at hl 0 rfl) ?_
  refine zGetR (D := D) (ci := 11) (C := RX11) (T := TX11) (N := 16) hx hb hts hiX11 hown hH (zk_0 hF) rfl 0 (by decide) rfl hw1 (fun _ h9 => h9) dX11_readThing_1 (zr_0_0 hF) ?_
  refine zGetI (D := D) (ci := 7) (C := RX7) (T := TX7) (N := 4) hx hb hts hiX7 hown hH (zk_1 hF) rfl 2 (by decide) rfl hw3 (fun _ h9 => h9) dX11_readThing_4 ha ?_
  refine lv_istore_n (lv' := [(2, .int (nI a)), (0, .ref (τ.1 0)), (1, .null)]) hx hb dX11_readThing_7 rfl hl (by decide) rfl (fun ls hl => ?_)
  refine lv_aload_n hx hb dX11_readThing_8 rfl (lv_at hl 1 rfl) ?_
  refine zGetR (D := D) (ci := 11) (C := RX11) (T := TX11) (N := 16) hx hb hts hiX11 hown hH (zk_0 hF) rfl 1 (by decide) rfl hw4 (fun _ h9 => h9) dX11_readThing_9 (zr_0_1 hF) ?_
  refine lv_aload_n hx hb dX11_readThing_12 rfl (lv_at hl 1 rfl) ?_
  refine zGetR (D := D) (ci := 11) (C := RX11) (T := TX11) (N := 16) hx hb hts hiX11 hown hH (zk_0 hF) rfl 0 (by decide) rfl hw1 (fun _ h9 => h9) dX11_readThing_13 (zr_0_0 hF) ?_
  refine va_calli (va_runV (As := []) (rest := [.ref (τ.1 3)]) ⟨hx, hb, hml, hown, hts⟩ (t_code l hl0 D A sad τ fi fr ol L a hF hn ha (by omega) (by omega)) (cwV 0 hts gX11_readThing_X7_code rfl rfl rfl (by decide +kernel) ⟨Nat.le_of_ble_eq_true rfl, Nat.le_of_ble_eq_true rfl⟩) ⟨zQc_bl, zRecv hH (zk_1 hF) rfl, zQc_at hz hS hA hH⟩ rfl rfl hl.1 rfl (lv_room (Nat.le_of_ble_eq_true rfl)) dX11_readThing_16 ⟨Nat.le_of_ble_eq_true rfl, Nat.le_of_ble_eq_true rfl⟩) hS (fun q _ h => h) (fun q h => h) (fun r101 u9 t9 H1 locs ht9 hvm9 hw hB hz1 hk1 hS => ?_)
  have hH := zMv ht9 hvm9 hB
  clear hB
  generalize u9 = f102 at hw hH
  generalize H1 = H at hH hS ⊢
  have hnu := zStp.num hn4 han hw
  obtain ⟨b103, hb104, q105, hf106⟩ := zTw.num ha (by omega) hw
  have q107 : f102 1 1 = nI L := by rw [hf106 1 1 (by omega)]; exact hn
  have hT := zTh.ci (fi' := f102) hT (fun i9 k9 h9 => hf106 i9 k9 (by omega))
  refine va_callq (va_runV (As := [.int r101]) (rest := []) ⟨hx, hb, hml, hown, hts⟩ (c_ofCode l hl0 D A sad τ f102 fr ol r101 hF n hT) (cwV 1 hts gX11_readThing_X0_ofCode rfl rfl rfl (by decide +kernel) ⟨Nat.le_of_ble_eq_true rfl, Nat.le_of_ble_eq_true rfl⟩) ⟨zQc_bl, zRecv hH (zk_3 hF) rfl, zQc_at hz hS hA hH⟩ rfl rfl hl.1 rfl (lv_room (Nat.le_of_ble_eq_true rfl)) dX11_readThing_19 ⟨Nat.le_of_ble_eq_true rfl, Nat.le_of_ble_eq_true rfl⟩) hS (fun q _ h => h) (fun q h => h) (fun r108 u9 t9 H1 locs ht9 hvm9 hw hB hz1 hk1 hS => ?_)
  have hH := zMv ht9 hvm9 hB
  generalize H1 = H at hH hS ⊢
  rcases hw with ⟨t, ht, hcd, hcl, rfl⟩ | ⟨hno, rfl⟩
  · skip
    refine lv_astore_n (lv' := [(3, .ref (τ.1 (300 + t))), (2, .int (nI a)), (0, .ref (τ.1 0)), (1, .null)]) hx hb dX11_readThing_22 rfl hl (by decide) rfl (fun ls hl => ?_)
    refine lv_aload_n hx hb dX11_readThing_23 rfl (lv_at hl 0 rfl) ?_
    refine lv_ifnull hx hb dX11_readThing_24 ?_
    refine lv_aload_n hx hb dX11_readThing_27 rfl (lv_at hl 0 rfl) ?_
    refine lv_aload_nN hx hb dX11_readThing_28 rfl (lv_at hl 3 rfl) ?_
    refine lv_acmp_ne (rx := (some (τ.1 (300 + t)))) (ry := none) (tgt := 42) hx hb dX11_readThing_29 (by decide) (fun c109 => ?_) (fun c109 => ?_)
    · skip
      refine lv_aload_n hx hb dX11_readThing_42 rfl (lv_at hl 0 rfl) ?_
      refine W.widen (k := 0) (n := 0) (by decide) (by decide) ?_
      exact W.aret (v := .ref (τ.1 (300 + t))) hx hb hr (Or.inl ⟨_, rfl⟩) (Or.inr ⟨_, rfl⟩) (fun t9 ht9 hW9 => ⟨⟨(some (τ.1 (300 + t))), f102, rfl, ⟨Or.inl ⟨t, ht, rfl, zStp.thgY hnu ht hcd hcl (fun j => hf106 (300 + j) 1 (by omega)) (by simp)⟩, ⟨b103, by omega, q105⟩, fun i k h => by rw [hf106 i k (by omega)]⟩, zEnd1 hH ht9 hW9⟩, hS.F ht9⟩) hS.2.2 dX11_readThing_43
    · exact absurd c109 (by simp)
  · skip
    refine lv_astore_nN (lv' := [(3, .null), (2, .int (nI a)), (0, .ref (τ.1 0)), (1, .null)]) hx hb dX11_readThing_22 rfl hl (by decide) rfl (fun ls hl => ?_)
    refine lv_aload_nN hx hb dX11_readThing_23 rfl (lv_at hl 0 rfl) ?_
    refine lv_ifnullN (tgt := 32) hx hb dX11_readThing_24 (by decide) ?_
    refine lv_aload_n hx hb dX11_readThing_32 rfl (lv_at hl 2 rfl) ?_
    refine zGetR (D := D) (ci := 11) (C := RX11) (T := TX11) (N := 16) hx hb hts hiX11 hown hH (zk_0 hF) rfl 0 (by decide) rfl hw1 (fun _ h9 => h9) dX11_readThing_33 (zr_0_0 hF) ?_
    refine lv_iload_n hx hb dX11_readThing_36 rfl (lv_at hl 1 rfl) ?_
    refine va_callv (va_runV (As := [.int (nI a)]) (rest := []) ⟨hx, hb, hml, hown, hts⟩ (t_refuse l hl0 D A sad τ f102 fr ol hF (nI a)) (cwV 1 hts gX11_readThing_X7_refuse rfl rfl rfl (by decide +kernel) ⟨Nat.le_of_ble_eq_true rfl, Nat.le_of_ble_eq_true rfl⟩) ⟨zQc_bl, zRecv hH (zk_1 hF) rfl, zQc_at hz hS hA hH⟩ rfl rfl hl.1 rfl (lv_room (Nat.le_of_ble_eq_true rfl)) dX11_readThing_37 ⟨Nat.le_of_ble_eq_true rfl, Nat.le_of_ble_eq_true rfl⟩) hS (fun q _ h => h) (fun q h => h) (fun u9 t9 H1 locs ht9 hvm9 hw hB hz1 hk1 hS => ?_)
    have hH := zMv ht9 hvm9 hB
    clear hB
    generalize u9 = f111 at hw hH
    generalize H1 = H at hH hS ⊢
    have hre := hw
    obtain ⟨b112, hb113, q114, hf115⟩ := zTw.ref (L := L) q105 (by omega) hw
    have q116 : f111 1 1 = nI L := by rw [hf115 1 1 (by omega)]; exact q107
    have hT := zTh.ci (fi' := f111) hT (fun i9 k9 h9 => hf115 i9 k9 (by omega))
    refine lv_null hx hb dX11_readThing_40 ?_
    refine W.widen (k := 0) (n := 0) (by decide) (by decide) ?_
    exact W.aret (v := .null) hx hb hr (Or.inl ⟨_, rfl⟩) (Or.inl rfl) (fun t9 ht9 hW9 => ⟨⟨none, f111, rfl, ⟨Or.inr ⟨rfl, zStp.thgN hn4 han hnu (Or.inl hno) (fun j => hf106 (300 + j) 1 (by omega)) hre⟩, ⟨b112, by omega, q114⟩, fun i k h => by rw [hf115 i k (by omega), hf106 i k (by omega)]⟩, zEnd1 hH ht9 hW9⟩, hS.F ht9⟩) hS.2.2 dX11_readThing_41
set_option maxHeartbeats 4000000 in
set_option maxRecDepth 100000 in
/-- readThing -/
theorem w_readThingXR (l : Launch) (hl0 : l.stackTraces = false) (D : va_G) (A : Nat → Prop) (sad : Nat → Nat) (τ : zTy) (fi : zFi) (fr : zFr) (ol : Int64) (L a : Nat) (hF : zFix τ fr) (hn : fi 1 1 = nI L) (ha : fi 1 2 = nI a) (hn4 : L ≤ 400) (han : a ≤ L) (n : Nat) (hT : zTh τ fi fr n) (t0 : Nat) (ht0 : t0 < n) : Met l yX11_readThing wsX11_readThing ({ frames := 3, cells := 0, slots := 0, locals := 69 }) (va_Pc [.ref (τ.1 0), .ref (τ.1 (300 + t0))] (zQc D A sad τ fi fr ol)) (va_Qq (fun (r : Option Nat) (u : zFi) => ((∃ t, t < n ∧ r = some (τ.1 (300 + t)) ∧ zStp fi u (zExc (zThg (fi 2) L (fun t9 => fi (300 + t9) 1) n (some t0) a) a) (fun xx => u 1 2 = nI xx.2 ∧ xx.1 = t)) ∨ (r = none ∧ zStp fi u (zExc (zThg (fi 2) L (fun t9 => fi (300 + t9) 1) n (some t0) a) a) (fun _ => False))) ∧ (∃ b, b ≤ L ∧ u 1 2 = nI b) ∧ ∀ i k, ¬ (i = 1 ∧ 2 ≤ k) → u i k = fi i k) (fun (u : zFi) (t : State) => zH D A τ u fr ol t t.heap) A) 0 0 A := by
  refine Met.ofW (cc := cX11_readThing) (maxL := 4) (ret := (some (.object "PostHouse$Thing"))) (by decide) rfl ?_
  intro p9 e9 s m args below meth c9 s₁ B hml hv
  obtain ⟨rfl, hz, hH, hA⟩ := hv
  have hx := B.exec
  have hb := B.bytes
  have hr := B.returns
  have hts := atoms_spec (ws := wsX11_readThing) B.pre
  have hown : s.vm.findClass RX11 = some m.cls := findClass_of_methodNamed B.named
  have hlocks := B.notSynchronized
  have hS : va_S A s.heap s.heap [] := va_S.rf
  have hl := lv_entry ([.ref (τ.1 0), .ref (τ.1 (300 + t0))]) (n := 4) (Nat.le_of_ble_eq_true rfl)
  rw [lg_entry_eq]
  generalize (lg_sl ([.ref (τ.1 0), .ref (τ.1 (300 + t0))]) ++ List.replicate (4 - (lg_sl ([.ref (τ.1 0), .ref (τ.1 (300 + t0))])).length) Slot.unset).toArray = ls at hl ⊢
  have hl : lv_has ls 4 [(0, .ref (τ.1 0)), (1, .ref (τ.1 (300 + t0)))] := hl
  have hn30 := hT.1
  have hiX11 : ∀ w ∈ u_ws RX11 TX11 16, w ∈ wsX11_readThing := fun _ h => List.mem_cons_of_mem _ (List.mem_append_left _ (List.mem_append_left _ (List.mem_append_left _ (List.mem_append_right _ h))))
  have hw1 := hts (.fieldLink RX11 10 "PostHouse" "tape" "LPostHouse$Tape;") (by decide +kernel)
  have hiX7 : ∀ w ∈ u_ws RX7 TX7 4, w ∈ wsX11_readThing := fun _ h => List.mem_cons_of_mem _ (List.mem_append_left _ (List.mem_append_left _ (List.mem_append_right _ h)))
  have hw3 := hts (.fieldLink RX11 413 "PostHouse$Tape" "next" "I") (by decide +kernel)
  have hw4 := hts (.fieldLink RX11 19 "PostHouse" "book" "LPostHouse$Book;") (by decide +kernel)
  refine lv_aload_n hx hb dX11_readThing_0 rfl (lv_at hl 0 rfl) ?_
  refine zGetR (D := D) (ci := 11) (C := RX11) (T := TX11) (N := 16) hx hb hts hiX11 hown hH (zk_0 hF) rfl 0 (by decide) rfl hw1 (fun _ h9 => h9) dX11_readThing_1 (zr_0_0 hF) ?_
  refine zGetI (D := D) (ci := 7) (C := RX7) (T := TX7) (N := 4) hx hb hts hiX7 hown hH (zk_1 hF) rfl 2 (by decide) rfl hw3 (fun _ h9 => h9) dX11_readThing_4 ha ?_
  refine lv_istore_n (lv' := [(2, .int (nI a)), (0, .ref (τ.1 0)), (1, .ref (τ.1 (300 + t0)))]) hx hb dX11_readThing_7 rfl hl (by decide) rfl (fun ls hl => ?_)
  refine lv_aload_n hx hb dX11_readThing_8 rfl (lv_at hl 1 rfl) ?_
  refine zGetR (D := D) (ci := 11) (C := RX11) (T := TX11) (N := 16) hx hb hts hiX11 hown hH (zk_0 hF) rfl 1 (by decide) rfl hw4 (fun _ h9 => h9) dX11_readThing_9 (zr_0_1 hF) ?_
  refine lv_aload_n hx hb dX11_readThing_12 rfl (lv_at hl 1 rfl) ?_
  refine zGetR (D := D) (ci := 11) (C := RX11) (T := TX11) (N := 16) hx hb hts hiX11 hown hH (zk_0 hF) rfl 0 (by decide) rfl hw1 (fun _ h9 => h9) dX11_readThing_13 (zr_0_0 hF) ?_
  refine va_calli (va_runV (As := []) (rest := [.ref (τ.1 3)]) ⟨hx, hb, hml, hown, hts⟩ (t_code l hl0 D A sad τ fi fr ol L a hF hn ha (by omega) (by omega)) (cwV 0 hts gX11_readThing_X7_code rfl rfl rfl (by decide +kernel) ⟨Nat.le_of_ble_eq_true rfl, Nat.le_of_ble_eq_true rfl⟩) ⟨zQc_bl, zRecv hH (zk_1 hF) rfl, zQc_at hz hS hA hH⟩ rfl rfl hl.1 rfl (lv_room (Nat.le_of_ble_eq_true rfl)) dX11_readThing_16 ⟨Nat.le_of_ble_eq_true rfl, Nat.le_of_ble_eq_true rfl⟩) hS (fun q _ h => h) (fun q h => h) (fun r101 u9 t9 H1 locs ht9 hvm9 hw hB hz1 hk1 hS => ?_)
  have hH := zMv ht9 hvm9 hB
  clear hB
  generalize u9 = f102 at hw hH
  generalize H1 = H at hH hS ⊢
  have hnu := zStp.num hn4 han hw
  obtain ⟨b103, hb104, q105, hf106⟩ := zTw.num ha (by omega) hw
  have q107 : f102 1 1 = nI L := by rw [hf106 1 1 (by omega)]; exact hn
  have hT := zTh.ci (fi' := f102) hT (fun i9 k9 h9 => hf106 i9 k9 (by omega))
  refine va_callq (va_runV (As := [.int r101]) (rest := []) ⟨hx, hb, hml, hown, hts⟩ (c_ofCode l hl0 D A sad τ f102 fr ol r101 hF n hT) (cwV 1 hts gX11_readThing_X0_ofCode rfl rfl rfl (by decide +kernel) ⟨Nat.le_of_ble_eq_true rfl, Nat.le_of_ble_eq_true rfl⟩) ⟨zQc_bl, zRecv hH (zk_3 hF) rfl, zQc_at hz hS hA hH⟩ rfl rfl hl.1 rfl (lv_room (Nat.le_of_ble_eq_true rfl)) dX11_readThing_19 ⟨Nat.le_of_ble_eq_true rfl, Nat.le_of_ble_eq_true rfl⟩) hS (fun q _ h => h) (fun q h => h) (fun r108 u9 t9 H1 locs ht9 hvm9 hw hB hz1 hk1 hS => ?_)
  have hH := zMv ht9 hvm9 hB
  generalize H1 = H at hH hS ⊢
  rcases hw with ⟨t, ht, hcd, hcl, rfl⟩ | ⟨hno, rfl⟩
  · skip
    refine lv_astore_n (lv' := [(3, .ref (τ.1 (300 + t))), (2, .int (nI a)), (0, .ref (τ.1 0)), (1, .ref (τ.1 (300 + t0)))]) hx hb dX11_readThing_22 rfl hl (by decide) rfl (fun ls hl => ?_)
    refine lv_aload_n hx hb dX11_readThing_23 rfl (lv_at hl 0 rfl) ?_
    refine lv_ifnull hx hb dX11_readThing_24 ?_
    refine lv_aload_n hx hb dX11_readThing_27 rfl (lv_at hl 0 rfl) ?_
    refine lv_aload_n hx hb dX11_readThing_28 rfl (lv_at hl 3 rfl) ?_
    refine lv_acmp_ne (rx := (some (τ.1 (300 + t)))) (ry := (some (τ.1 (300 + t0)))) (tgt := 42) hx hb dX11_readThing_29 (by decide) (fun c109 => ?_) (fun c109 => ?_)
    · have zt : ¬ t = t0 := fun h8 => c109 (by rw [h8])
      refine lv_aload_n hx hb dX11_readThing_42 rfl (lv_at hl 0 rfl) ?_
      refine W.widen (k := 0) (n := 0) (by decide) (by decide) ?_
      exact W.aret (v := .ref (τ.1 (300 + t))) hx hb hr (Or.inl ⟨_, rfl⟩) (Or.inr ⟨_, rfl⟩) (fun t9 ht9 hW9 => ⟨⟨(some (τ.1 (300 + t))), f102, rfl, ⟨Or.inl ⟨t, ht, rfl, zStp.thgY hnu ht hcd hcl (fun j => hf106 (300 + j) 1 (by omega)) (fun h8 => zt (Option.some.inj h8).symm)⟩, ⟨b103, by omega, q105⟩, fun i k h => by rw [hf106 i k (by omega)]⟩, zEnd1 hH ht9 hW9⟩, hS.F ht9⟩) hS.2.2 dX11_readThing_43
    · have zt : t = t0 := by have h8 := hH.inj (i := 300 + t) (j := 300 + t0) (by rw [(hT.2.2.1 t (by omega)).1.1]; decide) (by rw [(hT.2.2.1 t0 (by omega)).1.1]; decide) (Option.some.inj c109); omega
      refine lv_aload_n hx hb dX11_readThing_32 rfl (lv_at hl 2 rfl) ?_
      refine zGetR (D := D) (ci := 11) (C := RX11) (T := TX11) (N := 16) hx hb hts hiX11 hown hH (zk_0 hF) rfl 0 (by decide) rfl hw1 (fun _ h9 => h9) dX11_readThing_33 (zr_0_0 hF) ?_
      refine lv_iload_n hx hb dX11_readThing_36 rfl (lv_at hl 1 rfl) ?_
      refine va_callv (va_runV (As := [.int (nI a)]) (rest := []) ⟨hx, hb, hml, hown, hts⟩ (t_refuse l hl0 D A sad τ f102 fr ol hF (nI a)) (cwV 1 hts gX11_readThing_X7_refuse rfl rfl rfl (by decide +kernel) ⟨Nat.le_of_ble_eq_true rfl, Nat.le_of_ble_eq_true rfl⟩) ⟨zQc_bl, zRecv hH (zk_1 hF) rfl, zQc_at hz hS hA hH⟩ rfl rfl hl.1 rfl (lv_room (Nat.le_of_ble_eq_true rfl)) dX11_readThing_37 ⟨Nat.le_of_ble_eq_true rfl, Nat.le_of_ble_eq_true rfl⟩) hS (fun q _ h => h) (fun q h => h) (fun u9 t9 H1 locs ht9 hvm9 hw hB hz1 hk1 hS => ?_)
      have hH := zMv ht9 hvm9 hB
      clear hB
      generalize u9 = f111 at hw hH
      generalize H1 = H at hH hS ⊢
      have hre := hw
      obtain ⟨b112, hb113, q114, hf115⟩ := zTw.ref (L := L) q105 (by omega) hw
      have q116 : f111 1 1 = nI L := by rw [hf115 1 1 (by omega)]; exact q107
      have hT := zTh.ci (fi' := f111) hT (fun i9 k9 h9 => hf115 i9 k9 (by omega))
      refine lv_null hx hb dX11_readThing_40 ?_
      refine W.widen (k := 0) (n := 0) (by decide) (by decide) ?_
      exact W.aret (v := .null) hx hb hr (Or.inl ⟨_, rfl⟩) (Or.inl rfl) (fun t9 ht9 hW9 => ⟨⟨none, f111, rfl, ⟨Or.inr ⟨rfl, zStp.thgN hn4 han hnu (Or.inr ⟨t, ht, hcd, hcl, by rw [zt]⟩) (fun j => hf106 (300 + j) 1 (by omega)) hre⟩, ⟨b112, by omega, q114⟩, fun i k h => by rw [hf115 i k (by omega), hf106 i k (by omega)]⟩, zEnd1 hH ht9 hW9⟩, hS.F ht9⟩) hS.2.2 dX11_readThing_41
  · skip
    refine lv_astore_nN (lv' := [(3, .null), (2, .int (nI a)), (0, .ref (τ.1 0)), (1, .ref (τ.1 (300 + t0)))]) hx hb dX11_readThing_22 rfl hl (by decide) rfl (fun ls hl => ?_)
    refine lv_aload_nN hx hb dX11_readThing_23 rfl (lv_at hl 0 rfl) ?_
    refine lv_ifnullN (tgt := 32) hx hb dX11_readThing_24 (by decide) ?_
    refine lv_aload_n hx hb dX11_readThing_32 rfl (lv_at hl 2 rfl) ?_
    refine zGetR (D := D) (ci := 11) (C := RX11) (T := TX11) (N := 16) hx hb hts hiX11 hown hH (zk_0 hF) rfl 0 (by decide) rfl hw1 (fun _ h9 => h9) dX11_readThing_33 (zr_0_0 hF) ?_
    refine lv_iload_n hx hb dX11_readThing_36 rfl (lv_at hl 1 rfl) ?_
    refine va_callv (va_runV (As := [.int (nI a)]) (rest := []) ⟨hx, hb, hml, hown, hts⟩ (t_refuse l hl0 D A sad τ f102 fr ol hF (nI a)) (cwV 1 hts gX11_readThing_X7_refuse rfl rfl rfl (by decide +kernel) ⟨Nat.le_of_ble_eq_true rfl, Nat.le_of_ble_eq_true rfl⟩) ⟨zQc_bl, zRecv hH (zk_1 hF) rfl, zQc_at hz hS hA hH⟩ rfl rfl hl.1 rfl (lv_room (Nat.le_of_ble_eq_true rfl)) dX11_readThing_37 ⟨Nat.le_of_ble_eq_true rfl, Nat.le_of_ble_eq_true rfl⟩) hS (fun q _ h => h) (fun q h => h) (fun u9 t9 H1 locs ht9 hvm9 hw hB hz1 hk1 hS => ?_)
    have hH := zMv ht9 hvm9 hB
    clear hB
    generalize u9 = f118 at hw hH
    generalize H1 = H at hH hS ⊢
    have hre := hw
    obtain ⟨b119, hb120, q121, hf122⟩ := zTw.ref (L := L) q105 (by omega) hw
    have q123 : f118 1 1 = nI L := by rw [hf122 1 1 (by omega)]; exact q107
    have hT := zTh.ci (fi' := f118) hT (fun i9 k9 h9 => hf122 i9 k9 (by omega))
    refine lv_null hx hb dX11_readThing_40 ?_
    refine W.widen (k := 0) (n := 0) (by decide) (by decide) ?_
    exact W.aret (v := .null) hx hb hr (Or.inl ⟨_, rfl⟩) (Or.inl rfl) (fun t9 ht9 hW9 => ⟨⟨none, f118, rfl, ⟨Or.inr ⟨rfl, zStp.thgN hn4 han hnu (Or.inl hno) (fun j => hf106 (300 + j) 1 (by omega)) hre⟩, ⟨b119, by omega, q121⟩, fun i k h => by rw [hf122 i k (by omega), hf106 i k (by omega)]⟩, zEnd1 hH ht9 hW9⟩, hS.F ht9⟩) hS.2.2 dX11_readThing_41
set_option maxHeartbeats 4000000 in
set_option maxRecDepth 100000 in
/-- readPlace -/
theorem w_readPlaceX (l : Launch) (hl0 : l.stackTraces = false) (D : va_G) (A : Nat → Prop) (sad : Nat → Nat) (τ : zTy) (fi : zFi) (fr : zFr) (ol : Int64) (L a : Nat) (hF : zFix τ fr) (hn : fi 1 1 = nI L) (ha : fi 1 2 = nI a) (hn4 : L ≤ 400) (han : a ≤ L) (n : Nat) (hT : zTh τ fi fr n) : Met l yX11_readPlace wsX11_readPlace ({ frames := 6, cells := 0, slots := 0, locals := 129 }) (va_Pc [.ref (τ.1 0)] (zQc D A sad τ fi fr ol)) (va_Qv (fun (u : zFi) => zStp fi u (zPlc (fi 2) L (fun t9 => fi (300 + t9) 1) n a) (fun xx => u 1 2 = nI xx.1 ∧ zDft u = zup (zDft fi) xx.2.1 xx.2.2) ∧ (∃ b, b ≤ L ∧ u 1 2 = nI b) ∧ ∀ i k, ¬ ((i = 1 ∧ 2 ≤ k) ∨ i = 14) → u i k = fi i k) (fun (u : zFi) (t : State) => zH D A τ u fr ol t t.heap) A) 0 0 A := by
  refine Met.ofW (cc := cX11_readPlace) (maxL := 3) (ret := none) (by decide) rfl ?_
  intro p9 e9 s m args below meth c9 s₁ B hml hv
  obtain ⟨rfl, hz, hH, hA⟩ := hv
  have hx := B.exec
  have hb := B.bytes
  have hr := B.returns
  have hts := atoms_spec (ws := wsX11_readPlace) B.pre
  have hown : s.vm.findClass RX11 = some m.cls := findClass_of_methodNamed B.named
  have hlocks := B.notSynchronized
  have hS : va_S A s.heap s.heap [] := va_S.rf
  have hl := lv_entry ([.ref (τ.1 0)]) (n := 3) (Nat.le_of_ble_eq_true rfl)
  rw [lg_entry_eq]
  generalize (lg_sl ([.ref (τ.1 0)]) ++ List.replicate (3 - (lg_sl ([.ref (τ.1 0)])).length) Slot.unset).toArray = ls at hl ⊢
  have hl : lv_has ls 3 [(0, .ref (τ.1 0))] := hl
  have hn30 := hT.1
  have hiX11 : ∀ w ∈ u_ws RX11 TX11 16, w ∈ wsX11_readPlace := fun _ h => List.mem_cons_of_mem _ (List.mem_append_left _ (List.mem_append_left _ (List.mem_append_left _ (List.mem_append_left _ (List.mem_append_right _ h)))))
  have hw1 := hts (.fieldLink RX11 10 "PostHouse" "tape" "LPostHouse$Tape;") (by decide +kernel)
  have hw2 := hts (.fieldLink RX11 37 "PostHouse" "draft" "LPostHouse$Rules;") (by decide +kernel)
  have hiX5 : ∀ w ∈ u_ws RX5 TX5 2, w ∈ wsX11_readPlace := fun _ h => List.mem_cons_of_mem _ (List.mem_append_left _ (List.mem_append_left _ (List.mem_append_left _ (List.mem_append_right _ h))))
  have hw4 := hts (.fieldLink RX11 178 "PostHouse$Rules" "places" "[I") (by decide +kernel)
  have hiX8 : ∀ w ∈ u_ws RX8 TX8 10, w ∈ wsX11_readPlace := fun _ h => List.mem_cons_of_mem _ (List.mem_append_left _ (List.mem_append_left _ (List.mem_append_right _ h)))
  have hw6 := hts (.fieldLink RX11 181 "PostHouse$Thing" "number" "I") (by decide +kernel)
  refine lv_aload_n hx hb dX11_readPlace_0 rfl (lv_at hl 0 rfl) ?_
  refine lv_null hx hb dX11_readPlace_1 ?_
  refine va_callq (va_runV (As := [.null]) (rest := []) ⟨hx, hb, hml, hown, hts⟩ (w_readThingXN l hl0 D A sad τ fi fr ol L a hF hn ha (by omega) (by omega) n hT) (cwV 1 hts gX11_readPlace_X11_readThing rfl rfl rfl (by decide +kernel) ⟨Nat.le_of_ble_eq_true rfl, Nat.le_of_ble_eq_true rfl⟩) ⟨zQc_bl, zRecv hH (zk_0 hF) rfl, zQc_at hz hS hA hH⟩ rfl rfl hl.1 rfl (lv_room (Nat.le_of_ble_eq_true rfl)) dX11_readPlace_2 ⟨Nat.le_of_ble_eq_true rfl, Nat.le_of_ble_eq_true rfl⟩) hS (fun q _ h => h) (fun q h => h) (fun r101 u9 t9 H1 locs ht9 hvm9 hw hB hz1 hk1 hS => ?_)
  have hH := zMv ht9 hvm9 hB
  clear hB
  generalize u9 = f102 at hw hH
  generalize H1 = H at hH hS ⊢
  obtain ⟨hrt, ⟨b8, hb8, qb8⟩, hf8⟩ := hw
  obtain ⟨b103, hb104, q105, hf106⟩ := (⟨b8, hb8, qb8, fun i k q => hf8 i k q⟩ : zTw fi L f102)
  have q107 : f102 1 1 = nI L := by rw [hf106 1 1 (by omega)]; exact hn
  have hT := zTh.ci (fi' := f102) hT (fun i9 k9 h9 => hf106 i9 k9 (by omega))
  rcases hrt with ⟨t1, ht1, rfl, hs1⟩ | ⟨rfl, hs1⟩
  · skip
    refine lv_astore_n (lv' := [(1, .ref (τ.1 (300 + t1))), (0, .ref (τ.1 0))]) hx hb dX11_readPlace_5 rfl hl (by decide) rfl (fun ls hl => ?_)
    refine lv_aload_n hx hb dX11_readPlace_6 rfl (lv_at hl 1 rfl) ?_
    refine zGetR (D := D) (ci := 11) (C := RX11) (T := TX11) (N := 16) hx hb hts hiX11 hown hH (zk_0 hF) rfl 0 (by decide) rfl hw1 (fun _ h9 => h9) dX11_readPlace_7 (zr_0_0 hF) ?_
    refine zLdcW hx hb hown (hz.1.2.2.2.1 5 _ rfl).2 dX11_readPlace_10 ?_
    refine va_callv (va_runV (As := [.ref (sad 5)]) (rest := []) ⟨hx, hb, hml, hown, hts⟩ (t_needWord l hl0 D A sad τ f102 fr ol L b103 hF q107 q105 (by omega) (by omega) 5 ((435, "by", [98, 121])) rfl) (cwV 1 hts gX11_readPlace_X7_needWord rfl rfl rfl (by decide +kernel) ⟨Nat.le_of_ble_eq_true rfl, Nat.le_of_ble_eq_true rfl⟩) ⟨zQc_bl, zRecv hH (zk_1 hF) rfl, zQc_at hz hS hA hH⟩ rfl rfl hl.1 rfl (lv_room (Nat.le_of_ble_eq_true rfl)) dX11_readPlace_13 ⟨Nat.le_of_ble_eq_true rfl, Nat.le_of_ble_eq_true rfl⟩) hS (fun q _ h => h) (fun q h => h) (fun u9 t9 H1 locs ht9 hvm9 hw hB hz1 hk1 hS => ?_)
    have hH := zMv ht9 hvm9 hB
    clear hB
    generalize u9 = f109 at hw hH
    generalize H1 = H at hH hS ⊢
    have hs2 := zStp.need (by omega) (by omega) hw
    obtain ⟨b110, hb111, q112, hf113⟩ := zTw.need q105 (by omega) hw
    have q114 : f109 1 1 = nI L := by rw [hf113 1 1 (by omega)]; exact q107
    have hT := zTh.ci (fi' := f109) hT (fun i9 k9 h9 => hf113 i9 k9 (by omega))
    refine lv_aload_n hx hb dX11_readPlace_16 rfl (lv_at hl 1 rfl) ?_
    refine lv_aload_n hx hb dX11_readPlace_17 rfl (lv_at hl 0 rfl) ?_
    refine va_callq (va_runV (As := [.ref (τ.1 (300 + t1))]) (rest := []) ⟨hx, hb, hml, hown, hts⟩ (w_readThingXR l hl0 D A sad τ f109 fr ol L b110 hF q114 q112 (by omega) (by omega) n hT t1 ht1) (cwV 1 hts gX11_readPlace_X11_readThing rfl rfl rfl (by decide +kernel) ⟨Nat.le_of_ble_eq_true rfl, Nat.le_of_ble_eq_true rfl⟩) ⟨zQc_bl, zRecv hH (zk_0 hF) rfl, zQc_at hz hS hA hH⟩ rfl rfl hl.1 rfl (lv_room (Nat.le_of_ble_eq_true rfl)) dX11_readPlace_18 ⟨Nat.le_of_ble_eq_true rfl, Nat.le_of_ble_eq_true rfl⟩) hS (fun q _ h => h) (fun q h => h) (fun r115 u9 t9 H1 locs ht9 hvm9 hw hB hz1 hk1 hS => ?_)
    have hH := zMv ht9 hvm9 hB
    clear hB
    generalize u9 = f116 at hw hH
    generalize H1 = H at hH hS ⊢
    obtain ⟨hrt, ⟨b8, hb8, qb8⟩, hf8⟩ := hw
    obtain ⟨b117, hb118, q119, hf120⟩ := (⟨b8, hb8, qb8, fun i k q => hf8 i k q⟩ : zTw f109 L f116)
    have q121 : f116 1 1 = nI L := by rw [hf120 1 1 (by omega)]; exact q114
    have hT := zTh.ci (fi' := f116) hT (fun i9 k9 h9 => hf120 i9 k9 (by omega))
    rcases hrt with ⟨t2, ht2, rfl, hs3⟩ | ⟨rfl, hs3⟩
    · skip
      refine lv_astore_n (lv' := [(2, .ref (τ.1 (300 + t2))), (1, .ref (τ.1 (300 + t1))), (0, .ref (τ.1 0))]) hx hb dX11_readPlace_21 rfl hl (by decide) rfl (fun ls hl => ?_)
      refine lv_aload_n hx hb dX11_readPlace_22 rfl (lv_at hl 1 rfl) ?_
      refine lv_ifnull hx hb dX11_readPlace_23 ?_
      refine lv_aload_n hx hb dX11_readPlace_26 rfl (lv_at hl 0 rfl) ?_
      refine lv_ifnull hx hb dX11_readPlace_27 ?_
      refine lv_aload_n hx hb dX11_readPlace_30 rfl (lv_at hl 2 rfl) ?_
      refine zGetR (D := D) (ci := 11) (C := RX11) (T := TX11) (N := 16) hx hb hts hiX11 hown hH (zk_0 hF) rfl 4 (by decide) rfl hw2 (fun _ h9 => h9) dX11_readPlace_31 (zr_0_4 hF) ?_
      refine zGetR (D := D) (ci := 5) (C := RX5) (T := TX5) (N := 2) hx hb hts hiX5 hown hH (zk_12 hF) rfl 1 (by decide) rfl hw4 (fun _ h9 => h9) dX11_readPlace_34 (zr_12_1 hF) ?_
      refine lv_aload_n hx hb dX11_readPlace_37 rfl (lv_at hl 1 rfl) ?_
      refine zGetI (D := D) (ci := 8) (C := RX8) (T := TX8) (N := 10) hx hb hts hiX8 hown hH (hT.2.2.1 t1 (by omega)).1.1 rfl 0 (by decide) rfl hw6 (fun _ h9 => h9) dX11_readPlace_38 (hT.2.2.1 t1 (by omega)).2.2.2.1 ?_
      refine lv_aload_n hx hb dX11_readPlace_41 rfl (lv_at hl 0 rfl) ?_
      refine zGetI (D := D) (ci := 8) (C := RX8) (T := TX8) (N := 10) hx hb hts hiX8 hown hH (hT.2.2.1 t2 (by omega)).1.1 rfl 0 (by decide) rfl hw6 (fun _ h9 => h9) dX11_readPlace_42 (hT.2.2.1 t2 (by omega)).2.2.2.1 ?_
      refine zIastN (D := D) hx hb hH hS (zk_14 hF) (zn_14 hF) (by omega) (by omega) dX11_readPlace_45 (fun H locs hH hS => ?_)
      obtain ⟨f122, ef122⟩ : ∃ f9 : zFi, f9 = zu f116 14 t1 (nI t2) := ⟨_, rfl⟩
      rw [← ef122] at hH
      have q123 : f122 1 1 = nI L := by rw [ef122, zu_n (fun h9 => absurd h9.1 (by decide))]; exact q121
      have q124 : f122 1 2 = nI b117 := by rw [ef122, zu_n (fun h9 => absurd h9.1 (by decide))]; exact q119
      have q125 : f122 14 t1 = nI t2 := by rw [ef122]; exact zu_s
      have hT := zTh.ci (fi' := f122) hT (fun i9 k9 h9 => by rw [ef122]; exact zu_n (by omega))
      refine W.widen (k := 0) (n := 0) (by decide) (by decide) ?_
      exact W.vret hx hb hr (fun t9 ht9 hW9 => ⟨⟨f122, rfl, ⟨zStp.plcY hn4 han hs1 q105 (by omega) (by funext k; rw [hf106 2 k (by omega)]) hs2 q112 (by omega) (by funext k; rw [hf113 2 k (by omega), hf106 2 k (by omega)]) (by funext k; rw [hf113 (300 + k) 1 (by omega), hf106 (300 + k) 1 (by omega)]) hs3 (by rw [ef122, zu_n (by omega)]) (fun y hy => ⟨by rw [ef122, zu_n (by omega)]; exact hy.1, by rw [zDft_plc (by omega) ef122, zDft_cg (f := f116) (g := fi) (fun i k q => by rw [hf120 i k (by omega), hf113 i k (by omega), hf106 i k (by omega)]), hy.2]⟩), ⟨b117, by omega, q124⟩, fun i k h => by rw [ef122, zu_n (by omega), hf120 i k (by omega), hf113 i k (by omega), hf106 i k (by omega)]⟩, zEnd1 hH ht9 hW9⟩, hS.F ht9⟩) hS.2.2 dX11_readPlace_46
    · skip
      refine lv_astore_nN (lv' := [(2, .null), (1, .ref (τ.1 (300 + t1))), (0, .ref (τ.1 0))]) hx hb dX11_readPlace_21 rfl hl (by decide) rfl (fun ls hl => ?_)
      refine lv_aload_n hx hb dX11_readPlace_22 rfl (lv_at hl 1 rfl) ?_
      refine lv_ifnull hx hb dX11_readPlace_23 ?_
      refine lv_aload_nN hx hb dX11_readPlace_26 rfl (lv_at hl 0 rfl) ?_
      refine lv_ifnullN (tgt := 46) hx hb dX11_readPlace_27 (by decide) ?_
      refine W.widen (k := 0) (n := 0) (by decide) (by decide) ?_
      exact W.vret hx hb hr (fun t9 ht9 hW9 => ⟨⟨f116, rfl, ⟨zStp.plcY hn4 han hs1 q105 (by omega) (by funext k; rw [hf106 2 k (by omega)]) hs2 q112 (by omega) (by funext k; rw [hf113 2 k (by omega), hf106 2 k (by omega)]) (by funext k; rw [hf113 (300 + k) 1 (by omega), hf106 (300 + k) 1 (by omega)]) hs3 rfl (fun y hy => hy.elim), ⟨b117, by omega, q119⟩, fun i k h => by rw [hf120 i k (by omega), hf113 i k (by omega), hf106 i k (by omega)]⟩, zEnd1 hH ht9 hW9⟩, hS.F ht9⟩) hS.2.2 dX11_readPlace_46
  · skip
    refine lv_astore_nN (lv' := [(1, .null), (0, .ref (τ.1 0))]) hx hb dX11_readPlace_5 rfl hl (by decide) rfl (fun ls hl => ?_)
    refine lv_aload_n hx hb dX11_readPlace_6 rfl (lv_at hl 1 rfl) ?_
    refine zGetR (D := D) (ci := 11) (C := RX11) (T := TX11) (N := 16) hx hb hts hiX11 hown hH (zk_0 hF) rfl 0 (by decide) rfl hw1 (fun _ h9 => h9) dX11_readPlace_7 (zr_0_0 hF) ?_
    refine zLdcW hx hb hown (hz.1.2.2.2.1 5 _ rfl).2 dX11_readPlace_10 ?_
    refine va_callv (va_runV (As := [.ref (sad 5)]) (rest := []) ⟨hx, hb, hml, hown, hts⟩ (t_needWord l hl0 D A sad τ f102 fr ol L b103 hF q107 q105 (by omega) (by omega) 5 ((435, "by", [98, 121])) rfl) (cwV 1 hts gX11_readPlace_X7_needWord rfl rfl rfl (by decide +kernel) ⟨Nat.le_of_ble_eq_true rfl, Nat.le_of_ble_eq_true rfl⟩) ⟨zQc_bl, zRecv hH (zk_1 hF) rfl, zQc_at hz hS hA hH⟩ rfl rfl hl.1 rfl (lv_room (Nat.le_of_ble_eq_true rfl)) dX11_readPlace_13 ⟨Nat.le_of_ble_eq_true rfl, Nat.le_of_ble_eq_true rfl⟩) hS (fun q _ h => h) (fun q h => h) (fun u9 t9 H1 locs ht9 hvm9 hw hB hz1 hk1 hS => ?_)
    have hH := zMv ht9 hvm9 hB
    clear hB
    generalize u9 = f127 at hw hH
    generalize H1 = H at hH hS ⊢
    have hs2 := zStp.need (by omega) (by omega) hw
    obtain ⟨b128, hb129, q130, hf131⟩ := zTw.need q105 (by omega) hw
    have q132 : f127 1 1 = nI L := by rw [hf131 1 1 (by omega)]; exact q107
    have hT := zTh.ci (fi' := f127) hT (fun i9 k9 h9 => hf131 i9 k9 (by omega))
    refine lv_aload_n hx hb dX11_readPlace_16 rfl (lv_at hl 1 rfl) ?_
    refine lv_aload_nN hx hb dX11_readPlace_17 rfl (lv_at hl 0 rfl) ?_
    refine va_callq (va_runV (As := [.null]) (rest := []) ⟨hx, hb, hml, hown, hts⟩ (w_readThingXN l hl0 D A sad τ f127 fr ol L b128 hF q132 q130 (by omega) (by omega) n hT) (cwV 1 hts gX11_readPlace_X11_readThing rfl rfl rfl (by decide +kernel) ⟨Nat.le_of_ble_eq_true rfl, Nat.le_of_ble_eq_true rfl⟩) ⟨zQc_bl, zRecv hH (zk_0 hF) rfl, zQc_at hz hS hA hH⟩ rfl rfl hl.1 rfl (lv_room (Nat.le_of_ble_eq_true rfl)) dX11_readPlace_18 ⟨Nat.le_of_ble_eq_true rfl, Nat.le_of_ble_eq_true rfl⟩) hS (fun q _ h => h) (fun q h => h) (fun r133 u9 t9 H1 locs ht9 hvm9 hw hB hz1 hk1 hS => ?_)
    have hH := zMv ht9 hvm9 hB
    clear hB
    generalize u9 = f134 at hw hH
    generalize H1 = H at hH hS ⊢
    obtain ⟨hrt, ⟨b8, hb8, qb8⟩, hf8⟩ := hw
    obtain ⟨b135, hb136, q137, hf138⟩ := (⟨b8, hb8, qb8, fun i k q => hf8 i k q⟩ : zTw f127 L f134)
    have q139 : f134 1 1 = nI L := by rw [hf138 1 1 (by omega)]; exact q132
    have hT := zTh.ci (fi' := f134) hT (fun i9 k9 h9 => hf138 i9 k9 (by omega))
    rcases hrt with ⟨t2, ht2, rfl, hs3⟩ | ⟨rfl, hs3⟩
    · skip
      refine lv_astore_n (lv' := [(2, .ref (τ.1 (300 + t2))), (1, .null), (0, .ref (τ.1 0))]) hx hb dX11_readPlace_21 rfl hl (by decide) rfl (fun ls hl => ?_)
      refine lv_aload_nN hx hb dX11_readPlace_22 rfl (lv_at hl 1 rfl) ?_
      refine lv_ifnullN (tgt := 46) hx hb dX11_readPlace_23 (by decide) ?_
      refine W.widen (k := 0) (n := 0) (by decide) (by decide) ?_
      exact W.vret hx hb hr (fun t9 ht9 hW9 => ⟨⟨f134, rfl, ⟨zStp.plcN hs1 hs2.1 hs3.1 rfl, ⟨b135, by omega, q137⟩, fun i k h => by rw [hf138 i k (by omega), hf131 i k (by omega), hf106 i k (by omega)]⟩, zEnd1 hH ht9 hW9⟩, hS.F ht9⟩) hS.2.2 dX11_readPlace_46
    · skip
      refine lv_astore_nN (lv' := [(2, .null), (1, .null), (0, .ref (τ.1 0))]) hx hb dX11_readPlace_21 rfl hl (by decide) rfl (fun ls hl => ?_)
      refine lv_aload_nN hx hb dX11_readPlace_22 rfl (lv_at hl 1 rfl) ?_
      refine lv_ifnullN (tgt := 46) hx hb dX11_readPlace_23 (by decide) ?_
      refine W.widen (k := 0) (n := 0) (by decide) (by decide) ?_
      exact W.vret hx hb hr (fun t9 ht9 hW9 => ⟨⟨f134, rfl, ⟨zStp.plcN hs1 hs2.1 hs3.1 rfl, ⟨b135, by omega, q137⟩, fun i k h => by rw [hf138 i k (by omega), hf131 i k (by omega), hf106 i k (by omega)]⟩, zEnd1 hH ht9 hW9⟩, hS.F ht9⟩) hS.2.2 dX11_readPlace_46
set_option maxHeartbeats 4000000 in
set_option maxRecDepth 100000 in
/-- readRule -/
theorem w_readRuleX (l : Launch) (hl0 : l.stackTraces = false) (D : va_G) (A : Nat → Prop) (sad : Nat → Nat) (τ : zTy) (fi : zFi) (fr : zFr) (ol : Int64) (L a : Nat) (hF : zFix τ fr) (hn : fi 1 1 = nI L) (ha : fi 1 2 = nI a) (hn4 : L ≤ 400) (han : a ≤ L) (n : Nat) (hT : zTh τ fi fr n) : Met l yX11_readRule wsX11_readRule ({ frames := 7, cells := 0, slots := 0, locals := 151 }) (va_Pc [.ref (τ.1 0)] (zQc D A sad τ fi fr ol)) (va_Qv (fun (u : zFi) => zStp fi u (zRul (fi 2) L (fun t9 => fi (300 + t9) 1) n a) (fun xx => u 1 2 = nI xx.1 ∧ zDft u = zup (zDft fi) xx.2.1 xx.2.2) ∧ (∃ b, b ≤ L ∧ u 1 2 = nI b) ∧ ∀ i k, ¬ ((i = 1 ∧ 2 ≤ k) ∨ i = 13 ∨ i = 14) → u i k = fi i k) (fun (u : zFi) (t : State) => zH D A τ u fr ol t t.heap) A) 0 0 A := by
  refine Met.ofW (cc := cX11_readRule) (maxL := 2) (ret := none) (by decide) rfl ?_
  intro p9 e9 s m args below meth c9 s₁ B hml hv
  obtain ⟨rfl, hz, hH, hA⟩ := hv
  have hx := B.exec
  have hb := B.bytes
  have hr := B.returns
  have hts := atoms_spec (ws := wsX11_readRule) B.pre
  have hown : s.vm.findClass RX11 = some m.cls := findClass_of_methodNamed B.named
  have hlocks := B.notSynchronized
  have hS : va_S A s.heap s.heap [] := va_S.rf
  have hl := lv_entry ([.ref (τ.1 0)]) (n := 2) (Nat.le_of_ble_eq_true rfl)
  rw [lg_entry_eq]
  generalize (lg_sl ([.ref (τ.1 0)]) ++ List.replicate (2 - (lg_sl ([.ref (τ.1 0)])).length) Slot.unset).toArray = ls at hl ⊢
  have hl : lv_has ls 2 [(0, .ref (τ.1 0))] := hl
  have hn30 := hT.1
  have hiX11 : ∀ w ∈ u_ws RX11 TX11 16, w ∈ wsX11_readRule := fun _ h => List.mem_cons_of_mem _ (List.mem_append_left _ (List.mem_append_left _ (List.mem_append_left _ (List.mem_append_left _ (List.mem_append_right _ h)))))
  have hw1 := hts (.fieldLink RX11 10 "PostHouse" "tape" "LPostHouse$Tape;") (by decide +kernel)
  have hw2 := hts (.fieldLink RX11 37 "PostHouse" "draft" "LPostHouse$Rules;") (by decide +kernel)
  have hiX5 : ∀ w ∈ u_ws RX5 TX5 2, w ∈ wsX11_readRule := fun _ h => List.mem_cons_of_mem _ (List.mem_append_left _ (List.mem_append_left _ (List.mem_append_right _ h)))
  have hw4 := hts (.fieldLink RX11 174 "PostHouse$Rules" "numbers" "[I") (by decide +kernel)
  have hw5 := hts (.fieldLink RX11 419 "PostHouse$Rules" "MOST" "[I") (by decide +kernel)
  have hiX7 : ∀ w ∈ u_ws RX7 TX7 4, w ∈ wsX11_readRule := fun _ h => List.mem_cons_of_mem _ (List.mem_append_left _ (List.mem_append_left _ (List.mem_append_left _ (List.mem_append_right _ h))))
  have hw7 := hts (.fieldLink RX11 413 "PostHouse$Tape" "next" "I") (by decide +kernel)
  refine lv_aload_n hx hb dX11_readRule_0 rfl (lv_at hl 0 rfl) ?_
  refine zGetR (D := D) (ci := 11) (C := RX11) (T := TX11) (N := 16) hx hb hts hiX11 hown hH (zk_0 hF) rfl 0 (by decide) rfl hw1 (fun _ h9 => h9) dX11_readRule_1 (zr_0_0 hF) ?_
  refine zLdcW hx hb hown (hz.1.2.2.2.1 0 _ rfl).2 dX11_readRule_4 ?_
  refine va_calli (va_runV (As := [.ref (sad 0)]) (rest := []) ⟨hx, hb, hml, hown, hts⟩ (t_takesWord l hl0 D A sad τ fi fr ol L a hF hn ha (by omega) (by omega) 0 ((401, "place", [112, 108, 97, 99, 101])) rfl) (cwV 1 hts gX11_readRule_X7_takesWord rfl rfl rfl (by decide +kernel) ⟨Nat.le_of_ble_eq_true rfl, Nat.le_of_ble_eq_true rfl⟩) ⟨zQc_bl, zRecv hH (zk_1 hF) rfl, zQc_at hz hS hA hH⟩ rfl rfl hl.1 rfl (lv_room (Nat.le_of_ble_eq_true rfl)) dX11_readRule_7 ⟨Nat.le_of_ble_eq_true rfl, Nat.le_of_ble_eq_true rfl⟩) hS (fun q _ h => h) (fun q h => h) (fun r101 u9 t9 H1 locs ht9 hvm9 hw hB hz1 hk1 hS => ?_)
  have hH := zMv ht9 hvm9 hB
  clear hB
  generalize u9 = f102 at hw hH
  generalize H1 = H at hH hS ⊢
  rcases hw with ⟨rfl, hw103, b104, ef102, hs105⟩ | ⟨rfl, hn106, ef102⟩
  · have zhs105 := hs105.1
    have yhs105 := hs105.2.1
    have q107 : f102 1 1 = nI L := by rw [ef102, zu_n (fun h9 => absurd h9.2 (by decide))]; exact hn
    have q108 : f102 1 2 = nI b104 := by rw [ef102]; exact zu_s
    have hT := zTh.ci (fi' := f102) hT (fun i9 k9 h9 => by rw [ef102]; exact zu_n (by omega))
    refine lv_if_eq (tgt := 18) hx hb dX11_readRule_10 (by decide) (fun c109 => absurd c109 (by decide)) (fun c109 => ?_)
    refine lv_aload_n hx hb dX11_readRule_13 rfl (lv_at hl 0 rfl) ?_
    refine va_callv (va_runV (As := []) (rest := []) ⟨hx, hb, hml, hown, hts⟩ (w_readPlaceX l hl0 D A sad τ f102 fr ol L b104 hF q107 q108 (by omega) (by omega) n hT) (cwV 0 hts gX11_readRule_X11_readPlace rfl rfl rfl (by decide +kernel) ⟨Nat.le_of_ble_eq_true rfl, Nat.le_of_ble_eq_true rfl⟩) ⟨zQc_bl, zRecv hH (zk_0 hF) rfl, zQc_at hz hS hA hH⟩ rfl rfl hl.1 rfl (lv_room (Nat.le_of_ble_eq_true rfl)) dX11_readRule_14 ⟨Nat.le_of_ble_eq_true rfl, Nat.le_of_ble_eq_true rfl⟩) hS (fun q _ h => h) (fun q h => h) (fun u9 t9 H1 locs ht9 hvm9 hw hB hz1 hk1 hS => ?_)
    have hH := zMv ht9 hvm9 hB
    clear hB
    generalize u9 = f111 at hw hH
    generalize H1 = H at hH hS ⊢
    obtain ⟨hpl, ⟨b112, hb113, q114⟩, hf115⟩ := hw
    have q116 : f111 1 1 = nI L := by rw [hf115 1 1 (by omega)]; exact q107
    have hT := zTh.ci (fi' := f111) hT (fun i9 k9 h9 => hf115 i9 k9 (by omega))
    refine W.widen (k := 0) (n := 0) (by decide) (by decide) ?_
    exact W.vret hx hb hr (fun t9 ht9 hW9 => ⟨⟨f111, rfl, ⟨zStp.rulP (zWrd_yes hw103 hs105 : zWrd (fi 2) L [112, 108, 97, 99, 101] a = some b104) ef102 hpl, ⟨b112, by omega, q114⟩, fun i k h => by rw [hf115 i k (by omega), ef102, zu_n (by omega)]⟩, zEnd1 hH ht9 hW9⟩, hS.F ht9⟩) hS.2.2 dX11_readRule_17
  · have ef102 := ef102.symm
    subst ef102
    refine lv_if_eq (tgt := 18) hx hb dX11_readRule_10 (by decide) (fun c117 => ?_) (fun c117 => absurd (by decide) c117)
    refine lv_aload_n hx hb dX11_readRule_18 rfl (lv_at hl 0 rfl) ?_
    refine va_calli (va_runV (As := []) (rest := []) ⟨hx, hb, hml, hown, hts⟩ (w_readKindX l hl0 D A sad τ fi fr ol L a hF hn ha (by omega) (by omega)) (cwV 0 hts gX11_readRule_X11_readKind rfl rfl rfl (by decide +kernel) ⟨Nat.le_of_ble_eq_true rfl, Nat.le_of_ble_eq_true rfl⟩) ⟨zQc_bl, zRecv hH (zk_0 hF) rfl, zQc_at hz hS hA hH⟩ rfl rfl hl.1 rfl (lv_room (Nat.le_of_ble_eq_true rfl)) dX11_readRule_19 ⟨Nat.le_of_ble_eq_true rfl, Nat.le_of_ble_eq_true rfl⟩) hS (fun q _ h => h) (fun q h => h) (fun r118 u9 t9 H1 locs ht9 hvm9 hw hB hz1 hk1 hS => ?_)
    have hH := zMv ht9 hvm9 hB
    clear hB
    generalize u9 = f119 at hw hH
    generalize H1 = H at hH hS ⊢
    rcases hw with ⟨kd, b120, hkd, rfl, hzk, zb120, ef119⟩ | ⟨rfl, hzk, ef119⟩
    · skip
      have q121 : f119 1 1 = nI L := by rw [ef119, zu_n (fun h9 => absurd h9.2 (by decide))]; exact hn
      have q122 : f119 1 2 = nI b120 := by rw [ef119]; exact zu_s
      have hT := zTh.ci (fi' := f119) hT (fun i9 k9 h9 => by rw [ef119]; exact zu_n (by omega))
      refine lv_istore_n (lv' := [(1, .int (nI kd)), (0, .ref (τ.1 0))]) hx hb dX11_readRule_22 rfl hl (by decide) rfl (fun ls hl => ?_)
      refine lv_iload_n hx hb dX11_readRule_23 rfl (lv_at hl 0 rfl) ?_
      refine lv_iconst (v := (-1)) hx hb dX11_readRule_24 (by decide) ?_
      refine lv_icmp_ne (tgt := 45) hx hb dX11_readRule_25 (by decide) (fun c123 => ?_) (fun c123 => False.elim (by have zc123 := zc_eq (nI_toInt (by omega)) ((by decide : ((-1) : Int32).toInt = (-1))) c123; omega))
      refine lv_aload_n hx hb dX11_readRule_45 rfl (lv_at hl 1 rfl) ?_
      refine zGetR (D := D) (ci := 11) (C := RX11) (T := TX11) (N := 16) hx hb hts hiX11 hown hH (zk_0 hF) rfl 4 (by decide) rfl hw2 (fun _ h9 => h9) dX11_readRule_46 (zr_0_4 hF) ?_
      refine zGetR (D := D) (ci := 5) (C := RX5) (T := TX5) (N := 2) hx hb hts hiX5 hown hH (zk_12 hF) rfl 0 (by decide) rfl hw4 (fun _ h9 => h9) dX11_readRule_49 (zr_12_0 hF) ?_
      refine lv_iload_n hx hb dX11_readRule_52 rfl (lv_at hl 0 rfl) ?_
      refine lv_aload_n hx hb dX11_readRule_53 rfl (lv_at hl 1 rfl) ?_
      refine zGetR (D := D) (ci := 11) (C := RX11) (T := TX11) (N := 16) hx hb hts hiX11 hown hH (zk_0 hF) rfl 0 (by decide) rfl hw1 (fun _ h9 => h9) dX11_readRule_54 (zr_0_0 hF) ?_
      refine lv_iconst (v := nI 0) hx hb dX11_readRule_57 (by decide) ?_
      refine va_gets hx hb (hz.2.2 0 _ rfl).1 hS hown hw5 (fun _ h9 => h9) dX11_readRule_58 ?_
      refine lv_iload_n hx hb dX11_readRule_61 rfl (lv_at hl 0 rfl) ?_
      refine zSti (i := 0) hx hb hz hS rfl (show kd < _ by simp only [List.length_cons, List.length_nil]; omega) (by decide) dX11_readRule_62 ?_
      refine lv_topi (fun v124 ev124 => ?_)
      refine va_calli (va_runV (As := [.int (nI 0), .int v124]) (rest := [.int (nI kd), .ref (τ.1 13)]) ⟨hx, hb, hml, hown, hts⟩ (t_number l hl0 D A sad τ f119 fr ol L b120 hF q121 q122 (by omega) (by omega) (nI 0) v124 (by decide)) (cwV 2 hts gX11_readRule_X7_number rfl rfl rfl (by decide +kernel) ⟨Nat.le_of_ble_eq_true rfl, Nat.le_of_ble_eq_true rfl⟩) ⟨zQc_bl, zRecv hH (zk_1 hF) rfl, zQc_at hz hS hA hH⟩ rfl rfl hl.1 rfl (lv_room (Nat.le_of_ble_eq_true rfl)) dX11_readRule_63 ⟨Nat.le_of_ble_eq_true rfl, Nat.le_of_ble_eq_true rfl⟩) hS (fun q _ h => h) (fun q h => h) (fun r125 u9 t9 H1 locs ht9 hvm9 hw hB hz1 hk1 hS => ?_)
      have hH := zMv ht9 hvm9 hB
      clear hB
      generalize u9 = f126 at hw hH
      generalize H1 = H at hH hS ⊢
      have hnu := zStp.num (by omega) (by omega) hw
      obtain ⟨b127, hb128, q129, hf130⟩ := zTw.num q122 (by omega) hw
      have q131 : f126 1 1 = nI L := by rw [hf130 1 1 (by omega)]; exact q121
      have hT := zTh.ci (fi' := f126) hT (fun i9 k9 h9 => hf130 i9 k9 (by omega))
      refine zIastN (D := D) hx hb hH hS (zk_13 hF) (zn_13 hF) (by omega) (by omega) dX11_readRule_66 (fun H locs hH hS => ?_)
      obtain ⟨f132, ef132⟩ : ∃ f9 : zFi, f9 = zu f126 13 kd r125 := ⟨_, rfl⟩
      rw [← ef132] at hH
      have q133 : f132 1 1 = nI L := by rw [ef132, zu_n (fun h9 => absurd h9.1 (by decide))]; exact q131
      have q134 : f132 1 2 = nI b127 := by rw [ef132, zu_n (fun h9 => absurd h9.1 (by decide))]; exact q129
      have q135 : f132 13 kd = r125 := by rw [ef132]; exact zu_s
      have hT := zTh.ci (fi' := f132) hT (fun i9 k9 h9 => by rw [ef132]; exact zu_n (by omega))
      refine W.widen (k := 0) (n := 0) (by decide) (by decide) ?_
      exact W.vret hx hb hr (fun t9 ht9 hW9 => ⟨⟨f132, rfl, ⟨zStp.rulK hn4 han (zWrd_no hn106 han : zWrd (fi 2) L [112, 108, 97, 99, 101] a = none) hzk hkd ef119 (by rw [ev124]; rfl) hnu (zDft_cg (fun i k q => hf130 i k (by omega))) ef132, ⟨b127, by omega, q134⟩, fun i k h => by rw [ef132, zu_n (by omega), hf130 i k (by omega), ef119, zu_n (by omega)]⟩, zEnd1 hH ht9 hW9⟩, hS.F ht9⟩) hS.2.2 dX11_readRule_67
    · have ef119 := ef119.symm
      subst ef119
      refine lv_istore_n (lv' := [(1, .int ((-1))), (0, .ref (τ.1 0))]) hx hb dX11_readRule_22 rfl hl (by decide) rfl (fun ls hl => ?_)
      refine lv_iload_n hx hb dX11_readRule_23 rfl (lv_at hl 0 rfl) ?_
      refine lv_iconst (v := (-1)) hx hb dX11_readRule_24 (by decide) ?_
      refine lv_icmp_ne (tgt := 45) hx hb dX11_readRule_25 (by decide) (fun c136 => absurd (by decide) c136) (fun c136 => ?_)
      refine lv_aload_n hx hb dX11_readRule_28 rfl (lv_at hl 1 rfl) ?_
      refine zGetR (D := D) (ci := 11) (C := RX11) (T := TX11) (N := 16) hx hb hts hiX11 hown hH (zk_0 hF) rfl 0 (by decide) rfl hw1 (fun _ h9 => h9) dX11_readRule_29 (zr_0_0 hF) ?_
      refine lv_aload_n hx hb dX11_readRule_32 rfl (lv_at hl 1 rfl) ?_
      refine zGetR (D := D) (ci := 11) (C := RX11) (T := TX11) (N := 16) hx hb hts hiX11 hown hH (zk_0 hF) rfl 0 (by decide) rfl hw1 (fun _ h9 => h9) dX11_readRule_33 (zr_0_0 hF) ?_
      refine zGetI (D := D) (ci := 7) (C := RX7) (T := TX7) (N := 4) hx hb hts hiX7 hown hH (zk_1 hF) rfl 2 (by decide) rfl hw7 (fun _ h9 => h9) dX11_readRule_36 ha ?_
      refine va_callv (va_runV (As := [.int (nI a)]) (rest := []) ⟨hx, hb, hml, hown, hts⟩ (t_refuse l hl0 D A sad τ fi fr ol hF (nI a)) (cwV 1 hts gX11_readRule_X7_refuse rfl rfl rfl (by decide +kernel) ⟨Nat.le_of_ble_eq_true rfl, Nat.le_of_ble_eq_true rfl⟩) ⟨zQc_bl, zRecv hH (zk_1 hF) rfl, zQc_at hz hS hA hH⟩ rfl rfl hl.1 rfl (lv_room (Nat.le_of_ble_eq_true rfl)) dX11_readRule_39 ⟨Nat.le_of_ble_eq_true rfl, Nat.le_of_ble_eq_true rfl⟩) hS (fun q _ h => h) (fun q h => h) (fun u9 t9 H1 locs ht9 hvm9 hw hB hz1 hk1 hS => ?_)
      have hH := zMv ht9 hvm9 hB
      clear hB
      generalize u9 = f138 at hw hH
      generalize H1 = H at hH hS ⊢
      have hre := hw
      obtain ⟨b139, hb140, q141, hf142⟩ := zTw.ref (L := L) ha (by omega) hw
      have q143 : f138 1 1 = nI L := by rw [hf142 1 1 (by omega)]; exact hn
      have hT := zTh.ci (fi' := f138) hT (fun i9 k9 h9 => hf142 i9 k9 (by omega))
      refine lv_goto (tgt := 67) hx hb dX11_readRule_42 (by decide) ?_
      refine W.widen (k := 0) (n := 0) (by decide) (by decide) ?_
      exact W.vret hx hb hr (fun t9 ht9 hW9 => ⟨⟨f138, rfl, ⟨zStp.rulX hn4 han (zWrd_no hn106 han : zWrd (fi 2) L [112, 108, 97, 99, 101] a = none) hzk hre, ⟨b139, by omega, q141⟩, fun i k h => by rw [hf142 i k (by omega)]⟩, zEnd1 hH ht9 hW9⟩, hS.F ht9⟩) hS.2.2 dX11_readRule_67
set_option maxHeartbeats 4000000 in
set_option maxRecDepth 100000 in
/-- rules -/
theorem w_rulesX (l : Launch) (hl0 : l.stackTraces = false) (D : va_G) (A : Nat → Prop) (sad : Nat → Nat) (τ : zTy) (fi : zFi) (fr : zFr) (ol : Int64) (L : Nat) (hF : zFix τ fr) (hn : fi 1 1 = nI L) (hn4 : L ≤ 400) (n : Nat) (hT : zTh τ fi fr n) : vx_Met l yX11_rules wsX11_rules ({ frames := 8, cells := 1, slots := 6, locals := 172 }) (va_Pc [.ref (τ.1 0)] (zQc D A sad τ fi fr ol)) (va_Qi (fun (r : Int32) (u : zFi) => (∃ m D9, zRls (fi 2) L (fun t9 => fi (300 + t9) 1) n 401 (zS (fi 2) L 0) (zDru fi) 0 = .ok (m, D9) ∧ r = nI m ∧ u 0 14 = -1 ∧ zDru u = D9) ∧ u 1 1 = nI 0 ∧ ∀ i k, ¬ (i = 1 ∨ i = 10 ∨ i = 11 ∨ i = 13 ∨ i = 14 ∨ (i = 0 ∧ k = 14)) → u i k = fi i k) (fun (u : zFi) (t : State) => zH D A τ u fr ol t t.heap) A) (vx_X (fun u : zFi => True) (fun (E : String) (u : zFi) (t : State) => (E = "java/lang/IllegalArgumentException" ∧ (∃ p, p ≤ 400 ∧ zRls (fi 2) L (fun t9 => fi (300 + t9) 1) n 401 (zS (fi 2) L 0) (zDru fi) 0 = .error p ∧ u 0 14 = nI p ∧ zDru u = zDru fi) ∧ u 1 1 = nI 0 ∧ ∀ i k, ¬ (i = 1 ∨ i = 10 ∨ i = 11 ∨ i = 13 ∨ i = 14 ∨ (i = 0 ∧ k = 14)) → u i k = fi i k) ∧ zH D A τ u fr ol t t.heap) A) 1 6 A := by
  refine vx_ofW (cc := cX11_rules) (maxL := 4) (ret := (some .int)) (by decide) rfl ?_
  intro p9 e9 s m args below meth c9 s₁ B hml ht0 hv
  obtain ⟨rfl, hz, hH, hA⟩ := hv
  have hx := B.exec
  have hb := B.bytes
  have hr := B.returns
  have hts := atoms_spec (ws := wsX11_rules) B.pre
  have hown : s.vm.findClass RX11 = some m.cls := findClass_of_methodNamed B.named
  have hlocks := B.notSynchronized
  have hS : va_S A s.heap s.heap [] := va_S.rf
  have hl := lv_entry ([.ref (τ.1 0)]) (n := 4) (Nat.le_of_ble_eq_true rfl)
  rw [lg_entry_eq]
  generalize (lg_sl ([.ref (τ.1 0)]) ++ List.replicate (4 - (lg_sl ([.ref (τ.1 0)])).length) Slot.unset).toArray = ls at hl ⊢
  have hl : lv_has ls 4 [(0, .ref (τ.1 0))] := hl
  have hn30 := hT.1
  have hT0 := hT
  have hiX11 : ∀ w ∈ u_ws RX11 TX11 16, w ∈ wsX11_rules := fun _ h => List.mem_cons_of_mem _ (List.mem_append_left _ (List.mem_append_left _ (List.mem_append_left _ (List.mem_append_left _ (List.mem_append_left _ (List.mem_append_right _ h))))))
  have hw1 := hts (.fieldLink RX11 37 "PostHouse" "draft" "LPostHouse$Rules;") (by decide +kernel)
  have hw2 := hts (.fieldLink RX11 33 "PostHouse" "rules" "LPostHouse$Rules;") (by decide +kernel)
  have hw3 := hts (.fieldLink RX11 10 "PostHouse" "tape" "LPostHouse$Tape;") (by decide +kernel)
  have hw4 := hts (.fieldLink RX11 72 "PostHouse" "fault" "I") (by decide +kernel)
  have hw5 := hts (.classLink RX11 91 "java/lang/IllegalArgumentException") (by decide +kernel)
  have hw6 := hts (.initialized "java/lang/IllegalArgumentException") (by decide +kernel)
  refine lv_aload_n hx hb dX11_rules_0 rfl (lv_at hl 0 rfl) ?_
  refine zGetR (D := D) (ci := 11) (C := RX11) (T := TX11) (N := 16) hx hb hts hiX11 hown hH (zk_0 hF) rfl 4 (by decide) rfl hw1 (fun _ h9 => h9) dX11_rules_1 (zr_0_4 hF) ?_
  refine lv_aload_n hx hb dX11_rules_4 rfl (lv_at hl 0 rfl) ?_
  refine zGetR (D := D) (ci := 11) (C := RX11) (T := TX11) (N := 16) hx hb hts hiX11 hown hH (zk_0 hF) rfl 3 (by decide) rfl hw2 (fun _ h9 => h9) dX11_rules_5 (zr_0_3 hF) ?_
  refine va_callv (va_runV (As := [.ref (τ.1 9)]) (rest := []) ⟨hx, hb, hml, hown, hts⟩ (c_copyD l hl0 D A sad τ fi fr ol hF) (cwV 1 hts gX11_rules_X5_copy rfl rfl rfl (by decide +kernel) ⟨Nat.le_of_ble_eq_true rfl, Nat.le_of_ble_eq_true rfl⟩) ⟨zQc_bl, zRecv hH (zk_12 hF) rfl, zQc_at hz hS hA hH⟩ rfl rfl hl.1 rfl (lv_room (Nat.le_of_ble_eq_true rfl)) dX11_rules_8 ⟨Nat.le_of_ble_eq_true rfl, Nat.le_of_ble_eq_true rfl⟩) hS (fun q _ h => h) (fun q h => h) (fun u9 t9 H1 locs ht9 hvm9 hw hB hz1 hk1 hS => ?_)
  have hH := zMv ht9 hvm9 hB
  clear hB
  generalize u9 = f102 at hw hH
  generalize H1 = H at hH hS ⊢
  have hc_copyD := hw
  have hf103 : ∀ i k, ¬ (i = 13 ∨ i = 14) → f102 i k = fi i k := fun i k h => by rw [hw]; show (if _ then _ else if _ then _ else _) = _; rw [if_neg (by omega), if_neg (by omega)]
  have q104 : f102 1 1 = nI L := by rw [hf103 1 1 (by omega)]; exact hn
  have hT := zTh.ci (fi' := f102) hT (fun i9 k9 h9 => hf103 i9 k9 (by omega))
  refine lv_aload_n hx hb dX11_rules_11 rfl (lv_at hl 0 rfl) ?_
  refine zGetR (D := D) (ci := 11) (C := RX11) (T := TX11) (N := 16) hx hb hts hiX11 hown hH (zk_0 hF) rfl 0 (by decide) rfl hw3 (fun _ h9 => h9) dX11_rules_12 (zr_0_0 hF) ?_
  refine va_callv (va_runV (As := []) (rest := []) ⟨hx, hb, hml, hown, hts⟩ (t_open l hl0 D A sad τ f102 fr ol L hF q104 (by omega)) (cwV 0 hts gX11_rules_X7_open rfl rfl rfl (by decide +kernel) ⟨Nat.le_of_ble_eq_true rfl, Nat.le_of_ble_eq_true rfl⟩) ⟨zQc_bl, zRecv hH (zk_1 hF) rfl, zQc_at hz hS hA hH⟩ rfl rfl hl.1 rfl (lv_room (Nat.le_of_ble_eq_true rfl)) dX11_rules_15 ⟨Nat.le_of_ble_eq_true rfl, Nat.le_of_ble_eq_true rfl⟩) hS (fun q _ h => h) (fun q h => h) (fun u9 t9 H1 locs ht9 hvm9 hw hB hz1 hk1 hS => ?_)
  have hH := zMv ht9 hvm9 hB
  clear hB
  generalize u9 = f106 at hw hH
  generalize H1 = H at hH hS ⊢
  obtain ⟨b7, e7, h7⟩ := hw
  obtain ⟨b107, hb108, q109, hf110⟩ := (⟨b7, h7.2.1, by rw [e7]; exact zu_s, fun i k q => by rw [e7, zu_n (by omega), zu_n (by omega)]⟩ : zTw f102 L f106)
  have q111 : f106 1 1 = nI L := by rw [hf110 1 1 (by omega)]; exact q104
  have hT := zTh.ci (fi' := f106) hT (fun i9 k9 h9 => hf110 i9 k9 (by omega))
  refine lv_iconst (v := nI 0) hx hb dX11_rules_18 (by decide) ?_
  refine lv_istore_n (lv' := [(1, .int (nI 0)), (0, .ref (τ.1 0))]) hx hb dX11_rules_19 rfl hl (by decide) rfl (fun ls hl => ?_)
  refine lv_iconst (v := nI 1) hx hb dX11_rules_20 (by decide) ?_
  refine lv_istore_n (lv' := [(2, .int (nI 1)), (1, .int (nI 0)), (0, .ref (τ.1 0))]) hx hb dX11_rules_21 rfl hl (by decide) rfl (fun ls hl => ?_)
  refine lv_iconst (v := nI 0) hx hb dX11_rules_22 (by decide) ?_
  refine lv_istore_n (lv' := [(3, .int (nI 0)), (2, .int (nI 1)), (1, .int (nI 0)), (0, .ref (τ.1 0))]) hx hb dX11_rules_23 rfl hl (by decide) rfl (fun ls hl => ?_)
  refine zLp (σ := Nat × Int32 × zFi) (fun x9 k9 H locs ls => (fun (i : Nat) (y : Int32) (f : zFi) => k9 = 400 - i ∧ (i ≤ 400 ∧ (∃ b, b ≤ L ∧ f 1 2 = nI b ∧ zLi (zRls (fi 2) L (fun t9 => fi (300 + t9) 1) n 401 (zS (fi 2) L 0) (zDru fi) 0) (fi 2) (fun t9 => fi (300 + t9) 1) L n i y b f) ∧ ∀ a b, ¬ ((a = 1 ∧ 2 ≤ b) ∨ a = 13 ∨ a = 14) → f a b = fi a b) ∧ zH D A τ f fr ol s H ∧ va_S A s.heap H locs ∧ lv_has ls 4 [(0, .ref (τ.1 0)), (1, .int (nI i)), (2, .int y), (3, .int (nI i))]) x9.1 x9.2.1 x9.2.2) (0, nI 1, f106) (400 - 0) (show 400 - 0 = 400 - 0 ∧ (0 ≤ 400 ∧ (∃ b, b ≤ L ∧ f106 1 2 = nI b ∧ zLi (zRls (fi 2) L (fun t9 => fi (300 + t9) 1) n 401 (zS (fi 2) L 0) (zDru fi) 0) (fi 2) (fun t9 => fi (300 + t9) 1) L n 0 (nI 1) b f106) ∧ ∀ a b, ¬ ((a = 1 ∧ 2 ≤ b) ∨ a = 13 ∨ a = 14) → f106 a b = fi a b) ∧ zH D A τ f106 fr ol s _ ∧ va_S A s.heap _ _ ∧ lv_has _ 4 [(0, .ref (τ.1 0)), (1, .int (nI 0)), (2, .int (nI 1)), (3, .int (nI 0))] from ⟨rfl, ⟨Nat.zero_le _, ⟨b7, h7.2.1, by rw [e7]; exact zu_s, Or.inr ⟨by rw [e7, zu_n (by omega)]; exact zu_s, Or.inl ⟨rfl, by omega, zLi.init hc_copyD e7 h7⟩⟩⟩, fun a b h => by rw [hf110 a b (by omega), hf103 a b (by omega)]⟩, hH, hS, lv_sub hl [3, 2, 1, 0] rfl⟩) (fun k9 ih x9 H locs ls hv9 => ?_)
  obtain ⟨i, y, f⟩ := x9
  have hv9 : k9 = 400 - i ∧ (i ≤ 400 ∧ (∃ b, b ≤ L ∧ f 1 2 = nI b ∧ zLi (zRls (fi 2) L (fun t9 => fi (300 + t9) 1) n 401 (zS (fi 2) L 0) (zDru fi) 0) (fi 2) (fun t9 => fi (300 + t9) 1) L n i y b f) ∧ ∀ a b, ¬ ((a = 1 ∧ 2 ≤ b) ∨ a = 13 ∨ a = 14) → f a b = fi a b) ∧ zH D A τ f fr ol s H ∧ va_S A s.heap H locs ∧ lv_has ls 4 [(0, .ref (τ.1 0)), (1, .int (nI i)), (2, .int y), (3, .int (nI i))] := hv9
  obtain ⟨hkih112, hv9, hH, hS, hl⟩ := hv9
  obtain ⟨h1, hpos, hfr⟩ := hv9
  have ih112 := ih
  clear ih
  obtain ⟨b6, hb6, q6, hli⟩ := hpos
  have q5 : f 1 1 = nI L := by rw [hfr 1 1 (by omega)]; exact hn
  have hT := zTh.ci (fi' := f) hT0 (fun i9 k9 h9 => hfr i9 k9 (by omega))
  refine lv_iload_n hx hb dX11_rules_24 rfl (lv_at hl 3 rfl) ?_
  refine lv_sipush (v := nI 400) hx hb dX11_rules_25 (by decide) ?_
  refine lv_icmp_ge (tgt := 58) hx hb dX11_rules_28 (by decide) (fun c113 => ?_) (fun c113 => ?_)
  · have zc113 := c113
    replace zc113 := zc_le (nI_toInt (by omega)) (nI_toInt (by omega)) zc113
    refine lv_aload_n hx hb dX11_rules_58 rfl (lv_at hl 0 rfl) ?_
    refine va_callv (va_runV (As := []) (rest := []) ⟨hx, hb, hml, hown, hts⟩ (c_closeTape l hl0 D A sad τ f fr ol L b6 hF q5 q6 (by omega) (by omega)) (cwV 0 hts gX11_rules_X11_closeTape rfl rfl rfl (by decide +kernel) ⟨Nat.le_of_ble_eq_true rfl, Nat.le_of_ble_eq_true rfl⟩) ⟨zQc_bl, zRecv hH (zk_0 hF) rfl, zQc_at hz hS hA hH⟩ rfl rfl hl.1 rfl (lv_room (Nat.le_of_ble_eq_true rfl)) dX11_rules_59 ⟨Nat.le_of_ble_eq_true rfl, Nat.le_of_ble_eq_true rfl⟩) hS (fun q _ h => h) (fun q h => h) (fun u9 t9 H1 locs ht9 hvm9 hw hB hz1 hk1 hS => ?_)
    have hH := zMv ht9 hvm9 hB
    clear hB
    generalize u9 = f115 at hw hH
    generalize H1 = H at hH hS ⊢
    obtain ⟨w116, hcl, q117, q118, hf119⟩ := hw
    have hex := hli.exit hn4 hb6 (by omega) hcl
    have q120 : f115 1 2 = nI b6 := by rw [hf119 1 2 (by omega)]; exact q6
    have hT := zTh.ci (fi' := f115) hT (fun i9 k9 h9 => hf119 i9 k9 (by omega))
    refine lv_aload_n hx hb dX11_rules_62 rfl (lv_at hl 0 rfl) ?_
    refine zGetI (D := D) (ci := 11) (C := RX11) (T := TX11) (N := 16) hx hb hts hiX11 hown hH (zk_0 hF) rfl 14 (by decide) rfl hw4 (fun _ h9 => h9) dX11_rules_63 q117 ?_
    refine lv_iconst (v := (-1)) hx hb dX11_rules_66 (by decide) ?_
    refine lv_icmp_eq (tgt := 80) hx hb dX11_rules_67 (by decide) (fun c121 => ?_) (fun c121 => ?_)
    · have zc121 := c121
      replace zc121 := zc_eq (rfl) ((by decide : ((-1) : Int32).toInt = (-1))) zc121
      refine lv_aload_n hx hb dX11_rules_80 rfl (lv_at hl 0 rfl) ?_
      refine zGetR (D := D) (ci := 11) (C := RX11) (T := TX11) (N := 16) hx hb hts hiX11 hown hH (zk_0 hF) rfl 3 (by decide) rfl hw2 (fun _ h9 => h9) dX11_rules_81 (zr_0_3 hF) ?_
      refine lv_aload_n hx hb dX11_rules_84 rfl (lv_at hl 0 rfl) ?_
      refine zGetR (D := D) (ci := 11) (C := RX11) (T := TX11) (N := 16) hx hb hts hiX11 hown hH (zk_0 hF) rfl 4 (by decide) rfl hw1 (fun _ h9 => h9) dX11_rules_85 (zr_0_4 hF) ?_
      refine va_callv (va_runV (As := [.ref (τ.1 12)]) (rest := []) ⟨hx, hb, hml, hown, hts⟩ (c_copyR l hl0 D A sad τ f115 fr ol hF) (cwV 1 hts gX11_rules_X5_copy rfl rfl rfl (by decide +kernel) ⟨Nat.le_of_ble_eq_true rfl, Nat.le_of_ble_eq_true rfl⟩) ⟨zQc_bl, zRecv hH (zk_9 hF) rfl, zQc_at hz hS hA hH⟩ rfl rfl hl.1 rfl (lv_room (Nat.le_of_ble_eq_true rfl)) dX11_rules_88 ⟨Nat.le_of_ble_eq_true rfl, Nat.le_of_ble_eq_true rfl⟩) hS (fun q _ h => h) (fun q h => h) (fun u9 t9 H1 locs ht9 hvm9 hw hB hz1 hk1 hS => ?_)
      have hH := zMv ht9 hvm9 hB
      clear hB
      generalize u9 = f123 at hw hH
      generalize H1 = H at hH hS ⊢
      have hc_copyR := hw
      have hf124 : ∀ i k, ¬ (i = 10 ∨ i = 11) → f123 i k = f115 i k := fun i k h => by rw [hw]; show (if _ then _ else if _ then _ else _) = _; rw [if_neg (by omega), if_neg (by omega)]
      have q125 : f123 1 2 = nI b6 := by rw [hf124 1 2 (by omega)]; exact q120
      have q126 : f123 0 14 = w116 := by rw [hf124 0 14 (by omega)]; exact q117
      have q127 : f123 1 1 = nI 0 := by rw [hf124 1 1 (by omega)]; exact q118
      have hT := zTh.ci (fi' := f123) hT (fun i9 k9 h9 => hf124 i9 k9 (by omega))
      refine lv_iload_n hx hb dX11_rules_91 rfl (lv_at hl 1 rfl) ?_
      refine W.widen (k := 1) (n := 6) (by decide) (by decide) ?_
      refine vx_ret ?_
      exact W.iret (v := nI i) hx hb hr (fun t9 ht9 hW9 => ⟨⟨nI i, f123, rfl, ⟨by rcases hex with ⟨p8, p81, p82, p83⟩ | ⟨p81, p82⟩; (exact absurd (p82.symm.trans c121) (nI_ne1 p81)); (exact ⟨i, _, p82, rfl, by rw [q126]; exact p81, by rw [zDru_of hc_copyR]; exact zDft_cg (fun i k q => hf119 i k (by omega))⟩), ⟨q127, fun i k h => by rw [hf124 i k (by omega), hf119 i k (by omega)]; exact hfr i k (by omega)⟩⟩, zEnd1 hH ht9 hW9⟩, hS.F ht9⟩) hS.2.2 dX11_rules_92
    · have zc121 := c121
      replace zc121 := zc_neq (rfl) ((by decide : ((-1) : Int32).toInt = (-1))) zc121
      obtain ⟨a128, ha128⟩ := hz.1.2.2.2.2.1 _ (List.mem_of_getElem? (i := 7) rfl)
      have hat : ∀ w ∈ vx_atS RX11 95 "java/lang/IllegalArgumentException" ["java/lang/RuntimeException", "java/lang/Exception"], w.before _ s = true := vx_hat (fun w h => hts w (List.mem_cons_of_mem _ (List.mem_append_right _ h))) (B := [.castable "java/lang/IllegalArgumentException" "java/lang/IllegalArgumentException", .declares (Bundle.initS "java/lang/RuntimeException"), .declares (Bundle.initS "java/lang/Exception"), .declares (Bundle.initS Bundle.tN)]) (by decide +kernel) (vx_c (va_Nw.use rfl (hz.1.2.2.2.2.2.2.2.1 _ (List.mem_of_getElem? (i := 1) rfl))) (vx_c (va_Nw.use rfl (hz.1.2.2.2.2.2.2.2.2 _ (List.mem_of_getElem? (i := 0) rfl))) (vx_c (va_Nw.use rfl (hz.1.2.2.2.2.2.2.2.2 _ (List.mem_of_getElem? (i := 1) rfl))) (vx_c (va_Nw.use rfl (hz.1.2.2.2.2.2.2.2.2 _ (List.mem_of_getElem? (i := 2) rfl))) vx_n))))
      exact vx_throwS hx hb hl0 (own := RX11) (cls := "java/lang/IllegalArgumentException") (text := "the text of the rules is wrong") (names := ["java/lang/RuntimeException", "java/lang/Exception"]) hown (by decide +kernel) (by decide +kernel) hw5 hw6 ha128 hat (by decide +kernel) hz.1.1 hz.1.2.1 hS (by rw [hml]; exact hl.1) dX11_rules_70 dX11_rules_73 dX11_rules_74 dX11_rules_76 dX11_rules_79 (fun x h9 => (ht0 x h9).elim) (Nat.le_of_ble_eq_true rfl) (Nat.le_of_ble_eq_true rfl) (Nat.le_of_ble_eq_true rfl) (Nat.le_of_ble_eq_true rfl) hlocks (fun t9 hvm9 h91 h92 => ⟨f115, trivial, ⟨⟨rfl, by rcases hex with ⟨p8, p81, p82, p83⟩ | ⟨p81, p82⟩; (exact ⟨p8, p81, p83, by rw [q117]; exact p82, zDru_cg (fun i k h => by rw [hf119 i k (by omega)]; exact hfr i k (by omega))⟩); exact absurd p81 c121, ⟨q118, fun i k h => by rw [hf119 i k (by omega)]; exact hfr i k (by omega)⟩⟩, zThr hH hvm9 h92⟩, zF2 hS h91 h92⟩) hS.2.2 (by decide) (by decide)
  · have zc113 := c113
    replace zc113 := zc_nle (nI_toInt (by omega)) (nI_toInt (by omega)) zc113
    refine lv_iload_n hx hb dX11_rules_31 rfl (lv_at hl 2 rfl) ?_
    refine lv_if_eq (tgt := 58) hx hb dX11_rules_32 (by decide) (fun c129 => ?_) (fun c129 => ?_)
    · have zc129 := c129
      replace zc129 := zc_eq (rfl) ((by decide : (0 : Int32).toInt = 0)) zc129
      refine lv_aload_n hx hb dX11_rules_58 rfl (lv_at hl 0 rfl) ?_
      refine va_callv (va_runV (As := []) (rest := []) ⟨hx, hb, hml, hown, hts⟩ (c_closeTape l hl0 D A sad τ f fr ol L b6 hF q5 q6 (by omega) (by omega)) (cwV 0 hts gX11_rules_X11_closeTape rfl rfl rfl (by decide +kernel) ⟨Nat.le_of_ble_eq_true rfl, Nat.le_of_ble_eq_true rfl⟩) ⟨zQc_bl, zRecv hH (zk_0 hF) rfl, zQc_at hz hS hA hH⟩ rfl rfl hl.1 rfl (lv_room (Nat.le_of_ble_eq_true rfl)) dX11_rules_59 ⟨Nat.le_of_ble_eq_true rfl, Nat.le_of_ble_eq_true rfl⟩) hS (fun q _ h => h) (fun q h => h) (fun u9 t9 H1 locs ht9 hvm9 hw hB hz1 hk1 hS => ?_)
      have hH := zMv ht9 hvm9 hB
      clear hB
      generalize u9 = f131 at hw hH
      generalize H1 = H at hH hS ⊢
      obtain ⟨w132, hcl, q133, q134, hf135⟩ := hw
      have hex := hli.exit hn4 hb6 (by omega) hcl
      have q136 : f131 1 2 = nI b6 := by rw [hf135 1 2 (by omega)]; exact q6
      have hT := zTh.ci (fi' := f131) hT (fun i9 k9 h9 => hf135 i9 k9 (by omega))
      refine lv_aload_n hx hb dX11_rules_62 rfl (lv_at hl 0 rfl) ?_
      refine zGetI (D := D) (ci := 11) (C := RX11) (T := TX11) (N := 16) hx hb hts hiX11 hown hH (zk_0 hF) rfl 14 (by decide) rfl hw4 (fun _ h9 => h9) dX11_rules_63 q133 ?_
      refine lv_iconst (v := (-1)) hx hb dX11_rules_66 (by decide) ?_
      refine lv_icmp_eq (tgt := 80) hx hb dX11_rules_67 (by decide) (fun c137 => ?_) (fun c137 => ?_)
      · have zc137 := c137
        replace zc137 := zc_eq (rfl) ((by decide : ((-1) : Int32).toInt = (-1))) zc137
        refine lv_aload_n hx hb dX11_rules_80 rfl (lv_at hl 0 rfl) ?_
        refine zGetR (D := D) (ci := 11) (C := RX11) (T := TX11) (N := 16) hx hb hts hiX11 hown hH (zk_0 hF) rfl 3 (by decide) rfl hw2 (fun _ h9 => h9) dX11_rules_81 (zr_0_3 hF) ?_
        refine lv_aload_n hx hb dX11_rules_84 rfl (lv_at hl 0 rfl) ?_
        refine zGetR (D := D) (ci := 11) (C := RX11) (T := TX11) (N := 16) hx hb hts hiX11 hown hH (zk_0 hF) rfl 4 (by decide) rfl hw1 (fun _ h9 => h9) dX11_rules_85 (zr_0_4 hF) ?_
        refine va_callv (va_runV (As := [.ref (τ.1 12)]) (rest := []) ⟨hx, hb, hml, hown, hts⟩ (c_copyR l hl0 D A sad τ f131 fr ol hF) (cwV 1 hts gX11_rules_X5_copy rfl rfl rfl (by decide +kernel) ⟨Nat.le_of_ble_eq_true rfl, Nat.le_of_ble_eq_true rfl⟩) ⟨zQc_bl, zRecv hH (zk_9 hF) rfl, zQc_at hz hS hA hH⟩ rfl rfl hl.1 rfl (lv_room (Nat.le_of_ble_eq_true rfl)) dX11_rules_88 ⟨Nat.le_of_ble_eq_true rfl, Nat.le_of_ble_eq_true rfl⟩) hS (fun q _ h => h) (fun q h => h) (fun u9 t9 H1 locs ht9 hvm9 hw hB hz1 hk1 hS => ?_)
        have hH := zMv ht9 hvm9 hB
        clear hB
        generalize u9 = f139 at hw hH
        generalize H1 = H at hH hS ⊢
        have hc_copyR := hw
        have hf140 : ∀ i k, ¬ (i = 10 ∨ i = 11) → f139 i k = f131 i k := fun i k h => by rw [hw]; show (if _ then _ else if _ then _ else _) = _; rw [if_neg (by omega), if_neg (by omega)]
        have q141 : f139 1 2 = nI b6 := by rw [hf140 1 2 (by omega)]; exact q136
        have q142 : f139 0 14 = w132 := by rw [hf140 0 14 (by omega)]; exact q133
        have q143 : f139 1 1 = nI 0 := by rw [hf140 1 1 (by omega)]; exact q134
        have hT := zTh.ci (fi' := f139) hT (fun i9 k9 h9 => hf140 i9 k9 (by omega))
        refine lv_iload_n hx hb dX11_rules_91 rfl (lv_at hl 1 rfl) ?_
        refine W.widen (k := 1) (n := 6) (by decide) (by decide) ?_
        refine vx_ret ?_
        exact W.iret (v := nI i) hx hb hr (fun t9 ht9 hW9 => ⟨⟨nI i, f139, rfl, ⟨by rcases hex with ⟨p8, p81, p82, p83⟩ | ⟨p81, p82⟩; (exact absurd (p82.symm.trans c137) (nI_ne1 p81)); (exact ⟨i, _, p82, rfl, by rw [q142]; exact p81, by rw [zDru_of hc_copyR]; exact zDft_cg (fun i k q => hf135 i k (by omega))⟩), ⟨q143, fun i k h => by rw [hf140 i k (by omega), hf135 i k (by omega)]; exact hfr i k (by omega)⟩⟩, zEnd1 hH ht9 hW9⟩, hS.F ht9⟩) hS.2.2 dX11_rules_92
      · have zc137 := c137
        replace zc137 := zc_neq (rfl) ((by decide : ((-1) : Int32).toInt = (-1))) zc137
        obtain ⟨a144, ha144⟩ := hz.1.2.2.2.2.1 _ (List.mem_of_getElem? (i := 7) rfl)
        have hat : ∀ w ∈ vx_atS RX11 95 "java/lang/IllegalArgumentException" ["java/lang/RuntimeException", "java/lang/Exception"], w.before _ s = true := vx_hat (fun w h => hts w (List.mem_cons_of_mem _ (List.mem_append_right _ h))) (B := [.castable "java/lang/IllegalArgumentException" "java/lang/IllegalArgumentException", .declares (Bundle.initS "java/lang/RuntimeException"), .declares (Bundle.initS "java/lang/Exception"), .declares (Bundle.initS Bundle.tN)]) (by decide +kernel) (vx_c (va_Nw.use rfl (hz.1.2.2.2.2.2.2.2.1 _ (List.mem_of_getElem? (i := 1) rfl))) (vx_c (va_Nw.use rfl (hz.1.2.2.2.2.2.2.2.2 _ (List.mem_of_getElem? (i := 0) rfl))) (vx_c (va_Nw.use rfl (hz.1.2.2.2.2.2.2.2.2 _ (List.mem_of_getElem? (i := 1) rfl))) (vx_c (va_Nw.use rfl (hz.1.2.2.2.2.2.2.2.2 _ (List.mem_of_getElem? (i := 2) rfl))) vx_n))))
        exact vx_throwS hx hb hl0 (own := RX11) (cls := "java/lang/IllegalArgumentException") (text := "the text of the rules is wrong") (names := ["java/lang/RuntimeException", "java/lang/Exception"]) hown (by decide +kernel) (by decide +kernel) hw5 hw6 ha144 hat (by decide +kernel) hz.1.1 hz.1.2.1 hS (by rw [hml]; exact hl.1) dX11_rules_70 dX11_rules_73 dX11_rules_74 dX11_rules_76 dX11_rules_79 (fun x h9 => (ht0 x h9).elim) (Nat.le_of_ble_eq_true rfl) (Nat.le_of_ble_eq_true rfl) (Nat.le_of_ble_eq_true rfl) (Nat.le_of_ble_eq_true rfl) hlocks (fun t9 hvm9 h91 h92 => ⟨f131, trivial, ⟨⟨rfl, by rcases hex with ⟨p8, p81, p82, p83⟩ | ⟨p81, p82⟩; (exact ⟨p8, p81, p83, by rw [q133]; exact p82, zDru_cg (fun i k h => by rw [hf135 i k (by omega)]; exact hfr i k (by omega))⟩); exact absurd p81 c137, ⟨q134, fun i k h => by rw [hf135 i k (by omega)]; exact hfr i k (by omega)⟩⟩, zThr hH hvm9 h92⟩, zF2 hS h91 h92⟩) hS.2.2 (by decide) (by decide)
    · have zc129 := c129
      replace zc129 := zc_neq (rfl) ((by decide : (0 : Int32).toInt = 0)) zc129
      refine lv_aload_n hx hb dX11_rules_35 rfl (lv_at hl 0 rfl) ?_
      refine va_callv (va_runV (As := []) (rest := []) ⟨hx, hb, hml, hown, hts⟩ (w_readRuleX l hl0 D A sad τ f fr ol L b6 hF q5 q6 (by omega) (by omega) n hT) (cwV 0 hts gX11_rules_X11_readRule rfl rfl rfl (by decide +kernel) ⟨Nat.le_of_ble_eq_true rfl, Nat.le_of_ble_eq_true rfl⟩) ⟨zQc_bl, zRecv hH (zk_0 hF) rfl, zQc_at hz hS hA hH⟩ rfl rfl hl.1 rfl (lv_room (Nat.le_of_ble_eq_true rfl)) dX11_rules_36 ⟨Nat.le_of_ble_eq_true rfl, Nat.le_of_ble_eq_true rfl⟩) hS (fun q _ h => h) (fun q h => h) (fun u9 t9 H1 locs ht9 hvm9 hw hB hz1 hk1 hS => ?_)
      have hH := zMv ht9 hvm9 hB
      clear hB
      generalize u9 = f146 at hw hH
      generalize H1 = H at hH hS ⊢
      obtain ⟨hru, ⟨b147, hb148, q149⟩, hf150⟩ := hw
      have q151 : f146 1 1 = nI L := by rw [hf150 1 1 (by omega)]; exact q5
      have hT := zTh.ci (fi' := f146) hT (fun i9 k9 h9 => hf150 i9 k9 (by omega))
      refine lv_iinc (v := nI (i + 1)) (lv' := [(1, .int (nI (i + 1))), (0, .ref (τ.1 0)), (2, .int y), (3, .int (nI i))]) hx hb dX11_rules_39 hl (k := 1) rfl (by rw [show (Int32.ofInt 1 : Int32) = nI 1 from by decide, nI_add]) (by decide) rfl (fun ls hl => ?_)
      refine lv_aload_n hx hb dX11_rules_42 rfl (lv_at hl 1 rfl) ?_
      refine zGetR (D := D) (ci := 11) (C := RX11) (T := TX11) (N := 16) hx hb hts hiX11 hown hH (zk_0 hF) rfl 0 (by decide) rfl hw3 (fun _ h9 => h9) dX11_rules_43 (zr_0_0 hF) ?_
      refine lv_bipush (v := nI 59) hx hb dX11_rules_46 (by decide) ?_
      refine va_calli (va_runV (As := [.int (nI 59)]) (rest := []) ⟨hx, hb, hml, hown, hts⟩ (t_takesSign l hl0 D A sad τ f146 fr ol L b147 hF q151 q149 (by omega) (by omega) (nI 59)) (cwV 1 hts gX11_rules_X7_takesSign rfl rfl rfl (by decide +kernel) ⟨Nat.le_of_ble_eq_true rfl, Nat.le_of_ble_eq_true rfl⟩) ⟨zQc_bl, zRecv hH (zk_1 hF) rfl, zQc_at hz hS hA hH⟩ rfl rfl hl.1 rfl (lv_room (Nat.le_of_ble_eq_true rfl)) dX11_rules_48 ⟨Nat.le_of_ble_eq_true rfl, Nat.le_of_ble_eq_true rfl⟩) hS (fun q _ h => h) (fun q h => h) (fun r152 u9 t9 H1 locs ht9 hvm9 hw hB hz1 hk1 hS => ?_)
      have hH := zMv ht9 hvm9 hB
      clear hB
      generalize u9 = f153 at hw hH
      generalize H1 = H at hH hS ⊢
      have hsn := hw
      have hsg : r152 = 1 ∨ r152 = 0 := hw.elim (fun h => Or.inl h.1) (fun h => Or.inr h.1)
      obtain ⟨b154, hb155, q156, hf157⟩ := zTw.sign q149 (by omega) hw
      have q158 : f153 1 1 = nI L := by rw [hf157 1 1 (by omega)]; exact q151
      have hT := zTh.ci (fi' := f153) hT (fun i9 k9 h9 => hf157 i9 k9 (by omega))
      refine lv_istore_n (lv' := [(2, .int r152), (1, .int (nI (i + 1))), (0, .ref (τ.1 0)), (3, .int (nI i))]) hx hb dX11_rules_51 rfl hl (by decide) rfl (fun ls hl => ?_)
      refine lv_iinc (v := nI (i + 1)) (lv' := [(3, .int (nI (i + 1))), (2, .int r152), (1, .int (nI (i + 1))), (0, .ref (τ.1 0))]) hx hb dX11_rules_52 hl (k := 3) rfl (by rw [show (Int32.ofInt 1 : Int32) = nI 1 from by decide, nI_add]) (by decide) rfl (fun ls hl => ?_)
      refine lv_goto (tgt := 24) hx hb dX11_rules_55 (by decide) ?_
      exact ih112 (400 - (i + 1)) (by omega) (i + 1, r152, f153) _ _ _ (show 400 - (i + 1) = 400 - (i + 1) ∧ ((i + 1) ≤ 400 ∧ (∃ b, b ≤ L ∧ f153 1 2 = nI b ∧ zLi (zRls (fi 2) L (fun t9 => fi (300 + t9) 1) n 401 (zS (fi 2) L 0) (zDru fi) 0) (fi 2) (fun t9 => fi (300 + t9) 1) L n (i + 1) r152 b f153) ∧ ∀ a b, ¬ ((a = 1 ∧ 2 ≤ b) ∨ a = 13 ∨ a = 14) → f153 a b = fi a b) ∧ zH D A τ f153 fr ol s _ ∧ va_S A s.heap _ _ ∧ lv_has _ 4 [(0, .ref (τ.1 0)), (1, .int (nI (i + 1))), (2, .int r152), (3, .int (nI (i + 1)))] from ⟨rfl, ⟨by omega, ⟨b154, by omega, q156, hli.step hn4 hb6 (by omega) (by omega) (by funext k; exact hfr 2 k (by omega)) (by funext k; exact hfr (300 + k) 1 (by omega)) hru q149 (by omega) (by funext k; rw [hf150 2 k (by omega)]; exact hfr 2 k (by omega)) (by decide) hsn q156 (by omega)⟩, fun a b h => by rw [hf157 a b (by omega), hf150 a b (by omega)]; exact hfr a b h⟩, hH, hS, lv_sub hl [3, 2, 1, 0] rfl⟩)
set_option maxHeartbeats 4000000 in
set_option maxRecDepth 100000 in
/-- readLetter -/
theorem w_readLetterX (l : Launch) (hl0 : l.stackTraces = false) (D : va_G) (A : Nat → Prop) (sad : Nat → Nat) (τ : zTy) (fi : zFi) (fr : zFr) (ol : Int64) (L a : Nat) (hF : zFix τ fr) (hn : fi 1 1 = nI L) (ha : fi 1 2 = nI a) (hn4 : L ≤ 400) (han : a ≤ L) (q : Nat) (hq5 : q ≤ 512) (hL : zLk τ fr q) (h13 : fi 1 3 = -1) (hlz : fi (3000 + q) 2 = nI 0) : Met l yX11_readLetter wsX11_readLetter ({ frames := 6, cells := 0, slots := 0, locals := 129 }) (va_Pc [.ref (τ.1 0), .ref (τ.1 (3000 + q))] (zQc D A sad τ fi fr ol)) (va_Qv (fun (u : zFi) => zLrd (zLe0 (fi 2) L a) q u ∧ (∃ b, b ≤ L ∧ u 1 2 = nI b) ∧ (∃ l, l ≤ 8 ∧ u (3000 + q) 2 = nI l) ∧ ∀ a b, ¬ ((a = 1 ∧ 2 ≤ b) ∨ (a = 3000 + q ∧ 2 ≤ b ∧ b ≤ 4) ∨ a = 4000 + q ∨ a = 5000 + q) → u a b = fi a b) (fun (u : zFi) (t : State) => zH D A τ u fr ol t t.heap) A) 0 0 A := by
  refine Met.ofW (cc := cX11_readLetter) (maxL := 5) (ret := none) (by decide) rfl ?_
  intro p9 e9 s m args below meth c9 s₁ B hml hv
  obtain ⟨rfl, hz, hH, hA⟩ := hv
  have hx := B.exec
  have hb := B.bytes
  have hr := B.returns
  have hts := atoms_spec (ws := wsX11_readLetter) B.pre
  have hown : s.vm.findClass RX11 = some m.cls := findClass_of_methodNamed B.named
  have hlocks := B.notSynchronized
  have hS : va_S A s.heap s.heap [] := va_S.rf
  have hl := lv_entry ([.ref (τ.1 0), .ref (τ.1 (3000 + q))]) (n := 5) (Nat.le_of_ble_eq_true rfl)
  rw [lg_entry_eq]
  generalize (lg_sl ([.ref (τ.1 0), .ref (τ.1 (3000 + q))]) ++ List.replicate (5 - (lg_sl ([.ref (τ.1 0), .ref (τ.1 (3000 + q))])).length) Slot.unset).toArray = ls at hl ⊢
  have hl : lv_has ls 5 [(0, .ref (τ.1 0)), (1, .ref (τ.1 (3000 + q)))] := hl
  have hiX11 : ∀ w ∈ u_ws RX11 TX11 16, w ∈ wsX11_readLetter := fun _ h => List.mem_cons_of_mem _ (List.mem_append_left _ (List.mem_append_left _ (List.mem_append_right _ h)))
  have hw1 := hts (.fieldLink RX11 10 "PostHouse" "tape" "LPostHouse$Tape;") (by decide +kernel)
  have hw2 := hts (.constant RX11 450 999999) (by decide +kernel)
  have hw3 := hts (.fieldLink RX11 234 "PostHouse$Letter" "sum" "I") (by decide +kernel)
  have hiX2 : ∀ w ∈ u_ws RX2 TX2 10, w ∈ wsX11_readLetter := fun _ h => List.mem_cons_of_mem _ (List.mem_append_left _ (List.mem_append_right _ h))
  have hw5 := hts (.fieldLink RX11 237 "PostHouse$Letter" "money" "I") (by decide +kernel)
  refine lv_iconst (v := nI 1) hx hb dX11_readLetter_0 (by decide) ?_
  refine lv_istore_n (lv' := [(2, .int (nI 1)), (0, .ref (τ.1 0)), (1, .ref (τ.1 (3000 + q)))]) hx hb dX11_readLetter_1 rfl hl (by decide) rfl (fun ls hl => ?_)
  refine lv_iconst (v := nI 0) hx hb dX11_readLetter_2 (by decide) ?_
  refine lv_istore_n (lv' := [(3, .int (nI 0)), (2, .int (nI 1)), (0, .ref (τ.1 0)), (1, .ref (τ.1 (3000 + q)))]) hx hb dX11_readLetter_3 rfl hl (by decide) rfl (fun ls hl => ?_)
  refine zLp (σ := Nat × Int32 × zFi) (fun x9 k9 H locs ls => (fun (i : Nat) (y : Int32) (f : zFi) => k9 = 8 - i ∧ (i ≤ 8 ∧ (∃ b, b ≤ L ∧ f 1 2 = nI b ∧ zLl (zLin (fi 2) L 8 a 0 (fun _ => 0) (fun _ => 0)) (fi 2) L i y b q f) ∧ f (3000 + q) 2 = nI i ∧ ∀ a b, ¬ ((a = 1 ∧ 2 ≤ b) ∨ (a = 3000 + q ∧ 2 ≤ b ∧ b ≤ 4) ∨ a = 4000 + q ∨ a = 5000 + q) → f a b = fi a b) ∧ zH D A τ f fr ol s H ∧ va_S A s.heap H locs ∧ lv_has ls 5 [(0, .ref (τ.1 0)), (1, .ref (τ.1 (3000 + q))), (2, .int y), (3, .int (nI i))]) x9.1 x9.2.1 x9.2.2) (0, nI 1, fi) (8 - 0) (show 8 - 0 = 8 - 0 ∧ (0 ≤ 8 ∧ (∃ b, b ≤ L ∧ fi 1 2 = nI b ∧ zLl (zLin (fi 2) L 8 a 0 (fun _ => 0) (fun _ => 0)) (fi 2) L 0 (nI 1) b q fi) ∧ fi (3000 + q) 2 = nI 0 ∧ ∀ a b, ¬ ((a = 1 ∧ 2 ≤ b) ∨ (a = 3000 + q ∧ 2 ≤ b ∧ b ≤ 4) ∨ a = 4000 + q ∨ a = 5000 + q) → fi a b = fi a b) ∧ zH D A τ fi fr ol s _ ∧ va_S A s.heap _ _ ∧ lv_has _ 5 [(0, .ref (τ.1 0)), (1, .ref (τ.1 (3000 + q))), (2, .int (nI 1)), (3, .int (nI 0))] from ⟨rfl, ⟨Nat.zero_le _, ⟨a, han, ha, Or.inr ⟨h13, (fun _ => 0), (fun _ => 0), fun k h => absurd h (by omega), Or.inl ⟨rfl, by omega, rfl⟩⟩⟩, hlz, fun _ _ _ => rfl⟩, hH, hS, lv_sub hl [2, 3, 1, 0] rfl⟩) (fun k9 ih x9 H locs ls hv9 => ?_)
  obtain ⟨i, y, f⟩ := x9
  have hv9 : k9 = 8 - i ∧ (i ≤ 8 ∧ (∃ b, b ≤ L ∧ f 1 2 = nI b ∧ zLl (zLin (fi 2) L 8 a 0 (fun _ => 0) (fun _ => 0)) (fi 2) L i y b q f) ∧ f (3000 + q) 2 = nI i ∧ ∀ a b, ¬ ((a = 1 ∧ 2 ≤ b) ∨ (a = 3000 + q ∧ 2 ≤ b ∧ b ≤ 4) ∨ a = 4000 + q ∨ a = 5000 + q) → f a b = fi a b) ∧ zH D A τ f fr ol s H ∧ va_S A s.heap H locs ∧ lv_has ls 5 [(0, .ref (τ.1 0)), (1, .ref (τ.1 (3000 + q))), (2, .int y), (3, .int (nI i))] := hv9
  obtain ⟨hkih101, hv9, hH, hS, hl⟩ := hv9
  obtain ⟨h1, hpos, p6, hfr⟩ := hv9
  have ih101 := ih
  clear ih
  obtain ⟨b6, hb6, q6, hll⟩ := hpos
  have q5 : f 1 1 = nI L := by rw [hfr 1 1 (by omega)]; exact hn
  refine lv_iload_n hx hb dX11_readLetter_4 rfl (lv_at hl 3 rfl) ?_
  refine lv_bipush (v := nI 8) hx hb dX11_readLetter_5 (by decide) ?_
  refine lv_icmp_ge (tgt := 81) hx hb dX11_readLetter_7 (by decide) (fun c102 => ?_) (fun c102 => ?_)
  · have zc102 := c102
    replace zc102 := zc_le (nI_toInt (by omega)) (nI_toInt (by omega)) zc102
    refine lv_aload_n hx hb dX11_readLetter_81 rfl (lv_at hl 0 rfl) ?_
    refine zGetR (D := D) (ci := 11) (C := RX11) (T := TX11) (N := 16) hx hb hts hiX11 hown hH (zk_0 hF) rfl 0 (by decide) rfl hw1 (fun _ h9 => h9) dX11_readLetter_82 (zr_0_0 hF) ?_
    refine zLdcW hx hb hown (hz.1.2.2.2.1 7 _ rfl).2 dX11_readLetter_85 ?_
    have hex := hll.exit (by omega)
    refine va_callv (va_runV (As := [.ref (sad 7)]) (rest := []) ⟨hx, hb, hml, hown, hts⟩ (t_needWord l hl0 D A sad τ f fr ol L b6 hF q5 q6 (by omega) (by omega) 7 ((449, "sum", [115, 117, 109])) rfl) (cwV 1 hts gX11_readLetter_X7_needWord rfl rfl rfl (by decide +kernel) ⟨Nat.le_of_ble_eq_true rfl, Nat.le_of_ble_eq_true rfl⟩) ⟨zQc_bl, zRecv hH (zk_1 hF) rfl, zQc_at hz hS hA hH⟩ rfl rfl hl.1 rfl (lv_room (Nat.le_of_ble_eq_true rfl)) dX11_readLetter_88 ⟨Nat.le_of_ble_eq_true rfl, Nat.le_of_ble_eq_true rfl⟩) hS (fun q _ h => h) (fun q h => h) (fun u9 t9 H1 locs ht9 hvm9 hw hB hz1 hk1 hS => ?_)
    have hH := zMv ht9 hvm9 hB
    clear hB
    generalize u9 = f104 at hw hH
    generalize H1 = H at hH hS ⊢
    have hs1 := zStp.need (by omega) (by omega) hw
    obtain ⟨b105, hb106, q107, hf108⟩ := zTw.need q6 (by omega) hw
    have q109 : f104 1 1 = nI L := by rw [hf108 1 1 (by omega)]; exact q5
    have q110 : f104 (3000 + q) 2 = nI i := by rw [hf108 (3000 + q) 2 (by omega)]; exact p6
    refine lv_aload_n hx hb dX11_readLetter_91 rfl (lv_at hl 1 rfl) ?_
    refine lv_aload_n hx hb dX11_readLetter_92 rfl (lv_at hl 0 rfl) ?_
    refine zGetR (D := D) (ci := 11) (C := RX11) (T := TX11) (N := 16) hx hb hts hiX11 hown hH (zk_0 hF) rfl 0 (by decide) rfl hw1 (fun _ h9 => h9) dX11_readLetter_93 (zr_0_0 hF) ?_
    refine lv_iconst (v := nI 0) hx hb dX11_readLetter_96 (by decide) ?_
    refine lv_ldcw (v := nI 999999) hx hb hown hw2 dX11_readLetter_97 ?_
    refine va_calli (va_runV (As := [.int (nI 0), .int (nI 999999)]) (rest := [.ref (τ.1 (3000 + q))]) ⟨hx, hb, hml, hown, hts⟩ (t_number l hl0 D A sad τ f104 fr ol L b105 hF q109 q107 (by omega) (by omega) (nI 0) (nI 999999) (by decide)) (cwV 2 hts gX11_readLetter_X7_number rfl rfl rfl (by decide +kernel) ⟨Nat.le_of_ble_eq_true rfl, Nat.le_of_ble_eq_true rfl⟩) ⟨zQc_bl, zRecv hH (zk_1 hF) rfl, zQc_at hz hS hA hH⟩ rfl rfl hl.1 rfl (lv_room (Nat.le_of_ble_eq_true rfl)) dX11_readLetter_100 ⟨Nat.le_of_ble_eq_true rfl, Nat.le_of_ble_eq_true rfl⟩) hS (fun q _ h => h) (fun q h => h) (fun r111 u9 t9 H1 locs ht9 hvm9 hw hB hz1 hk1 hS => ?_)
    have hH := zMv ht9 hvm9 hB
    clear hB
    generalize u9 = f112 at hw hH
    generalize H1 = H at hH hS ⊢
    have hs2 := zStp.num (by omega) (by omega) hw
    obtain ⟨b113, hb114, q115, hf116⟩ := zTw.num q107 (by omega) hw
    have q117 : f112 1 1 = nI L := by rw [hf116 1 1 (by omega)]; exact q109
    have q118 : f112 (3000 + q) 2 = nI i := by rw [hf116 (3000 + q) 2 (by omega)]; exact q110
    refine zPutI (D := D) (ci := 2) (ty := .int) (C := RX2) (T := TX2) (N := 10) hx hb hts hiX2 tyX2 tyX2_ok nmX2 hown hH hS hL.1.1 rfl 3 (by decide) rfl hw3 (fun _ h9 => h9) rfl (by decide +kernel) rfl rfl dX11_readLetter_103 (fun H locs hH hS => ?_)
    obtain ⟨f119, ef119⟩ : ∃ f9 : zFi, f9 = zu f112 (3000 + q) 3 r111 := ⟨_, rfl⟩
    rw [← ef119] at hH
    have q120 : f119 1 1 = nI L := by rw [ef119, zu_n (fun h9 => by omega)]; exact q117
    have q121 : f119 (3000 + q) 2 = nI i := by rw [ef119, zu_n (fun h9 => absurd h9.2 (by decide))]; exact q118
    have q122 : f119 1 2 = nI b113 := by rw [ef119, zu_n (fun h9 => by omega)]; exact q115
    have q123 : f119 (3000 + q) 3 = r111 := by rw [ef119]; exact zu_s
    refine lv_aload_n hx hb dX11_readLetter_106 rfl (lv_at hl 1 rfl) ?_
    refine lv_aload_n hx hb dX11_readLetter_107 rfl (lv_at hl 0 rfl) ?_
    refine zGetR (D := D) (ci := 11) (C := RX11) (T := TX11) (N := 16) hx hb hts hiX11 hown hH (zk_0 hF) rfl 0 (by decide) rfl hw1 (fun _ h9 => h9) dX11_readLetter_108 (zr_0_0 hF) ?_
    refine zLdcW hx hb hown (hz.1.2.2.2.1 8 _ rfl).2 dX11_readLetter_111 ?_
    refine va_calli (va_runV (As := [.ref (sad 8)]) (rest := [.ref (τ.1 (3000 + q))]) ⟨hx, hb, hml, hown, hts⟩ (t_takesWord l hl0 D A sad τ f119 fr ol L b113 hF q120 q122 (by omega) (by omega) 8 ((451, "money", [109, 111, 110, 101, 121])) rfl) (cwV 1 hts gX11_readLetter_X7_takesWord rfl rfl rfl (by decide +kernel) ⟨Nat.le_of_ble_eq_true rfl, Nat.le_of_ble_eq_true rfl⟩) ⟨zQc_bl, zRecv hH (zk_1 hF) rfl, zQc_at hz hS hA hH⟩ rfl rfl hl.1 rfl (lv_room (Nat.le_of_ble_eq_true rfl)) dX11_readLetter_114 ⟨Nat.le_of_ble_eq_true rfl, Nat.le_of_ble_eq_true rfl⟩) hS (fun q _ h => h) (fun q h => h) (fun r124 u9 t9 H1 locs ht9 hvm9 hw hB hz1 hk1 hS => ?_)
    have hH := zMv ht9 hvm9 hB
    clear hB
    generalize u9 = f125 at hw hH
    generalize H1 = H at hH hS ⊢
    rcases hw with ⟨rfl, hw126, b127, ef125, hs128⟩ | ⟨rfl, hn129, ef125⟩
    · have zhs128 := hs128.1
      have yhs128 := hs128.2.1
      have q130 : f125 1 1 = nI L := by rw [ef125, zu_n (fun h9 => absurd h9.2 (by decide))]; exact q120
      have q131 : f125 (3000 + q) 2 = nI i := by rw [ef125, zu_n (fun h9 => by omega)]; exact q121
      have q132 : f125 (3000 + q) 3 = r111 := by rw [ef125, zu_n (fun h9 => by omega)]; exact q123
      have q133 : f125 1 2 = nI b127 := by rw [ef125]; exact zu_s
      refine lv_if_eq (tgt := 134) hx hb dX11_readLetter_117 (by decide) (fun c134 => absurd c134 (by decide)) (fun c134 => ?_)
      refine lv_aload_n hx hb dX11_readLetter_120 rfl (lv_at hl 0 rfl) ?_
      refine zGetR (D := D) (ci := 11) (C := RX11) (T := TX11) (N := 16) hx hb hts hiX11 hown hH (zk_0 hF) rfl 0 (by decide) rfl hw1 (fun _ h9 => h9) dX11_readLetter_121 (zr_0_0 hF) ?_
      refine lv_iconst (v := nI 0) hx hb dX11_readLetter_124 (by decide) ?_
      refine lv_ldcw (v := nI 999999) hx hb hown hw2 dX11_readLetter_125 ?_
      refine va_calli (va_runV (As := [.int (nI 0), .int (nI 999999)]) (rest := [.ref (τ.1 (3000 + q))]) ⟨hx, hb, hml, hown, hts⟩ (t_number l hl0 D A sad τ f125 fr ol L b127 hF q130 q133 (by omega) (by omega) (nI 0) (nI 999999) (by decide)) (cwV 2 hts gX11_readLetter_X7_number rfl rfl rfl (by decide +kernel) ⟨Nat.le_of_ble_eq_true rfl, Nat.le_of_ble_eq_true rfl⟩) ⟨zQc_bl, zRecv hH (zk_1 hF) rfl, zQc_at hz hS hA hH⟩ rfl rfl hl.1 rfl (lv_room (Nat.le_of_ble_eq_true rfl)) dX11_readLetter_128 ⟨Nat.le_of_ble_eq_true rfl, Nat.le_of_ble_eq_true rfl⟩) hS (fun q _ h => h) (fun q h => h) (fun r135 u9 t9 H1 locs ht9 hvm9 hw hB hz1 hk1 hS => ?_)
      have hH := zMv ht9 hvm9 hB
      clear hB
      generalize u9 = f136 at hw hH
      generalize H1 = H at hH hS ⊢
      have hs4 := zStp.num (by omega) (by omega) hw
      obtain ⟨b137, hb138, q139, hf140⟩ := zTw.num q133 (by omega) hw
      have q141 : f136 1 1 = nI L := by rw [hf140 1 1 (by omega)]; exact q130
      have q142 : f136 (3000 + q) 2 = nI i := by rw [hf140 (3000 + q) 2 (by omega)]; exact q131
      have q143 : f136 (3000 + q) 3 = r111 := by rw [hf140 (3000 + q) 3 (by omega)]; exact q132
      refine lv_goto (tgt := 138) hx hb dX11_readLetter_131 (by decide) ?_
      refine zPutI (D := D) (ci := 2) (ty := .int) (C := RX2) (T := TX2) (N := 10) hx hb hts hiX2 tyX2 tyX2_ok nmX2 hown hH hS hL.1.1 rfl 4 (by decide) rfl hw5 (fun _ h9 => h9) rfl (by decide +kernel) rfl rfl dX11_readLetter_138 (fun H locs hH hS => ?_)
      obtain ⟨f144, ef144⟩ : ∃ f9 : zFi, f9 = zu f136 (3000 + q) 4 r135 := ⟨_, rfl⟩
      rw [← ef144] at hH
      have q145 : f144 1 1 = nI L := by rw [ef144, zu_n (fun h9 => by omega)]; exact q141
      have q146 : f144 (3000 + q) 2 = nI i := by rw [ef144, zu_n (fun h9 => absurd h9.2 (by decide))]; exact q142
      have q147 : f144 (3000 + q) 3 = r111 := by rw [ef144, zu_n (fun h9 => absurd h9.2 (by decide))]; exact q143
      have q148 : f144 1 2 = nI b137 := by rw [ef144, zu_n (fun h9 => by omega)]; exact q139
      have q149 : f144 (3000 + q) 4 = r135 := by rw [ef144]; exact zu_s
      refine W.widen (k := 0) (n := 0) (by decide) (by decide) ?_
      exact W.vret hx hb hr (fun t9 ht9 hW9 => ⟨⟨f144, rfl, ⟨zLrd.mk hn4 han hb6 hq5 (funext (fun k => hfr 2 k (by omega))) hex p6 hs1 hf108 q107 (by omega) hs2 hf116 q115 (by omega) ef119 (Or.inr ⟨b127, (zWrd_yes hw126 hs128 : zWrd (f119 2) L [109, 111, 110, 101, 121] b113 = some b127), ef125, hs4, hf140⟩) ef144, ⟨b137, by omega, q148⟩, ⟨i, by omega, q146⟩, fun a b h => by rw [ef144, zu_n (by omega), hf140 a b (by omega), ef125, zu_n (by omega), ef119, zu_n (by omega), hf116 a b (by omega), hf108 a b (by omega)]; exact hfr a b h⟩, zEnd1 hH ht9 hW9⟩, hS.F ht9⟩) hS.2.2 dX11_readLetter_141
    · have ef125 := ef125.symm
      subst ef125
      refine lv_if_eq (tgt := 134) hx hb dX11_readLetter_117 (by decide) (fun c150 => ?_) (fun c150 => absurd (by decide) c150)
      refine lv_aload_n hx hb dX11_readLetter_134 rfl (lv_at hl 1 rfl) ?_
      refine zGetI (D := D) (ci := 2) (C := RX2) (T := TX2) (N := 10) hx hb hts hiX2 hown hH hL.1.1 rfl 3 (by decide) rfl hw3 (fun _ h9 => h9) dX11_readLetter_135 q123 ?_
      refine zPutI (D := D) (ci := 2) (ty := .int) (C := RX2) (T := TX2) (N := 10) hx hb hts hiX2 tyX2 tyX2_ok nmX2 hown hH hS hL.1.1 rfl 4 (by decide) rfl hw5 (fun _ h9 => h9) rfl (by decide +kernel) rfl rfl dX11_readLetter_138 (fun H locs hH hS => ?_)
      obtain ⟨f151, ef151⟩ : ∃ f9 : zFi, f9 = zu f119 (3000 + q) 4 r111 := ⟨_, rfl⟩
      rw [← ef151] at hH
      have q152 : f151 1 1 = nI L := by rw [ef151, zu_n (fun h9 => by omega)]; exact q120
      have q153 : f151 (3000 + q) 2 = nI i := by rw [ef151, zu_n (fun h9 => absurd h9.2 (by decide))]; exact q121
      have q154 : f151 1 2 = nI b113 := by rw [ef151, zu_n (fun h9 => by omega)]; exact q122
      have q155 : f151 (3000 + q) 3 = r111 := by rw [ef151, zu_n (fun h9 => absurd h9.2 (by decide))]; exact q123
      have q156 : f151 (3000 + q) 4 = r111 := by rw [ef151]; exact zu_s
      refine W.widen (k := 0) (n := 0) (by decide) (by decide) ?_
      exact W.vret hx hb hr (fun t9 ht9 hW9 => ⟨⟨f151, rfl, ⟨zLrd.mk (g4 := f119) hn4 han hb6 hq5 (funext (fun k => hfr 2 k (by omega))) hex p6 hs1 hf108 q107 (by omega) hs2 hf116 q115 (by omega) ef119 (Or.inl ⟨(zWrd_no hn129 (by omega) : zWrd (f119 2) L [109, 111, 110, 101, 121] b113 = none), rfl, rfl⟩) ef151, ⟨b113, by omega, q154⟩, ⟨i, by omega, q153⟩, fun a b h => by rw [ef151, zu_n (by omega), ef119, zu_n (by omega), hf116 a b (by omega), hf108 a b (by omega)]; exact hfr a b h⟩, zEnd1 hH ht9 hW9⟩, hS.F ht9⟩) hS.2.2 dX11_readLetter_141
  · have zc102 := c102
    replace zc102 := zc_nle (nI_toInt (by omega)) (nI_toInt (by omega)) zc102
    refine lv_iload_n hx hb dX11_readLetter_10 rfl (lv_at hl 2 rfl) ?_
    refine lv_if_eq (tgt := 81) hx hb dX11_readLetter_11 (by decide) (fun c157 => ?_) (fun c157 => ?_)
    · have zc157 := c157
      replace zc157 := zc_eq (rfl) ((by decide : (0 : Int32).toInt = 0)) zc157
      refine lv_aload_n hx hb dX11_readLetter_81 rfl (lv_at hl 0 rfl) ?_
      refine zGetR (D := D) (ci := 11) (C := RX11) (T := TX11) (N := 16) hx hb hts hiX11 hown hH (zk_0 hF) rfl 0 (by decide) rfl hw1 (fun _ h9 => h9) dX11_readLetter_82 (zr_0_0 hF) ?_
      refine zLdcW hx hb hown (hz.1.2.2.2.1 7 _ rfl).2 dX11_readLetter_85 ?_
      have hex := hll.exit (by omega)
      refine va_callv (va_runV (As := [.ref (sad 7)]) (rest := []) ⟨hx, hb, hml, hown, hts⟩ (t_needWord l hl0 D A sad τ f fr ol L b6 hF q5 q6 (by omega) (by omega) 7 ((449, "sum", [115, 117, 109])) rfl) (cwV 1 hts gX11_readLetter_X7_needWord rfl rfl rfl (by decide +kernel) ⟨Nat.le_of_ble_eq_true rfl, Nat.le_of_ble_eq_true rfl⟩) ⟨zQc_bl, zRecv hH (zk_1 hF) rfl, zQc_at hz hS hA hH⟩ rfl rfl hl.1 rfl (lv_room (Nat.le_of_ble_eq_true rfl)) dX11_readLetter_88 ⟨Nat.le_of_ble_eq_true rfl, Nat.le_of_ble_eq_true rfl⟩) hS (fun q _ h => h) (fun q h => h) (fun u9 t9 H1 locs ht9 hvm9 hw hB hz1 hk1 hS => ?_)
      have hH := zMv ht9 hvm9 hB
      clear hB
      generalize u9 = f159 at hw hH
      generalize H1 = H at hH hS ⊢
      have hs1 := zStp.need (by omega) (by omega) hw
      obtain ⟨b160, hb161, q162, hf163⟩ := zTw.need q6 (by omega) hw
      have q164 : f159 1 1 = nI L := by rw [hf163 1 1 (by omega)]; exact q5
      have q165 : f159 (3000 + q) 2 = nI i := by rw [hf163 (3000 + q) 2 (by omega)]; exact p6
      refine lv_aload_n hx hb dX11_readLetter_91 rfl (lv_at hl 1 rfl) ?_
      refine lv_aload_n hx hb dX11_readLetter_92 rfl (lv_at hl 0 rfl) ?_
      refine zGetR (D := D) (ci := 11) (C := RX11) (T := TX11) (N := 16) hx hb hts hiX11 hown hH (zk_0 hF) rfl 0 (by decide) rfl hw1 (fun _ h9 => h9) dX11_readLetter_93 (zr_0_0 hF) ?_
      refine lv_iconst (v := nI 0) hx hb dX11_readLetter_96 (by decide) ?_
      refine lv_ldcw (v := nI 999999) hx hb hown hw2 dX11_readLetter_97 ?_
      refine va_calli (va_runV (As := [.int (nI 0), .int (nI 999999)]) (rest := [.ref (τ.1 (3000 + q))]) ⟨hx, hb, hml, hown, hts⟩ (t_number l hl0 D A sad τ f159 fr ol L b160 hF q164 q162 (by omega) (by omega) (nI 0) (nI 999999) (by decide)) (cwV 2 hts gX11_readLetter_X7_number rfl rfl rfl (by decide +kernel) ⟨Nat.le_of_ble_eq_true rfl, Nat.le_of_ble_eq_true rfl⟩) ⟨zQc_bl, zRecv hH (zk_1 hF) rfl, zQc_at hz hS hA hH⟩ rfl rfl hl.1 rfl (lv_room (Nat.le_of_ble_eq_true rfl)) dX11_readLetter_100 ⟨Nat.le_of_ble_eq_true rfl, Nat.le_of_ble_eq_true rfl⟩) hS (fun q _ h => h) (fun q h => h) (fun r166 u9 t9 H1 locs ht9 hvm9 hw hB hz1 hk1 hS => ?_)
      have hH := zMv ht9 hvm9 hB
      clear hB
      generalize u9 = f167 at hw hH
      generalize H1 = H at hH hS ⊢
      have hs2 := zStp.num (by omega) (by omega) hw
      obtain ⟨b168, hb169, q170, hf171⟩ := zTw.num q162 (by omega) hw
      have q172 : f167 1 1 = nI L := by rw [hf171 1 1 (by omega)]; exact q164
      have q173 : f167 (3000 + q) 2 = nI i := by rw [hf171 (3000 + q) 2 (by omega)]; exact q165
      refine zPutI (D := D) (ci := 2) (ty := .int) (C := RX2) (T := TX2) (N := 10) hx hb hts hiX2 tyX2 tyX2_ok nmX2 hown hH hS hL.1.1 rfl 3 (by decide) rfl hw3 (fun _ h9 => h9) rfl (by decide +kernel) rfl rfl dX11_readLetter_103 (fun H locs hH hS => ?_)
      obtain ⟨f174, ef174⟩ : ∃ f9 : zFi, f9 = zu f167 (3000 + q) 3 r166 := ⟨_, rfl⟩
      rw [← ef174] at hH
      have q175 : f174 1 1 = nI L := by rw [ef174, zu_n (fun h9 => by omega)]; exact q172
      have q176 : f174 (3000 + q) 2 = nI i := by rw [ef174, zu_n (fun h9 => absurd h9.2 (by decide))]; exact q173
      have q177 : f174 1 2 = nI b168 := by rw [ef174, zu_n (fun h9 => by omega)]; exact q170
      have q178 : f174 (3000 + q) 3 = r166 := by rw [ef174]; exact zu_s
      refine lv_aload_n hx hb dX11_readLetter_106 rfl (lv_at hl 1 rfl) ?_
      refine lv_aload_n hx hb dX11_readLetter_107 rfl (lv_at hl 0 rfl) ?_
      refine zGetR (D := D) (ci := 11) (C := RX11) (T := TX11) (N := 16) hx hb hts hiX11 hown hH (zk_0 hF) rfl 0 (by decide) rfl hw1 (fun _ h9 => h9) dX11_readLetter_108 (zr_0_0 hF) ?_
      refine zLdcW hx hb hown (hz.1.2.2.2.1 8 _ rfl).2 dX11_readLetter_111 ?_
      refine va_calli (va_runV (As := [.ref (sad 8)]) (rest := [.ref (τ.1 (3000 + q))]) ⟨hx, hb, hml, hown, hts⟩ (t_takesWord l hl0 D A sad τ f174 fr ol L b168 hF q175 q177 (by omega) (by omega) 8 ((451, "money", [109, 111, 110, 101, 121])) rfl) (cwV 1 hts gX11_readLetter_X7_takesWord rfl rfl rfl (by decide +kernel) ⟨Nat.le_of_ble_eq_true rfl, Nat.le_of_ble_eq_true rfl⟩) ⟨zQc_bl, zRecv hH (zk_1 hF) rfl, zQc_at hz hS hA hH⟩ rfl rfl hl.1 rfl (lv_room (Nat.le_of_ble_eq_true rfl)) dX11_readLetter_114 ⟨Nat.le_of_ble_eq_true rfl, Nat.le_of_ble_eq_true rfl⟩) hS (fun q _ h => h) (fun q h => h) (fun r179 u9 t9 H1 locs ht9 hvm9 hw hB hz1 hk1 hS => ?_)
      have hH := zMv ht9 hvm9 hB
      clear hB
      generalize u9 = f180 at hw hH
      generalize H1 = H at hH hS ⊢
      rcases hw with ⟨rfl, hw181, b182, ef180, hs183⟩ | ⟨rfl, hn184, ef180⟩
      · have zhs183 := hs183.1
        have yhs183 := hs183.2.1
        have q185 : f180 1 1 = nI L := by rw [ef180, zu_n (fun h9 => absurd h9.2 (by decide))]; exact q175
        have q186 : f180 (3000 + q) 2 = nI i := by rw [ef180, zu_n (fun h9 => by omega)]; exact q176
        have q187 : f180 (3000 + q) 3 = r166 := by rw [ef180, zu_n (fun h9 => by omega)]; exact q178
        have q188 : f180 1 2 = nI b182 := by rw [ef180]; exact zu_s
        refine lv_if_eq (tgt := 134) hx hb dX11_readLetter_117 (by decide) (fun c189 => absurd c189 (by decide)) (fun c189 => ?_)
        refine lv_aload_n hx hb dX11_readLetter_120 rfl (lv_at hl 0 rfl) ?_
        refine zGetR (D := D) (ci := 11) (C := RX11) (T := TX11) (N := 16) hx hb hts hiX11 hown hH (zk_0 hF) rfl 0 (by decide) rfl hw1 (fun _ h9 => h9) dX11_readLetter_121 (zr_0_0 hF) ?_
        refine lv_iconst (v := nI 0) hx hb dX11_readLetter_124 (by decide) ?_
        refine lv_ldcw (v := nI 999999) hx hb hown hw2 dX11_readLetter_125 ?_
        refine va_calli (va_runV (As := [.int (nI 0), .int (nI 999999)]) (rest := [.ref (τ.1 (3000 + q))]) ⟨hx, hb, hml, hown, hts⟩ (t_number l hl0 D A sad τ f180 fr ol L b182 hF q185 q188 (by omega) (by omega) (nI 0) (nI 999999) (by decide)) (cwV 2 hts gX11_readLetter_X7_number rfl rfl rfl (by decide +kernel) ⟨Nat.le_of_ble_eq_true rfl, Nat.le_of_ble_eq_true rfl⟩) ⟨zQc_bl, zRecv hH (zk_1 hF) rfl, zQc_at hz hS hA hH⟩ rfl rfl hl.1 rfl (lv_room (Nat.le_of_ble_eq_true rfl)) dX11_readLetter_128 ⟨Nat.le_of_ble_eq_true rfl, Nat.le_of_ble_eq_true rfl⟩) hS (fun q _ h => h) (fun q h => h) (fun r190 u9 t9 H1 locs ht9 hvm9 hw hB hz1 hk1 hS => ?_)
        have hH := zMv ht9 hvm9 hB
        clear hB
        generalize u9 = f191 at hw hH
        generalize H1 = H at hH hS ⊢
        have hs4 := zStp.num (by omega) (by omega) hw
        obtain ⟨b192, hb193, q194, hf195⟩ := zTw.num q188 (by omega) hw
        have q196 : f191 1 1 = nI L := by rw [hf195 1 1 (by omega)]; exact q185
        have q197 : f191 (3000 + q) 2 = nI i := by rw [hf195 (3000 + q) 2 (by omega)]; exact q186
        have q198 : f191 (3000 + q) 3 = r166 := by rw [hf195 (3000 + q) 3 (by omega)]; exact q187
        refine lv_goto (tgt := 138) hx hb dX11_readLetter_131 (by decide) ?_
        refine zPutI (D := D) (ci := 2) (ty := .int) (C := RX2) (T := TX2) (N := 10) hx hb hts hiX2 tyX2 tyX2_ok nmX2 hown hH hS hL.1.1 rfl 4 (by decide) rfl hw5 (fun _ h9 => h9) rfl (by decide +kernel) rfl rfl dX11_readLetter_138 (fun H locs hH hS => ?_)
        obtain ⟨f199, ef199⟩ : ∃ f9 : zFi, f9 = zu f191 (3000 + q) 4 r190 := ⟨_, rfl⟩
        rw [← ef199] at hH
        have q200 : f199 1 1 = nI L := by rw [ef199, zu_n (fun h9 => by omega)]; exact q196
        have q201 : f199 (3000 + q) 2 = nI i := by rw [ef199, zu_n (fun h9 => absurd h9.2 (by decide))]; exact q197
        have q202 : f199 (3000 + q) 3 = r166 := by rw [ef199, zu_n (fun h9 => absurd h9.2 (by decide))]; exact q198
        have q203 : f199 1 2 = nI b192 := by rw [ef199, zu_n (fun h9 => by omega)]; exact q194
        have q204 : f199 (3000 + q) 4 = r190 := by rw [ef199]; exact zu_s
        refine W.widen (k := 0) (n := 0) (by decide) (by decide) ?_
        exact W.vret hx hb hr (fun t9 ht9 hW9 => ⟨⟨f199, rfl, ⟨zLrd.mk hn4 han hb6 hq5 (funext (fun k => hfr 2 k (by omega))) hex p6 hs1 hf163 q162 (by omega) hs2 hf171 q170 (by omega) ef174 (Or.inr ⟨b182, (zWrd_yes hw181 hs183 : zWrd (f174 2) L [109, 111, 110, 101, 121] b168 = some b182), ef180, hs4, hf195⟩) ef199, ⟨b192, by omega, q203⟩, ⟨i, by omega, q201⟩, fun a b h => by rw [ef199, zu_n (by omega), hf195 a b (by omega), ef180, zu_n (by omega), ef174, zu_n (by omega), hf171 a b (by omega), hf163 a b (by omega)]; exact hfr a b h⟩, zEnd1 hH ht9 hW9⟩, hS.F ht9⟩) hS.2.2 dX11_readLetter_141
      · have ef180 := ef180.symm
        subst ef180
        refine lv_if_eq (tgt := 134) hx hb dX11_readLetter_117 (by decide) (fun c205 => ?_) (fun c205 => absurd (by decide) c205)
        refine lv_aload_n hx hb dX11_readLetter_134 rfl (lv_at hl 1 rfl) ?_
        refine zGetI (D := D) (ci := 2) (C := RX2) (T := TX2) (N := 10) hx hb hts hiX2 hown hH hL.1.1 rfl 3 (by decide) rfl hw3 (fun _ h9 => h9) dX11_readLetter_135 q178 ?_
        refine zPutI (D := D) (ci := 2) (ty := .int) (C := RX2) (T := TX2) (N := 10) hx hb hts hiX2 tyX2 tyX2_ok nmX2 hown hH hS hL.1.1 rfl 4 (by decide) rfl hw5 (fun _ h9 => h9) rfl (by decide +kernel) rfl rfl dX11_readLetter_138 (fun H locs hH hS => ?_)
        obtain ⟨f206, ef206⟩ : ∃ f9 : zFi, f9 = zu f174 (3000 + q) 4 r166 := ⟨_, rfl⟩
        rw [← ef206] at hH
        have q207 : f206 1 1 = nI L := by rw [ef206, zu_n (fun h9 => by omega)]; exact q175
        have q208 : f206 (3000 + q) 2 = nI i := by rw [ef206, zu_n (fun h9 => absurd h9.2 (by decide))]; exact q176
        have q209 : f206 1 2 = nI b168 := by rw [ef206, zu_n (fun h9 => by omega)]; exact q177
        have q210 : f206 (3000 + q) 3 = r166 := by rw [ef206, zu_n (fun h9 => absurd h9.2 (by decide))]; exact q178
        have q211 : f206 (3000 + q) 4 = r166 := by rw [ef206]; exact zu_s
        refine W.widen (k := 0) (n := 0) (by decide) (by decide) ?_
        exact W.vret hx hb hr (fun t9 ht9 hW9 => ⟨⟨f206, rfl, ⟨zLrd.mk (g4 := f174) hn4 han hb6 hq5 (funext (fun k => hfr 2 k (by omega))) hex p6 hs1 hf163 q162 (by omega) hs2 hf171 q170 (by omega) ef174 (Or.inl ⟨(zWrd_no hn184 (by omega) : zWrd (f174 2) L [109, 111, 110, 101, 121] b168 = none), rfl, rfl⟩) ef206, ⟨b168, by omega, q209⟩, ⟨i, by omega, q208⟩, fun a b h => by rw [ef206, zu_n (by omega), ef174, zu_n (by omega), hf171 a b (by omega), hf163 a b (by omega)]; exact hfr a b h⟩, zEnd1 hH ht9 hW9⟩, hS.F ht9⟩) hS.2.2 dX11_readLetter_141
    · have zc157 := c157
      replace zc157 := zc_neq (rfl) ((by decide : (0 : Int32).toInt = 0)) zc157
      refine lv_aload_n hx hb dX11_readLetter_14 rfl (lv_at hl 0 rfl) ?_
      refine zGetR (D := D) (ci := 11) (C := RX11) (T := TX11) (N := 16) hx hb hts hiX11 hown hH (zk_0 hF) rfl 0 (by decide) rfl hw1 (fun _ h9 => h9) dX11_readLetter_15 (zr_0_0 hF) ?_
      refine va_calli (va_runV (As := []) (rest := []) ⟨hx, hb, hml, hown, hts⟩ (t_code l hl0 D A sad τ f fr ol L b6 hF q5 q6 (by omega) (by omega)) (cwV 0 hts gX11_readLetter_X7_code rfl rfl rfl (by decide +kernel) ⟨Nat.le_of_ble_eq_true rfl, Nat.le_of_ble_eq_true rfl⟩) ⟨zQc_bl, zRecv hH (zk_1 hF) rfl, zQc_at hz hS hA hH⟩ rfl rfl hl.1 rfl (lv_room (Nat.le_of_ble_eq_true rfl)) dX11_readLetter_18 ⟨Nat.le_of_ble_eq_true rfl, Nat.le_of_ble_eq_true rfl⟩) hS (fun q _ h => h) (fun q h => h) (fun r212 u9 t9 H1 locs ht9 hvm9 hw hB hz1 hk1 hS => ?_)
      have hH := zMv ht9 hvm9 hB
      clear hB
      generalize u9 = f213 at hw hH
      generalize H1 = H at hH hS ⊢
      have hl1 := zStp.num (by omega) (by omega) hw
      obtain ⟨b214, hb215, q216, hf217⟩ := zTw.num q6 (by omega) hw
      have q218 : f213 1 1 = nI L := by rw [hf217 1 1 (by omega)]; exact q5
      have q219 : f213 (3000 + q) 2 = nI i := by rw [hf217 (3000 + q) 2 (by omega)]; exact p6
      refine lv_istore (lv' := [(4, .int r212), (0, .ref (τ.1 0)), (1, .ref (τ.1 (3000 + q))), (2, .int y), (3, .int (nI i))]) hx hb dX11_readLetter_21 hl (by decide) rfl (fun ls hl => ?_)
      refine lv_aload_n hx hb dX11_readLetter_23 rfl (lv_at hl 1 rfl) ?_
      refine zGetR (D := D) (ci := 11) (C := RX11) (T := TX11) (N := 16) hx hb hts hiX11 hown hH (zk_0 hF) rfl 0 (by decide) rfl hw1 (fun _ h9 => h9) dX11_readLetter_24 (zr_0_0 hF) ?_
      refine zLdcW hx hb hown (hz.1.2.2.2.1 6 _ rfl).2 dX11_readLetter_27 ?_
      refine va_callv (va_runV (As := [.ref (sad 6)]) (rest := []) ⟨hx, hb, hml, hown, hts⟩ (t_needWord l hl0 D A sad τ f213 fr ol L b214 hF q218 q216 (by omega) (by omega) 6 ((443, "x", [120])) rfl) (cwV 1 hts gX11_readLetter_X7_needWord rfl rfl rfl (by decide +kernel) ⟨Nat.le_of_ble_eq_true rfl, Nat.le_of_ble_eq_true rfl⟩) ⟨zQc_bl, zRecv hH (zk_1 hF) rfl, zQc_at hz hS hA hH⟩ rfl rfl hl.1 rfl (lv_room (Nat.le_of_ble_eq_true rfl)) dX11_readLetter_30 ⟨Nat.le_of_ble_eq_true rfl, Nat.le_of_ble_eq_true rfl⟩) hS (fun q _ h => h) (fun q h => h) (fun u9 t9 H1 locs ht9 hvm9 hw hB hz1 hk1 hS => ?_)
      have hH := zMv ht9 hvm9 hB
      clear hB
      generalize u9 = f221 at hw hH
      generalize H1 = H at hH hS ⊢
      have hl2 := zStp.need (by omega) (by omega) hw
      obtain ⟨b222, hb223, q224, hf225⟩ := zTw.need q216 (by omega) hw
      have q226 : f221 1 1 = nI L := by rw [hf225 1 1 (by omega)]; exact q218
      have q227 : f221 (3000 + q) 2 = nI i := by rw [hf225 (3000 + q) 2 (by omega)]; exact q219
      refine lv_aload_n hx hb dX11_readLetter_33 rfl (lv_at hl 2 rfl) ?_
      refine lv_iload hx hb dX11_readLetter_34 (lv_at hl 0 rfl) ?_
      refine lv_aload_n hx hb dX11_readLetter_36 rfl (lv_at hl 1 rfl) ?_
      refine zGetR (D := D) (ci := 11) (C := RX11) (T := TX11) (N := 16) hx hb hts hiX11 hown hH (zk_0 hF) rfl 0 (by decide) rfl hw1 (fun _ h9 => h9) dX11_readLetter_37 (zr_0_0 hF) ?_
      refine lv_iconst (v := nI 1) hx hb dX11_readLetter_40 (by decide) ?_
      refine lv_bipush (v := nI 99) hx hb dX11_readLetter_41 (by decide) ?_
      refine va_calli (va_runV (As := [.int (nI 1), .int (nI 99)]) (rest := [.int r212, .ref (τ.1 (3000 + q))]) ⟨hx, hb, hml, hown, hts⟩ (t_number l hl0 D A sad τ f221 fr ol L b222 hF q226 q224 (by omega) (by omega) (nI 1) (nI 99) (by decide)) (cwV 2 hts gX11_readLetter_X7_number rfl rfl rfl (by decide +kernel) ⟨Nat.le_of_ble_eq_true rfl, Nat.le_of_ble_eq_true rfl⟩) ⟨zQc_bl, zRecv hH (zk_1 hF) rfl, zQc_at hz hS hA hH⟩ rfl rfl hl.1 rfl (lv_room (Nat.le_of_ble_eq_true rfl)) dX11_readLetter_43 ⟨Nat.le_of_ble_eq_true rfl, Nat.le_of_ble_eq_true rfl⟩) hS (fun q _ h => h) (fun q h => h) (fun r228 u9 t9 H1 locs ht9 hvm9 hw hB hz1 hk1 hS => ?_)
      have hH := zMv ht9 hvm9 hB
      clear hB
      generalize u9 = f229 at hw hH
      generalize H1 = H at hH hS ⊢
      have hl3 := zStp.num (by omega) (by omega) hw
      obtain ⟨b230, hb231, q232, hf233⟩ := zTw.num q224 (by omega) hw
      have q234 : f229 1 1 = nI L := by rw [hf233 1 1 (by omega)]; exact q226
      have q235 : f229 (3000 + q) 2 = nI i := by rw [hf233 (3000 + q) 2 (by omega)]; exact q227
      refine va_callv (va_runV (As := [.int r212, .int r228]) (rest := []) ⟨hx, hb, hml, hown, hts⟩ (c_addLine l hl0 D A sad τ f229 fr ol r212 r228 q hq5 hL i (by omega) q235) (cwV 2 hts gX11_readLetter_X2_addLine rfl rfl rfl (by decide +kernel) ⟨Nat.le_of_ble_eq_true rfl, Nat.le_of_ble_eq_true rfl⟩) ⟨zQc_bl, zRecv hH hL.1.1 rfl, zQc_at hz hS hA hH⟩ rfl rfl hl.1 rfl (lv_room (Nat.le_of_ble_eq_true rfl)) dX11_readLetter_46 ⟨Nat.le_of_ble_eq_true rfl, Nat.le_of_ble_eq_true rfl⟩) hS (fun q _ h => h) (fun q h => h) (fun u9 t9 H1 locs ht9 hvm9 hw hB hz1 hk1 hS => ?_)
      have hH := zMv ht9 hvm9 hB
      clear hB
      generalize u9 = f237 at hw hH
      generalize H1 = H at hH hS ⊢
      have e4 : f237 = zu (zu (zu f229 (4000 + q) i r212) (5000 + q) i r228) (3000 + q) 2 (nI (i + 1)) := by rcases hw with h9 | h9; exact h9.2; exact absurd h9.1 (by omega)
      have hfA : ∀ a9 b9, ¬ ((a9 = 3000 + q ∧ b9 = 2) ∨ a9 = 4000 + q ∨ a9 = 5000 + q) → f237 a9 b9 = f229 a9 b9 := fun a9 b9 h9 => by rw [e4, zu_n (by omega), zu_n (by omega), zu_n (by omega)]
      have q238 : f237 (3000 + q) 2 = nI (i + 1) := by rw [e4]; exact zu_s
      have q239 : f237 1 1 = nI L := by rw [hfA 1 1 (by omega)]; exact q234
      have q240 : f237 1 2 = nI b230 := by rw [hfA 1 2 (by omega)]; exact q232
      refine lv_iload_n hx hb dX11_readLetter_49 rfl (lv_at hl 4 rfl) ?_
      refine lv_iconst (v := nI 1) hx hb dX11_readLetter_50 (by decide) ?_
      refine lv_iadd hx hb dX11_readLetter_51 ?_
      refine lv_topi (fun v241 ev241 => ?_)
      obtain rfl : v241 = nI (i + 1) := ev241.trans (nI_add _ _)
      refine lv_bipush (v := nI 8) hx hb dX11_readLetter_52 (by decide) ?_
      refine lv_icmp_ge (tgt := 73) hx hb dX11_readLetter_54 (by decide) (fun c242 => ?_) (fun c242 => ?_)
      · have zc242 := c242
        replace zc242 := zc_le (nI_toInt (by omega)) (nI_toInt (by omega)) zc242
        refine lv_iconst (v := nI 0) hx hb dX11_readLetter_73 (by decide) ?_
        refine lv_istore_n (lv' := [(2, .int (nI 0)), (4, .int r212), (0, .ref (τ.1 0)), (1, .ref (τ.1 (3000 + q))), (3, .int (nI i))]) hx hb dX11_readLetter_74 rfl hl (by decide) rfl (fun ls hl => ?_)
        refine lv_iinc (v := nI (i + 1)) (lv' := [(3, .int (nI (i + 1))), (2, .int (nI 0)), (4, .int r212), (0, .ref (τ.1 0)), (1, .ref (τ.1 (3000 + q)))]) hx hb dX11_readLetter_75 hl (k := 4) rfl (by rw [show (Int32.ofInt 1 : Int32) = nI 1 from by decide, nI_add]) (by decide) rfl (fun ls hl => ?_)
        refine lv_goto (tgt := 4) hx hb dX11_readLetter_78 (by decide) ?_
        exact ih101 (8 - (i + 1)) (by omega) (i + 1, nI 0, f237) _ _ _ (show 8 - (i + 1) = 8 - (i + 1) ∧ ((i + 1) ≤ 8 ∧ (∃ b, b ≤ L ∧ f237 1 2 = nI b ∧ zLl (zLin (fi 2) L 8 a 0 (fun _ => 0) (fun _ => 0)) (fi 2) L (i + 1) (nI 0) b q f237) ∧ f237 (3000 + q) 2 = nI (i + 1) ∧ ∀ a b, ¬ ((a = 1 ∧ 2 ≤ b) ∨ (a = 3000 + q ∧ 2 ≤ b ∧ b ≤ 4) ∨ a = 4000 + q ∨ a = 5000 + q) → f237 a b = fi a b) ∧ zH D A τ f237 fr ol s _ ∧ va_S A s.heap _ _ ∧ lv_has _ 5 [(0, .ref (τ.1 0)), (1, .ref (τ.1 (3000 + q))), (2, .int (nI 0)), (3, .int (nI (i + 1)))] from ⟨rfl, ⟨by omega, ⟨b230, by omega, q240, hll.step (x := nI 44) hn4 hb6 (by omega) hq5 (by omega) (by have h9 := zStp.ln1 hn4 hb6 hl1 q216 (by omega) (funext (fun k => hf217 2 k (by omega))) hl2 q224 (by omega) (funext (fun k => by rw [hf225 2 k (by omega), hf217 2 k (by omega)])) hl3; rw [show f 2 = fi 2 from funext (fun k => hfr 2 k (by omega))] at h9; exact h9) (fun k => ⟨by rw [hf233 _ _ (by omega), hf225 _ _ (by omega), hf217 _ _ (by omega)], by rw [hf233 _ _ (by omega), hf225 _ _ (by omega), hf217 _ _ (by omega)]⟩) e4 q240 (by omega) (funext (fun k => by rw [hfA 2 k (by omega), hf233 2 k (by omega), hf225 2 k (by omega), hf217 2 k (by omega)]; exact hfr 2 k (by omega))) (by decide) (Or.inr ⟨rfl, rfl, fun h9 => absurd h9 (by omega)⟩) q240 (by omega)⟩, q238, fun a b h => by rw [hfA a b (by omega), hf233 a b (by omega), hf225 a b (by omega), hf217 a b (by omega)]; exact hfr a b h⟩, hH, hS, lv_sub hl [3, 4, 1, 0] rfl⟩)
      · have zc242 := c242
        replace zc242 := zc_nle (nI_toInt (by omega)) (nI_toInt (by omega)) zc242
        refine lv_aload_n hx hb dX11_readLetter_57 rfl (lv_at hl 1 rfl) ?_
        refine zGetR (D := D) (ci := 11) (C := RX11) (T := TX11) (N := 16) hx hb hts hiX11 hown hH (zk_0 hF) rfl 0 (by decide) rfl hw1 (fun _ h9 => h9) dX11_readLetter_58 (zr_0_0 hF) ?_
        refine lv_bipush (v := nI 44) hx hb dX11_readLetter_61 (by decide) ?_
        refine va_calli (va_runV (As := [.int (nI 44)]) (rest := []) ⟨hx, hb, hml, hown, hts⟩ (t_takesSign l hl0 D A sad τ f237 fr ol L b230 hF q239 q240 (by omega) (by omega) (nI 44)) (cwV 1 hts gX11_readLetter_X7_takesSign rfl rfl rfl (by decide +kernel) ⟨Nat.le_of_ble_eq_true rfl, Nat.le_of_ble_eq_true rfl⟩) ⟨zQc_bl, zRecv hH (zk_1 hF) rfl, zQc_at hz hS hA hH⟩ rfl rfl hl.1 rfl (lv_room (Nat.le_of_ble_eq_true rfl)) dX11_readLetter_63 ⟨Nat.le_of_ble_eq_true rfl, Nat.le_of_ble_eq_true rfl⟩) hS (fun q _ h => h) (fun q h => h) (fun r243 u9 t9 H1 locs ht9 hvm9 hw hB hz1 hk1 hS => ?_)
        have hH := zMv ht9 hvm9 hB
        clear hB
        generalize u9 = f244 at hw hH
        generalize H1 = H at hH hS ⊢
        have hsn := hw
        have hsg : r243 = 1 ∨ r243 = 0 := hw.elim (fun h => Or.inl h.1) (fun h => Or.inr h.1)
        obtain ⟨b245, hb246, q247, hf248⟩ := zTw.sign q240 (by omega) hw
        have q249 : f244 1 1 = nI L := by rw [hf248 1 1 (by omega)]; exact q239
        have q250 : f244 (3000 + q) 2 = nI (i + 1) := by rw [hf248 (3000 + q) 2 (by omega)]; exact q238
        refine lv_if_eq (tgt := 73) hx hb dX11_readLetter_66 (by decide) (fun c251 => ?_) (fun c251 => ?_)
        · have zc251 := c251
          replace zc251 := zc_eq (rfl) ((by decide : (0 : Int32).toInt = 0)) zc251
          refine lv_iconst (v := nI 0) hx hb dX11_readLetter_73 (by decide) ?_
          refine lv_istore_n (lv' := [(2, .int (nI 0)), (4, .int r212), (0, .ref (τ.1 0)), (1, .ref (τ.1 (3000 + q))), (3, .int (nI i))]) hx hb dX11_readLetter_74 rfl hl (by decide) rfl (fun ls hl => ?_)
          refine lv_iinc (v := nI (i + 1)) (lv' := [(3, .int (nI (i + 1))), (2, .int (nI 0)), (4, .int r212), (0, .ref (τ.1 0)), (1, .ref (τ.1 (3000 + q)))]) hx hb dX11_readLetter_75 hl (k := 4) rfl (by rw [show (Int32.ofInt 1 : Int32) = nI 1 from by decide, nI_add]) (by decide) rfl (fun ls hl => ?_)
          refine lv_goto (tgt := 4) hx hb dX11_readLetter_78 (by decide) ?_
          exact ih101 (8 - (i + 1)) (by omega) (i + 1, nI 0, f244) _ _ _ (show 8 - (i + 1) = 8 - (i + 1) ∧ ((i + 1) ≤ 8 ∧ (∃ b, b ≤ L ∧ f244 1 2 = nI b ∧ zLl (zLin (fi 2) L 8 a 0 (fun _ => 0) (fun _ => 0)) (fi 2) L (i + 1) (nI 0) b q f244) ∧ f244 (3000 + q) 2 = nI (i + 1) ∧ ∀ a b, ¬ ((a = 1 ∧ 2 ≤ b) ∨ (a = 3000 + q ∧ 2 ≤ b ∧ b ≤ 4) ∨ a = 4000 + q ∨ a = 5000 + q) → f244 a b = fi a b) ∧ zH D A τ f244 fr ol s _ ∧ va_S A s.heap _ _ ∧ lv_has _ 5 [(0, .ref (τ.1 0)), (1, .ref (τ.1 (3000 + q))), (2, .int (nI 0)), (3, .int (nI (i + 1)))] from ⟨rfl, ⟨by omega, ⟨b245, by omega, q247, hll.step (x := nI 44) hn4 hb6 (by omega) hq5 (by omega) (by have h9 := zStp.ln1 hn4 hb6 hl1 q216 (by omega) (funext (fun k => hf217 2 k (by omega))) hl2 q224 (by omega) (funext (fun k => by rw [hf225 2 k (by omega), hf217 2 k (by omega)])) hl3; rw [show f 2 = fi 2 from funext (fun k => hfr 2 k (by omega))] at h9; exact h9) (fun k => ⟨by rw [hf233 _ _ (by omega), hf225 _ _ (by omega), hf217 _ _ (by omega)], by rw [hf233 _ _ (by omega), hf225 _ _ (by omega), hf217 _ _ (by omega)]⟩) e4 q240 (by omega) (funext (fun k => by rw [hfA 2 k (by omega), hf233 2 k (by omega), hf225 2 k (by omega), hf217 2 k (by omega)]; exact hfr 2 k (by omega))) (by decide) (Or.inr (by rcases hsn with ⟨g1, _⟩ | ⟨_, g2, g3⟩; (exfalso; rw [g1] at zc251; exact absurd zc251 (by decide)); exact ⟨rfl, g2, fun _ => g3⟩)) q247 (by omega)⟩, q250, fun a b h => by rw [hf248 a b (by omega), hfA a b (by omega), hf233 a b (by omega), hf225 a b (by omega), hf217 a b (by omega)]; exact hfr a b h⟩, hH, hS, lv_sub hl [3, 4, 1, 0] rfl⟩)
        · have zc251 := c251
          replace zc251 := zc_neq (rfl) ((by decide : (0 : Int32).toInt = 0)) zc251
          refine lv_iconst (v := nI 1) hx hb dX11_readLetter_69 (by decide) ?_
          refine lv_goto (tgt := 74) hx hb dX11_readLetter_70 (by decide) ?_
          refine lv_istore_n (lv' := [(2, .int (nI 1)), (4, .int r212), (0, .ref (τ.1 0)), (1, .ref (τ.1 (3000 + q))), (3, .int (nI i))]) hx hb dX11_readLetter_74 rfl hl (by decide) rfl (fun ls hl => ?_)
          refine lv_iinc (v := nI (i + 1)) (lv' := [(3, .int (nI (i + 1))), (2, .int (nI 1)), (4, .int r212), (0, .ref (τ.1 0)), (1, .ref (τ.1 (3000 + q)))]) hx hb dX11_readLetter_75 hl (k := 4) rfl (by rw [show (Int32.ofInt 1 : Int32) = nI 1 from by decide, nI_add]) (by decide) rfl (fun ls hl => ?_)
          refine lv_goto (tgt := 4) hx hb dX11_readLetter_78 (by decide) ?_
          exact ih101 (8 - (i + 1)) (by omega) (i + 1, nI 1, f244) _ _ _ (show 8 - (i + 1) = 8 - (i + 1) ∧ ((i + 1) ≤ 8 ∧ (∃ b, b ≤ L ∧ f244 1 2 = nI b ∧ zLl (zLin (fi 2) L 8 a 0 (fun _ => 0) (fun _ => 0)) (fi 2) L (i + 1) (nI 1) b q f244) ∧ f244 (3000 + q) 2 = nI (i + 1) ∧ ∀ a b, ¬ ((a = 1 ∧ 2 ≤ b) ∨ (a = 3000 + q ∧ 2 ≤ b ∧ b ≤ 4) ∨ a = 4000 + q ∨ a = 5000 + q) → f244 a b = fi a b) ∧ zH D A τ f244 fr ol s _ ∧ va_S A s.heap _ _ ∧ lv_has _ 5 [(0, .ref (τ.1 0)), (1, .ref (τ.1 (3000 + q))), (2, .int (nI 1)), (3, .int (nI (i + 1)))] from ⟨rfl, ⟨by omega, ⟨b245, by omega, q247, hll.step (x := nI 44) hn4 hb6 (by omega) hq5 (by omega) (by have h9 := zStp.ln1 hn4 hb6 hl1 q216 (by omega) (funext (fun k => hf217 2 k (by omega))) hl2 q224 (by omega) (funext (fun k => by rw [hf225 2 k (by omega), hf217 2 k (by omega)])) hl3; rw [show f 2 = fi 2 from funext (fun k => hfr 2 k (by omega))] at h9; exact h9) (fun k => ⟨by rw [hf233 _ _ (by omega), hf225 _ _ (by omega), hf217 _ _ (by omega)], by rw [hf233 _ _ (by omega), hf225 _ _ (by omega), hf217 _ _ (by omega)]⟩) e4 q240 (by omega) (funext (fun k => by rw [hfA 2 k (by omega), hf233 2 k (by omega), hf225 2 k (by omega), hf217 2 k (by omega)]; exact hfr 2 k (by omega))) (by decide) (Or.inl (by rcases hsn with ⟨_, g1, g2, g3⟩ | ⟨g1, _⟩; exact ⟨rfl, by omega, g1, g2, g3⟩; exact absurd (by rw [g1]; decide) zc251)) q247 (by omega)⟩, q250, fun a b h => by rw [hf248 a b (by omega), hfA a b (by omega), hf233 a b (by omega), hf225 a b (by omega), hf217 a b (by omega)]; exact hfr a b h⟩, hH, hS, lv_sub hl [3, 4, 1, 0] rfl⟩)
set_option maxHeartbeats 4000000 in
set_option maxRecDepth 100000 in
/-- unlikeDigits -/
theorem c_unlikeN (l : Launch) (hl0 : l.stackTraces = false) (D : va_G) (A : Nat → Prop) (sad : Nat → Nat) (τ : zTy) (fi : zFi) (fr : zFr) (ol : Int64) (a b : Nat) (ha : a < 10000) (hb9 : b < 10000) : Met l yX11_unlikeDigits wsX11_unlikeDigits ({ frames := 0, cells := 0, slots := 0, locals := 0 }) (va_Pc [.int (nI a), .int (nI b)] (zQc D A sad τ fi fr ol)) (va_Qi (fun (r : Int32) (u : Unit) => r = nI (zUd a b 4)) (fun (u : Unit) (t : State) => zH D A τ fi fr ol t t.heap) A) 0 0 A := by
  refine Met.ofW (cc := cX11_unlikeDigits) (maxL := 4) (ret := (some .int)) (by decide) rfl ?_
  intro p9 e9 s m args below meth c9 s₁ B hml hv
  obtain ⟨rfl, hz, hH, hA⟩ := hv
  have hx := B.exec
  have hb := B.bytes
  have hr := B.returns
  have hts := atoms_spec (ws := wsX11_unlikeDigits) B.pre
  have hown : s.vm.findClass RX11 = some m.cls := findClass_of_methodNamed B.named
  have hlocks := B.notSynchronized
  have hS : va_S A s.heap s.heap [] := va_S.rf
  have hl := lv_entry ([.int (nI a), .int (nI b)]) (n := 4) (Nat.le_of_ble_eq_true rfl)
  rw [lg_entry_eq]
  generalize (lg_sl ([.int (nI a), .int (nI b)]) ++ List.replicate (4 - (lg_sl ([.int (nI a), .int (nI b)])).length) Slot.unset).toArray = ls at hl ⊢
  have hl : lv_has ls 4 [(0, .int (nI a)), (1, .int (nI b))] := hl
  refine lv_iconst (v := nI 0) hx hb dX11_unlikeDigits_0 (by decide) ?_
  refine lv_istore_n (lv' := [(2, .int (nI 0)), (0, .int (nI a)), (1, .int (nI b))]) hx hb dX11_unlikeDigits_1 rfl hl (by decide) rfl (fun ls hl => ?_)
  refine lv_iconst (v := nI 1) hx hb dX11_unlikeDigits_2 (by decide) ?_
  refine lv_istore_n (lv' := [(3, .int (nI 1)), (2, .int (nI 0)), (0, .int (nI a)), (1, .int (nI b))]) hx hb dX11_unlikeDigits_3 rfl hl (by decide) rfl (fun ls hl => ?_)
  refine lv_iload_n hx hb dX11_unlikeDigits_4 rfl (lv_at hl 0 rfl) ?_
  refine lv_sipush (v := nI 9999) hx hb dX11_unlikeDigits_5 (by decide) ?_
  refine lv_icmp_gt (tgt := 37) hx hb dX11_unlikeDigits_8 (by decide) (fun c101 => absurd c101 (by decide)) (fun c101 => ?_)
  refine lv_iload_n hx hb dX11_unlikeDigits_11 rfl (lv_at hl 2 rfl) ?_
  refine lv_iload_n hx hb dX11_unlikeDigits_12 rfl (lv_at hl 0 rfl) ?_
  refine lv_idiv hx hb dX11_unlikeDigits_13 (by decide) ?_
  refine lv_topi (fun v102 ev102 => ?_)
  obtain rfl : v102 = nI (a / 1) := ev102.trans (zI_div (by omega) (by decide) (by decide))
  refine lv_bipush (v := nI 10) hx hb dX11_unlikeDigits_14 (by decide) ?_
  refine lv_irem hx hb dX11_unlikeDigits_16 (by decide) ?_
  refine lv_topi (fun v103 ev103 => ?_)
  obtain rfl : v103 = nI ((a / 1) % 10) := ev103.trans (zI_rem (b := 10) (by omega) (by decide) (by decide))
  refine lv_iload_n hx hb dX11_unlikeDigits_17 rfl (lv_at hl 3 rfl) ?_
  refine lv_iload_n hx hb dX11_unlikeDigits_18 rfl (lv_at hl 0 rfl) ?_
  refine lv_idiv hx hb dX11_unlikeDigits_19 (by decide) ?_
  refine lv_topi (fun v104 ev104 => ?_)
  obtain rfl : v104 = nI (b / 1) := ev104.trans (zI_div (by omega) (by decide) (by decide))
  refine lv_bipush (v := nI 10) hx hb dX11_unlikeDigits_20 (by decide) ?_
  refine lv_irem hx hb dX11_unlikeDigits_22 (by decide) ?_
  refine lv_topi (fun v105 ev105 => ?_)
  obtain rfl : v105 = nI ((b / 1) % 10) := ev105.trans (zI_rem (b := 10) (by omega) (by decide) (by decide))
  refine lv_icmp_eq (tgt := 29) hx hb dX11_unlikeDigits_23 (by decide) (fun c106 => ?_) (fun c106 => ?_)
  · have zc106 := c106
    replace zc106 := zc_eq (nI_toInt (by omega)) (nI_toInt (by omega)) zc106
    refine lv_iload_n hx hb dX11_unlikeDigits_29 rfl (lv_at hl 0 rfl) ?_
    refine lv_bipush (v := nI 10) hx hb dX11_unlikeDigits_30 (by decide) ?_
    refine lv_imul hx hb dX11_unlikeDigits_32 ?_
    refine lv_topi (fun v107 ev107 => ?_)
    obtain rfl : v107 = nI 10 := ev107.trans (by decide)
    refine lv_istore_n (lv' := [(3, .int (nI 10)), (2, .int (nI 0)), (0, .int (nI a)), (1, .int (nI b))]) hx hb dX11_unlikeDigits_33 rfl hl (by decide) rfl (fun ls hl => ?_)
    refine lv_goto (tgt := 4) hx hb dX11_unlikeDigits_34 (by decide) ?_
    refine lv_iload_n hx hb dX11_unlikeDigits_4 rfl (lv_at hl 0 rfl) ?_
    refine lv_sipush (v := nI 9999) hx hb dX11_unlikeDigits_5 (by decide) ?_
    refine lv_icmp_gt (tgt := 37) hx hb dX11_unlikeDigits_8 (by decide) (fun c108 => absurd c108 (by decide)) (fun c108 => ?_)
    refine lv_iload_n hx hb dX11_unlikeDigits_11 rfl (lv_at hl 2 rfl) ?_
    refine lv_iload_n hx hb dX11_unlikeDigits_12 rfl (lv_at hl 0 rfl) ?_
    refine lv_idiv hx hb dX11_unlikeDigits_13 (by decide) ?_
    refine lv_topi (fun v109 ev109 => ?_)
    obtain rfl : v109 = nI (a / 10) := ev109.trans (zI_div (by omega) (by decide) (by decide))
    refine lv_bipush (v := nI 10) hx hb dX11_unlikeDigits_14 (by decide) ?_
    refine lv_irem hx hb dX11_unlikeDigits_16 (by decide) ?_
    refine lv_topi (fun v110 ev110 => ?_)
    obtain rfl : v110 = nI ((a / 10) % 10) := ev110.trans (zI_rem (b := 10) (by omega) (by decide) (by decide))
    refine lv_iload_n hx hb dX11_unlikeDigits_17 rfl (lv_at hl 3 rfl) ?_
    refine lv_iload_n hx hb dX11_unlikeDigits_18 rfl (lv_at hl 0 rfl) ?_
    refine lv_idiv hx hb dX11_unlikeDigits_19 (by decide) ?_
    refine lv_topi (fun v111 ev111 => ?_)
    obtain rfl : v111 = nI (b / 10) := ev111.trans (zI_div (by omega) (by decide) (by decide))
    refine lv_bipush (v := nI 10) hx hb dX11_unlikeDigits_20 (by decide) ?_
    refine lv_irem hx hb dX11_unlikeDigits_22 (by decide) ?_
    refine lv_topi (fun v112 ev112 => ?_)
    obtain rfl : v112 = nI ((b / 10) % 10) := ev112.trans (zI_rem (b := 10) (by omega) (by decide) (by decide))
    refine lv_icmp_eq (tgt := 29) hx hb dX11_unlikeDigits_23 (by decide) (fun c113 => ?_) (fun c113 => ?_)
    · have zc113 := c113
      replace zc113 := zc_eq (nI_toInt (by omega)) (nI_toInt (by omega)) zc113
      refine lv_iload_n hx hb dX11_unlikeDigits_29 rfl (lv_at hl 0 rfl) ?_
      refine lv_bipush (v := nI 10) hx hb dX11_unlikeDigits_30 (by decide) ?_
      refine lv_imul hx hb dX11_unlikeDigits_32 ?_
      refine lv_topi (fun v114 ev114 => ?_)
      obtain rfl : v114 = nI 100 := ev114.trans (by decide)
      refine lv_istore_n (lv' := [(3, .int (nI 100)), (2, .int (nI 0)), (0, .int (nI a)), (1, .int (nI b))]) hx hb dX11_unlikeDigits_33 rfl hl (by decide) rfl (fun ls hl => ?_)
      refine lv_goto (tgt := 4) hx hb dX11_unlikeDigits_34 (by decide) ?_
      refine lv_iload_n hx hb dX11_unlikeDigits_4 rfl (lv_at hl 0 rfl) ?_
      refine lv_sipush (v := nI 9999) hx hb dX11_unlikeDigits_5 (by decide) ?_
      refine lv_icmp_gt (tgt := 37) hx hb dX11_unlikeDigits_8 (by decide) (fun c115 => absurd c115 (by decide)) (fun c115 => ?_)
      refine lv_iload_n hx hb dX11_unlikeDigits_11 rfl (lv_at hl 2 rfl) ?_
      refine lv_iload_n hx hb dX11_unlikeDigits_12 rfl (lv_at hl 0 rfl) ?_
      refine lv_idiv hx hb dX11_unlikeDigits_13 (by decide) ?_
      refine lv_topi (fun v116 ev116 => ?_)
      obtain rfl : v116 = nI (a / 100) := ev116.trans (zI_div (by omega) (by decide) (by decide))
      refine lv_bipush (v := nI 10) hx hb dX11_unlikeDigits_14 (by decide) ?_
      refine lv_irem hx hb dX11_unlikeDigits_16 (by decide) ?_
      refine lv_topi (fun v117 ev117 => ?_)
      obtain rfl : v117 = nI ((a / 100) % 10) := ev117.trans (zI_rem (b := 10) (by omega) (by decide) (by decide))
      refine lv_iload_n hx hb dX11_unlikeDigits_17 rfl (lv_at hl 3 rfl) ?_
      refine lv_iload_n hx hb dX11_unlikeDigits_18 rfl (lv_at hl 0 rfl) ?_
      refine lv_idiv hx hb dX11_unlikeDigits_19 (by decide) ?_
      refine lv_topi (fun v118 ev118 => ?_)
      obtain rfl : v118 = nI (b / 100) := ev118.trans (zI_div (by omega) (by decide) (by decide))
      refine lv_bipush (v := nI 10) hx hb dX11_unlikeDigits_20 (by decide) ?_
      refine lv_irem hx hb dX11_unlikeDigits_22 (by decide) ?_
      refine lv_topi (fun v119 ev119 => ?_)
      obtain rfl : v119 = nI ((b / 100) % 10) := ev119.trans (zI_rem (b := 10) (by omega) (by decide) (by decide))
      refine lv_icmp_eq (tgt := 29) hx hb dX11_unlikeDigits_23 (by decide) (fun c120 => ?_) (fun c120 => ?_)
      · have zc120 := c120
        replace zc120 := zc_eq (nI_toInt (by omega)) (nI_toInt (by omega)) zc120
        refine lv_iload_n hx hb dX11_unlikeDigits_29 rfl (lv_at hl 0 rfl) ?_
        refine lv_bipush (v := nI 10) hx hb dX11_unlikeDigits_30 (by decide) ?_
        refine lv_imul hx hb dX11_unlikeDigits_32 ?_
        refine lv_topi (fun v121 ev121 => ?_)
        obtain rfl : v121 = nI 1000 := ev121.trans (by decide)
        refine lv_istore_n (lv' := [(3, .int (nI 1000)), (2, .int (nI 0)), (0, .int (nI a)), (1, .int (nI b))]) hx hb dX11_unlikeDigits_33 rfl hl (by decide) rfl (fun ls hl => ?_)
        refine lv_goto (tgt := 4) hx hb dX11_unlikeDigits_34 (by decide) ?_
        refine lv_iload_n hx hb dX11_unlikeDigits_4 rfl (lv_at hl 0 rfl) ?_
        refine lv_sipush (v := nI 9999) hx hb dX11_unlikeDigits_5 (by decide) ?_
        refine lv_icmp_gt (tgt := 37) hx hb dX11_unlikeDigits_8 (by decide) (fun c122 => absurd c122 (by decide)) (fun c122 => ?_)
        refine lv_iload_n hx hb dX11_unlikeDigits_11 rfl (lv_at hl 2 rfl) ?_
        refine lv_iload_n hx hb dX11_unlikeDigits_12 rfl (lv_at hl 0 rfl) ?_
        refine lv_idiv hx hb dX11_unlikeDigits_13 (by decide) ?_
        refine lv_topi (fun v123 ev123 => ?_)
        obtain rfl : v123 = nI (a / 1000) := ev123.trans (zI_div (by omega) (by decide) (by decide))
        refine lv_bipush (v := nI 10) hx hb dX11_unlikeDigits_14 (by decide) ?_
        refine lv_irem hx hb dX11_unlikeDigits_16 (by decide) ?_
        refine lv_topi (fun v124 ev124 => ?_)
        obtain rfl : v124 = nI ((a / 1000) % 10) := ev124.trans (zI_rem (b := 10) (by omega) (by decide) (by decide))
        refine lv_iload_n hx hb dX11_unlikeDigits_17 rfl (lv_at hl 3 rfl) ?_
        refine lv_iload_n hx hb dX11_unlikeDigits_18 rfl (lv_at hl 0 rfl) ?_
        refine lv_idiv hx hb dX11_unlikeDigits_19 (by decide) ?_
        refine lv_topi (fun v125 ev125 => ?_)
        obtain rfl : v125 = nI (b / 1000) := ev125.trans (zI_div (by omega) (by decide) (by decide))
        refine lv_bipush (v := nI 10) hx hb dX11_unlikeDigits_20 (by decide) ?_
        refine lv_irem hx hb dX11_unlikeDigits_22 (by decide) ?_
        refine lv_topi (fun v126 ev126 => ?_)
        obtain rfl : v126 = nI ((b / 1000) % 10) := ev126.trans (zI_rem (b := 10) (by omega) (by decide) (by decide))
        refine lv_icmp_eq (tgt := 29) hx hb dX11_unlikeDigits_23 (by decide) (fun c127 => ?_) (fun c127 => ?_)
        · have zc127 := c127
          replace zc127 := zc_eq (nI_toInt (by omega)) (nI_toInt (by omega)) zc127
          refine lv_iload_n hx hb dX11_unlikeDigits_29 rfl (lv_at hl 0 rfl) ?_
          refine lv_bipush (v := nI 10) hx hb dX11_unlikeDigits_30 (by decide) ?_
          refine lv_imul hx hb dX11_unlikeDigits_32 ?_
          refine lv_topi (fun v128 ev128 => ?_)
          obtain rfl : v128 = nI 10000 := ev128.trans (by decide)
          refine lv_istore_n (lv' := [(3, .int (nI 10000)), (2, .int (nI 0)), (0, .int (nI a)), (1, .int (nI b))]) hx hb dX11_unlikeDigits_33 rfl hl (by decide) rfl (fun ls hl => ?_)
          refine lv_goto (tgt := 4) hx hb dX11_unlikeDigits_34 (by decide) ?_
          refine lv_iload_n hx hb dX11_unlikeDigits_4 rfl (lv_at hl 0 rfl) ?_
          refine lv_sipush (v := nI 9999) hx hb dX11_unlikeDigits_5 (by decide) ?_
          refine lv_icmp_gt (tgt := 37) hx hb dX11_unlikeDigits_8 (by decide) (fun c129 => ?_) (fun c129 => absurd (by decide) c129)
          refine lv_iload_n hx hb dX11_unlikeDigits_37 rfl (lv_at hl 1 rfl) ?_
          refine W.widen (k := 0) (n := 0) (by decide) (by decide) ?_
          exact W.iret (v := nI 0) hx hb hr (fun t9 ht9 hW9 => ⟨⟨nI 0, (), rfl, by rw [zUd4, if_pos (by omega), if_pos (by omega), if_pos (by omega), if_pos (by omega)], zEnd1 hH ht9 hW9⟩, hS.F ht9⟩) hS.2.2 dX11_unlikeDigits_38
        · have zc127 := c127
          replace zc127 := zc_neq (nI_toInt (by omega)) (nI_toInt (by omega)) zc127
          refine lv_iinc (v := nI 1) (lv' := [(2, .int (nI 1)), (3, .int (nI 1000)), (0, .int (nI a)), (1, .int (nI b))]) hx hb dX11_unlikeDigits_26 hl (k := 1) rfl (by decide) (by decide) rfl (fun ls hl => ?_)
          refine lv_iload_n hx hb dX11_unlikeDigits_29 rfl (lv_at hl 1 rfl) ?_
          refine lv_bipush (v := nI 10) hx hb dX11_unlikeDigits_30 (by decide) ?_
          refine lv_imul hx hb dX11_unlikeDigits_32 ?_
          refine lv_topi (fun v130 ev130 => ?_)
          obtain rfl : v130 = nI 10000 := ev130.trans (by decide)
          refine lv_istore_n (lv' := [(3, .int (nI 10000)), (2, .int (nI 1)), (0, .int (nI a)), (1, .int (nI b))]) hx hb dX11_unlikeDigits_33 rfl hl (by decide) rfl (fun ls hl => ?_)
          refine lv_goto (tgt := 4) hx hb dX11_unlikeDigits_34 (by decide) ?_
          refine lv_iload_n hx hb dX11_unlikeDigits_4 rfl (lv_at hl 0 rfl) ?_
          refine lv_sipush (v := nI 9999) hx hb dX11_unlikeDigits_5 (by decide) ?_
          refine lv_icmp_gt (tgt := 37) hx hb dX11_unlikeDigits_8 (by decide) (fun c131 => ?_) (fun c131 => absurd (by decide) c131)
          refine lv_iload_n hx hb dX11_unlikeDigits_37 rfl (lv_at hl 1 rfl) ?_
          refine W.widen (k := 0) (n := 0) (by decide) (by decide) ?_
          exact W.iret (v := nI 1) hx hb hr (fun t9 ht9 hW9 => ⟨⟨nI 1, (), rfl, by rw [zUd4, if_pos (by omega), if_pos (by omega), if_pos (by omega), if_neg (by omega)], zEnd1 hH ht9 hW9⟩, hS.F ht9⟩) hS.2.2 dX11_unlikeDigits_38
      · have zc120 := c120
        replace zc120 := zc_neq (nI_toInt (by omega)) (nI_toInt (by omega)) zc120
        refine lv_iinc (v := nI 1) (lv' := [(2, .int (nI 1)), (3, .int (nI 100)), (0, .int (nI a)), (1, .int (nI b))]) hx hb dX11_unlikeDigits_26 hl (k := 1) rfl (by decide) (by decide) rfl (fun ls hl => ?_)
        refine lv_iload_n hx hb dX11_unlikeDigits_29 rfl (lv_at hl 1 rfl) ?_
        refine lv_bipush (v := nI 10) hx hb dX11_unlikeDigits_30 (by decide) ?_
        refine lv_imul hx hb dX11_unlikeDigits_32 ?_
        refine lv_topi (fun v132 ev132 => ?_)
        obtain rfl : v132 = nI 1000 := ev132.trans (by decide)
        refine lv_istore_n (lv' := [(3, .int (nI 1000)), (2, .int (nI 1)), (0, .int (nI a)), (1, .int (nI b))]) hx hb dX11_unlikeDigits_33 rfl hl (by decide) rfl (fun ls hl => ?_)
        refine lv_goto (tgt := 4) hx hb dX11_unlikeDigits_34 (by decide) ?_
        refine lv_iload_n hx hb dX11_unlikeDigits_4 rfl (lv_at hl 0 rfl) ?_
        refine lv_sipush (v := nI 9999) hx hb dX11_unlikeDigits_5 (by decide) ?_
        refine lv_icmp_gt (tgt := 37) hx hb dX11_unlikeDigits_8 (by decide) (fun c133 => absurd c133 (by decide)) (fun c133 => ?_)
        refine lv_iload_n hx hb dX11_unlikeDigits_11 rfl (lv_at hl 2 rfl) ?_
        refine lv_iload_n hx hb dX11_unlikeDigits_12 rfl (lv_at hl 0 rfl) ?_
        refine lv_idiv hx hb dX11_unlikeDigits_13 (by decide) ?_
        refine lv_topi (fun v134 ev134 => ?_)
        obtain rfl : v134 = nI (a / 1000) := ev134.trans (zI_div (by omega) (by decide) (by decide))
        refine lv_bipush (v := nI 10) hx hb dX11_unlikeDigits_14 (by decide) ?_
        refine lv_irem hx hb dX11_unlikeDigits_16 (by decide) ?_
        refine lv_topi (fun v135 ev135 => ?_)
        obtain rfl : v135 = nI ((a / 1000) % 10) := ev135.trans (zI_rem (b := 10) (by omega) (by decide) (by decide))
        refine lv_iload_n hx hb dX11_unlikeDigits_17 rfl (lv_at hl 3 rfl) ?_
        refine lv_iload_n hx hb dX11_unlikeDigits_18 rfl (lv_at hl 0 rfl) ?_
        refine lv_idiv hx hb dX11_unlikeDigits_19 (by decide) ?_
        refine lv_topi (fun v136 ev136 => ?_)
        obtain rfl : v136 = nI (b / 1000) := ev136.trans (zI_div (by omega) (by decide) (by decide))
        refine lv_bipush (v := nI 10) hx hb dX11_unlikeDigits_20 (by decide) ?_
        refine lv_irem hx hb dX11_unlikeDigits_22 (by decide) ?_
        refine lv_topi (fun v137 ev137 => ?_)
        obtain rfl : v137 = nI ((b / 1000) % 10) := ev137.trans (zI_rem (b := 10) (by omega) (by decide) (by decide))
        refine lv_icmp_eq (tgt := 29) hx hb dX11_unlikeDigits_23 (by decide) (fun c138 => ?_) (fun c138 => ?_)
        · have zc138 := c138
          replace zc138 := zc_eq (nI_toInt (by omega)) (nI_toInt (by omega)) zc138
          refine lv_iload_n hx hb dX11_unlikeDigits_29 rfl (lv_at hl 0 rfl) ?_
          refine lv_bipush (v := nI 10) hx hb dX11_unlikeDigits_30 (by decide) ?_
          refine lv_imul hx hb dX11_unlikeDigits_32 ?_
          refine lv_topi (fun v139 ev139 => ?_)
          obtain rfl : v139 = nI 10000 := ev139.trans (by decide)
          refine lv_istore_n (lv' := [(3, .int (nI 10000)), (2, .int (nI 1)), (0, .int (nI a)), (1, .int (nI b))]) hx hb dX11_unlikeDigits_33 rfl hl (by decide) rfl (fun ls hl => ?_)
          refine lv_goto (tgt := 4) hx hb dX11_unlikeDigits_34 (by decide) ?_
          refine lv_iload_n hx hb dX11_unlikeDigits_4 rfl (lv_at hl 0 rfl) ?_
          refine lv_sipush (v := nI 9999) hx hb dX11_unlikeDigits_5 (by decide) ?_
          refine lv_icmp_gt (tgt := 37) hx hb dX11_unlikeDigits_8 (by decide) (fun c140 => ?_) (fun c140 => absurd (by decide) c140)
          refine lv_iload_n hx hb dX11_unlikeDigits_37 rfl (lv_at hl 1 rfl) ?_
          refine W.widen (k := 0) (n := 0) (by decide) (by decide) ?_
          exact W.iret (v := nI 1) hx hb hr (fun t9 ht9 hW9 => ⟨⟨nI 1, (), rfl, by rw [zUd4, if_pos (by omega), if_pos (by omega), if_neg (by omega), if_pos (by omega)], zEnd1 hH ht9 hW9⟩, hS.F ht9⟩) hS.2.2 dX11_unlikeDigits_38
        · have zc138 := c138
          replace zc138 := zc_neq (nI_toInt (by omega)) (nI_toInt (by omega)) zc138
          refine lv_iinc (v := nI 2) (lv' := [(2, .int (nI 2)), (3, .int (nI 1000)), (0, .int (nI a)), (1, .int (nI b))]) hx hb dX11_unlikeDigits_26 hl (k := 1) rfl (by decide) (by decide) rfl (fun ls hl => ?_)
          refine lv_iload_n hx hb dX11_unlikeDigits_29 rfl (lv_at hl 1 rfl) ?_
          refine lv_bipush (v := nI 10) hx hb dX11_unlikeDigits_30 (by decide) ?_
          refine lv_imul hx hb dX11_unlikeDigits_32 ?_
          refine lv_topi (fun v141 ev141 => ?_)
          obtain rfl : v141 = nI 10000 := ev141.trans (by decide)
          refine lv_istore_n (lv' := [(3, .int (nI 10000)), (2, .int (nI 2)), (0, .int (nI a)), (1, .int (nI b))]) hx hb dX11_unlikeDigits_33 rfl hl (by decide) rfl (fun ls hl => ?_)
          refine lv_goto (tgt := 4) hx hb dX11_unlikeDigits_34 (by decide) ?_
          refine lv_iload_n hx hb dX11_unlikeDigits_4 rfl (lv_at hl 0 rfl) ?_
          refine lv_sipush (v := nI 9999) hx hb dX11_unlikeDigits_5 (by decide) ?_
          refine lv_icmp_gt (tgt := 37) hx hb dX11_unlikeDigits_8 (by decide) (fun c142 => ?_) (fun c142 => absurd (by decide) c142)
          refine lv_iload_n hx hb dX11_unlikeDigits_37 rfl (lv_at hl 1 rfl) ?_
          refine W.widen (k := 0) (n := 0) (by decide) (by decide) ?_
          exact W.iret (v := nI 2) hx hb hr (fun t9 ht9 hW9 => ⟨⟨nI 2, (), rfl, by rw [zUd4, if_pos (by omega), if_pos (by omega), if_neg (by omega), if_neg (by omega)], zEnd1 hH ht9 hW9⟩, hS.F ht9⟩) hS.2.2 dX11_unlikeDigits_38
    · have zc113 := c113
      replace zc113 := zc_neq (nI_toInt (by omega)) (nI_toInt (by omega)) zc113
      refine lv_iinc (v := nI 1) (lv' := [(2, .int (nI 1)), (3, .int (nI 10)), (0, .int (nI a)), (1, .int (nI b))]) hx hb dX11_unlikeDigits_26 hl (k := 1) rfl (by decide) (by decide) rfl (fun ls hl => ?_)
      refine lv_iload_n hx hb dX11_unlikeDigits_29 rfl (lv_at hl 1 rfl) ?_
      refine lv_bipush (v := nI 10) hx hb dX11_unlikeDigits_30 (by decide) ?_
      refine lv_imul hx hb dX11_unlikeDigits_32 ?_
      refine lv_topi (fun v143 ev143 => ?_)
      obtain rfl : v143 = nI 100 := ev143.trans (by decide)
      refine lv_istore_n (lv' := [(3, .int (nI 100)), (2, .int (nI 1)), (0, .int (nI a)), (1, .int (nI b))]) hx hb dX11_unlikeDigits_33 rfl hl (by decide) rfl (fun ls hl => ?_)
      refine lv_goto (tgt := 4) hx hb dX11_unlikeDigits_34 (by decide) ?_
      refine lv_iload_n hx hb dX11_unlikeDigits_4 rfl (lv_at hl 0 rfl) ?_
      refine lv_sipush (v := nI 9999) hx hb dX11_unlikeDigits_5 (by decide) ?_
      refine lv_icmp_gt (tgt := 37) hx hb dX11_unlikeDigits_8 (by decide) (fun c144 => absurd c144 (by decide)) (fun c144 => ?_)
      refine lv_iload_n hx hb dX11_unlikeDigits_11 rfl (lv_at hl 2 rfl) ?_
      refine lv_iload_n hx hb dX11_unlikeDigits_12 rfl (lv_at hl 0 rfl) ?_
      refine lv_idiv hx hb dX11_unlikeDigits_13 (by decide) ?_
      refine lv_topi (fun v145 ev145 => ?_)
      obtain rfl : v145 = nI (a / 100) := ev145.trans (zI_div (by omega) (by decide) (by decide))
      refine lv_bipush (v := nI 10) hx hb dX11_unlikeDigits_14 (by decide) ?_
      refine lv_irem hx hb dX11_unlikeDigits_16 (by decide) ?_
      refine lv_topi (fun v146 ev146 => ?_)
      obtain rfl : v146 = nI ((a / 100) % 10) := ev146.trans (zI_rem (b := 10) (by omega) (by decide) (by decide))
      refine lv_iload_n hx hb dX11_unlikeDigits_17 rfl (lv_at hl 3 rfl) ?_
      refine lv_iload_n hx hb dX11_unlikeDigits_18 rfl (lv_at hl 0 rfl) ?_
      refine lv_idiv hx hb dX11_unlikeDigits_19 (by decide) ?_
      refine lv_topi (fun v147 ev147 => ?_)
      obtain rfl : v147 = nI (b / 100) := ev147.trans (zI_div (by omega) (by decide) (by decide))
      refine lv_bipush (v := nI 10) hx hb dX11_unlikeDigits_20 (by decide) ?_
      refine lv_irem hx hb dX11_unlikeDigits_22 (by decide) ?_
      refine lv_topi (fun v148 ev148 => ?_)
      obtain rfl : v148 = nI ((b / 100) % 10) := ev148.trans (zI_rem (b := 10) (by omega) (by decide) (by decide))
      refine lv_icmp_eq (tgt := 29) hx hb dX11_unlikeDigits_23 (by decide) (fun c149 => ?_) (fun c149 => ?_)
      · have zc149 := c149
        replace zc149 := zc_eq (nI_toInt (by omega)) (nI_toInt (by omega)) zc149
        refine lv_iload_n hx hb dX11_unlikeDigits_29 rfl (lv_at hl 0 rfl) ?_
        refine lv_bipush (v := nI 10) hx hb dX11_unlikeDigits_30 (by decide) ?_
        refine lv_imul hx hb dX11_unlikeDigits_32 ?_
        refine lv_topi (fun v150 ev150 => ?_)
        obtain rfl : v150 = nI 1000 := ev150.trans (by decide)
        refine lv_istore_n (lv' := [(3, .int (nI 1000)), (2, .int (nI 1)), (0, .int (nI a)), (1, .int (nI b))]) hx hb dX11_unlikeDigits_33 rfl hl (by decide) rfl (fun ls hl => ?_)
        refine lv_goto (tgt := 4) hx hb dX11_unlikeDigits_34 (by decide) ?_
        refine lv_iload_n hx hb dX11_unlikeDigits_4 rfl (lv_at hl 0 rfl) ?_
        refine lv_sipush (v := nI 9999) hx hb dX11_unlikeDigits_5 (by decide) ?_
        refine lv_icmp_gt (tgt := 37) hx hb dX11_unlikeDigits_8 (by decide) (fun c151 => absurd c151 (by decide)) (fun c151 => ?_)
        refine lv_iload_n hx hb dX11_unlikeDigits_11 rfl (lv_at hl 2 rfl) ?_
        refine lv_iload_n hx hb dX11_unlikeDigits_12 rfl (lv_at hl 0 rfl) ?_
        refine lv_idiv hx hb dX11_unlikeDigits_13 (by decide) ?_
        refine lv_topi (fun v152 ev152 => ?_)
        obtain rfl : v152 = nI (a / 1000) := ev152.trans (zI_div (by omega) (by decide) (by decide))
        refine lv_bipush (v := nI 10) hx hb dX11_unlikeDigits_14 (by decide) ?_
        refine lv_irem hx hb dX11_unlikeDigits_16 (by decide) ?_
        refine lv_topi (fun v153 ev153 => ?_)
        obtain rfl : v153 = nI ((a / 1000) % 10) := ev153.trans (zI_rem (b := 10) (by omega) (by decide) (by decide))
        refine lv_iload_n hx hb dX11_unlikeDigits_17 rfl (lv_at hl 3 rfl) ?_
        refine lv_iload_n hx hb dX11_unlikeDigits_18 rfl (lv_at hl 0 rfl) ?_
        refine lv_idiv hx hb dX11_unlikeDigits_19 (by decide) ?_
        refine lv_topi (fun v154 ev154 => ?_)
        obtain rfl : v154 = nI (b / 1000) := ev154.trans (zI_div (by omega) (by decide) (by decide))
        refine lv_bipush (v := nI 10) hx hb dX11_unlikeDigits_20 (by decide) ?_
        refine lv_irem hx hb dX11_unlikeDigits_22 (by decide) ?_
        refine lv_topi (fun v155 ev155 => ?_)
        obtain rfl : v155 = nI ((b / 1000) % 10) := ev155.trans (zI_rem (b := 10) (by omega) (by decide) (by decide))
        refine lv_icmp_eq (tgt := 29) hx hb dX11_unlikeDigits_23 (by decide) (fun c156 => ?_) (fun c156 => ?_)
        · have zc156 := c156
          replace zc156 := zc_eq (nI_toInt (by omega)) (nI_toInt (by omega)) zc156
          refine lv_iload_n hx hb dX11_unlikeDigits_29 rfl (lv_at hl 0 rfl) ?_
          refine lv_bipush (v := nI 10) hx hb dX11_unlikeDigits_30 (by decide) ?_
          refine lv_imul hx hb dX11_unlikeDigits_32 ?_
          refine lv_topi (fun v157 ev157 => ?_)
          obtain rfl : v157 = nI 10000 := ev157.trans (by decide)
          refine lv_istore_n (lv' := [(3, .int (nI 10000)), (2, .int (nI 1)), (0, .int (nI a)), (1, .int (nI b))]) hx hb dX11_unlikeDigits_33 rfl hl (by decide) rfl (fun ls hl => ?_)
          refine lv_goto (tgt := 4) hx hb dX11_unlikeDigits_34 (by decide) ?_
          refine lv_iload_n hx hb dX11_unlikeDigits_4 rfl (lv_at hl 0 rfl) ?_
          refine lv_sipush (v := nI 9999) hx hb dX11_unlikeDigits_5 (by decide) ?_
          refine lv_icmp_gt (tgt := 37) hx hb dX11_unlikeDigits_8 (by decide) (fun c158 => ?_) (fun c158 => absurd (by decide) c158)
          refine lv_iload_n hx hb dX11_unlikeDigits_37 rfl (lv_at hl 1 rfl) ?_
          refine W.widen (k := 0) (n := 0) (by decide) (by decide) ?_
          exact W.iret (v := nI 1) hx hb hr (fun t9 ht9 hW9 => ⟨⟨nI 1, (), rfl, by rw [zUd4, if_pos (by omega), if_neg (by omega), if_pos (by omega), if_pos (by omega)], zEnd1 hH ht9 hW9⟩, hS.F ht9⟩) hS.2.2 dX11_unlikeDigits_38
        · have zc156 := c156
          replace zc156 := zc_neq (nI_toInt (by omega)) (nI_toInt (by omega)) zc156
          refine lv_iinc (v := nI 2) (lv' := [(2, .int (nI 2)), (3, .int (nI 1000)), (0, .int (nI a)), (1, .int (nI b))]) hx hb dX11_unlikeDigits_26 hl (k := 1) rfl (by decide) (by decide) rfl (fun ls hl => ?_)
          refine lv_iload_n hx hb dX11_unlikeDigits_29 rfl (lv_at hl 1 rfl) ?_
          refine lv_bipush (v := nI 10) hx hb dX11_unlikeDigits_30 (by decide) ?_
          refine lv_imul hx hb dX11_unlikeDigits_32 ?_
          refine lv_topi (fun v159 ev159 => ?_)
          obtain rfl : v159 = nI 10000 := ev159.trans (by decide)
          refine lv_istore_n (lv' := [(3, .int (nI 10000)), (2, .int (nI 2)), (0, .int (nI a)), (1, .int (nI b))]) hx hb dX11_unlikeDigits_33 rfl hl (by decide) rfl (fun ls hl => ?_)
          refine lv_goto (tgt := 4) hx hb dX11_unlikeDigits_34 (by decide) ?_
          refine lv_iload_n hx hb dX11_unlikeDigits_4 rfl (lv_at hl 0 rfl) ?_
          refine lv_sipush (v := nI 9999) hx hb dX11_unlikeDigits_5 (by decide) ?_
          refine lv_icmp_gt (tgt := 37) hx hb dX11_unlikeDigits_8 (by decide) (fun c160 => ?_) (fun c160 => absurd (by decide) c160)
          refine lv_iload_n hx hb dX11_unlikeDigits_37 rfl (lv_at hl 1 rfl) ?_
          refine W.widen (k := 0) (n := 0) (by decide) (by decide) ?_
          exact W.iret (v := nI 2) hx hb hr (fun t9 ht9 hW9 => ⟨⟨nI 2, (), rfl, by rw [zUd4, if_pos (by omega), if_neg (by omega), if_pos (by omega), if_neg (by omega)], zEnd1 hH ht9 hW9⟩, hS.F ht9⟩) hS.2.2 dX11_unlikeDigits_38
      · have zc149 := c149
        replace zc149 := zc_neq (nI_toInt (by omega)) (nI_toInt (by omega)) zc149
        refine lv_iinc (v := nI 2) (lv' := [(2, .int (nI 2)), (3, .int (nI 100)), (0, .int (nI a)), (1, .int (nI b))]) hx hb dX11_unlikeDigits_26 hl (k := 1) rfl (by decide) (by decide) rfl (fun ls hl => ?_)
        refine lv_iload_n hx hb dX11_unlikeDigits_29 rfl (lv_at hl 1 rfl) ?_
        refine lv_bipush (v := nI 10) hx hb dX11_unlikeDigits_30 (by decide) ?_
        refine lv_imul hx hb dX11_unlikeDigits_32 ?_
        refine lv_topi (fun v161 ev161 => ?_)
        obtain rfl : v161 = nI 1000 := ev161.trans (by decide)
        refine lv_istore_n (lv' := [(3, .int (nI 1000)), (2, .int (nI 2)), (0, .int (nI a)), (1, .int (nI b))]) hx hb dX11_unlikeDigits_33 rfl hl (by decide) rfl (fun ls hl => ?_)
        refine lv_goto (tgt := 4) hx hb dX11_unlikeDigits_34 (by decide) ?_
        refine lv_iload_n hx hb dX11_unlikeDigits_4 rfl (lv_at hl 0 rfl) ?_
        refine lv_sipush (v := nI 9999) hx hb dX11_unlikeDigits_5 (by decide) ?_
        refine lv_icmp_gt (tgt := 37) hx hb dX11_unlikeDigits_8 (by decide) (fun c162 => absurd c162 (by decide)) (fun c162 => ?_)
        refine lv_iload_n hx hb dX11_unlikeDigits_11 rfl (lv_at hl 2 rfl) ?_
        refine lv_iload_n hx hb dX11_unlikeDigits_12 rfl (lv_at hl 0 rfl) ?_
        refine lv_idiv hx hb dX11_unlikeDigits_13 (by decide) ?_
        refine lv_topi (fun v163 ev163 => ?_)
        obtain rfl : v163 = nI (a / 1000) := ev163.trans (zI_div (by omega) (by decide) (by decide))
        refine lv_bipush (v := nI 10) hx hb dX11_unlikeDigits_14 (by decide) ?_
        refine lv_irem hx hb dX11_unlikeDigits_16 (by decide) ?_
        refine lv_topi (fun v164 ev164 => ?_)
        obtain rfl : v164 = nI ((a / 1000) % 10) := ev164.trans (zI_rem (b := 10) (by omega) (by decide) (by decide))
        refine lv_iload_n hx hb dX11_unlikeDigits_17 rfl (lv_at hl 3 rfl) ?_
        refine lv_iload_n hx hb dX11_unlikeDigits_18 rfl (lv_at hl 0 rfl) ?_
        refine lv_idiv hx hb dX11_unlikeDigits_19 (by decide) ?_
        refine lv_topi (fun v165 ev165 => ?_)
        obtain rfl : v165 = nI (b / 1000) := ev165.trans (zI_div (by omega) (by decide) (by decide))
        refine lv_bipush (v := nI 10) hx hb dX11_unlikeDigits_20 (by decide) ?_
        refine lv_irem hx hb dX11_unlikeDigits_22 (by decide) ?_
        refine lv_topi (fun v166 ev166 => ?_)
        obtain rfl : v166 = nI ((b / 1000) % 10) := ev166.trans (zI_rem (b := 10) (by omega) (by decide) (by decide))
        refine lv_icmp_eq (tgt := 29) hx hb dX11_unlikeDigits_23 (by decide) (fun c167 => ?_) (fun c167 => ?_)
        · have zc167 := c167
          replace zc167 := zc_eq (nI_toInt (by omega)) (nI_toInt (by omega)) zc167
          refine lv_iload_n hx hb dX11_unlikeDigits_29 rfl (lv_at hl 0 rfl) ?_
          refine lv_bipush (v := nI 10) hx hb dX11_unlikeDigits_30 (by decide) ?_
          refine lv_imul hx hb dX11_unlikeDigits_32 ?_
          refine lv_topi (fun v168 ev168 => ?_)
          obtain rfl : v168 = nI 10000 := ev168.trans (by decide)
          refine lv_istore_n (lv' := [(3, .int (nI 10000)), (2, .int (nI 2)), (0, .int (nI a)), (1, .int (nI b))]) hx hb dX11_unlikeDigits_33 rfl hl (by decide) rfl (fun ls hl => ?_)
          refine lv_goto (tgt := 4) hx hb dX11_unlikeDigits_34 (by decide) ?_
          refine lv_iload_n hx hb dX11_unlikeDigits_4 rfl (lv_at hl 0 rfl) ?_
          refine lv_sipush (v := nI 9999) hx hb dX11_unlikeDigits_5 (by decide) ?_
          refine lv_icmp_gt (tgt := 37) hx hb dX11_unlikeDigits_8 (by decide) (fun c169 => ?_) (fun c169 => absurd (by decide) c169)
          refine lv_iload_n hx hb dX11_unlikeDigits_37 rfl (lv_at hl 1 rfl) ?_
          refine W.widen (k := 0) (n := 0) (by decide) (by decide) ?_
          exact W.iret (v := nI 2) hx hb hr (fun t9 ht9 hW9 => ⟨⟨nI 2, (), rfl, by rw [zUd4, if_pos (by omega), if_neg (by omega), if_neg (by omega), if_pos (by omega)], zEnd1 hH ht9 hW9⟩, hS.F ht9⟩) hS.2.2 dX11_unlikeDigits_38
        · have zc167 := c167
          replace zc167 := zc_neq (nI_toInt (by omega)) (nI_toInt (by omega)) zc167
          refine lv_iinc (v := nI 3) (lv' := [(2, .int (nI 3)), (3, .int (nI 1000)), (0, .int (nI a)), (1, .int (nI b))]) hx hb dX11_unlikeDigits_26 hl (k := 1) rfl (by decide) (by decide) rfl (fun ls hl => ?_)
          refine lv_iload_n hx hb dX11_unlikeDigits_29 rfl (lv_at hl 1 rfl) ?_
          refine lv_bipush (v := nI 10) hx hb dX11_unlikeDigits_30 (by decide) ?_
          refine lv_imul hx hb dX11_unlikeDigits_32 ?_
          refine lv_topi (fun v170 ev170 => ?_)
          obtain rfl : v170 = nI 10000 := ev170.trans (by decide)
          refine lv_istore_n (lv' := [(3, .int (nI 10000)), (2, .int (nI 3)), (0, .int (nI a)), (1, .int (nI b))]) hx hb dX11_unlikeDigits_33 rfl hl (by decide) rfl (fun ls hl => ?_)
          refine lv_goto (tgt := 4) hx hb dX11_unlikeDigits_34 (by decide) ?_
          refine lv_iload_n hx hb dX11_unlikeDigits_4 rfl (lv_at hl 0 rfl) ?_
          refine lv_sipush (v := nI 9999) hx hb dX11_unlikeDigits_5 (by decide) ?_
          refine lv_icmp_gt (tgt := 37) hx hb dX11_unlikeDigits_8 (by decide) (fun c171 => ?_) (fun c171 => absurd (by decide) c171)
          refine lv_iload_n hx hb dX11_unlikeDigits_37 rfl (lv_at hl 1 rfl) ?_
          refine W.widen (k := 0) (n := 0) (by decide) (by decide) ?_
          exact W.iret (v := nI 3) hx hb hr (fun t9 ht9 hW9 => ⟨⟨nI 3, (), rfl, by rw [zUd4, if_pos (by omega), if_neg (by omega), if_neg (by omega), if_neg (by omega)], zEnd1 hH ht9 hW9⟩, hS.F ht9⟩) hS.2.2 dX11_unlikeDigits_38
  · have zc106 := c106
    replace zc106 := zc_neq (nI_toInt (by omega)) (nI_toInt (by omega)) zc106
    refine lv_iinc (v := nI 1) (lv' := [(2, .int (nI 1)), (3, .int (nI 1)), (0, .int (nI a)), (1, .int (nI b))]) hx hb dX11_unlikeDigits_26 hl (k := 1) rfl (by decide) (by decide) rfl (fun ls hl => ?_)
    refine lv_iload_n hx hb dX11_unlikeDigits_29 rfl (lv_at hl 1 rfl) ?_
    refine lv_bipush (v := nI 10) hx hb dX11_unlikeDigits_30 (by decide) ?_
    refine lv_imul hx hb dX11_unlikeDigits_32 ?_
    refine lv_topi (fun v172 ev172 => ?_)
    obtain rfl : v172 = nI 10 := ev172.trans (by decide)
    refine lv_istore_n (lv' := [(3, .int (nI 10)), (2, .int (nI 1)), (0, .int (nI a)), (1, .int (nI b))]) hx hb dX11_unlikeDigits_33 rfl hl (by decide) rfl (fun ls hl => ?_)
    refine lv_goto (tgt := 4) hx hb dX11_unlikeDigits_34 (by decide) ?_
    refine lv_iload_n hx hb dX11_unlikeDigits_4 rfl (lv_at hl 0 rfl) ?_
    refine lv_sipush (v := nI 9999) hx hb dX11_unlikeDigits_5 (by decide) ?_
    refine lv_icmp_gt (tgt := 37) hx hb dX11_unlikeDigits_8 (by decide) (fun c173 => absurd c173 (by decide)) (fun c173 => ?_)
    refine lv_iload_n hx hb dX11_unlikeDigits_11 rfl (lv_at hl 2 rfl) ?_
    refine lv_iload_n hx hb dX11_unlikeDigits_12 rfl (lv_at hl 0 rfl) ?_
    refine lv_idiv hx hb dX11_unlikeDigits_13 (by decide) ?_
    refine lv_topi (fun v174 ev174 => ?_)
    obtain rfl : v174 = nI (a / 10) := ev174.trans (zI_div (by omega) (by decide) (by decide))
    refine lv_bipush (v := nI 10) hx hb dX11_unlikeDigits_14 (by decide) ?_
    refine lv_irem hx hb dX11_unlikeDigits_16 (by decide) ?_
    refine lv_topi (fun v175 ev175 => ?_)
    obtain rfl : v175 = nI ((a / 10) % 10) := ev175.trans (zI_rem (b := 10) (by omega) (by decide) (by decide))
    refine lv_iload_n hx hb dX11_unlikeDigits_17 rfl (lv_at hl 3 rfl) ?_
    refine lv_iload_n hx hb dX11_unlikeDigits_18 rfl (lv_at hl 0 rfl) ?_
    refine lv_idiv hx hb dX11_unlikeDigits_19 (by decide) ?_
    refine lv_topi (fun v176 ev176 => ?_)
    obtain rfl : v176 = nI (b / 10) := ev176.trans (zI_div (by omega) (by decide) (by decide))
    refine lv_bipush (v := nI 10) hx hb dX11_unlikeDigits_20 (by decide) ?_
    refine lv_irem hx hb dX11_unlikeDigits_22 (by decide) ?_
    refine lv_topi (fun v177 ev177 => ?_)
    obtain rfl : v177 = nI ((b / 10) % 10) := ev177.trans (zI_rem (b := 10) (by omega) (by decide) (by decide))
    refine lv_icmp_eq (tgt := 29) hx hb dX11_unlikeDigits_23 (by decide) (fun c178 => ?_) (fun c178 => ?_)
    · have zc178 := c178
      replace zc178 := zc_eq (nI_toInt (by omega)) (nI_toInt (by omega)) zc178
      refine lv_iload_n hx hb dX11_unlikeDigits_29 rfl (lv_at hl 0 rfl) ?_
      refine lv_bipush (v := nI 10) hx hb dX11_unlikeDigits_30 (by decide) ?_
      refine lv_imul hx hb dX11_unlikeDigits_32 ?_
      refine lv_topi (fun v179 ev179 => ?_)
      obtain rfl : v179 = nI 100 := ev179.trans (by decide)
      refine lv_istore_n (lv' := [(3, .int (nI 100)), (2, .int (nI 1)), (0, .int (nI a)), (1, .int (nI b))]) hx hb dX11_unlikeDigits_33 rfl hl (by decide) rfl (fun ls hl => ?_)
      refine lv_goto (tgt := 4) hx hb dX11_unlikeDigits_34 (by decide) ?_
      refine lv_iload_n hx hb dX11_unlikeDigits_4 rfl (lv_at hl 0 rfl) ?_
      refine lv_sipush (v := nI 9999) hx hb dX11_unlikeDigits_5 (by decide) ?_
      refine lv_icmp_gt (tgt := 37) hx hb dX11_unlikeDigits_8 (by decide) (fun c180 => absurd c180 (by decide)) (fun c180 => ?_)
      refine lv_iload_n hx hb dX11_unlikeDigits_11 rfl (lv_at hl 2 rfl) ?_
      refine lv_iload_n hx hb dX11_unlikeDigits_12 rfl (lv_at hl 0 rfl) ?_
      refine lv_idiv hx hb dX11_unlikeDigits_13 (by decide) ?_
      refine lv_topi (fun v181 ev181 => ?_)
      obtain rfl : v181 = nI (a / 100) := ev181.trans (zI_div (by omega) (by decide) (by decide))
      refine lv_bipush (v := nI 10) hx hb dX11_unlikeDigits_14 (by decide) ?_
      refine lv_irem hx hb dX11_unlikeDigits_16 (by decide) ?_
      refine lv_topi (fun v182 ev182 => ?_)
      obtain rfl : v182 = nI ((a / 100) % 10) := ev182.trans (zI_rem (b := 10) (by omega) (by decide) (by decide))
      refine lv_iload_n hx hb dX11_unlikeDigits_17 rfl (lv_at hl 3 rfl) ?_
      refine lv_iload_n hx hb dX11_unlikeDigits_18 rfl (lv_at hl 0 rfl) ?_
      refine lv_idiv hx hb dX11_unlikeDigits_19 (by decide) ?_
      refine lv_topi (fun v183 ev183 => ?_)
      obtain rfl : v183 = nI (b / 100) := ev183.trans (zI_div (by omega) (by decide) (by decide))
      refine lv_bipush (v := nI 10) hx hb dX11_unlikeDigits_20 (by decide) ?_
      refine lv_irem hx hb dX11_unlikeDigits_22 (by decide) ?_
      refine lv_topi (fun v184 ev184 => ?_)
      obtain rfl : v184 = nI ((b / 100) % 10) := ev184.trans (zI_rem (b := 10) (by omega) (by decide) (by decide))
      refine lv_icmp_eq (tgt := 29) hx hb dX11_unlikeDigits_23 (by decide) (fun c185 => ?_) (fun c185 => ?_)
      · have zc185 := c185
        replace zc185 := zc_eq (nI_toInt (by omega)) (nI_toInt (by omega)) zc185
        refine lv_iload_n hx hb dX11_unlikeDigits_29 rfl (lv_at hl 0 rfl) ?_
        refine lv_bipush (v := nI 10) hx hb dX11_unlikeDigits_30 (by decide) ?_
        refine lv_imul hx hb dX11_unlikeDigits_32 ?_
        refine lv_topi (fun v186 ev186 => ?_)
        obtain rfl : v186 = nI 1000 := ev186.trans (by decide)
        refine lv_istore_n (lv' := [(3, .int (nI 1000)), (2, .int (nI 1)), (0, .int (nI a)), (1, .int (nI b))]) hx hb dX11_unlikeDigits_33 rfl hl (by decide) rfl (fun ls hl => ?_)
        refine lv_goto (tgt := 4) hx hb dX11_unlikeDigits_34 (by decide) ?_
        refine lv_iload_n hx hb dX11_unlikeDigits_4 rfl (lv_at hl 0 rfl) ?_
        refine lv_sipush (v := nI 9999) hx hb dX11_unlikeDigits_5 (by decide) ?_
        refine lv_icmp_gt (tgt := 37) hx hb dX11_unlikeDigits_8 (by decide) (fun c187 => absurd c187 (by decide)) (fun c187 => ?_)
        refine lv_iload_n hx hb dX11_unlikeDigits_11 rfl (lv_at hl 2 rfl) ?_
        refine lv_iload_n hx hb dX11_unlikeDigits_12 rfl (lv_at hl 0 rfl) ?_
        refine lv_idiv hx hb dX11_unlikeDigits_13 (by decide) ?_
        refine lv_topi (fun v188 ev188 => ?_)
        obtain rfl : v188 = nI (a / 1000) := ev188.trans (zI_div (by omega) (by decide) (by decide))
        refine lv_bipush (v := nI 10) hx hb dX11_unlikeDigits_14 (by decide) ?_
        refine lv_irem hx hb dX11_unlikeDigits_16 (by decide) ?_
        refine lv_topi (fun v189 ev189 => ?_)
        obtain rfl : v189 = nI ((a / 1000) % 10) := ev189.trans (zI_rem (b := 10) (by omega) (by decide) (by decide))
        refine lv_iload_n hx hb dX11_unlikeDigits_17 rfl (lv_at hl 3 rfl) ?_
        refine lv_iload_n hx hb dX11_unlikeDigits_18 rfl (lv_at hl 0 rfl) ?_
        refine lv_idiv hx hb dX11_unlikeDigits_19 (by decide) ?_
        refine lv_topi (fun v190 ev190 => ?_)
        obtain rfl : v190 = nI (b / 1000) := ev190.trans (zI_div (by omega) (by decide) (by decide))
        refine lv_bipush (v := nI 10) hx hb dX11_unlikeDigits_20 (by decide) ?_
        refine lv_irem hx hb dX11_unlikeDigits_22 (by decide) ?_
        refine lv_topi (fun v191 ev191 => ?_)
        obtain rfl : v191 = nI ((b / 1000) % 10) := ev191.trans (zI_rem (b := 10) (by omega) (by decide) (by decide))
        refine lv_icmp_eq (tgt := 29) hx hb dX11_unlikeDigits_23 (by decide) (fun c192 => ?_) (fun c192 => ?_)
        · have zc192 := c192
          replace zc192 := zc_eq (nI_toInt (by omega)) (nI_toInt (by omega)) zc192
          refine lv_iload_n hx hb dX11_unlikeDigits_29 rfl (lv_at hl 0 rfl) ?_
          refine lv_bipush (v := nI 10) hx hb dX11_unlikeDigits_30 (by decide) ?_
          refine lv_imul hx hb dX11_unlikeDigits_32 ?_
          refine lv_topi (fun v193 ev193 => ?_)
          obtain rfl : v193 = nI 10000 := ev193.trans (by decide)
          refine lv_istore_n (lv' := [(3, .int (nI 10000)), (2, .int (nI 1)), (0, .int (nI a)), (1, .int (nI b))]) hx hb dX11_unlikeDigits_33 rfl hl (by decide) rfl (fun ls hl => ?_)
          refine lv_goto (tgt := 4) hx hb dX11_unlikeDigits_34 (by decide) ?_
          refine lv_iload_n hx hb dX11_unlikeDigits_4 rfl (lv_at hl 0 rfl) ?_
          refine lv_sipush (v := nI 9999) hx hb dX11_unlikeDigits_5 (by decide) ?_
          refine lv_icmp_gt (tgt := 37) hx hb dX11_unlikeDigits_8 (by decide) (fun c194 => ?_) (fun c194 => absurd (by decide) c194)
          refine lv_iload_n hx hb dX11_unlikeDigits_37 rfl (lv_at hl 1 rfl) ?_
          refine W.widen (k := 0) (n := 0) (by decide) (by decide) ?_
          exact W.iret (v := nI 1) hx hb hr (fun t9 ht9 hW9 => ⟨⟨nI 1, (), rfl, by rw [zUd4, if_neg (by omega), if_pos (by omega), if_pos (by omega), if_pos (by omega)], zEnd1 hH ht9 hW9⟩, hS.F ht9⟩) hS.2.2 dX11_unlikeDigits_38
        · have zc192 := c192
          replace zc192 := zc_neq (nI_toInt (by omega)) (nI_toInt (by omega)) zc192
          refine lv_iinc (v := nI 2) (lv' := [(2, .int (nI 2)), (3, .int (nI 1000)), (0, .int (nI a)), (1, .int (nI b))]) hx hb dX11_unlikeDigits_26 hl (k := 1) rfl (by decide) (by decide) rfl (fun ls hl => ?_)
          refine lv_iload_n hx hb dX11_unlikeDigits_29 rfl (lv_at hl 1 rfl) ?_
          refine lv_bipush (v := nI 10) hx hb dX11_unlikeDigits_30 (by decide) ?_
          refine lv_imul hx hb dX11_unlikeDigits_32 ?_
          refine lv_topi (fun v195 ev195 => ?_)
          obtain rfl : v195 = nI 10000 := ev195.trans (by decide)
          refine lv_istore_n (lv' := [(3, .int (nI 10000)), (2, .int (nI 2)), (0, .int (nI a)), (1, .int (nI b))]) hx hb dX11_unlikeDigits_33 rfl hl (by decide) rfl (fun ls hl => ?_)
          refine lv_goto (tgt := 4) hx hb dX11_unlikeDigits_34 (by decide) ?_
          refine lv_iload_n hx hb dX11_unlikeDigits_4 rfl (lv_at hl 0 rfl) ?_
          refine lv_sipush (v := nI 9999) hx hb dX11_unlikeDigits_5 (by decide) ?_
          refine lv_icmp_gt (tgt := 37) hx hb dX11_unlikeDigits_8 (by decide) (fun c196 => ?_) (fun c196 => absurd (by decide) c196)
          refine lv_iload_n hx hb dX11_unlikeDigits_37 rfl (lv_at hl 1 rfl) ?_
          refine W.widen (k := 0) (n := 0) (by decide) (by decide) ?_
          exact W.iret (v := nI 2) hx hb hr (fun t9 ht9 hW9 => ⟨⟨nI 2, (), rfl, by rw [zUd4, if_neg (by omega), if_pos (by omega), if_pos (by omega), if_neg (by omega)], zEnd1 hH ht9 hW9⟩, hS.F ht9⟩) hS.2.2 dX11_unlikeDigits_38
      · have zc185 := c185
        replace zc185 := zc_neq (nI_toInt (by omega)) (nI_toInt (by omega)) zc185
        refine lv_iinc (v := nI 2) (lv' := [(2, .int (nI 2)), (3, .int (nI 100)), (0, .int (nI a)), (1, .int (nI b))]) hx hb dX11_unlikeDigits_26 hl (k := 1) rfl (by decide) (by decide) rfl (fun ls hl => ?_)
        refine lv_iload_n hx hb dX11_unlikeDigits_29 rfl (lv_at hl 1 rfl) ?_
        refine lv_bipush (v := nI 10) hx hb dX11_unlikeDigits_30 (by decide) ?_
        refine lv_imul hx hb dX11_unlikeDigits_32 ?_
        refine lv_topi (fun v197 ev197 => ?_)
        obtain rfl : v197 = nI 1000 := ev197.trans (by decide)
        refine lv_istore_n (lv' := [(3, .int (nI 1000)), (2, .int (nI 2)), (0, .int (nI a)), (1, .int (nI b))]) hx hb dX11_unlikeDigits_33 rfl hl (by decide) rfl (fun ls hl => ?_)
        refine lv_goto (tgt := 4) hx hb dX11_unlikeDigits_34 (by decide) ?_
        refine lv_iload_n hx hb dX11_unlikeDigits_4 rfl (lv_at hl 0 rfl) ?_
        refine lv_sipush (v := nI 9999) hx hb dX11_unlikeDigits_5 (by decide) ?_
        refine lv_icmp_gt (tgt := 37) hx hb dX11_unlikeDigits_8 (by decide) (fun c198 => absurd c198 (by decide)) (fun c198 => ?_)
        refine lv_iload_n hx hb dX11_unlikeDigits_11 rfl (lv_at hl 2 rfl) ?_
        refine lv_iload_n hx hb dX11_unlikeDigits_12 rfl (lv_at hl 0 rfl) ?_
        refine lv_idiv hx hb dX11_unlikeDigits_13 (by decide) ?_
        refine lv_topi (fun v199 ev199 => ?_)
        obtain rfl : v199 = nI (a / 1000) := ev199.trans (zI_div (by omega) (by decide) (by decide))
        refine lv_bipush (v := nI 10) hx hb dX11_unlikeDigits_14 (by decide) ?_
        refine lv_irem hx hb dX11_unlikeDigits_16 (by decide) ?_
        refine lv_topi (fun v200 ev200 => ?_)
        obtain rfl : v200 = nI ((a / 1000) % 10) := ev200.trans (zI_rem (b := 10) (by omega) (by decide) (by decide))
        refine lv_iload_n hx hb dX11_unlikeDigits_17 rfl (lv_at hl 3 rfl) ?_
        refine lv_iload_n hx hb dX11_unlikeDigits_18 rfl (lv_at hl 0 rfl) ?_
        refine lv_idiv hx hb dX11_unlikeDigits_19 (by decide) ?_
        refine lv_topi (fun v201 ev201 => ?_)
        obtain rfl : v201 = nI (b / 1000) := ev201.trans (zI_div (by omega) (by decide) (by decide))
        refine lv_bipush (v := nI 10) hx hb dX11_unlikeDigits_20 (by decide) ?_
        refine lv_irem hx hb dX11_unlikeDigits_22 (by decide) ?_
        refine lv_topi (fun v202 ev202 => ?_)
        obtain rfl : v202 = nI ((b / 1000) % 10) := ev202.trans (zI_rem (b := 10) (by omega) (by decide) (by decide))
        refine lv_icmp_eq (tgt := 29) hx hb dX11_unlikeDigits_23 (by decide) (fun c203 => ?_) (fun c203 => ?_)
        · have zc203 := c203
          replace zc203 := zc_eq (nI_toInt (by omega)) (nI_toInt (by omega)) zc203
          refine lv_iload_n hx hb dX11_unlikeDigits_29 rfl (lv_at hl 0 rfl) ?_
          refine lv_bipush (v := nI 10) hx hb dX11_unlikeDigits_30 (by decide) ?_
          refine lv_imul hx hb dX11_unlikeDigits_32 ?_
          refine lv_topi (fun v204 ev204 => ?_)
          obtain rfl : v204 = nI 10000 := ev204.trans (by decide)
          refine lv_istore_n (lv' := [(3, .int (nI 10000)), (2, .int (nI 2)), (0, .int (nI a)), (1, .int (nI b))]) hx hb dX11_unlikeDigits_33 rfl hl (by decide) rfl (fun ls hl => ?_)
          refine lv_goto (tgt := 4) hx hb dX11_unlikeDigits_34 (by decide) ?_
          refine lv_iload_n hx hb dX11_unlikeDigits_4 rfl (lv_at hl 0 rfl) ?_
          refine lv_sipush (v := nI 9999) hx hb dX11_unlikeDigits_5 (by decide) ?_
          refine lv_icmp_gt (tgt := 37) hx hb dX11_unlikeDigits_8 (by decide) (fun c205 => ?_) (fun c205 => absurd (by decide) c205)
          refine lv_iload_n hx hb dX11_unlikeDigits_37 rfl (lv_at hl 1 rfl) ?_
          refine W.widen (k := 0) (n := 0) (by decide) (by decide) ?_
          exact W.iret (v := nI 2) hx hb hr (fun t9 ht9 hW9 => ⟨⟨nI 2, (), rfl, by rw [zUd4, if_neg (by omega), if_pos (by omega), if_neg (by omega), if_pos (by omega)], zEnd1 hH ht9 hW9⟩, hS.F ht9⟩) hS.2.2 dX11_unlikeDigits_38
        · have zc203 := c203
          replace zc203 := zc_neq (nI_toInt (by omega)) (nI_toInt (by omega)) zc203
          refine lv_iinc (v := nI 3) (lv' := [(2, .int (nI 3)), (3, .int (nI 1000)), (0, .int (nI a)), (1, .int (nI b))]) hx hb dX11_unlikeDigits_26 hl (k := 1) rfl (by decide) (by decide) rfl (fun ls hl => ?_)
          refine lv_iload_n hx hb dX11_unlikeDigits_29 rfl (lv_at hl 1 rfl) ?_
          refine lv_bipush (v := nI 10) hx hb dX11_unlikeDigits_30 (by decide) ?_
          refine lv_imul hx hb dX11_unlikeDigits_32 ?_
          refine lv_topi (fun v206 ev206 => ?_)
          obtain rfl : v206 = nI 10000 := ev206.trans (by decide)
          refine lv_istore_n (lv' := [(3, .int (nI 10000)), (2, .int (nI 3)), (0, .int (nI a)), (1, .int (nI b))]) hx hb dX11_unlikeDigits_33 rfl hl (by decide) rfl (fun ls hl => ?_)
          refine lv_goto (tgt := 4) hx hb dX11_unlikeDigits_34 (by decide) ?_
          refine lv_iload_n hx hb dX11_unlikeDigits_4 rfl (lv_at hl 0 rfl) ?_
          refine lv_sipush (v := nI 9999) hx hb dX11_unlikeDigits_5 (by decide) ?_
          refine lv_icmp_gt (tgt := 37) hx hb dX11_unlikeDigits_8 (by decide) (fun c207 => ?_) (fun c207 => absurd (by decide) c207)
          refine lv_iload_n hx hb dX11_unlikeDigits_37 rfl (lv_at hl 1 rfl) ?_
          refine W.widen (k := 0) (n := 0) (by decide) (by decide) ?_
          exact W.iret (v := nI 3) hx hb hr (fun t9 ht9 hW9 => ⟨⟨nI 3, (), rfl, by rw [zUd4, if_neg (by omega), if_pos (by omega), if_neg (by omega), if_neg (by omega)], zEnd1 hH ht9 hW9⟩, hS.F ht9⟩) hS.2.2 dX11_unlikeDigits_38
    · have zc178 := c178
      replace zc178 := zc_neq (nI_toInt (by omega)) (nI_toInt (by omega)) zc178
      refine lv_iinc (v := nI 2) (lv' := [(2, .int (nI 2)), (3, .int (nI 10)), (0, .int (nI a)), (1, .int (nI b))]) hx hb dX11_unlikeDigits_26 hl (k := 1) rfl (by decide) (by decide) rfl (fun ls hl => ?_)
      refine lv_iload_n hx hb dX11_unlikeDigits_29 rfl (lv_at hl 1 rfl) ?_
      refine lv_bipush (v := nI 10) hx hb dX11_unlikeDigits_30 (by decide) ?_
      refine lv_imul hx hb dX11_unlikeDigits_32 ?_
      refine lv_topi (fun v208 ev208 => ?_)
      obtain rfl : v208 = nI 100 := ev208.trans (by decide)
      refine lv_istore_n (lv' := [(3, .int (nI 100)), (2, .int (nI 2)), (0, .int (nI a)), (1, .int (nI b))]) hx hb dX11_unlikeDigits_33 rfl hl (by decide) rfl (fun ls hl => ?_)
      refine lv_goto (tgt := 4) hx hb dX11_unlikeDigits_34 (by decide) ?_
      refine lv_iload_n hx hb dX11_unlikeDigits_4 rfl (lv_at hl 0 rfl) ?_
      refine lv_sipush (v := nI 9999) hx hb dX11_unlikeDigits_5 (by decide) ?_
      refine lv_icmp_gt (tgt := 37) hx hb dX11_unlikeDigits_8 (by decide) (fun c209 => absurd c209 (by decide)) (fun c209 => ?_)
      refine lv_iload_n hx hb dX11_unlikeDigits_11 rfl (lv_at hl 2 rfl) ?_
      refine lv_iload_n hx hb dX11_unlikeDigits_12 rfl (lv_at hl 0 rfl) ?_
      refine lv_idiv hx hb dX11_unlikeDigits_13 (by decide) ?_
      refine lv_topi (fun v210 ev210 => ?_)
      obtain rfl : v210 = nI (a / 100) := ev210.trans (zI_div (by omega) (by decide) (by decide))
      refine lv_bipush (v := nI 10) hx hb dX11_unlikeDigits_14 (by decide) ?_
      refine lv_irem hx hb dX11_unlikeDigits_16 (by decide) ?_
      refine lv_topi (fun v211 ev211 => ?_)
      obtain rfl : v211 = nI ((a / 100) % 10) := ev211.trans (zI_rem (b := 10) (by omega) (by decide) (by decide))
      refine lv_iload_n hx hb dX11_unlikeDigits_17 rfl (lv_at hl 3 rfl) ?_
      refine lv_iload_n hx hb dX11_unlikeDigits_18 rfl (lv_at hl 0 rfl) ?_
      refine lv_idiv hx hb dX11_unlikeDigits_19 (by decide) ?_
      refine lv_topi (fun v212 ev212 => ?_)
      obtain rfl : v212 = nI (b / 100) := ev212.trans (zI_div (by omega) (by decide) (by decide))
      refine lv_bipush (v := nI 10) hx hb dX11_unlikeDigits_20 (by decide) ?_
      refine lv_irem hx hb dX11_unlikeDigits_22 (by decide) ?_
      refine lv_topi (fun v213 ev213 => ?_)
      obtain rfl : v213 = nI ((b / 100) % 10) := ev213.trans (zI_rem (b := 10) (by omega) (by decide) (by decide))
      refine lv_icmp_eq (tgt := 29) hx hb dX11_unlikeDigits_23 (by decide) (fun c214 => ?_) (fun c214 => ?_)
      · have zc214 := c214
        replace zc214 := zc_eq (nI_toInt (by omega)) (nI_toInt (by omega)) zc214
        refine lv_iload_n hx hb dX11_unlikeDigits_29 rfl (lv_at hl 0 rfl) ?_
        refine lv_bipush (v := nI 10) hx hb dX11_unlikeDigits_30 (by decide) ?_
        refine lv_imul hx hb dX11_unlikeDigits_32 ?_
        refine lv_topi (fun v215 ev215 => ?_)
        obtain rfl : v215 = nI 1000 := ev215.trans (by decide)
        refine lv_istore_n (lv' := [(3, .int (nI 1000)), (2, .int (nI 2)), (0, .int (nI a)), (1, .int (nI b))]) hx hb dX11_unlikeDigits_33 rfl hl (by decide) rfl (fun ls hl => ?_)
        refine lv_goto (tgt := 4) hx hb dX11_unlikeDigits_34 (by decide) ?_
        refine lv_iload_n hx hb dX11_unlikeDigits_4 rfl (lv_at hl 0 rfl) ?_
        refine lv_sipush (v := nI 9999) hx hb dX11_unlikeDigits_5 (by decide) ?_
        refine lv_icmp_gt (tgt := 37) hx hb dX11_unlikeDigits_8 (by decide) (fun c216 => absurd c216 (by decide)) (fun c216 => ?_)
        refine lv_iload_n hx hb dX11_unlikeDigits_11 rfl (lv_at hl 2 rfl) ?_
        refine lv_iload_n hx hb dX11_unlikeDigits_12 rfl (lv_at hl 0 rfl) ?_
        refine lv_idiv hx hb dX11_unlikeDigits_13 (by decide) ?_
        refine lv_topi (fun v217 ev217 => ?_)
        obtain rfl : v217 = nI (a / 1000) := ev217.trans (zI_div (by omega) (by decide) (by decide))
        refine lv_bipush (v := nI 10) hx hb dX11_unlikeDigits_14 (by decide) ?_
        refine lv_irem hx hb dX11_unlikeDigits_16 (by decide) ?_
        refine lv_topi (fun v218 ev218 => ?_)
        obtain rfl : v218 = nI ((a / 1000) % 10) := ev218.trans (zI_rem (b := 10) (by omega) (by decide) (by decide))
        refine lv_iload_n hx hb dX11_unlikeDigits_17 rfl (lv_at hl 3 rfl) ?_
        refine lv_iload_n hx hb dX11_unlikeDigits_18 rfl (lv_at hl 0 rfl) ?_
        refine lv_idiv hx hb dX11_unlikeDigits_19 (by decide) ?_
        refine lv_topi (fun v219 ev219 => ?_)
        obtain rfl : v219 = nI (b / 1000) := ev219.trans (zI_div (by omega) (by decide) (by decide))
        refine lv_bipush (v := nI 10) hx hb dX11_unlikeDigits_20 (by decide) ?_
        refine lv_irem hx hb dX11_unlikeDigits_22 (by decide) ?_
        refine lv_topi (fun v220 ev220 => ?_)
        obtain rfl : v220 = nI ((b / 1000) % 10) := ev220.trans (zI_rem (b := 10) (by omega) (by decide) (by decide))
        refine lv_icmp_eq (tgt := 29) hx hb dX11_unlikeDigits_23 (by decide) (fun c221 => ?_) (fun c221 => ?_)
        · have zc221 := c221
          replace zc221 := zc_eq (nI_toInt (by omega)) (nI_toInt (by omega)) zc221
          refine lv_iload_n hx hb dX11_unlikeDigits_29 rfl (lv_at hl 0 rfl) ?_
          refine lv_bipush (v := nI 10) hx hb dX11_unlikeDigits_30 (by decide) ?_
          refine lv_imul hx hb dX11_unlikeDigits_32 ?_
          refine lv_topi (fun v222 ev222 => ?_)
          obtain rfl : v222 = nI 10000 := ev222.trans (by decide)
          refine lv_istore_n (lv' := [(3, .int (nI 10000)), (2, .int (nI 2)), (0, .int (nI a)), (1, .int (nI b))]) hx hb dX11_unlikeDigits_33 rfl hl (by decide) rfl (fun ls hl => ?_)
          refine lv_goto (tgt := 4) hx hb dX11_unlikeDigits_34 (by decide) ?_
          refine lv_iload_n hx hb dX11_unlikeDigits_4 rfl (lv_at hl 0 rfl) ?_
          refine lv_sipush (v := nI 9999) hx hb dX11_unlikeDigits_5 (by decide) ?_
          refine lv_icmp_gt (tgt := 37) hx hb dX11_unlikeDigits_8 (by decide) (fun c223 => ?_) (fun c223 => absurd (by decide) c223)
          refine lv_iload_n hx hb dX11_unlikeDigits_37 rfl (lv_at hl 1 rfl) ?_
          refine W.widen (k := 0) (n := 0) (by decide) (by decide) ?_
          exact W.iret (v := nI 2) hx hb hr (fun t9 ht9 hW9 => ⟨⟨nI 2, (), rfl, by rw [zUd4, if_neg (by omega), if_neg (by omega), if_pos (by omega), if_pos (by omega)], zEnd1 hH ht9 hW9⟩, hS.F ht9⟩) hS.2.2 dX11_unlikeDigits_38
        · have zc221 := c221
          replace zc221 := zc_neq (nI_toInt (by omega)) (nI_toInt (by omega)) zc221
          refine lv_iinc (v := nI 3) (lv' := [(2, .int (nI 3)), (3, .int (nI 1000)), (0, .int (nI a)), (1, .int (nI b))]) hx hb dX11_unlikeDigits_26 hl (k := 1) rfl (by decide) (by decide) rfl (fun ls hl => ?_)
          refine lv_iload_n hx hb dX11_unlikeDigits_29 rfl (lv_at hl 1 rfl) ?_
          refine lv_bipush (v := nI 10) hx hb dX11_unlikeDigits_30 (by decide) ?_
          refine lv_imul hx hb dX11_unlikeDigits_32 ?_
          refine lv_topi (fun v224 ev224 => ?_)
          obtain rfl : v224 = nI 10000 := ev224.trans (by decide)
          refine lv_istore_n (lv' := [(3, .int (nI 10000)), (2, .int (nI 3)), (0, .int (nI a)), (1, .int (nI b))]) hx hb dX11_unlikeDigits_33 rfl hl (by decide) rfl (fun ls hl => ?_)
          refine lv_goto (tgt := 4) hx hb dX11_unlikeDigits_34 (by decide) ?_
          refine lv_iload_n hx hb dX11_unlikeDigits_4 rfl (lv_at hl 0 rfl) ?_
          refine lv_sipush (v := nI 9999) hx hb dX11_unlikeDigits_5 (by decide) ?_
          refine lv_icmp_gt (tgt := 37) hx hb dX11_unlikeDigits_8 (by decide) (fun c225 => ?_) (fun c225 => absurd (by decide) c225)
          refine lv_iload_n hx hb dX11_unlikeDigits_37 rfl (lv_at hl 1 rfl) ?_
          refine W.widen (k := 0) (n := 0) (by decide) (by decide) ?_
          exact W.iret (v := nI 3) hx hb hr (fun t9 ht9 hW9 => ⟨⟨nI 3, (), rfl, by rw [zUd4, if_neg (by omega), if_neg (by omega), if_pos (by omega), if_neg (by omega)], zEnd1 hH ht9 hW9⟩, hS.F ht9⟩) hS.2.2 dX11_unlikeDigits_38
      · have zc214 := c214
        replace zc214 := zc_neq (nI_toInt (by omega)) (nI_toInt (by omega)) zc214
        refine lv_iinc (v := nI 3) (lv' := [(2, .int (nI 3)), (3, .int (nI 100)), (0, .int (nI a)), (1, .int (nI b))]) hx hb dX11_unlikeDigits_26 hl (k := 1) rfl (by decide) (by decide) rfl (fun ls hl => ?_)
        refine lv_iload_n hx hb dX11_unlikeDigits_29 rfl (lv_at hl 1 rfl) ?_
        refine lv_bipush (v := nI 10) hx hb dX11_unlikeDigits_30 (by decide) ?_
        refine lv_imul hx hb dX11_unlikeDigits_32 ?_
        refine lv_topi (fun v226 ev226 => ?_)
        obtain rfl : v226 = nI 1000 := ev226.trans (by decide)
        refine lv_istore_n (lv' := [(3, .int (nI 1000)), (2, .int (nI 3)), (0, .int (nI a)), (1, .int (nI b))]) hx hb dX11_unlikeDigits_33 rfl hl (by decide) rfl (fun ls hl => ?_)
        refine lv_goto (tgt := 4) hx hb dX11_unlikeDigits_34 (by decide) ?_
        refine lv_iload_n hx hb dX11_unlikeDigits_4 rfl (lv_at hl 0 rfl) ?_
        refine lv_sipush (v := nI 9999) hx hb dX11_unlikeDigits_5 (by decide) ?_
        refine lv_icmp_gt (tgt := 37) hx hb dX11_unlikeDigits_8 (by decide) (fun c227 => absurd c227 (by decide)) (fun c227 => ?_)
        refine lv_iload_n hx hb dX11_unlikeDigits_11 rfl (lv_at hl 2 rfl) ?_
        refine lv_iload_n hx hb dX11_unlikeDigits_12 rfl (lv_at hl 0 rfl) ?_
        refine lv_idiv hx hb dX11_unlikeDigits_13 (by decide) ?_
        refine lv_topi (fun v228 ev228 => ?_)
        obtain rfl : v228 = nI (a / 1000) := ev228.trans (zI_div (by omega) (by decide) (by decide))
        refine lv_bipush (v := nI 10) hx hb dX11_unlikeDigits_14 (by decide) ?_
        refine lv_irem hx hb dX11_unlikeDigits_16 (by decide) ?_
        refine lv_topi (fun v229 ev229 => ?_)
        obtain rfl : v229 = nI ((a / 1000) % 10) := ev229.trans (zI_rem (b := 10) (by omega) (by decide) (by decide))
        refine lv_iload_n hx hb dX11_unlikeDigits_17 rfl (lv_at hl 3 rfl) ?_
        refine lv_iload_n hx hb dX11_unlikeDigits_18 rfl (lv_at hl 0 rfl) ?_
        refine lv_idiv hx hb dX11_unlikeDigits_19 (by decide) ?_
        refine lv_topi (fun v230 ev230 => ?_)
        obtain rfl : v230 = nI (b / 1000) := ev230.trans (zI_div (by omega) (by decide) (by decide))
        refine lv_bipush (v := nI 10) hx hb dX11_unlikeDigits_20 (by decide) ?_
        refine lv_irem hx hb dX11_unlikeDigits_22 (by decide) ?_
        refine lv_topi (fun v231 ev231 => ?_)
        obtain rfl : v231 = nI ((b / 1000) % 10) := ev231.trans (zI_rem (b := 10) (by omega) (by decide) (by decide))
        refine lv_icmp_eq (tgt := 29) hx hb dX11_unlikeDigits_23 (by decide) (fun c232 => ?_) (fun c232 => ?_)
        · have zc232 := c232
          replace zc232 := zc_eq (nI_toInt (by omega)) (nI_toInt (by omega)) zc232
          refine lv_iload_n hx hb dX11_unlikeDigits_29 rfl (lv_at hl 0 rfl) ?_
          refine lv_bipush (v := nI 10) hx hb dX11_unlikeDigits_30 (by decide) ?_
          refine lv_imul hx hb dX11_unlikeDigits_32 ?_
          refine lv_topi (fun v233 ev233 => ?_)
          obtain rfl : v233 = nI 10000 := ev233.trans (by decide)
          refine lv_istore_n (lv' := [(3, .int (nI 10000)), (2, .int (nI 3)), (0, .int (nI a)), (1, .int (nI b))]) hx hb dX11_unlikeDigits_33 rfl hl (by decide) rfl (fun ls hl => ?_)
          refine lv_goto (tgt := 4) hx hb dX11_unlikeDigits_34 (by decide) ?_
          refine lv_iload_n hx hb dX11_unlikeDigits_4 rfl (lv_at hl 0 rfl) ?_
          refine lv_sipush (v := nI 9999) hx hb dX11_unlikeDigits_5 (by decide) ?_
          refine lv_icmp_gt (tgt := 37) hx hb dX11_unlikeDigits_8 (by decide) (fun c234 => ?_) (fun c234 => absurd (by decide) c234)
          refine lv_iload_n hx hb dX11_unlikeDigits_37 rfl (lv_at hl 1 rfl) ?_
          refine W.widen (k := 0) (n := 0) (by decide) (by decide) ?_
          exact W.iret (v := nI 3) hx hb hr (fun t9 ht9 hW9 => ⟨⟨nI 3, (), rfl, by rw [zUd4, if_neg (by omega), if_neg (by omega), if_neg (by omega), if_pos (by omega)], zEnd1 hH ht9 hW9⟩, hS.F ht9⟩) hS.2.2 dX11_unlikeDigits_38
        · have zc232 := c232
          replace zc232 := zc_neq (nI_toInt (by omega)) (nI_toInt (by omega)) zc232
          refine lv_iinc (v := nI 4) (lv' := [(2, .int (nI 4)), (3, .int (nI 1000)), (0, .int (nI a)), (1, .int (nI b))]) hx hb dX11_unlikeDigits_26 hl (k := 1) rfl (by decide) (by decide) rfl (fun ls hl => ?_)
          refine lv_iload_n hx hb dX11_unlikeDigits_29 rfl (lv_at hl 1 rfl) ?_
          refine lv_bipush (v := nI 10) hx hb dX11_unlikeDigits_30 (by decide) ?_
          refine lv_imul hx hb dX11_unlikeDigits_32 ?_
          refine lv_topi (fun v235 ev235 => ?_)
          obtain rfl : v235 = nI 10000 := ev235.trans (by decide)
          refine lv_istore_n (lv' := [(3, .int (nI 10000)), (2, .int (nI 4)), (0, .int (nI a)), (1, .int (nI b))]) hx hb dX11_unlikeDigits_33 rfl hl (by decide) rfl (fun ls hl => ?_)
          refine lv_goto (tgt := 4) hx hb dX11_unlikeDigits_34 (by decide) ?_
          refine lv_iload_n hx hb dX11_unlikeDigits_4 rfl (lv_at hl 0 rfl) ?_
          refine lv_sipush (v := nI 9999) hx hb dX11_unlikeDigits_5 (by decide) ?_
          refine lv_icmp_gt (tgt := 37) hx hb dX11_unlikeDigits_8 (by decide) (fun c236 => ?_) (fun c236 => absurd (by decide) c236)
          refine lv_iload_n hx hb dX11_unlikeDigits_37 rfl (lv_at hl 1 rfl) ?_
          refine W.widen (k := 0) (n := 0) (by decide) (by decide) ?_
          exact W.iret (v := nI 4) hx hb hr (fun t9 ht9 hW9 => ⟨⟨nI 4, (), rfl, by rw [zUd4, if_neg (by omega), if_neg (by omega), if_neg (by omega), if_neg (by omega)], zEnd1 hH ht9 hW9⟩, hS.F ht9⟩) hS.2.2 dX11_unlikeDigits_38
set_option maxHeartbeats 4000000 in
set_option maxRecDepth 100000 in
/-- soldToday -/
theorem c_soldN (l : Launch) (hl0 : l.stackTraces = false) (D : va_G) (A : Nat → Prop) (sad : Nat → Nat) (τ : zTy) (fi : zFi) (fr : zFr) (ol : Int64) (c : Nat) (hc : c < 10000) (hF : zFix τ fr) (n : Nat) (hT : zTh τ fi fr n) (td : Nat) (cd pN : Nat → Nat) (hPk : zqPk fi n td cd pN) : Met l yX11_soldToday wsX11_soldToday ({ frames := 2, cells := 0, slots := 0, locals := 44 }) (va_Pc [.ref (τ.1 0), .int (nI c)] (zQc D A sad τ fi fr ol)) (va_Qq (fun (r : Option Nat) (u : Unit) => ((zPo cd pN n c = 0 ∧ r = none) ∨ (∃ t, t < n ∧ zPo cd pN n c = pN t ∧ 0 < pN t ∧ r = some (τ.1 (300 + t))))) (fun (u : Unit) (t : State) => zH D A τ fi fr ol t t.heap) A) 0 0 A := by
  refine Met.ofW (cc := cX11_soldToday) (maxL := 3) (ret := (some (.object "PostHouse$Thing"))) (by decide) rfl ?_
  intro p9 e9 s m args below meth c9 s₁ B hml hv
  obtain ⟨rfl, hz, hH, hA⟩ := hv
  have hx := B.exec
  have hb := B.bytes
  have hr := B.returns
  have hts := atoms_spec (ws := wsX11_soldToday) B.pre
  have hown : s.vm.findClass RX11 = some m.cls := findClass_of_methodNamed B.named
  have hlocks := B.notSynchronized
  have hS : va_S A s.heap s.heap [] := va_S.rf
  have hl := lv_entry ([.ref (τ.1 0), .int (nI c)]) (n := 3) (Nat.le_of_ble_eq_true rfl)
  rw [lg_entry_eq]
  generalize (lg_sl ([.ref (τ.1 0), .int (nI c)]) ++ List.replicate (3 - (lg_sl ([.ref (τ.1 0), .int (nI c)])).length) Slot.unset).toArray = ls at hl ⊢
  have hl : lv_has ls 3 [(0, .ref (τ.1 0)), (1, .int (nI c))] := hl
  have hn30 := hT.1
  have hiX11 : ∀ w ∈ u_ws RX11 TX11 16, w ∈ wsX11_soldToday := fun _ h => List.mem_cons_of_mem _ (List.mem_append_left _ (List.mem_append_left _ (List.mem_append_right _ h)))
  have hw1 := hts (.fieldLink RX11 19 "PostHouse" "book" "LPostHouse$Book;") (by decide +kernel)
  have hw2 := hts (.fieldLink RX11 136 "PostHouse" "today" "I") (by decide +kernel)
  refine lv_aload_n hx hb dX11_soldToday_0 rfl (lv_at hl 0 rfl) ?_
  refine zGetR (D := D) (ci := 11) (C := RX11) (T := TX11) (N := 16) hx hb hts hiX11 hown hH (zk_0 hF) rfl 1 (by decide) rfl hw1 (fun _ h9 => h9) dX11_soldToday_1 (zr_0_1 hF) ?_
  refine lv_iload_n hx hb dX11_soldToday_4 rfl (lv_at hl 1 rfl) ?_
  refine va_callq (va_runV (As := [.int (nI c)]) (rest := []) ⟨hx, hb, hml, hown, hts⟩ (c_ofCode l hl0 D A sad τ fi fr ol (nI c) hF n hT) (cwV 1 hts gX11_soldToday_X0_ofCode rfl rfl rfl (by decide +kernel) ⟨Nat.le_of_ble_eq_true rfl, Nat.le_of_ble_eq_true rfl⟩) ⟨zQc_bl, zRecv hH (zk_3 hF) rfl, zQc_at hz hS hA hH⟩ rfl rfl hl.1 rfl (lv_room (Nat.le_of_ble_eq_true rfl)) dX11_soldToday_5 ⟨Nat.le_of_ble_eq_true rfl, Nat.le_of_ble_eq_true rfl⟩) hS (fun q _ h => h) (fun q h => h) (fun r101 u9 t9 H1 locs ht9 hvm9 hw hB hz1 hk1 hS => ?_)
  have hH := zMv ht9 hvm9 hB
  generalize H1 = H at hH hS ⊢
  rcases hw with ⟨t102, ht102, hcd, -, rfl⟩ | ⟨hno, rfl⟩
  · skip
    refine lv_astore_n (lv' := [(2, .ref (τ.1 (300 + t102))), (0, .ref (τ.1 0)), (1, .int (nI c))]) hx hb dX11_soldToday_8 rfl hl (by decide) rfl (fun ls hl => ?_)
    refine lv_aload_n hx hb dX11_soldToday_9 rfl (lv_at hl 0 rfl) ?_
    refine lv_ifnull hx hb dX11_soldToday_10 ?_
    refine lv_aload_n hx hb dX11_soldToday_13 rfl (lv_at hl 0 rfl) ?_
    refine lv_aload_n hx hb dX11_soldToday_14 rfl (lv_at hl 1 rfl) ?_
    refine zGetI (D := D) (ci := 11) (C := RX11) (T := TX11) (N := 16) hx hb hts hiX11 hown hH (zk_0 hF) rfl 15 (by decide) rfl hw2 (fun _ h9 => h9) dX11_soldToday_15 hPk.1 ?_
    obtain ⟨k103, h4k103, h0k103, hmk103⟩ := (hPk.2.2.2 t102 (by omega)).2.2.2.1
    refine va_calli (va_runV (As := [.int (nI td)]) (rest := []) ⟨hx, hb, hml, hown, hts⟩ (c_moneyOn l hl0 D A sad τ fi fr ol (nI td) n hT t102 k103 (by omega) h0k103 h4k103) (cwV 1 hts gX11_soldToday_X8_moneyOn rfl rfl rfl (by decide +kernel) ⟨Nat.le_of_ble_eq_true rfl, Nat.le_of_ble_eq_true rfl⟩) ⟨zQc_bl, zRecv hH (hT.2.2.1 t102 (by omega)).1.1 rfl, zQc_at hz hS hA hH⟩ rfl rfl hl.1 rfl (lv_room (Nat.le_of_ble_eq_true rfl)) dX11_soldToday_18 ⟨Nat.le_of_ble_eq_true rfl, Nat.le_of_ble_eq_true rfl⟩) hS (fun q _ h => h) (fun q h => h) (fun r104 u9 t9 H1 locs ht9 hvm9 hw hB hz1 hk1 hS => ?_)
    have hH := zMv ht9 hvm9 hB
    generalize H1 = H at hH hS ⊢
    have hcok103 := zPv_or (hw.uni hmk103)
    clear hw
    have hcbk103 := (hPk.2.2.2 t102 (by omega)).2.2.1
    rcases hcok103 with ⟨hzk103, rfl⟩ | ⟨hzk103, rfl⟩
    · skip
      refine lv_iconst (v := (-1)) hx hb dX11_soldToday_21 (by decide) ?_
      refine lv_icmp_ne (tgt := 29) hx hb dX11_soldToday_22 (by decide) (fun c105 => absurd (by decide) c105) (fun c105 => ?_)
      refine lv_null hx hb dX11_soldToday_25 ?_
      refine lv_goto (tgt := 30) hx hb dX11_soldToday_26 (by decide) ?_
      have hpe : zPo cd pN n c = pN t102 := zPo_at ht102 (zNi (by have h9 := (hPk.2.2.2 t102 ht102).2.1; omega) (by omega) ((hPk.2.2.2 t102 ht102).1.symm.trans hcd)) (hPk.2.2.2 t102 ht102).2.2.2.2
      refine W.widen (k := 0) (n := 0) (by decide) (by decide) ?_
      exact W.aret (v := .null) hx hb hr (Or.inl ⟨_, rfl⟩) (Or.inl rfl) (fun t9 ht9 hW9 => ⟨⟨none, (), rfl, Or.inl ⟨by rw [hpe]; exact hzk103, rfl⟩, zEnd1 hH ht9 hW9⟩, hS.F ht9⟩) hS.2.2 dX11_soldToday_30
    · skip
      refine lv_iconst (v := (-1)) hx hb dX11_soldToday_21 (by decide) ?_
      refine lv_icmp_ne (tgt := 29) hx hb dX11_soldToday_22 (by decide) (fun c106 => ?_) (fun c106 => False.elim (by have zc106 := zc_eq (nI_toInt (by omega)) ((by decide : ((-1) : Int32).toInt = (-1))) c106; omega))
      refine lv_aload_n hx hb dX11_soldToday_29 rfl (lv_at hl 0 rfl) ?_
      have hpe : zPo cd pN n c = pN t102 := zPo_at ht102 (zNi (by have h9 := (hPk.2.2.2 t102 ht102).2.1; omega) (by omega) ((hPk.2.2.2 t102 ht102).1.symm.trans hcd)) (hPk.2.2.2 t102 ht102).2.2.2.2
      refine W.widen (k := 0) (n := 0) (by decide) (by decide) ?_
      exact W.aret (v := .ref (τ.1 (300 + t102))) hx hb hr (Or.inl ⟨_, rfl⟩) (Or.inr ⟨_, rfl⟩) (fun t9 ht9 hW9 => ⟨⟨(some (τ.1 (300 + t102))), (), rfl, Or.inr ⟨t102, ht102, hpe, hzk103, rfl⟩, zEnd1 hH ht9 hW9⟩, hS.F ht9⟩) hS.2.2 dX11_soldToday_30
  · skip
    refine lv_astore_nN (lv' := [(2, .null), (0, .ref (τ.1 0)), (1, .int (nI c))]) hx hb dX11_soldToday_8 rfl hl (by decide) rfl (fun ls hl => ?_)
    refine lv_aload_nN hx hb dX11_soldToday_9 rfl (lv_at hl 0 rfl) ?_
    refine lv_ifnullN (tgt := 25) hx hb dX11_soldToday_10 (by decide) ?_
    refine lv_null hx hb dX11_soldToday_25 ?_
    refine lv_goto (tgt := 30) hx hb dX11_soldToday_26 (by decide) ?_
    refine W.widen (k := 0) (n := 0) (by decide) (by decide) ?_
    exact W.aret (v := .null) hx hb hr (Or.inl ⟨_, rfl⟩) (Or.inl rfl) (fun t9 ht9 hW9 => ⟨⟨none, (), rfl, Or.inl ⟨zPo_no (fun t9 q9 e9 => hno t9 q9 (by rw [(hPk.2.2.2 t9 q9).1, e9])), rfl⟩, zEnd1 hH ht9 hW9⟩, hS.F ht9⟩) hS.2.2 dX11_soldToday_30
set_option maxHeartbeats 4000000 in
set_option maxRecDepth 100000 in
/-- totalBut -/
theorem c_totalButN (l : Launch) (hl0 : l.stackTraces = false) (D : va_G) (A : Nat → Prop) (sad : Nat → Nat) (τ : zTy) (fi : zFi) (fr : zFr) (ol : Int64) (x : Int32) (hF : zFix τ fr) (n : Nat) (hT : zTh τ fi fr n) (td : Nat) (cd pN : Nat → Nat) (hPk : zqPk fi n td cd pN) (q : Nat) (hq5 : q ≤ 512) (hL : zLk τ fr q) (l0 : Nat) (lc mn : Nat → Nat) (hLw : zqLw fi q l0 lc mn) : Met l yX11_totalBut wsX11_totalBut ({ frames := 3, cells := 0, slots := 0, locals := 66 }) (va_Pc [.ref (τ.1 0), .ref (τ.1 (3000 + q)), .int x] (zQc D A sad τ fi fr ol)) (va_Qi (fun (r : Int32) (u : Unit) => (r = -1 ∧ ∃ j, j < l0 ∧ ¬ x = nI j ∧ zPo cd pN n (lc j) = 0) ∨ ((∀ j, j < l0 → ¬ x = nI j → 0 < zPo cd pN n (lc j)) ∧ r = nI (zSm (fun j => zIf x 0 (fun j => zPo cd pN n (lc j) * mn j) j) l0))) (fun (u : Unit) (t : State) => zH D A τ fi fr ol t t.heap) A) 0 0 A := by
  refine Met.ofW (cc := cX11_totalBut) (maxL := 6) (ret := (some .int)) (by decide) rfl ?_
  intro p9 e9 s m args below meth c9 s₁ B hml hv
  obtain ⟨rfl, hz, hH, hA⟩ := hv
  have hx := B.exec
  have hb := B.bytes
  have hr := B.returns
  have hts := atoms_spec (ws := wsX11_totalBut) B.pre
  have hown : s.vm.findClass RX11 = some m.cls := findClass_of_methodNamed B.named
  have hlocks := B.notSynchronized
  have hS : va_S A s.heap s.heap [] := va_S.rf
  have hl := lv_entry ([.ref (τ.1 0), .ref (τ.1 (3000 + q)), .int x]) (n := 6) (Nat.le_of_ble_eq_true rfl)
  rw [lg_entry_eq]
  generalize (lg_sl ([.ref (τ.1 0), .ref (τ.1 (3000 + q)), .int x]) ++ List.replicate (6 - (lg_sl ([.ref (τ.1 0), .ref (τ.1 (3000 + q)), .int x])).length) Slot.unset).toArray = ls at hl ⊢
  have hl : lv_has ls 6 [(0, .ref (τ.1 0)), (1, .ref (τ.1 (3000 + q))), (2, .int x)] := hl
  have hn30 := hT.1
  have hl8 := hLw.1
  have hiX2 : ∀ w ∈ u_ws RX2 TX2 10, w ∈ wsX11_totalBut := fun _ h => List.mem_cons_of_mem _ (List.mem_append_left _ (List.mem_append_left _ (List.mem_append_left _ (List.mem_append_right _ h))))
  have hw1 := hts (.fieldLink RX11 228 "PostHouse$Letter" "lines" "I") (by decide +kernel)
  have hw2 := hts (.fieldLink RX11 459 "PostHouse$Letter" "codes" "[I") (by decide +kernel)
  have hiX11 : ∀ w ∈ u_ws RX11 TX11 16, w ∈ wsX11_totalBut := fun _ h => List.mem_cons_of_mem _ (List.mem_append_left _ (List.mem_append_left _ (List.mem_append_right _ h)))
  have hw4 := hts (.fieldLink RX11 136 "PostHouse" "today" "I") (by decide +kernel)
  have hw5 := hts (.fieldLink RX11 475 "PostHouse$Letter" "pieces" "[I") (by decide +kernel)
  refine lv_iconst (v := nI 0) hx hb dX11_totalBut_0 (by decide) ?_
  refine lv_istore_n (lv' := [(3, .int (nI 0)), (0, .ref (τ.1 0)), (1, .ref (τ.1 (3000 + q))), (2, .int x)]) hx hb dX11_totalBut_1 rfl hl (by decide) rfl (fun ls hl => ?_)
  refine lv_iconst (v := nI 0) hx hb dX11_totalBut_2 (by decide) ?_
  refine lv_istore (lv' := [(4, .int (nI 0)), (3, .int (nI 0)), (0, .ref (τ.1 0)), (1, .ref (τ.1 (3000 + q))), (2, .int x)]) hx hb dX11_totalBut_3 hl (by decide) rfl (fun ls hl => ?_)
  refine zLp (σ := Nat × Nat) (fun x9 k9 H locs ls => (fun (i : Nat) (sm : Nat) => k9 = l0 - i ∧ (i ≤ l0 ∧ (∀ j, j < i → ¬ x = nI j → 0 < zPo cd pN n (lc j)) ∧ sm = zSm (fun j => zIf x 0 (fun j => zPo cd pN n (lc j) * mn j) j) i) ∧ zH D A τ fi fr ol s H ∧ va_S A s.heap H locs ∧ lv_has ls 6 [(0, .ref (τ.1 0)), (1, .ref (τ.1 (3000 + q))), (2, .int x), (3, .int (nI sm)), (4, .int (nI i))]) x9.1 x9.2) (0, 0) (l0 - 0) (show l0 - 0 = l0 - 0 ∧ (0 ≤ l0 ∧ (∀ j, j < 0 → ¬ x = nI j → 0 < zPo cd pN n (lc j)) ∧ 0 = zSm (fun j => zIf x 0 (fun j => zPo cd pN n (lc j) * mn j) j) 0) ∧ zH D A τ fi fr ol s _ ∧ va_S A s.heap _ _ ∧ lv_has _ 6 [(0, .ref (τ.1 0)), (1, .ref (τ.1 (3000 + q))), (2, .int x), (3, .int (nI 0)), (4, .int (nI 0))] from ⟨rfl, ⟨Nat.zero_le _, fun j h => absurd h (by omega), rfl⟩, hH, hS, lv_sub hl [2, 3, 4, 1, 0] rfl⟩) (fun k9 ih x9 H locs ls hv9 => ?_)
  obtain ⟨i, sm⟩ := x9
  have hv9 : k9 = l0 - i ∧ (i ≤ l0 ∧ (∀ j, j < i → ¬ x = nI j → 0 < zPo cd pN n (lc j)) ∧ sm = zSm (fun j => zIf x 0 (fun j => zPo cd pN n (lc j) * mn j) j) i) ∧ zH D A τ fi fr ol s H ∧ va_S A s.heap H locs ∧ lv_has ls 6 [(0, .ref (τ.1 0)), (1, .ref (τ.1 (3000 + q))), (2, .int x), (3, .int (nI sm)), (4, .int (nI i))] := hv9
  obtain ⟨hkih101, hv9, hH, hS, hl⟩ := hv9
  obtain ⟨h1, hpj, hsm⟩ := hv9
  have ih101 := ih
  clear ih
  refine lv_iload hx hb dX11_totalBut_5 (lv_at hl 4 rfl) ?_
  refine lv_aload_n hx hb dX11_totalBut_7 rfl (lv_at hl 1 rfl) ?_
  refine zGetI (D := D) (ci := 2) (C := RX2) (T := TX2) (N := 10) hx hb hts hiX2 hown hH hL.1.1 rfl 2 (by decide) rfl hw1 (fun _ h9 => h9) dX11_totalBut_8 hLw.2.1 ?_
  refine lv_icmp_ge (tgt := 66) hx hb dX11_totalBut_11 (by decide) (fun c102 => ?_) (fun c102 => ?_)
  · have zc102 := c102
    replace zc102 := zc_le (nI_toInt (by omega)) (nI_toInt (by omega)) zc102
    refine lv_iload_n hx hb dX11_totalBut_66 rfl (lv_at hl 3 rfl) ?_
    refine W.widen (k := 0) (n := 0) (by decide) (by decide) ?_
    exact W.iret (v := nI sm) hx hb hr (fun t9 ht9 hW9 => ⟨⟨nI sm, (), rfl, Or.inr ⟨fun j h => hpj j (by omega), by rw [show l0 = i by omega, ← hsm]⟩, zEnd1 hH ht9 hW9⟩, hS.F ht9⟩) hS.2.2 dX11_totalBut_67
  · have zc102 := c102
    replace zc102 := zc_nle (nI_toInt (by omega)) (nI_toInt (by omega)) zc102
    refine lv_iload hx hb dX11_totalBut_14 (lv_at hl 4 rfl) ?_
    refine lv_iload_n hx hb dX11_totalBut_16 rfl (lv_at hl 2 rfl) ?_
    refine lv_icmp_eq (tgt := 60) hx hb dX11_totalBut_17 (by decide) (fun c103 => ?_) (fun c103 => ?_)
    · have zc103 := c103
      replace zc103 := zc_eq (nI_toInt (by omega)) (rfl) zc103
      have hxi : x = nI i := Int32.toInt_inj.mp (by rw [nI_toInt (by omega)]; exact zc103.symm)
      refine lv_iinc (v := nI (i + 1)) (lv' := [(4, .int (nI (i + 1))), (0, .ref (τ.1 0)), (1, .ref (τ.1 (3000 + q))), (2, .int x), (3, .int (nI sm))]) hx hb dX11_totalBut_60 hl (k := 4) rfl (by rw [show (Int32.ofInt 1 : Int32) = nI 1 from by decide, nI_add]) (by decide) rfl (fun ls hl => ?_)
      refine lv_goto (tgt := 5) hx hb dX11_totalBut_63 (by decide) ?_
      exact ih101 (l0 - (i + 1)) (by omega) (i + 1, sm) _ _ _ (show l0 - (i + 1) = l0 - (i + 1) ∧ ((i + 1) ≤ l0 ∧ (∀ j, j < (i + 1) → ¬ x = nI j → 0 < zPo cd pN n (lc j)) ∧ sm = zSm (fun j => zIf x 0 (fun j => zPo cd pN n (lc j) * mn j) j) (i + 1)) ∧ zH D A τ fi fr ol s _ ∧ va_S A s.heap _ _ ∧ lv_has _ 6 [(0, .ref (τ.1 0)), (1, .ref (τ.1 (3000 + q))), (2, .int x), (3, .int (nI sm)), (4, .int (nI (i + 1)))] from ⟨rfl, ⟨by omega, fun j h9 h8 => by by_cases h7 : j = i; (subst h7; exact absurd hxi h8); exact hpj j (by omega) h8, by simp only [zSm, zIf]; rw [if_pos hxi, Nat.add_zero]; exact hsm⟩, hH, hS, lv_sub hl [1, 2, 3, 4, 0] rfl⟩)
    · have zc103 := c103
      replace zc103 := zc_neq (nI_toInt (by omega)) (rfl) zc103
      have hxi : ¬ x = nI i := fun h9 => zc103 (by rw [h9, nI_toInt (by omega)])
      refine lv_aload_n hx hb dX11_totalBut_20 rfl (lv_at hl 0 rfl) ?_
      refine lv_aload_n hx hb dX11_totalBut_21 rfl (lv_at hl 1 rfl) ?_
      refine zGetR (D := D) (ci := 2) (C := RX2) (T := TX2) (N := 10) hx hb hts hiX2 hown hH hL.1.1 rfl 0 (by decide) rfl hw2 (fun _ h9 => h9) dX11_totalBut_22 hL.2.2.1 ?_
      refine lv_iload hx hb dX11_totalBut_25 (lv_at hl 4 rfl) ?_
      refine zIaldN (D := D) hx hb hH hL.1.2.1 hL.2.1.1 (by omega) (by omega) (hLw.2.2 i (by omega)).1 dX11_totalBut_27 ?_
      refine va_callq (va_runV (As := [.int (nI (lc i))]) (rest := []) ⟨hx, hb, hml, hown, hts⟩ (c_soldN l hl0 D A sad τ fi fr ol (lc i) ((hLw.2.2 i (by omega)).2.1) hF n hT td cd pN hPk) (cwV 1 hts gX11_totalBut_X11_soldToday rfl rfl rfl (by decide +kernel) ⟨Nat.le_of_ble_eq_true rfl, Nat.le_of_ble_eq_true rfl⟩) ⟨zQc_bl, zRecv hH (zk_0 hF) rfl, zQc_at hz hS hA hH⟩ rfl rfl hl.1 rfl (lv_room (Nat.le_of_ble_eq_true rfl)) dX11_totalBut_28 ⟨Nat.le_of_ble_eq_true rfl, Nat.le_of_ble_eq_true rfl⟩) hS (fun q _ h => h) (fun q h => h) (fun r104 u9 t9 H1 locs ht9 hvm9 hw hB hz1 hk1 hS => ?_)
      have hH := zMv ht9 hvm9 hB
      generalize H1 = H at hH hS ⊢
      rcases hw with ⟨hpz, rfl⟩ | ⟨t105, ht105, hpe, hpp, rfl⟩
      · skip
        refine lv_astoreN (lv' := [(5, .null), (0, .ref (τ.1 0)), (1, .ref (τ.1 (3000 + q))), (2, .int x), (3, .int (nI sm)), (4, .int (nI i))]) hx hb dX11_totalBut_31 hl (by decide) rfl (fun ls hl => ?_)
        refine lv_aloadN hx hb dX11_totalBut_33 (lv_at hl 0 rfl) ?_
        refine lv_ifnonnullN hx hb dX11_totalBut_35 ?_
        refine lv_iconst (v := (-1)) hx hb dX11_totalBut_38 (by decide) ?_
        refine W.widen (k := 0) (n := 0) (by decide) (by decide) ?_
        exact W.iret (v := (-1)) hx hb hr (fun t9 ht9 hW9 => ⟨⟨(-1), (), rfl, Or.inl ⟨rfl, i, by omega, hxi, hpz⟩, zEnd1 hH ht9 hW9⟩, hS.F ht9⟩) hS.2.2 dX11_totalBut_39
      · skip
        refine lv_astore (lv' := [(5, .ref (τ.1 (300 + t105))), (0, .ref (τ.1 0)), (1, .ref (τ.1 (3000 + q))), (2, .int x), (3, .int (nI sm)), (4, .int (nI i))]) hx hb dX11_totalBut_31 hl (by decide) rfl (fun ls hl => ?_)
        refine lv_aload hx hb dX11_totalBut_33 (lv_at hl 0 rfl) ?_
        refine lv_ifnonnull (tgt := 40) hx hb dX11_totalBut_35 (by decide) ?_
        refine lv_iload_n hx hb dX11_totalBut_40 rfl (lv_at hl 4 rfl) ?_
        refine lv_aload hx hb dX11_totalBut_41 (lv_at hl 0 rfl) ?_
        refine lv_aload_n hx hb dX11_totalBut_43 rfl (lv_at hl 1 rfl) ?_
        refine zGetI (D := D) (ci := 11) (C := RX11) (T := TX11) (N := 16) hx hb hts hiX11 hown hH (zk_0 hF) rfl 15 (by decide) rfl hw4 (fun _ h9 => h9) dX11_totalBut_44 hPk.1 ?_
        obtain ⟨k106, h4k106, h0k106, hmk106⟩ := (hPk.2.2.2 t105 (by omega)).2.2.2.1
        refine va_calli (va_runV (As := [.int (nI td)]) (rest := [.int (nI sm)]) ⟨hx, hb, hml, hown, hts⟩ (c_moneyOn l hl0 D A sad τ fi fr ol (nI td) n hT t105 k106 (by omega) h0k106 h4k106) (cwV 1 hts gX11_totalBut_X8_moneyOn rfl rfl rfl (by decide +kernel) ⟨Nat.le_of_ble_eq_true rfl, Nat.le_of_ble_eq_true rfl⟩) ⟨zQc_bl, zRecv hH (hT.2.2.1 t105 (by omega)).1.1 rfl, zQc_at hz hS hA hH⟩ rfl rfl hl.1 rfl (lv_room (Nat.le_of_ble_eq_true rfl)) dX11_totalBut_47 ⟨Nat.le_of_ble_eq_true rfl, Nat.le_of_ble_eq_true rfl⟩) hS (fun q _ h => h) (fun q h => h) (fun r107 u9 t9 H1 locs ht9 hvm9 hw hB hz1 hk1 hS => ?_)
        have hH := zMv ht9 hvm9 hB
        generalize H1 = H at hH hS ⊢
        have hcok106 := zPv_or (hw.uni hmk106)
        clear hw
        have hcbk106 := (hPk.2.2.2 t105 (by omega)).2.2.1
        rcases hcok106 with ⟨hzk106, -⟩ | ⟨hzk106, rfl⟩
        · exact absurd hzk106 (by omega)
        refine lv_aload_n hx hb dX11_totalBut_50 rfl (lv_at hl 2 rfl) ?_
        refine zGetR (D := D) (ci := 2) (C := RX2) (T := TX2) (N := 10) hx hb hts hiX2 hown hH hL.1.1 rfl 1 (by decide) rfl hw5 (fun _ h9 => h9) dX11_totalBut_51 hL.2.2.2 ?_
        refine lv_iload hx hb dX11_totalBut_54 (lv_at hl 5 rfl) ?_
        refine zIaldN (D := D) hx hb hH hL.1.2.2 hL.2.1.2 (by omega) (by omega) (hLw.2.2 i (by omega)).2.2.1 dX11_totalBut_56 ?_
        refine lv_imul hx hb dX11_totalBut_57 ?_
        refine lv_topi (fun v108 ev108 => ?_)
        obtain rfl : v108 = nI ((pN t105) * (mn i)) := ev108.trans (pk_mul _ _)
        refine lv_iadd hx hb dX11_totalBut_58 ?_
        refine lv_topi (fun v109 ev109 => ?_)
        obtain rfl : v109 = nI (sm + (pN t105) * (mn i)) := ev109.trans (nI_add _ _)
        refine lv_istore_n (lv' := [(3, .int (nI (sm + (pN t105) * (mn i)))), (5, .ref (τ.1 (300 + t105))), (0, .ref (τ.1 0)), (1, .ref (τ.1 (3000 + q))), (2, .int x), (4, .int (nI i))]) hx hb dX11_totalBut_59 rfl hl (by decide) rfl (fun ls hl => ?_)
        refine lv_iinc (v := nI (i + 1)) (lv' := [(4, .int (nI (i + 1))), (3, .int (nI (sm + (pN t105) * (mn i)))), (5, .ref (τ.1 (300 + t105))), (0, .ref (τ.1 0)), (1, .ref (τ.1 (3000 + q))), (2, .int x)]) hx hb dX11_totalBut_60 hl (k := 5) rfl (by rw [show (Int32.ofInt 1 : Int32) = nI 1 from by decide, nI_add]) (by decide) rfl (fun ls hl => ?_)
        refine lv_goto (tgt := 5) hx hb dX11_totalBut_63 (by decide) ?_
        exact ih101 (l0 - (i + 1)) (by omega) (i + 1, sm + (pN t105) * (mn i)) _ _ _ (show l0 - (i + 1) = l0 - (i + 1) ∧ ((i + 1) ≤ l0 ∧ (∀ j, j < (i + 1) → ¬ x = nI j → 0 < zPo cd pN n (lc j)) ∧ (sm + (pN t105) * (mn i)) = zSm (fun j => zIf x 0 (fun j => zPo cd pN n (lc j) * mn j) j) (i + 1)) ∧ zH D A τ fi fr ol s _ ∧ va_S A s.heap _ _ ∧ lv_has _ 6 [(0, .ref (τ.1 0)), (1, .ref (τ.1 (3000 + q))), (2, .int x), (3, .int (nI (sm + (pN t105) * (mn i)))), (4, .int (nI (i + 1)))] from ⟨rfl, ⟨by omega, fun j h9 h8 => by by_cases h7 : j = i; (subst h7; rw [hpe]; exact hpp); exact hpj j (by omega) h8, by simp only [zSm, zIf]; rw [if_neg hxi, hpe, hsm]; rfl⟩, hH, hS, lv_sub hl [3, 4, 5, 1, 0] rfl⟩)
set_option maxHeartbeats 4000000 in
set_option maxRecDepth 100000 in
/-- knownLines -/
theorem c_knownN (l : Launch) (hl0 : l.stackTraces = false) (D : va_G) (A : Nat → Prop) (sad : Nat → Nat) (τ : zTy) (fi : zFi) (fr : zFr) (ol : Int64) (hF : zFix τ fr) (n : Nat) (hT : zTh τ fi fr n) (td : Nat) (cd pN : Nat → Nat) (hPk : zqPk fi n td cd pN) (q : Nat) (hq5 : q ≤ 512) (hL : zLk τ fr q) (l0 : Nat) (lc mn : Nat → Nat) (hLw : zqLw fi q l0 lc mn) : Met l yX11_knownLines wsX11_knownLines ({ frames := 3, cells := 0, slots := 0, locals := 66 }) (va_Pc [.ref (τ.1 0), .ref (τ.1 (3000 + q))] (zQc D A sad τ fi fr ol)) (va_Qi (fun (r : Int32) (u : Unit) => r = nI (zCn (fun j => zPo cd pN n (lc j)) l0)) (fun (u : Unit) (t : State) => zH D A τ fi fr ol t t.heap) A) 0 0 A := by
  refine Met.ofW (cc := cX11_knownLines) (maxL := 4) (ret := (some .int)) (by decide) rfl ?_
  intro p9 e9 s m args below meth c9 s₁ B hml hv
  obtain ⟨rfl, hz, hH, hA⟩ := hv
  have hx := B.exec
  have hb := B.bytes
  have hr := B.returns
  have hts := atoms_spec (ws := wsX11_knownLines) B.pre
  have hown : s.vm.findClass RX11 = some m.cls := findClass_of_methodNamed B.named
  have hlocks := B.notSynchronized
  have hS : va_S A s.heap s.heap [] := va_S.rf
  have hl := lv_entry ([.ref (τ.1 0), .ref (τ.1 (3000 + q))]) (n := 4) (Nat.le_of_ble_eq_true rfl)
  rw [lg_entry_eq]
  generalize (lg_sl ([.ref (τ.1 0), .ref (τ.1 (3000 + q))]) ++ List.replicate (4 - (lg_sl ([.ref (τ.1 0), .ref (τ.1 (3000 + q))])).length) Slot.unset).toArray = ls at hl ⊢
  have hl : lv_has ls 4 [(0, .ref (τ.1 0)), (1, .ref (τ.1 (3000 + q)))] := hl
  have hn30 := hT.1
  have hl8 := hLw.1
  have hiX2 : ∀ w ∈ u_ws RX2 TX2 10, w ∈ wsX11_knownLines := fun _ h => List.mem_cons_of_mem _ (List.mem_append_left _ (List.mem_append_left _ (List.mem_append_left _ (List.mem_append_right _ h))))
  have hw1 := hts (.fieldLink RX11 228 "PostHouse$Letter" "lines" "I") (by decide +kernel)
  have hw2 := hts (.fieldLink RX11 459 "PostHouse$Letter" "codes" "[I") (by decide +kernel)
  refine lv_iconst (v := nI 0) hx hb dX11_knownLines_0 (by decide) ?_
  refine lv_istore_n (lv' := [(2, .int (nI 0)), (0, .ref (τ.1 0)), (1, .ref (τ.1 (3000 + q)))]) hx hb dX11_knownLines_1 rfl hl (by decide) rfl (fun ls hl => ?_)
  refine lv_iconst (v := nI 0) hx hb dX11_knownLines_2 (by decide) ?_
  refine lv_istore_n (lv' := [(3, .int (nI 0)), (2, .int (nI 0)), (0, .ref (τ.1 0)), (1, .ref (τ.1 (3000 + q)))]) hx hb dX11_knownLines_3 rfl hl (by decide) rfl (fun ls hl => ?_)
  refine zLp (σ := Nat × Nat) (fun x9 k9 H locs ls => (fun (i : Nat) (sm : Nat) => k9 = l0 - i ∧ (i ≤ l0 ∧ sm = zCn (fun j => zPo cd pN n (lc j)) i) ∧ zH D A τ fi fr ol s H ∧ va_S A s.heap H locs ∧ lv_has ls 4 [(0, .ref (τ.1 0)), (1, .ref (τ.1 (3000 + q))), (2, .int (nI sm)), (3, .int (nI i))]) x9.1 x9.2) (0, 0) (l0 - 0) (show l0 - 0 = l0 - 0 ∧ (0 ≤ l0 ∧ 0 = zCn (fun j => zPo cd pN n (lc j)) 0) ∧ zH D A τ fi fr ol s _ ∧ va_S A s.heap _ _ ∧ lv_has _ 4 [(0, .ref (τ.1 0)), (1, .ref (τ.1 (3000 + q))), (2, .int (nI 0)), (3, .int (nI 0))] from ⟨rfl, ⟨Nat.zero_le _, rfl⟩, hH, hS, lv_sub hl [2, 3, 1, 0] rfl⟩) (fun k9 ih x9 H locs ls hv9 => ?_)
  obtain ⟨i, sm⟩ := x9
  have hv9 : k9 = l0 - i ∧ (i ≤ l0 ∧ sm = zCn (fun j => zPo cd pN n (lc j)) i) ∧ zH D A τ fi fr ol s H ∧ va_S A s.heap H locs ∧ lv_has ls 4 [(0, .ref (τ.1 0)), (1, .ref (τ.1 (3000 + q))), (2, .int (nI sm)), (3, .int (nI i))] := hv9
  obtain ⟨hkih101, hv9, hH, hS, hl⟩ := hv9
  obtain ⟨h1, hsm⟩ := hv9
  have ih101 := ih
  clear ih
  refine lv_iload_n hx hb dX11_knownLines_4 rfl (lv_at hl 3 rfl) ?_
  refine lv_aload_n hx hb dX11_knownLines_5 rfl (lv_at hl 1 rfl) ?_
  refine zGetI (D := D) (ci := 2) (C := RX2) (T := TX2) (N := 10) hx hb hts hiX2 hown hH hL.1.1 rfl 2 (by decide) rfl hw1 (fun _ h9 => h9) dX11_knownLines_6 hLw.2.1 ?_
  refine lv_icmp_ge (tgt := 34) hx hb dX11_knownLines_9 (by decide) (fun c102 => ?_) (fun c102 => ?_)
  · have zc102 := c102
    replace zc102 := zc_le (nI_toInt (by omega)) (nI_toInt (by omega)) zc102
    refine lv_iload_n hx hb dX11_knownLines_34 rfl (lv_at hl 2 rfl) ?_
    refine W.widen (k := 0) (n := 0) (by decide) (by decide) ?_
    exact W.iret (v := nI sm) hx hb hr (fun t9 ht9 hW9 => ⟨⟨nI sm, (), rfl, by rw [show l0 = i by omega, ← hsm], zEnd1 hH ht9 hW9⟩, hS.F ht9⟩) hS.2.2 dX11_knownLines_35
  · have zc102 := c102
    replace zc102 := zc_nle (nI_toInt (by omega)) (nI_toInt (by omega)) zc102
    refine lv_aload_n hx hb dX11_knownLines_12 rfl (lv_at hl 0 rfl) ?_
    refine lv_aload_n hx hb dX11_knownLines_13 rfl (lv_at hl 1 rfl) ?_
    refine zGetR (D := D) (ci := 2) (C := RX2) (T := TX2) (N := 10) hx hb hts hiX2 hown hH hL.1.1 rfl 0 (by decide) rfl hw2 (fun _ h9 => h9) dX11_knownLines_14 hL.2.2.1 ?_
    refine lv_iload_n hx hb dX11_knownLines_17 rfl (lv_at hl 3 rfl) ?_
    refine zIaldN (D := D) hx hb hH hL.1.2.1 hL.2.1.1 (by omega) (by omega) (hLw.2.2 i (by omega)).1 dX11_knownLines_18 ?_
    refine va_callq (va_runV (As := [.int (nI (lc i))]) (rest := []) ⟨hx, hb, hml, hown, hts⟩ (c_soldN l hl0 D A sad τ fi fr ol (lc i) ((hLw.2.2 i (by omega)).2.1) hF n hT td cd pN hPk) (cwV 1 hts gX11_knownLines_X11_soldToday rfl rfl rfl (by decide +kernel) ⟨Nat.le_of_ble_eq_true rfl, Nat.le_of_ble_eq_true rfl⟩) ⟨zQc_bl, zRecv hH (zk_0 hF) rfl, zQc_at hz hS hA hH⟩ rfl rfl hl.1 rfl (lv_room (Nat.le_of_ble_eq_true rfl)) dX11_knownLines_19 ⟨Nat.le_of_ble_eq_true rfl, Nat.le_of_ble_eq_true rfl⟩) hS (fun q _ h => h) (fun q h => h) (fun r103 u9 t9 H1 locs ht9 hvm9 hw hB hz1 hk1 hS => ?_)
    have hH := zMv ht9 hvm9 hB
    generalize H1 = H at hH hS ⊢
    rcases hw with ⟨hpz, rfl⟩ | ⟨t104, ht104, hpe, hpp, rfl⟩
    · skip
      refine lv_ifnullN (tgt := 28) hx hb dX11_knownLines_22 (by decide) ?_
      refine lv_iinc (v := nI (i + 1)) (lv' := [(3, .int (nI (i + 1))), (0, .ref (τ.1 0)), (1, .ref (τ.1 (3000 + q))), (2, .int (nI sm))]) hx hb dX11_knownLines_28 hl (k := 3) rfl (by rw [show (Int32.ofInt 1 : Int32) = nI 1 from by decide, nI_add]) (by decide) rfl (fun ls hl => ?_)
      refine lv_goto (tgt := 4) hx hb dX11_knownLines_31 (by decide) ?_
      exact ih101 (l0 - (i + 1)) (by omega) (i + 1, sm) _ _ _ (show l0 - (i + 1) = l0 - (i + 1) ∧ ((i + 1) ≤ l0 ∧ sm = zCn (fun j => zPo cd pN n (lc j)) (i + 1)) ∧ zH D A τ fi fr ol s _ ∧ va_S A s.heap _ _ ∧ lv_has _ 4 [(0, .ref (τ.1 0)), (1, .ref (τ.1 (3000 + q))), (2, .int (nI sm)), (3, .int (nI (i + 1)))] from ⟨rfl, ⟨by omega, by simp only [zCn]; rw [← hsm, if_pos hpz, Nat.add_zero]⟩, hH, hS, lv_sub hl [1, 2, 3, 0] rfl⟩)
    · skip
      refine lv_ifnull hx hb dX11_knownLines_22 ?_
      refine lv_iinc (v := nI (sm + 1)) (lv' := [(2, .int (nI (sm + 1))), (0, .ref (τ.1 0)), (1, .ref (τ.1 (3000 + q))), (3, .int (nI i))]) hx hb dX11_knownLines_25 hl (k := 2) rfl (by rw [show (Int32.ofInt 1 : Int32) = nI 1 from by decide, nI_add]) (by decide) rfl (fun ls hl => ?_)
      refine lv_iinc (v := nI (i + 1)) (lv' := [(3, .int (nI (i + 1))), (2, .int (nI (sm + 1))), (0, .ref (τ.1 0)), (1, .ref (τ.1 (3000 + q)))]) hx hb dX11_knownLines_28 hl (k := 3) rfl (by rw [show (Int32.ofInt 1 : Int32) = nI 1 from by decide, nI_add]) (by decide) rfl (fun ls hl => ?_)
      refine lv_goto (tgt := 4) hx hb dX11_knownLines_31 (by decide) ?_
      exact ih101 (l0 - (i + 1)) (by omega) (i + 1, sm + 1) _ _ _ (show l0 - (i + 1) = l0 - (i + 1) ∧ ((i + 1) ≤ l0 ∧ (sm + 1) = zCn (fun j => zPo cd pN n (lc j)) (i + 1)) ∧ zH D A τ fi fr ol s _ ∧ va_S A s.heap _ _ ∧ lv_has _ 4 [(0, .ref (τ.1 0)), (1, .ref (τ.1 (3000 + q))), (2, .int (nI (sm + 1))), (3, .int (nI (i + 1)))] from ⟨rfl, ⟨by omega, by simp only [zCn]; rw [← hsm, if_neg (by rw [hpe]; omega)]⟩, hH, hS, lv_sub hl [2, 3, 1, 0] rfl⟩)
set_option maxHeartbeats 4000000 in
set_option maxRecDepth 100000 in
/-- totalOfKnown -/
theorem c_totalOfN (l : Launch) (hl0 : l.stackTraces = false) (D : va_G) (A : Nat → Prop) (sad : Nat → Nat) (τ : zTy) (fi : zFi) (fr : zFr) (ol : Int64) (hF : zFix τ fr) (n : Nat) (hT : zTh τ fi fr n) (td : Nat) (cd pN : Nat → Nat) (hPk : zqPk fi n td cd pN) (q : Nat) (hq5 : q ≤ 512) (hL : zLk τ fr q) (l0 : Nat) (lc mn : Nat → Nat) (hLw : zqLw fi q l0 lc mn) : Met l yX11_totalOfKnown wsX11_totalOfKnown ({ frames := 3, cells := 0, slots := 0, locals := 66 }) (va_Pc [.ref (τ.1 0), .ref (τ.1 (3000 + q))] (zQc D A sad τ fi fr ol)) (va_Qi (fun (r : Int32) (u : Unit) => r = nI (zSm (fun j => zPo cd pN n (lc j) * mn j) l0)) (fun (u : Unit) (t : State) => zH D A τ fi fr ol t t.heap) A) 0 0 A := by
  refine Met.ofW (cc := cX11_totalOfKnown) (maxL := 5) (ret := (some .int)) (by decide) rfl ?_
  intro p9 e9 s m args below meth c9 s₁ B hml hv
  obtain ⟨rfl, hz, hH, hA⟩ := hv
  have hx := B.exec
  have hb := B.bytes
  have hr := B.returns
  have hts := atoms_spec (ws := wsX11_totalOfKnown) B.pre
  have hown : s.vm.findClass RX11 = some m.cls := findClass_of_methodNamed B.named
  have hlocks := B.notSynchronized
  have hS : va_S A s.heap s.heap [] := va_S.rf
  have hl := lv_entry ([.ref (τ.1 0), .ref (τ.1 (3000 + q))]) (n := 5) (Nat.le_of_ble_eq_true rfl)
  rw [lg_entry_eq]
  generalize (lg_sl ([.ref (τ.1 0), .ref (τ.1 (3000 + q))]) ++ List.replicate (5 - (lg_sl ([.ref (τ.1 0), .ref (τ.1 (3000 + q))])).length) Slot.unset).toArray = ls at hl ⊢
  have hl : lv_has ls 5 [(0, .ref (τ.1 0)), (1, .ref (τ.1 (3000 + q)))] := hl
  have hn30 := hT.1
  have hl8 := hLw.1
  have hiX2 : ∀ w ∈ u_ws RX2 TX2 10, w ∈ wsX11_totalOfKnown := fun _ h => List.mem_cons_of_mem _ (List.mem_append_left _ (List.mem_append_left _ (List.mem_append_left _ (List.mem_append_right _ h))))
  have hw1 := hts (.fieldLink RX11 228 "PostHouse$Letter" "lines" "I") (by decide +kernel)
  have hw2 := hts (.fieldLink RX11 459 "PostHouse$Letter" "codes" "[I") (by decide +kernel)
  have hiX11 : ∀ w ∈ u_ws RX11 TX11 16, w ∈ wsX11_totalOfKnown := fun _ h => List.mem_cons_of_mem _ (List.mem_append_left _ (List.mem_append_left _ (List.mem_append_right _ h)))
  have hw4 := hts (.fieldLink RX11 136 "PostHouse" "today" "I") (by decide +kernel)
  have hw5 := hts (.fieldLink RX11 475 "PostHouse$Letter" "pieces" "[I") (by decide +kernel)
  refine lv_iconst (v := nI 0) hx hb dX11_totalOfKnown_0 (by decide) ?_
  refine lv_istore_n (lv' := [(2, .int (nI 0)), (0, .ref (τ.1 0)), (1, .ref (τ.1 (3000 + q)))]) hx hb dX11_totalOfKnown_1 rfl hl (by decide) rfl (fun ls hl => ?_)
  refine lv_iconst (v := nI 0) hx hb dX11_totalOfKnown_2 (by decide) ?_
  refine lv_istore_n (lv' := [(3, .int (nI 0)), (2, .int (nI 0)), (0, .ref (τ.1 0)), (1, .ref (τ.1 (3000 + q)))]) hx hb dX11_totalOfKnown_3 rfl hl (by decide) rfl (fun ls hl => ?_)
  refine zLp (σ := Nat × Nat) (fun x9 k9 H locs ls => (fun (i : Nat) (sm : Nat) => k9 = l0 - i ∧ (i ≤ l0 ∧ sm = zSm (fun j => zPo cd pN n (lc j) * mn j) i) ∧ zH D A τ fi fr ol s H ∧ va_S A s.heap H locs ∧ lv_has ls 5 [(0, .ref (τ.1 0)), (1, .ref (τ.1 (3000 + q))), (2, .int (nI sm)), (3, .int (nI i))]) x9.1 x9.2) (0, 0) (l0 - 0) (show l0 - 0 = l0 - 0 ∧ (0 ≤ l0 ∧ 0 = zSm (fun j => zPo cd pN n (lc j) * mn j) 0) ∧ zH D A τ fi fr ol s _ ∧ va_S A s.heap _ _ ∧ lv_has _ 5 [(0, .ref (τ.1 0)), (1, .ref (τ.1 (3000 + q))), (2, .int (nI 0)), (3, .int (nI 0))] from ⟨rfl, ⟨Nat.zero_le _, rfl⟩, hH, hS, lv_sub hl [2, 3, 1, 0] rfl⟩) (fun k9 ih x9 H locs ls hv9 => ?_)
  obtain ⟨i, sm⟩ := x9
  have hv9 : k9 = l0 - i ∧ (i ≤ l0 ∧ sm = zSm (fun j => zPo cd pN n (lc j) * mn j) i) ∧ zH D A τ fi fr ol s H ∧ va_S A s.heap H locs ∧ lv_has ls 5 [(0, .ref (τ.1 0)), (1, .ref (τ.1 (3000 + q))), (2, .int (nI sm)), (3, .int (nI i))] := hv9
  obtain ⟨hkih101, hv9, hH, hS, hl⟩ := hv9
  obtain ⟨h1, hsm⟩ := hv9
  have ih101 := ih
  clear ih
  refine lv_iload_n hx hb dX11_totalOfKnown_4 rfl (lv_at hl 3 rfl) ?_
  refine lv_aload_n hx hb dX11_totalOfKnown_5 rfl (lv_at hl 1 rfl) ?_
  refine zGetI (D := D) (ci := 2) (C := RX2) (T := TX2) (N := 10) hx hb hts hiX2 hown hH hL.1.1 rfl 2 (by decide) rfl hw1 (fun _ h9 => h9) dX11_totalOfKnown_6 hLw.2.1 ?_
  refine lv_icmp_ge (tgt := 54) hx hb dX11_totalOfKnown_9 (by decide) (fun c102 => ?_) (fun c102 => ?_)
  · have zc102 := c102
    replace zc102 := zc_le (nI_toInt (by omega)) (nI_toInt (by omega)) zc102
    refine lv_iload_n hx hb dX11_totalOfKnown_54 rfl (lv_at hl 2 rfl) ?_
    refine W.widen (k := 0) (n := 0) (by decide) (by decide) ?_
    exact W.iret (v := nI sm) hx hb hr (fun t9 ht9 hW9 => ⟨⟨nI sm, (), rfl, by rw [show l0 = i by omega, ← hsm], zEnd1 hH ht9 hW9⟩, hS.F ht9⟩) hS.2.2 dX11_totalOfKnown_55
  · have zc102 := c102
    replace zc102 := zc_nle (nI_toInt (by omega)) (nI_toInt (by omega)) zc102
    refine lv_aload_n hx hb dX11_totalOfKnown_12 rfl (lv_at hl 0 rfl) ?_
    refine lv_aload_n hx hb dX11_totalOfKnown_13 rfl (lv_at hl 1 rfl) ?_
    refine zGetR (D := D) (ci := 2) (C := RX2) (T := TX2) (N := 10) hx hb hts hiX2 hown hH hL.1.1 rfl 0 (by decide) rfl hw2 (fun _ h9 => h9) dX11_totalOfKnown_14 hL.2.2.1 ?_
    refine lv_iload_n hx hb dX11_totalOfKnown_17 rfl (lv_at hl 3 rfl) ?_
    refine zIaldN (D := D) hx hb hH hL.1.2.1 hL.2.1.1 (by omega) (by omega) (hLw.2.2 i (by omega)).1 dX11_totalOfKnown_18 ?_
    refine va_callq (va_runV (As := [.int (nI (lc i))]) (rest := []) ⟨hx, hb, hml, hown, hts⟩ (c_soldN l hl0 D A sad τ fi fr ol (lc i) ((hLw.2.2 i (by omega)).2.1) hF n hT td cd pN hPk) (cwV 1 hts gX11_totalOfKnown_X11_soldToday rfl rfl rfl (by decide +kernel) ⟨Nat.le_of_ble_eq_true rfl, Nat.le_of_ble_eq_true rfl⟩) ⟨zQc_bl, zRecv hH (zk_0 hF) rfl, zQc_at hz hS hA hH⟩ rfl rfl hl.1 rfl (lv_room (Nat.le_of_ble_eq_true rfl)) dX11_totalOfKnown_19 ⟨Nat.le_of_ble_eq_true rfl, Nat.le_of_ble_eq_true rfl⟩) hS (fun q _ h => h) (fun q h => h) (fun r103 u9 t9 H1 locs ht9 hvm9 hw hB hz1 hk1 hS => ?_)
    have hH := zMv ht9 hvm9 hB
    generalize H1 = H at hH hS ⊢
    rcases hw with ⟨hpz, rfl⟩ | ⟨t104, ht104, hpe, hpp, rfl⟩
    · skip
      refine lv_astoreN (lv' := [(4, .null), (0, .ref (τ.1 0)), (1, .ref (τ.1 (3000 + q))), (2, .int (nI sm)), (3, .int (nI i))]) hx hb dX11_totalOfKnown_22 hl (by decide) rfl (fun ls hl => ?_)
      refine lv_aloadN hx hb dX11_totalOfKnown_24 (lv_at hl 0 rfl) ?_
      refine lv_ifnullN (tgt := 48) hx hb dX11_totalOfKnown_26 (by decide) ?_
      refine lv_iinc (v := nI (i + 1)) (lv' := [(3, .int (nI (i + 1))), (4, .null), (0, .ref (τ.1 0)), (1, .ref (τ.1 (3000 + q))), (2, .int (nI sm))]) hx hb dX11_totalOfKnown_48 hl (k := 4) rfl (by rw [show (Int32.ofInt 1 : Int32) = nI 1 from by decide, nI_add]) (by decide) rfl (fun ls hl => ?_)
      refine lv_goto (tgt := 4) hx hb dX11_totalOfKnown_51 (by decide) ?_
      exact ih101 (l0 - (i + 1)) (by omega) (i + 1, sm) _ _ _ (show l0 - (i + 1) = l0 - (i + 1) ∧ ((i + 1) ≤ l0 ∧ sm = zSm (fun j => zPo cd pN n (lc j) * mn j) (i + 1)) ∧ zH D A τ fi fr ol s _ ∧ va_S A s.heap _ _ ∧ lv_has _ 5 [(0, .ref (τ.1 0)), (1, .ref (τ.1 (3000 + q))), (2, .int (nI sm)), (3, .int (nI (i + 1)))] from ⟨rfl, ⟨by omega, by simp only [zSm]; rw [← hsm, hpz, Nat.zero_mul, Nat.add_zero]⟩, hH, hS, lv_sub hl [2, 3, 4, 0] rfl⟩)
    · skip
      refine lv_astore (lv' := [(4, .ref (τ.1 (300 + t104))), (0, .ref (τ.1 0)), (1, .ref (τ.1 (3000 + q))), (2, .int (nI sm)), (3, .int (nI i))]) hx hb dX11_totalOfKnown_22 hl (by decide) rfl (fun ls hl => ?_)
      refine lv_aload hx hb dX11_totalOfKnown_24 (lv_at hl 0 rfl) ?_
      refine lv_ifnull hx hb dX11_totalOfKnown_26 ?_
      refine lv_iload_n hx hb dX11_totalOfKnown_29 rfl (lv_at hl 3 rfl) ?_
      refine lv_aload hx hb dX11_totalOfKnown_30 (lv_at hl 0 rfl) ?_
      refine lv_aload_n hx hb dX11_totalOfKnown_32 rfl (lv_at hl 1 rfl) ?_
      refine zGetI (D := D) (ci := 11) (C := RX11) (T := TX11) (N := 16) hx hb hts hiX11 hown hH (zk_0 hF) rfl 15 (by decide) rfl hw4 (fun _ h9 => h9) dX11_totalOfKnown_33 hPk.1 ?_
      obtain ⟨k105, h4k105, h0k105, hmk105⟩ := (hPk.2.2.2 t104 (by omega)).2.2.2.1
      refine va_calli (va_runV (As := [.int (nI td)]) (rest := [.int (nI sm)]) ⟨hx, hb, hml, hown, hts⟩ (c_moneyOn l hl0 D A sad τ fi fr ol (nI td) n hT t104 k105 (by omega) h0k105 h4k105) (cwV 1 hts gX11_totalOfKnown_X8_moneyOn rfl rfl rfl (by decide +kernel) ⟨Nat.le_of_ble_eq_true rfl, Nat.le_of_ble_eq_true rfl⟩) ⟨zQc_bl, zRecv hH (hT.2.2.1 t104 (by omega)).1.1 rfl, zQc_at hz hS hA hH⟩ rfl rfl hl.1 rfl (lv_room (Nat.le_of_ble_eq_true rfl)) dX11_totalOfKnown_36 ⟨Nat.le_of_ble_eq_true rfl, Nat.le_of_ble_eq_true rfl⟩) hS (fun q _ h => h) (fun q h => h) (fun r106 u9 t9 H1 locs ht9 hvm9 hw hB hz1 hk1 hS => ?_)
      have hH := zMv ht9 hvm9 hB
      generalize H1 = H at hH hS ⊢
      have hcok105 := zPv_or (hw.uni hmk105)
      clear hw
      have hcbk105 := (hPk.2.2.2 t104 (by omega)).2.2.1
      rcases hcok105 with ⟨hzk105, -⟩ | ⟨hzk105, rfl⟩
      · exact absurd hzk105 (by omega)
      refine lv_aload_n hx hb dX11_totalOfKnown_39 rfl (lv_at hl 2 rfl) ?_
      refine zGetR (D := D) (ci := 2) (C := RX2) (T := TX2) (N := 10) hx hb hts hiX2 hown hH hL.1.1 rfl 1 (by decide) rfl hw5 (fun _ h9 => h9) dX11_totalOfKnown_40 hL.2.2.2 ?_
      refine lv_iload_n hx hb dX11_totalOfKnown_43 rfl (lv_at hl 4 rfl) ?_
      refine zIaldN (D := D) hx hb hH hL.1.2.2 hL.2.1.2 (by omega) (by omega) (hLw.2.2 i (by omega)).2.2.1 dX11_totalOfKnown_44 ?_
      refine lv_imul hx hb dX11_totalOfKnown_45 ?_
      refine lv_topi (fun v107 ev107 => ?_)
      obtain rfl : v107 = nI ((pN t104) * (mn i)) := ev107.trans (pk_mul _ _)
      refine lv_iadd hx hb dX11_totalOfKnown_46 ?_
      refine lv_topi (fun v108 ev108 => ?_)
      obtain rfl : v108 = nI (sm + (pN t104) * (mn i)) := ev108.trans (nI_add _ _)
      refine lv_istore_n (lv' := [(2, .int (nI (sm + (pN t104) * (mn i)))), (4, .ref (τ.1 (300 + t104))), (0, .ref (τ.1 0)), (1, .ref (τ.1 (3000 + q))), (3, .int (nI i))]) hx hb dX11_totalOfKnown_47 rfl hl (by decide) rfl (fun ls hl => ?_)
      refine lv_iinc (v := nI (i + 1)) (lv' := [(3, .int (nI (i + 1))), (2, .int (nI (sm + (pN t104) * (mn i)))), (4, .ref (τ.1 (300 + t104))), (0, .ref (τ.1 0)), (1, .ref (τ.1 (3000 + q)))]) hx hb dX11_totalOfKnown_48 hl (k := 4) rfl (by rw [show (Int32.ofInt 1 : Int32) = nI 1 from by decide, nI_add]) (by decide) rfl (fun ls hl => ?_)
      refine lv_goto (tgt := 4) hx hb dX11_totalOfKnown_51 (by decide) ?_
      exact ih101 (l0 - (i + 1)) (by omega) (i + 1, sm + (pN t104) * (mn i)) _ _ _ (show l0 - (i + 1) = l0 - (i + 1) ∧ ((i + 1) ≤ l0 ∧ (sm + (pN t104) * (mn i)) = zSm (fun j => zPo cd pN n (lc j) * mn j) (i + 1)) ∧ zH D A τ fi fr ol s _ ∧ va_S A s.heap _ _ ∧ lv_has _ 5 [(0, .ref (τ.1 0)), (1, .ref (τ.1 (3000 + q))), (2, .int (nI (sm + (pN t104) * (mn i)))), (3, .int (nI (i + 1)))] from ⟨rfl, ⟨by omega, by simp only [zSm]; rw [← hsm, hpe]⟩, hH, hS, lv_sub hl [3, 4, 1, 0] rfl⟩)
set_option maxHeartbeats 4000000 in
set_option maxRecDepth 100000 in
/-- isPaid -/
theorem c_isPaidN (l : Launch) (hl0 : l.stackTraces = false) (D : va_G) (A : Nat → Prop) (sad : Nat → Nat) (τ : zTy) (fi : zFi) (fr : zFr) (ol : Int64) (hF : zFix τ fr) (n : Nat) (hT : zTh τ fi fr n) (td : Nat) (cd pN : Nat → Nat) (hPk : zqPk fi n td cd pN) (q : Nat) (hq5 : q ≤ 512) (hL : zLk τ fr q) (l0 : Nat) (lc mn : Nat → Nat) (hLw : zqLw fi q l0 lc mn) : Met l yX11_isPaid wsX11_isPaid ({ frames := 4, cells := 0, slots := 0, locals := 90 }) (va_Pc [.ref (τ.1 0), .ref (τ.1 (3000 + q))] (zQc D A sad τ fi fr ol)) (va_Qi (fun (r : Int32) (u : Unit) => (r = 1 ∧ (0 < zSm (fun j => zPo cd pN n (lc j) * mn j) l0 ∧ (zDue (fi 10) (nI (zSm (fun j => zPo cd pN n (lc j) * mn j) l0))).toInt ≤ (fi (3000 + q) 4).toInt)) ∨ (r = 0 ∧ ¬ (0 < zSm (fun j => zPo cd pN n (lc j) * mn j) l0 ∧ (zDue (fi 10) (nI (zSm (fun j => zPo cd pN n (lc j) * mn j) l0))).toInt ≤ (fi (3000 + q) 4).toInt))) (fun (u : Unit) (t : State) => zH D A τ fi fr ol t t.heap) A) 0 0 A := by
  refine Met.ofW (cc := cX11_isPaid) (maxL := 3) (ret := (some .boolean)) (by decide) rfl ?_
  intro p9 e9 s m args below meth c9 s₁ B hml hv
  obtain ⟨rfl, hz, hH, hA⟩ := hv
  have hx := B.exec
  have hb := B.bytes
  have hr := B.returns
  have hts := atoms_spec (ws := wsX11_isPaid) B.pre
  have hown : s.vm.findClass RX11 = some m.cls := findClass_of_methodNamed B.named
  have hlocks := B.notSynchronized
  have hS : va_S A s.heap s.heap [] := va_S.rf
  have hl := lv_entry ([.ref (τ.1 0), .ref (τ.1 (3000 + q))]) (n := 3) (Nat.le_of_ble_eq_true rfl)
  rw [lg_entry_eq]
  generalize (lg_sl ([.ref (τ.1 0), .ref (τ.1 (3000 + q))]) ++ List.replicate (3 - (lg_sl ([.ref (τ.1 0), .ref (τ.1 (3000 + q))])).length) Slot.unset).toArray = ls at hl ⊢
  have hl : lv_has ls 3 [(0, .ref (τ.1 0)), (1, .ref (τ.1 (3000 + q)))] := hl
  have hn30 := hT.1
  have hl8 := hLw.1
  have hiX2 : ∀ w ∈ u_ws RX2 TX2 10, w ∈ wsX11_isPaid := fun _ h => List.mem_cons_of_mem _ (List.mem_append_left _ (List.mem_append_left _ (List.mem_append_left _ (List.mem_append_left _ (List.mem_append_right _ h)))))
  have hw1 := hts (.fieldLink RX11 237 "PostHouse$Letter" "money" "I") (by decide +kernel)
  have hiX11 : ∀ w ∈ u_ws RX11 TX11 16, w ∈ wsX11_isPaid := fun _ h => List.mem_cons_of_mem _ (List.mem_append_left _ (List.mem_append_left _ (List.mem_append_left _ (List.mem_append_right _ h))))
  have hw3 := hts (.fieldLink RX11 33 "PostHouse" "rules" "LPostHouse$Rules;") (by decide +kernel)
  refine lv_aload_n hx hb dX11_isPaid_0 rfl (lv_at hl 0 rfl) ?_
  refine lv_aload_n hx hb dX11_isPaid_1 rfl (lv_at hl 1 rfl) ?_
  refine va_calli (va_runV (As := [.ref (τ.1 (3000 + q))]) (rest := []) ⟨hx, hb, hml, hown, hts⟩ (c_totalOfN l hl0 D A sad τ fi fr ol hF n hT td cd pN hPk q hq5 hL l0 lc mn hLw) (cwV 1 hts gX11_isPaid_X11_totalOfKnown rfl rfl rfl (by decide +kernel) ⟨Nat.le_of_ble_eq_true rfl, Nat.le_of_ble_eq_true rfl⟩) ⟨zQc_bl, zRecv hH (zk_0 hF) rfl, zQc_at hz hS hA hH⟩ rfl rfl hl.1 rfl (lv_room (Nat.le_of_ble_eq_true rfl)) dX11_isPaid_2 ⟨Nat.le_of_ble_eq_true rfl, Nat.le_of_ble_eq_true rfl⟩) hS (fun q _ h => h) (fun q h => h) (fun r101 u9 t9 H1 locs ht9 hvm9 hw hB hz1 hk1 hS => ?_)
  have hH := zMv ht9 hvm9 hB
  generalize H1 = H at hH hS ⊢
  obtain rfl := hw
  have htb : zSm (fun j => zPo cd pN n (lc j) * mn j) l0 ≤ 7920000 := hLw.bd (fun j _ => Nat.mul_le_mul_right _ hPk.le) (Nat.le_refl l0)
  refine lv_istore_n (lv' := [(2, .int (nI (zSm (fun j => zPo cd pN n (lc j) * mn j) l0))), (0, .ref (τ.1 0)), (1, .ref (τ.1 (3000 + q)))]) hx hb dX11_isPaid_5 rfl hl (by decide) rfl (fun ls hl => ?_)
  refine lv_iload_n hx hb dX11_isPaid_6 rfl (lv_at hl 0 rfl) ?_
  refine lv_if_le (tgt := 31) hx hb dX11_isPaid_7 (by decide) (fun c102 => ?_) (fun c102 => ?_)
  · have zc102 := c102
    replace zc102 := zc_le (nI_toInt (by omega)) ((by decide : (0 : Int32).toInt = 0)) zc102
    refine lv_iconst (v := nI 0) hx hb dX11_isPaid_31 (by decide) ?_
    refine W.widen (k := 0) (n := 0) (by decide) (by decide) ?_
    exact W.zret (v := nI 0) hx hb hr (by decide) (fun t9 ht9 hW9 => ⟨⟨nI 0, (), rfl, Or.inr ⟨rfl, fun h9 => by have h8 := h9.1; have h7 := h9.2; omega⟩, zEnd1 hH ht9 hW9⟩, hS.F ht9⟩) hS.2.2 dX11_isPaid_32
  · have zc102 := c102
    replace zc102 := zc_nle (nI_toInt (by omega)) ((by decide : (0 : Int32).toInt = 0)) zc102
    refine lv_aload_n hx hb dX11_isPaid_10 rfl (lv_at hl 2 rfl) ?_
    refine zGetI (D := D) (ci := 2) (C := RX2) (T := TX2) (N := 10) hx hb hts hiX2 hown hH hL.1.1 rfl 4 (by decide) rfl hw1 (fun _ h9 => h9) dX11_isPaid_11 rfl ?_
    refine lv_iload_n hx hb dX11_isPaid_14 rfl (lv_at hl 0 rfl) ?_
    refine lv_aload_n hx hb dX11_isPaid_15 rfl (lv_at hl 1 rfl) ?_
    refine zGetR (D := D) (ci := 11) (C := RX11) (T := TX11) (N := 16) hx hb hts hiX11 hown hH (zk_0 hF) rfl 3 (by decide) rfl hw3 (fun _ h9 => h9) dX11_isPaid_16 (zr_0_3 hF) ?_
    refine lv_iload_n hx hb dX11_isPaid_19 rfl (lv_at hl 0 rfl) ?_
    refine va_calli (va_runV (As := [.int (nI (zSm (fun j => zPo cd pN n (lc j) * mn j) l0))]) (rest := [.int (nI (zSm (fun j => zPo cd pN n (lc j) * mn j) l0)), .int (fi (3000 + q) 4)]) ⟨hx, hb, hml, hown, hts⟩ (c_postOf l hl0 D A sad τ fi fr ol (nI (zSm (fun j => zPo cd pN n (lc j) * mn j) l0)) hF) (cwV 1 hts gX11_isPaid_X5_postOf rfl rfl rfl (by decide +kernel) ⟨Nat.le_of_ble_eq_true rfl, Nat.le_of_ble_eq_true rfl⟩) ⟨zQc_bl, zRecv hH (zk_9 hF) rfl, zQc_at hz hS hA hH⟩ rfl rfl hl.1 rfl (lv_room (Nat.le_of_ble_eq_true rfl)) dX11_isPaid_20 ⟨Nat.le_of_ble_eq_true rfl, Nat.le_of_ble_eq_true rfl⟩) hS (fun q _ h => h) (fun q h => h) (fun r103 u9 t9 H1 locs ht9 hvm9 hw hB hz1 hk1 hS => ?_)
    have hH := zMv ht9 hvm9 hB
    generalize H1 = H at hH hS ⊢
    have hpo := hw
    refine lv_iadd hx hb dX11_isPaid_23 ?_
    refine lv_topi (fun v104 ev104 => ?_)
    refine lv_icmp_lt (tgt := 31) hx hb dX11_isPaid_24 (by decide) (fun c105 => ?_) (fun c105 => ?_)
    · have zc105 := c105
      replace zc105 := zc_lt (rfl) (rfl) zc105
      refine lv_iconst (v := nI 0) hx hb dX11_isPaid_31 (by decide) ?_
      have eT9 : v104 = zDue (fi 10) (nI (zSm (fun j => zPo cd pN n (lc j) * mn j) l0)) := by rw [ev104, hpo]; rfl
      rw [eT9] at zc105
      refine W.widen (k := 0) (n := 0) (by decide) (by decide) ?_
      exact W.zret (v := nI 0) hx hb hr (by decide) (fun t9 ht9 hW9 => ⟨⟨nI 0, (), rfl, Or.inr ⟨rfl, fun h9 => by have h8 := h9.1; have h7 := h9.2; omega⟩, zEnd1 hH ht9 hW9⟩, hS.F ht9⟩) hS.2.2 dX11_isPaid_32
    · have zc105 := c105
      replace zc105 := zc_nlt (rfl) (rfl) zc105
      refine lv_iconst (v := nI 1) hx hb dX11_isPaid_27 (by decide) ?_
      refine lv_goto (tgt := 32) hx hb dX11_isPaid_28 (by decide) ?_
      have eT9 : v104 = zDue (fi 10) (nI (zSm (fun j => zPo cd pN n (lc j) * mn j) l0)) := by rw [ev104, hpo]; rfl
      rw [eT9] at zc105
      refine W.widen (k := 0) (n := 0) (by decide) (by decide) ?_
      exact W.zret (v := nI 1) hx hb hr (by decide) (fun t9 ht9 hW9 => ⟨⟨nI 1, (), rfl, Or.inl ⟨rfl, by omega, by omega⟩, zEnd1 hH ht9 hW9⟩, hS.F ht9⟩) hS.2.2 dX11_isPaid_32
set_option maxHeartbeats 4000000 in
set_option maxRecDepth 100000 in
/-- findMendings -/
theorem c_findMN (l : Launch) (hl0 : l.stackTraces = false) (D : va_G) (A : Nat → Prop) (sad : Nat → Nat) (τ : zTy) (fi : zFi) (fr : zFr) (ol : Int64) (hF : zFix τ fr) (n : Nat) (hT : zTh τ fi fr n) (td : Nat) (cd pN : Nat → Nat) (hPk : zqPk fi n td cd pN) (q : Nat) (hq5 : q ≤ 512) (hL : zLk τ fr q) (l0 : Nat) (lc mn : Nat → Nat) (hLw : zqLw fi q l0 lc mn) (ok : Nat → Nat → Bool) (sm0 : Nat) (hs0 : fi (3000 + q) 3 = nI sm0) (hs9 : sm0 ≤ 999999) (hok : (∀ k t, k < l0 → t < n → (ok k t = true ↔ (∀ j, j < l0 → ¬ nI k = nI j → 0 < zPo cd pN n (lc j)) ∧ 0 < pN t ∧ zSm (fun j => zIf (nI k) 0 (fun j => zPo cd pN n (lc j) * mn j) j) l0 + pN t * mn k = sm0 ∧ zUd (cd t) (lc k) 4 = 1))) (h50 : fi (3000 + q) 5 = nI 0) : Met l yX11_findMendings wsX11_findMendings ({ frames := 4, cells := 0, slots := 0, locals := 91 }) (va_Pc [.ref (τ.1 0), .ref (τ.1 (3000 + q))] (zQc D A sad τ fi fr ol)) (va_Qv (fun (u : zFi) => zFJ u q (zFM ok n cd l0) ∧ ∀ a b, ¬ (a = 3000 + q ∧ 5 ≤ b ∧ b ≤ 7) → u a b = fi a b) (fun (u : zFi) (t : State) => zH D A τ u fr ol t t.heap) A) 0 0 A := by
  refine Met.ofW (cc := cX11_findMendings) (maxL := 7) (ret := none) (by decide) rfl ?_
  intro p9 e9 s m args below meth c9 s₁ B hml hv
  obtain ⟨rfl, hz, hH, hA⟩ := hv
  have hx := B.exec
  have hb := B.bytes
  have hr := B.returns
  have hts := atoms_spec (ws := wsX11_findMendings) B.pre
  have hown : s.vm.findClass RX11 = some m.cls := findClass_of_methodNamed B.named
  have hlocks := B.notSynchronized
  have hS : va_S A s.heap s.heap [] := va_S.rf
  have hl := lv_entry ([.ref (τ.1 0), .ref (τ.1 (3000 + q))]) (n := 7) (Nat.le_of_ble_eq_true rfl)
  rw [lg_entry_eq]
  generalize (lg_sl ([.ref (τ.1 0), .ref (τ.1 (3000 + q))]) ++ List.replicate (7 - (lg_sl ([.ref (τ.1 0), .ref (τ.1 (3000 + q))])).length) Slot.unset).toArray = ls at hl ⊢
  have hl : lv_has ls 7 [(0, .ref (τ.1 0)), (1, .ref (τ.1 (3000 + q)))] := hl
  have hn30 := hT.1
  have hl8 := hLw.1
  have hT0 := hT
  have hLw0 := hLw
  have hPk0 := hPk
  have hiX2 : ∀ w ∈ u_ws RX2 TX2 10, w ∈ wsX11_findMendings := fun _ h => List.mem_cons_of_mem _ (List.mem_append_left _ (List.mem_append_left _ (List.mem_append_left _ (List.mem_append_right _ h))))
  have hw1 := hts (.fieldLink RX11 228 "PostHouse$Letter" "lines" "I") (by decide +kernel)
  have hiX11 : ∀ w ∈ u_ws RX11 TX11 16, w ∈ wsX11_findMendings := fun _ h => List.mem_cons_of_mem _ (List.mem_append_left _ (List.mem_append_left _ (List.mem_append_right _ h)))
  have hw3 := hts (.fieldLink RX11 19 "PostHouse" "book" "LPostHouse$Book;") (by decide +kernel)
  have hiX0 : ∀ w ∈ u_ws RX0 TX0 2, w ∈ wsX11_findMendings := fun _ h => List.mem_cons_of_mem _ (List.mem_append_left _ (List.mem_append_right _ h))
  have hw5 := hts (.fieldLink RX11 104 "PostHouse$Book" "size" "I") (by decide +kernel)
  have hw6 := hts (.fieldLink RX11 471 "PostHouse$Book" "things" "[LPostHouse$Thing;") (by decide +kernel)
  have hw7 := hts (.fieldLink RX11 136 "PostHouse" "today" "I") (by decide +kernel)
  have hw8 := hts (.fieldLink RX11 475 "PostHouse$Letter" "pieces" "[I") (by decide +kernel)
  have hw9 := hts (.fieldLink RX11 234 "PostHouse$Letter" "sum" "I") (by decide +kernel)
  have hiX8 : ∀ w ∈ u_ws RX8 TX8 10, w ∈ wsX11_findMendings := fun _ h => List.mem_cons_of_mem _ (List.mem_append_right _ h)
  have hw11 := hts (.fieldLink RX11 477 "PostHouse$Thing" "code" "I") (by decide +kernel)
  have hw12 := hts (.fieldLink RX11 459 "PostHouse$Letter" "codes" "[I") (by decide +kernel)
  have hw13 := hts (.fieldLink RX11 201 "PostHouse$Letter" "mendings" "I") (by decide +kernel)
  have hw14 := hts (.fieldLink RX11 462 "PostHouse$Letter" "mendedLine" "I") (by decide +kernel)
  have hw15 := hts (.fieldLink RX11 465 "PostHouse$Letter" "mendedCode" "I") (by decide +kernel)
  refine lv_iconst (v := nI 0) hx hb dX11_findMendings_0 (by decide) ?_
  refine lv_istore_n (lv' := [(2, .int (nI 0)), (0, .ref (τ.1 0)), (1, .ref (τ.1 (3000 + q)))]) hx hb dX11_findMendings_1 rfl hl (by decide) rfl (fun ls hl => ?_)
  refine zLp (σ := Nat × zFi) (fun x9 k9 H locs ls => (fun (i : Nat) (f : zFi) => k9 = l0 - i ∧ (i ≤ l0 ∧ zFJ f q (zFM ok n cd i) ∧ ∀ a b, ¬ (a = 3000 + q ∧ 5 ≤ b ∧ b ≤ 7) → f a b = fi a b) ∧ zH D A τ f fr ol s H ∧ va_S A s.heap H locs ∧ lv_has ls 7 [(0, .ref (τ.1 0)), (1, .ref (τ.1 (3000 + q))), (2, .int (nI i))]) x9.1 x9.2) (0, fi) (l0 - 0) (show l0 - 0 = l0 - 0 ∧ (0 ≤ l0 ∧ zFJ fi q (zFM ok n cd 0) ∧ ∀ a b, ¬ (a = 3000 + q ∧ 5 ≤ b ∧ b ≤ 7) → fi a b = fi a b) ∧ zH D A τ fi fr ol s _ ∧ va_S A s.heap _ _ ∧ lv_has _ 7 [(0, .ref (τ.1 0)), (1, .ref (τ.1 (3000 + q))), (2, .int (nI 0))] from ⟨rfl, ⟨Nat.zero_le _, ⟨h50, fun h9 => absurd rfl h9⟩, fun _ _ _ => rfl⟩, hH, hS, lv_sub hl [1, 2, 0] rfl⟩) (fun k9 ih x9 H locs ls hv9 => ?_)
  obtain ⟨i, f⟩ := x9
  have hv9 : k9 = l0 - i ∧ (i ≤ l0 ∧ zFJ f q (zFM ok n cd i) ∧ ∀ a b, ¬ (a = 3000 + q ∧ 5 ≤ b ∧ b ≤ 7) → f a b = fi a b) ∧ zH D A τ f fr ol s H ∧ va_S A s.heap H locs ∧ lv_has ls 7 [(0, .ref (τ.1 0)), (1, .ref (τ.1 (3000 + q))), (2, .int (nI i))] := hv9
  obtain ⟨hkih101, hv9, hH, hS, hl⟩ := hv9
  obtain ⟨h1, hp, hfr⟩ := hv9
  have ih101 := ih
  clear ih
  have hqT := hT0
  have hLw := zqLw.cg (fi' := f) hLw0 (fun i9 k9 h9 => hfr i9 k9 (by omega))
  have hPk := zqPk.cg (fi' := f) hPk0 (fun i9 k9 h9 => hfr i9 k9 (by omega))
  have q2 := hLw.2.1
  have q15 := hPk.1
  have q3 : f (3000 + q) 3 = nI sm0 := by rw [hfr (3000 + q) 3 (by omega)]; exact hs0
  have q31 : f 3 1 = nI n := by rw [hfr 3 1 (by omega)]; exact hT0.2.1
  have q5 := hp.1
  clear hqT
  have hT := zTh.ci (fi' := f) hT0 (fun i9 k9 h9 => hfr i9 k9 (by omega))
  refine lv_iload_n hx hb dX11_findMendings_2 rfl (lv_at hl 2 rfl) ?_
  refine lv_aload_n hx hb dX11_findMendings_3 rfl (lv_at hl 1 rfl) ?_
  refine zGetI (D := D) (ci := 2) (C := RX2) (T := TX2) (N := 10) hx hb hts hiX2 hown hH hL.1.1 rfl 2 (by decide) rfl hw1 (fun _ h9 => h9) dX11_findMendings_4 q2 ?_
  refine lv_icmp_ge (tgt := 138) hx hb dX11_findMendings_7 (by decide) (fun c102 => ?_) (fun c102 => ?_)
  · have zc102 := c102
    replace zc102 := zc_le (nI_toInt (by omega)) (nI_toInt (by omega)) zc102
    refine W.widen (k := 0) (n := 0) (by decide) (by decide) ?_
    exact W.vret hx hb hr (fun t9 ht9 hW9 => ⟨⟨f, rfl, ⟨by rw [show l0 = i by omega]; exact hp, hfr⟩, zEnd1 hH ht9 hW9⟩, hS.F ht9⟩) hS.2.2 dX11_findMendings_138
  · have zc102 := c102
    replace zc102 := zc_nle (nI_toInt (by omega)) (nI_toInt (by omega)) zc102
    refine lv_aload_n hx hb dX11_findMendings_10 rfl (lv_at hl 0 rfl) ?_
    refine lv_aload_n hx hb dX11_findMendings_11 rfl (lv_at hl 1 rfl) ?_
    refine lv_iload_n hx hb dX11_findMendings_12 rfl (lv_at hl 2 rfl) ?_
    refine va_calli (va_runV (As := [.ref (τ.1 (3000 + q)), .int (nI i)]) (rest := []) ⟨hx, hb, hml, hown, hts⟩ (c_totalButN l hl0 D A sad τ f fr ol ((nI i)) hF n hT td cd pN hPk q hq5 hL l0 lc mn hLw) (cwV 2 hts gX11_findMendings_X11_totalBut rfl rfl rfl (by decide +kernel) ⟨Nat.le_of_ble_eq_true rfl, Nat.le_of_ble_eq_true rfl⟩) ⟨zQc_bl, zRecv hH (zk_0 hF) rfl, zQc_at hz hS hA hH⟩ rfl rfl hl.1 rfl (lv_room (Nat.le_of_ble_eq_true rfl)) dX11_findMendings_13 ⟨Nat.le_of_ble_eq_true rfl, Nat.le_of_ble_eq_true rfl⟩) hS (fun q _ h => h) (fun q h => h) (fun r103 u9 t9 H1 locs ht9 hvm9 hw hB hz1 hk1 hS => ?_)
    have hH := zMv ht9 hvm9 hB
    generalize H1 = H at hH hS ⊢
    have htb : zSm (fun j => zIf (nI i) 0 (fun j => zPo cd pN n (lc j) * mn j) j) l0 ≤ 7920000 := hLw.bd (fun j _ => by unfold zIf; split; (exact Nat.zero_le _); exact Nat.mul_le_mul_right _ hPk.le) (Nat.le_refl l0)
    rcases hw with ⟨rfl, htj⟩ | ⟨htj, rfl⟩
    · skip
      refine lv_istore_n (lv' := [(3, .int ((-1))), (0, .ref (τ.1 0)), (1, .ref (τ.1 (3000 + q))), (2, .int (nI i))]) hx hb dX11_findMendings_16 rfl hl (by decide) rfl (fun ls hl => ?_)
      refine lv_iconst (v := nI 0) hx hb dX11_findMendings_17 (by decide) ?_
      refine lv_istore (lv' := [(4, .int (nI 0)), (3, .int ((-1))), (0, .ref (τ.1 0)), (1, .ref (τ.1 (3000 + q))), (2, .int (nI i))]) hx hb dX11_findMendings_18 hl (by decide) rfl (fun ls hl => ?_)
      refine zLp (σ := Nat × zFi) (fun x9 k9 H locs ls => (fun (i2 : Nat) (f2 : zFi) => k9 = n - i2 ∧ (i2 ≤ n ∧ zFJ f2 q (zFN (ok i) i cd (zFM ok n cd i) i2) ∧ ∀ a b, ¬ (a = 3000 + q ∧ 5 ≤ b ∧ b ≤ 7) → f2 a b = fi a b) ∧ zH D A τ f2 fr ol s H ∧ va_S A s.heap H locs ∧ lv_has ls 7 [(0, .ref (τ.1 0)), (1, .ref (τ.1 (3000 + q))), (2, .int (nI i)), (3, .int ((-1))), (4, .int (nI i2))]) x9.1 x9.2) (0, f) (n - 0) (show n - 0 = n - 0 ∧ (0 ≤ n ∧ zFJ f q (zFN (ok i) i cd (zFM ok n cd i) 0) ∧ ∀ a b, ¬ (a = 3000 + q ∧ 5 ≤ b ∧ b ≤ 7) → f a b = fi a b) ∧ zH D A τ f fr ol s _ ∧ va_S A s.heap _ _ ∧ lv_has _ 7 [(0, .ref (τ.1 0)), (1, .ref (τ.1 (3000 + q))), (2, .int (nI i)), (3, .int ((-1))), (4, .int (nI 0))] from ⟨rfl, ⟨Nat.zero_le _, hp, hfr⟩, hH, hS, lv_sub hl [2, 3, 4, 1, 0] rfl⟩) (fun k9 ih x9 H locs ls hv9 => ?_)
      obtain ⟨i2, f2⟩ := x9
      have hv9 : k9 = n - i2 ∧ (i2 ≤ n ∧ zFJ f2 q (zFN (ok i) i cd (zFM ok n cd i) i2) ∧ ∀ a b, ¬ (a = 3000 + q ∧ 5 ≤ b ∧ b ≤ 7) → f2 a b = fi a b) ∧ zH D A τ f2 fr ol s H ∧ va_S A s.heap H locs ∧ lv_has ls 7 [(0, .ref (τ.1 0)), (1, .ref (τ.1 (3000 + q))), (2, .int (nI i)), (3, .int ((-1))), (4, .int (nI i2))] := hv9
      obtain ⟨hkih104, hv9, hH, hS, hl⟩ := hv9
      obtain ⟨h2, hp2, hfr2⟩ := hv9
      have ih104 := ih
      clear ih
      have hqT := hT0
      have hLw := zqLw.cg (fi' := f2) hLw0 (fun i9 k9 h9 => hfr2 i9 k9 (by omega))
      have hPk := zqPk.cg (fi' := f2) hPk0 (fun i9 k9 h9 => hfr2 i9 k9 (by omega))
      have q2 := hLw.2.1
      have q15 := hPk.1
      have q3 : f2 (3000 + q) 3 = nI sm0 := by rw [hfr2 (3000 + q) 3 (by omega)]; exact hs0
      have q31 : f2 3 1 = nI n := by rw [hfr2 3 1 (by omega)]; exact hT0.2.1
      have q5 := hp2.1
      clear hqT
      have hT := zTh.ci (fi' := f2) hT0 (fun i9 k9 h9 => hfr2 i9 k9 (by omega))
      refine lv_iload hx hb dX11_findMendings_20 (lv_at hl 4 rfl) ?_
      refine lv_aload_n hx hb dX11_findMendings_22 rfl (lv_at hl 0 rfl) ?_
      refine zGetR (D := D) (ci := 11) (C := RX11) (T := TX11) (N := 16) hx hb hts hiX11 hown hH (zk_0 hF) rfl 1 (by decide) rfl hw3 (fun _ h9 => h9) dX11_findMendings_23 (zr_0_1 hF) ?_
      refine zGetI (D := D) (ci := 0) (C := RX0) (T := TX0) (N := 2) hx hb hts hiX0 hown hH (zk_3 hF) rfl 1 (by decide) rfl hw5 (fun _ h9 => h9) dX11_findMendings_26 q31 ?_
      refine lv_icmp_ge (tgt := 132) hx hb dX11_findMendings_29 (by decide) (fun c105 => ?_) (fun c105 => ?_)
      · have zc105 := c105
        replace zc105 := zc_le (nI_toInt (by omega)) (nI_toInt (by omega)) zc105
        refine lv_iinc (v := nI (i + 1)) (lv' := [(2, .int (nI (i + 1))), (0, .ref (τ.1 0)), (1, .ref (τ.1 (3000 + q))), (3, .int ((-1))), (4, .int (nI i2))]) hx hb dX11_findMendings_132 hl (k := 2) rfl (by rw [show (Int32.ofInt 1 : Int32) = nI 1 from by decide, nI_add]) (by decide) rfl (fun ls hl => ?_)
        refine lv_goto (tgt := 2) hx hb dX11_findMendings_135 (by decide) ?_
        exact ih101 (l0 - (i + 1)) (by omega) (i + 1, f2) _ _ _ (show l0 - (i + 1) = l0 - (i + 1) ∧ ((i + 1) ≤ l0 ∧ zFJ f2 q (zFM ok n cd (i + 1)) ∧ ∀ a b, ¬ (a = 3000 + q ∧ 5 ≤ b ∧ b ≤ 7) → f2 a b = fi a b) ∧ zH D A τ f2 fr ol s _ ∧ va_S A s.heap _ _ ∧ lv_has _ 7 [(0, .ref (τ.1 0)), (1, .ref (τ.1 (3000 + q))), (2, .int (nI (i + 1)))] from ⟨rfl, ⟨by omega, by show zFJ f2 q (zFN (ok i) i cd (zFM ok n cd i) n); rw [zFN_no (fun j9 q9 e9 => by obtain ⟨j8, q8, e8, z8⟩ := htj; have h9 := ((hok i j9 (by omega) q9).mp e9).1 j8 q8 e8; omega)]; rw [zFN_no (fun j9 q9 e9 => by obtain ⟨j8, q8, e8, z8⟩ := htj; have h9 := ((hok i j9 (by omega) (by omega)).mp e9).1 j8 q8 e8; omega)] at hp2; exact hp2, hfr2⟩, hH, hS, lv_sub hl [1, 2, 0] rfl⟩)
      · have zc105 := c105
        replace zc105 := zc_nle (nI_toInt (by omega)) (nI_toInt (by omega)) zc105
        refine lv_iload_n hx hb dX11_findMendings_32 rfl (lv_at hl 3 rfl) ?_
        refine lv_iconst (v := (-1)) hx hb dX11_findMendings_33 (by decide) ?_
        refine lv_icmp_eq (tgt := 132) hx hb dX11_findMendings_34 (by decide) (fun c106 => ?_) (fun c106 => absurd (by decide) c106)
        refine lv_iinc (v := nI (i + 1)) (lv' := [(2, .int (nI (i + 1))), (0, .ref (τ.1 0)), (1, .ref (τ.1 (3000 + q))), (3, .int ((-1))), (4, .int (nI i2))]) hx hb dX11_findMendings_132 hl (k := 2) rfl (by rw [show (Int32.ofInt 1 : Int32) = nI 1 from by decide, nI_add]) (by decide) rfl (fun ls hl => ?_)
        refine lv_goto (tgt := 2) hx hb dX11_findMendings_135 (by decide) ?_
        exact ih101 (l0 - (i + 1)) (by omega) (i + 1, f2) _ _ _ (show l0 - (i + 1) = l0 - (i + 1) ∧ ((i + 1) ≤ l0 ∧ zFJ f2 q (zFM ok n cd (i + 1)) ∧ ∀ a b, ¬ (a = 3000 + q ∧ 5 ≤ b ∧ b ≤ 7) → f2 a b = fi a b) ∧ zH D A τ f2 fr ol s _ ∧ va_S A s.heap _ _ ∧ lv_has _ 7 [(0, .ref (τ.1 0)), (1, .ref (τ.1 (3000 + q))), (2, .int (nI (i + 1)))] from ⟨rfl, ⟨by omega, by show zFJ f2 q (zFN (ok i) i cd (zFM ok n cd i) n); rw [zFN_no (fun j9 q9 e9 => by obtain ⟨j8, q8, e8, z8⟩ := htj; have h9 := ((hok i j9 (by omega) q9).mp e9).1 j8 q8 e8; omega)]; rw [zFN_no (fun j9 q9 e9 => by obtain ⟨j8, q8, e8, z8⟩ := htj; have h9 := ((hok i j9 (by omega) (by omega)).mp e9).1 j8 q8 e8; omega)] at hp2; exact hp2, hfr2⟩, hH, hS, lv_sub hl [1, 2, 0] rfl⟩)
    · skip
      refine lv_istore_n (lv' := [(3, .int (nI (zSm (fun j => zIf (nI i) 0 (fun j => zPo cd pN n (lc j) * mn j) j) l0))), (0, .ref (τ.1 0)), (1, .ref (τ.1 (3000 + q))), (2, .int (nI i))]) hx hb dX11_findMendings_16 rfl hl (by decide) rfl (fun ls hl => ?_)
      refine lv_iconst (v := nI 0) hx hb dX11_findMendings_17 (by decide) ?_
      refine lv_istore (lv' := [(4, .int (nI 0)), (3, .int (nI (zSm (fun j => zIf (nI i) 0 (fun j => zPo cd pN n (lc j) * mn j) j) l0))), (0, .ref (τ.1 0)), (1, .ref (τ.1 (3000 + q))), (2, .int (nI i))]) hx hb dX11_findMendings_18 hl (by decide) rfl (fun ls hl => ?_)
      refine zLp (σ := Nat × zFi) (fun x9 k9 H locs ls => (fun (i2 : Nat) (f2 : zFi) => k9 = n - i2 ∧ (i2 ≤ n ∧ zFJ f2 q (zFN (ok i) i cd (zFM ok n cd i) i2) ∧ ∀ a b, ¬ (a = 3000 + q ∧ 5 ≤ b ∧ b ≤ 7) → f2 a b = fi a b) ∧ zH D A τ f2 fr ol s H ∧ va_S A s.heap H locs ∧ lv_has ls 7 [(0, .ref (τ.1 0)), (1, .ref (τ.1 (3000 + q))), (2, .int (nI i)), (3, .int (nI (zSm (fun j => zIf (nI i) 0 (fun j => zPo cd pN n (lc j) * mn j) j) l0))), (4, .int (nI i2))]) x9.1 x9.2) (0, f) (n - 0) (show n - 0 = n - 0 ∧ (0 ≤ n ∧ zFJ f q (zFN (ok i) i cd (zFM ok n cd i) 0) ∧ ∀ a b, ¬ (a = 3000 + q ∧ 5 ≤ b ∧ b ≤ 7) → f a b = fi a b) ∧ zH D A τ f fr ol s _ ∧ va_S A s.heap _ _ ∧ lv_has _ 7 [(0, .ref (τ.1 0)), (1, .ref (τ.1 (3000 + q))), (2, .int (nI i)), (3, .int (nI (zSm (fun j => zIf (nI i) 0 (fun j => zPo cd pN n (lc j) * mn j) j) l0))), (4, .int (nI 0))] from ⟨rfl, ⟨Nat.zero_le _, hp, hfr⟩, hH, hS, lv_sub hl [2, 3, 4, 1, 0] rfl⟩) (fun k9 ih x9 H locs ls hv9 => ?_)
      obtain ⟨i2, f2⟩ := x9
      have hv9 : k9 = n - i2 ∧ (i2 ≤ n ∧ zFJ f2 q (zFN (ok i) i cd (zFM ok n cd i) i2) ∧ ∀ a b, ¬ (a = 3000 + q ∧ 5 ≤ b ∧ b ≤ 7) → f2 a b = fi a b) ∧ zH D A τ f2 fr ol s H ∧ va_S A s.heap H locs ∧ lv_has ls 7 [(0, .ref (τ.1 0)), (1, .ref (τ.1 (3000 + q))), (2, .int (nI i)), (3, .int (nI (zSm (fun j => zIf (nI i) 0 (fun j => zPo cd pN n (lc j) * mn j) j) l0))), (4, .int (nI i2))] := hv9
      obtain ⟨hkih107, hv9, hH, hS, hl⟩ := hv9
      obtain ⟨h2, hp2, hfr2⟩ := hv9
      have ih107 := ih
      clear ih
      have hqT := hT0
      have hLw := zqLw.cg (fi' := f2) hLw0 (fun i9 k9 h9 => hfr2 i9 k9 (by omega))
      have hPk := zqPk.cg (fi' := f2) hPk0 (fun i9 k9 h9 => hfr2 i9 k9 (by omega))
      have q2 := hLw.2.1
      have q15 := hPk.1
      have q3 : f2 (3000 + q) 3 = nI sm0 := by rw [hfr2 (3000 + q) 3 (by omega)]; exact hs0
      have q31 : f2 3 1 = nI n := by rw [hfr2 3 1 (by omega)]; exact hT0.2.1
      have q5 := hp2.1
      clear hqT
      have hT := zTh.ci (fi' := f2) hT0 (fun i9 k9 h9 => hfr2 i9 k9 (by omega))
      refine lv_iload hx hb dX11_findMendings_20 (lv_at hl 4 rfl) ?_
      refine lv_aload_n hx hb dX11_findMendings_22 rfl (lv_at hl 0 rfl) ?_
      refine zGetR (D := D) (ci := 11) (C := RX11) (T := TX11) (N := 16) hx hb hts hiX11 hown hH (zk_0 hF) rfl 1 (by decide) rfl hw3 (fun _ h9 => h9) dX11_findMendings_23 (zr_0_1 hF) ?_
      refine zGetI (D := D) (ci := 0) (C := RX0) (T := TX0) (N := 2) hx hb hts hiX0 hown hH (zk_3 hF) rfl 1 (by decide) rfl hw5 (fun _ h9 => h9) dX11_findMendings_26 q31 ?_
      refine lv_icmp_ge (tgt := 132) hx hb dX11_findMendings_29 (by decide) (fun c108 => ?_) (fun c108 => ?_)
      · have zc108 := c108
        replace zc108 := zc_le (nI_toInt (by omega)) (nI_toInt (by omega)) zc108
        refine lv_iinc (v := nI (i + 1)) (lv' := [(2, .int (nI (i + 1))), (0, .ref (τ.1 0)), (1, .ref (τ.1 (3000 + q))), (3, .int (nI (zSm (fun j => zIf (nI i) 0 (fun j => zPo cd pN n (lc j) * mn j) j) l0))), (4, .int (nI i2))]) hx hb dX11_findMendings_132 hl (k := 2) rfl (by rw [show (Int32.ofInt 1 : Int32) = nI 1 from by decide, nI_add]) (by decide) rfl (fun ls hl => ?_)
        refine lv_goto (tgt := 2) hx hb dX11_findMendings_135 (by decide) ?_
        exact ih101 (l0 - (i + 1)) (by omega) (i + 1, f2) _ _ _ (show l0 - (i + 1) = l0 - (i + 1) ∧ ((i + 1) ≤ l0 ∧ zFJ f2 q (zFM ok n cd (i + 1)) ∧ ∀ a b, ¬ (a = 3000 + q ∧ 5 ≤ b ∧ b ≤ 7) → f2 a b = fi a b) ∧ zH D A τ f2 fr ol s _ ∧ va_S A s.heap _ _ ∧ lv_has _ 7 [(0, .ref (τ.1 0)), (1, .ref (τ.1 (3000 + q))), (2, .int (nI (i + 1)))] from ⟨rfl, ⟨by omega, by show zFJ f2 q (zFN (ok i) i cd (zFM ok n cd i) n); rw [show n = i2 by omega] at hp2 ⊢; exact hp2, hfr2⟩, hH, hS, lv_sub hl [1, 2, 0] rfl⟩)
      · have zc108 := c108
        replace zc108 := zc_nle (nI_toInt (by omega)) (nI_toInt (by omega)) zc108
        refine lv_iload_n hx hb dX11_findMendings_32 rfl (lv_at hl 3 rfl) ?_
        refine lv_iconst (v := (-1)) hx hb dX11_findMendings_33 (by decide) ?_
        refine lv_icmp_eq (tgt := 132) hx hb dX11_findMendings_34 (by decide) (fun c109 => False.elim (by have zc109 := zc_eq (nI_toInt (by omega)) ((by decide : ((-1) : Int32).toInt = (-1))) c109; omega)) (fun c109 => ?_)
        refine lv_aload_n hx hb dX11_findMendings_37 rfl (lv_at hl 0 rfl) ?_
        refine zGetR (D := D) (ci := 11) (C := RX11) (T := TX11) (N := 16) hx hb hts hiX11 hown hH (zk_0 hF) rfl 1 (by decide) rfl hw3 (fun _ h9 => h9) dX11_findMendings_38 (zr_0_1 hF) ?_
        refine zGetR (D := D) (ci := 0) (C := RX0) (T := TX0) (N := 2) hx hb hts hiX0 hown hH (zk_3 hF) rfl 0 (by decide) rfl hw6 (fun _ h9 => h9) dX11_findMendings_41 (zr_3_0 hF) ?_
        refine lv_iload hx hb dX11_findMendings_44 (lv_at hl 4 rfl) ?_
        refine zAaldS (D := D) hx hb hH (zk_4 hF) (by decide) (by decide) rfl (zn_4 hF) (by omega) (by omega) (hT.2.2.1 i2 (by omega)).2.2.1.2.2.2 dX11_findMendings_46 ?_
        refine lv_astore (lv' := [(5, .ref (τ.1 (300 + i2))), (0, .ref (τ.1 0)), (1, .ref (τ.1 (3000 + q))), (2, .int (nI i)), (3, .int (nI (zSm (fun j => zIf (nI i) 0 (fun j => zPo cd pN n (lc j) * mn j) j) l0))), (4, .int (nI i2))]) hx hb dX11_findMendings_47 hl (by decide) rfl (fun ls hl => ?_)
        refine lv_aload hx hb dX11_findMendings_49 (lv_at hl 0 rfl) ?_
        refine lv_aload_n hx hb dX11_findMendings_51 rfl (lv_at hl 1 rfl) ?_
        refine zGetI (D := D) (ci := 11) (C := RX11) (T := TX11) (N := 16) hx hb hts hiX11 hown hH (zk_0 hF) rfl 15 (by decide) rfl hw7 (fun _ h9 => h9) dX11_findMendings_52 q15 ?_
        obtain ⟨k110, h4k110, h0k110, hmk110⟩ := (hPk.2.2.2 i2 (by omega)).2.2.2.1
        refine va_calli (va_runV (As := [.int (nI td)]) (rest := []) ⟨hx, hb, hml, hown, hts⟩ (c_moneyOn l hl0 D A sad τ f2 fr ol (nI td) n hT i2 k110 (by omega) h0k110 h4k110) (cwV 1 hts gX11_findMendings_X8_moneyOn rfl rfl rfl (by decide +kernel) ⟨Nat.le_of_ble_eq_true rfl, Nat.le_of_ble_eq_true rfl⟩) ⟨zQc_bl, zRecv hH (hT.2.2.1 i2 (by omega)).1.1 rfl, zQc_at hz hS hA hH⟩ rfl rfl hl.1 rfl (lv_room (Nat.le_of_ble_eq_true rfl)) dX11_findMendings_55 ⟨Nat.le_of_ble_eq_true rfl, Nat.le_of_ble_eq_true rfl⟩) hS (fun q _ h => h) (fun q h => h) (fun r111 u9 t9 H1 locs ht9 hvm9 hw hB hz1 hk1 hS => ?_)
        have hH := zMv ht9 hvm9 hB
        generalize H1 = H at hH hS ⊢
        have hcok110 := zPv_or (hw.uni hmk110)
        clear hw
        have hcbk110 := (hPk.2.2.2 i2 (by omega)).2.2.1
        rcases hcok110 with ⟨hzk110, rfl⟩ | ⟨hzk110, rfl⟩
        · skip
          refine lv_istore (lv' := [(6, .int ((-1))), (5, .ref (τ.1 (300 + i2))), (0, .ref (τ.1 0)), (1, .ref (τ.1 (3000 + q))), (2, .int (nI i)), (3, .int (nI (zSm (fun j => zIf (nI i) 0 (fun j => zPo cd pN n (lc j) * mn j) j) l0))), (4, .int (nI i2))]) hx hb dX11_findMendings_58 hl (by decide) rfl (fun ls hl => ?_)
          refine lv_iload hx hb dX11_findMendings_60 (lv_at hl 0 rfl) ?_
          refine lv_iconst (v := (-1)) hx hb dX11_findMendings_62 (by decide) ?_
          refine lv_icmp_eq (tgt := 126) hx hb dX11_findMendings_63 (by decide) (fun c112 => ?_) (fun c112 => absurd (by decide) c112)
          refine lv_iinc (v := nI (i2 + 1)) (lv' := [(4, .int (nI (i2 + 1))), (6, .int ((-1))), (5, .ref (τ.1 (300 + i2))), (0, .ref (τ.1 0)), (1, .ref (τ.1 (3000 + q))), (2, .int (nI i)), (3, .int (nI (zSm (fun j => zIf (nI i) 0 (fun j => zPo cd pN n (lc j) * mn j) j) l0)))]) hx hb dX11_findMendings_126 hl (k := 6) rfl (by rw [show (Int32.ofInt 1 : Int32) = nI 1 from by decide, nI_add]) (by decide) rfl (fun ls hl => ?_)
          refine lv_goto (tgt := 20) hx hb dX11_findMendings_129 (by decide) ?_
          exact ih107 (n - (i2 + 1)) (by omega) (i2 + 1, f2) _ _ _ (show n - (i2 + 1) = n - (i2 + 1) ∧ ((i2 + 1) ≤ n ∧ zFJ f2 q (zFN (ok i) i cd (zFM ok n cd i) (i2 + 1)) ∧ ∀ a b, ¬ (a = 3000 + q ∧ 5 ≤ b ∧ b ≤ 7) → f2 a b = fi a b) ∧ zH D A τ f2 fr ol s _ ∧ va_S A s.heap _ _ ∧ lv_has _ 7 [(0, .ref (τ.1 0)), (1, .ref (τ.1 (3000 + q))), (2, .int (nI i)), (3, .int (nI (zSm (fun j => zIf (nI i) 0 (fun j => zPo cd pN n (lc j) * mn j) j) l0))), (4, .int (nI (i2 + 1)))] from ⟨rfl, ⟨by omega, by rw [zFN_n (fun h8 => by have h9 := (hok i i2 (by omega) (by omega)).mp h8; exact absurd h9.2.1 (by omega))]; exact hp2, fun a b h => hfr2 a b h⟩, hH, hS, lv_sub hl [3, 4, 5, 6, 0] rfl⟩)
        · skip
          refine lv_istore (lv' := [(6, .int (nI (pN i2))), (5, .ref (τ.1 (300 + i2))), (0, .ref (τ.1 0)), (1, .ref (τ.1 (3000 + q))), (2, .int (nI i)), (3, .int (nI (zSm (fun j => zIf (nI i) 0 (fun j => zPo cd pN n (lc j) * mn j) j) l0))), (4, .int (nI i2))]) hx hb dX11_findMendings_58 hl (by decide) rfl (fun ls hl => ?_)
          refine lv_iload hx hb dX11_findMendings_60 (lv_at hl 0 rfl) ?_
          refine lv_iconst (v := (-1)) hx hb dX11_findMendings_62 (by decide) ?_
          refine lv_icmp_eq (tgt := 126) hx hb dX11_findMendings_63 (by decide) (fun c113 => False.elim (by have zc113 := zc_eq (nI_toInt (by omega)) ((by decide : ((-1) : Int32).toInt = (-1))) c113; omega)) (fun c113 => ?_)
          have hpm : pN i2 * mn i ≤ 10000 * 99 := Nat.mul_le_mul (hPk.2.2.2 i2 (by omega)).2.2.1 (hLw.2.2 i (by omega)).2.2.2.2
          refine lv_iload_n hx hb dX11_findMendings_66 rfl (lv_at hl 5 rfl) ?_
          refine lv_iload hx hb dX11_findMendings_67 (lv_at hl 0 rfl) ?_
          refine lv_aload_n hx hb dX11_findMendings_69 rfl (lv_at hl 3 rfl) ?_
          refine zGetR (D := D) (ci := 2) (C := RX2) (T := TX2) (N := 10) hx hb hts hiX2 hown hH hL.1.1 rfl 1 (by decide) rfl hw8 (fun _ h9 => h9) dX11_findMendings_70 hL.2.2.2 ?_
          refine lv_iload_n hx hb dX11_findMendings_73 rfl (lv_at hl 4 rfl) ?_
          refine zIaldN (D := D) hx hb hH hL.1.2.2 hL.2.1.2 (by omega) (by omega) (hLw.2.2 i (by omega)).2.2.1 dX11_findMendings_74 ?_
          refine lv_imul hx hb dX11_findMendings_75 ?_
          refine lv_topi (fun v114 ev114 => ?_)
          obtain rfl : v114 = nI ((pN i2) * (mn i)) := ev114.trans (pk_mul _ _)
          refine lv_iadd hx hb dX11_findMendings_76 ?_
          refine lv_topi (fun v115 ev115 => ?_)
          obtain rfl : v115 = nI (zSm (fun j => zIf (nI i) 0 (fun j => zPo cd pN n (lc j) * mn j) j) l0 + (pN i2) * (mn i)) := ev115.trans (nI_add _ _)
          refine lv_aload_n hx hb dX11_findMendings_77 rfl (lv_at hl 3 rfl) ?_
          refine zGetI (D := D) (ci := 2) (C := RX2) (T := TX2) (N := 10) hx hb hts hiX2 hown hH hL.1.1 rfl 3 (by decide) rfl hw9 (fun _ h9 => h9) dX11_findMendings_78 q3 ?_
          refine lv_icmp_ne (tgt := 126) hx hb dX11_findMendings_81 (by decide) (fun c116 => ?_) (fun c116 => ?_)
          · have zc116 := c116
            replace zc116 := zc_neq (nI_toInt (by omega)) (nI_toInt (by omega)) zc116
            refine lv_iinc (v := nI (i2 + 1)) (lv' := [(4, .int (nI (i2 + 1))), (6, .int (nI (pN i2))), (5, .ref (τ.1 (300 + i2))), (0, .ref (τ.1 0)), (1, .ref (τ.1 (3000 + q))), (2, .int (nI i)), (3, .int (nI (zSm (fun j => zIf (nI i) 0 (fun j => zPo cd pN n (lc j) * mn j) j) l0)))]) hx hb dX11_findMendings_126 hl (k := 6) rfl (by rw [show (Int32.ofInt 1 : Int32) = nI 1 from by decide, nI_add]) (by decide) rfl (fun ls hl => ?_)
            refine lv_goto (tgt := 20) hx hb dX11_findMendings_129 (by decide) ?_
            exact ih107 (n - (i2 + 1)) (by omega) (i2 + 1, f2) _ _ _ (show n - (i2 + 1) = n - (i2 + 1) ∧ ((i2 + 1) ≤ n ∧ zFJ f2 q (zFN (ok i) i cd (zFM ok n cd i) (i2 + 1)) ∧ ∀ a b, ¬ (a = 3000 + q ∧ 5 ≤ b ∧ b ≤ 7) → f2 a b = fi a b) ∧ zH D A τ f2 fr ol s _ ∧ va_S A s.heap _ _ ∧ lv_has _ 7 [(0, .ref (τ.1 0)), (1, .ref (τ.1 (3000 + q))), (2, .int (nI i)), (3, .int (nI (zSm (fun j => zIf (nI i) 0 (fun j => zPo cd pN n (lc j) * mn j) j) l0))), (4, .int (nI (i2 + 1)))] from ⟨rfl, ⟨by omega, by rw [zFN_n (fun h8 => by have h9 := (hok i i2 (by omega) (by omega)).mp h8; exact (by have h8 := h9.2.2.1; omega))]; exact hp2, fun a b h => hfr2 a b h⟩, hH, hS, lv_sub hl [3, 4, 5, 6, 0] rfl⟩)
          · have zc116 := c116
            replace zc116 := zc_eq (nI_toInt (by omega)) (nI_toInt (by omega)) zc116
            refine lv_aload hx hb dX11_findMendings_84 (lv_at hl 1 rfl) ?_
            refine zGetI (D := D) (ci := 8) (C := RX8) (T := TX8) (N := 10) hx hb hts hiX8 hown hH (hT.2.2.1 i2 (by omega)).1.1 rfl 1 (by decide) rfl hw11 (fun _ h9 => h9) dX11_findMendings_86 (hPk.2.2.2 i2 (by omega)).1 ?_
            refine lv_aload_n hx hb dX11_findMendings_89 rfl (lv_at hl 3 rfl) ?_
            refine zGetR (D := D) (ci := 2) (C := RX2) (T := TX2) (N := 10) hx hb hts hiX2 hown hH hL.1.1 rfl 0 (by decide) rfl hw12 (fun _ h9 => h9) dX11_findMendings_90 hL.2.2.1 ?_
            refine lv_iload_n hx hb dX11_findMendings_93 rfl (lv_at hl 4 rfl) ?_
            refine zIaldN (D := D) hx hb hH hL.1.2.1 hL.2.1.1 (by omega) (by omega) (hLw.2.2 i (by omega)).1 dX11_findMendings_94 ?_
            refine va_calli (va_runS (As := [.int (nI (cd i2)), .int (nI (lc i))]) (rest := []) ⟨hx, hb, hml, hown, hts⟩ (c_unlikeN l hl0 D A sad τ f2 fr ol (cd i2) (lc i) ((hPk.2.2.2 i2 (by omega)).2.1) ((hLw.2.2 i (by omega)).2.1)) (cwS 2 hts gX11_findMendings_X11_unlikeDigits rfl rfl rfl (by decide +kernel) ⟨Nat.le_of_ble_eq_true rfl, Nat.le_of_ble_eq_true rfl⟩) ⟨zQc_bl, zQc_at hz hS hA hH⟩ rfl rfl hl.1 rfl (lv_room (Nat.le_of_ble_eq_true rfl)) dX11_findMendings_95 ⟨Nat.le_of_ble_eq_true rfl, Nat.le_of_ble_eq_true rfl⟩) hS (fun q _ h => h) (fun q h => h) (fun r117 u9 t9 H1 locs ht9 hvm9 hw hB hz1 hk1 hS => ?_)
            have hH := zMv ht9 hvm9 hB
            generalize H1 = H at hH hS ⊢
            obtain rfl := hw
            have hu4 := zUd_le (a := cd i2) (b := lc i) (k := 4)
            refine lv_iconst (v := nI 1) hx hb dX11_findMendings_98 (by decide) ?_
            refine lv_icmp_ne (tgt := 126) hx hb dX11_findMendings_99 (by decide) (fun c118 => ?_) (fun c118 => ?_)
            · have zc118 := c118
              replace zc118 := zc_neq (nI_toInt (by omega)) (nI_toInt (by omega)) zc118
              refine lv_iinc (v := nI (i2 + 1)) (lv' := [(4, .int (nI (i2 + 1))), (6, .int (nI (pN i2))), (5, .ref (τ.1 (300 + i2))), (0, .ref (τ.1 0)), (1, .ref (τ.1 (3000 + q))), (2, .int (nI i)), (3, .int (nI (zSm (fun j => zIf (nI i) 0 (fun j => zPo cd pN n (lc j) * mn j) j) l0)))]) hx hb dX11_findMendings_126 hl (k := 6) rfl (by rw [show (Int32.ofInt 1 : Int32) = nI 1 from by decide, nI_add]) (by decide) rfl (fun ls hl => ?_)
              refine lv_goto (tgt := 20) hx hb dX11_findMendings_129 (by decide) ?_
              exact ih107 (n - (i2 + 1)) (by omega) (i2 + 1, f2) _ _ _ (show n - (i2 + 1) = n - (i2 + 1) ∧ ((i2 + 1) ≤ n ∧ zFJ f2 q (zFN (ok i) i cd (zFM ok n cd i) (i2 + 1)) ∧ ∀ a b, ¬ (a = 3000 + q ∧ 5 ≤ b ∧ b ≤ 7) → f2 a b = fi a b) ∧ zH D A τ f2 fr ol s _ ∧ va_S A s.heap _ _ ∧ lv_has _ 7 [(0, .ref (τ.1 0)), (1, .ref (τ.1 (3000 + q))), (2, .int (nI i)), (3, .int (nI (zSm (fun j => zIf (nI i) 0 (fun j => zPo cd pN n (lc j) * mn j) j) l0))), (4, .int (nI (i2 + 1)))] from ⟨rfl, ⟨by omega, by rw [zFN_n (fun h8 => by have h9 := (hok i i2 (by omega) (by omega)).mp h8; exact (by have h8 := h9.2.2.2; omega))]; exact hp2, fun a b h => hfr2 a b h⟩, hH, hS, lv_sub hl [3, 4, 5, 6, 0] rfl⟩)
            · have zc118 := c118
              replace zc118 := zc_eq (nI_toInt (by omega)) (nI_toInt (by omega)) zc118
              refine lv_aload_n hx hb dX11_findMendings_102 rfl (lv_at hl 3 rfl) ?_
              refine lv_dup hx hb dX11_findMendings_103 rfl ?_
              refine zGetI (D := D) (ci := 2) (C := RX2) (T := TX2) (N := 10) hx hb hts hiX2 hown hH hL.1.1 rfl 5 (by decide) rfl hw13 (fun _ h9 => h9) dX11_findMendings_104 q5 ?_
              refine lv_iconst (v := nI 1) hx hb dX11_findMendings_107 (by decide) ?_
              refine lv_iadd hx hb dX11_findMendings_108 ?_
              refine lv_topi (fun v119 ev119 => ?_)
              obtain rfl : v119 = nI ((zFN (ok i) i cd (zFM ok n cd i) i2).1 + 1) := ev119.trans (nI_add _ _)
              refine zPutI (D := D) (ci := 2) (ty := .int) (C := RX2) (T := TX2) (N := 10) hx hb hts hiX2 tyX2 tyX2_ok nmX2 hown hH hS hL.1.1 rfl 5 (by decide) rfl hw13 (fun _ h9 => h9) rfl (by decide +kernel) rfl rfl dX11_findMendings_109 (fun H locs hH hS => ?_)
              obtain ⟨f120, ef120⟩ : ∃ f9 : zFi, f9 = zu f2 (3000 + q) 5 (nI ((zFN (ok i) i cd (zFM ok n cd i) i2).1 + 1)) := ⟨_, rfl⟩
              rw [← ef120] at hH
              have q121 : f120 3 1 = nI n := by rw [ef120, zu_n (fun h9 => by omega)]; exact q31
              have q122 : f120 (3000 + q) 2 = nI l0 := by rw [ef120, zu_n (fun h9 => absurd h9.2 (by decide))]; exact q2
              have q123 : f120 0 15 = nI td := by rw [ef120, zu_n (fun h9 => by omega)]; exact q15
              have q124 : f120 (3000 + q) 3 = nI sm0 := by rw [ef120, zu_n (fun h9 => absurd h9.2 (by decide))]; exact q3
              have q125 : f120 (3000 + q) 5 = nI ((zFN (ok i) i cd (zFM ok n cd i) i2).1 + 1) := by rw [ef120]; exact zu_s
              have hT := zTh.ci (fi' := f120) hT (fun i9 k9 h9 => by rw [ef120]; exact zu_n (by omega))
              have hLw := zqLw.cg (fi' := f120) hLw (fun i9 k9 h9 => by rw [ef120]; exact zu_n (by omega))
              have hPk := zqPk.cg (fi' := f120) hPk (fun i9 k9 h9 => by rw [ef120]; exact zu_n (by omega))
              refine lv_aload_n hx hb dX11_findMendings_112 rfl (lv_at hl 3 rfl) ?_
              refine lv_iload_n hx hb dX11_findMendings_113 rfl (lv_at hl 4 rfl) ?_
              refine zPutI (D := D) (ci := 2) (ty := .int) (C := RX2) (T := TX2) (N := 10) hx hb hts hiX2 tyX2 tyX2_ok nmX2 hown hH hS hL.1.1 rfl 6 (by decide) rfl hw14 (fun _ h9 => h9) rfl (by decide +kernel) rfl rfl dX11_findMendings_114 (fun H locs hH hS => ?_)
              obtain ⟨f126, ef126⟩ : ∃ f9 : zFi, f9 = zu f120 (3000 + q) 6 (nI i) := ⟨_, rfl⟩
              rw [← ef126] at hH
              have q127 : f126 3 1 = nI n := by rw [ef126, zu_n (fun h9 => by omega)]; exact q121
              have q128 : f126 (3000 + q) 2 = nI l0 := by rw [ef126, zu_n (fun h9 => absurd h9.2 (by decide))]; exact q122
              have q129 : f126 0 15 = nI td := by rw [ef126, zu_n (fun h9 => by omega)]; exact q123
              have q130 : f126 (3000 + q) 3 = nI sm0 := by rw [ef126, zu_n (fun h9 => absurd h9.2 (by decide))]; exact q124
              have q131 : f126 (3000 + q) 5 = nI ((zFN (ok i) i cd (zFM ok n cd i) i2).1 + 1) := by rw [ef126, zu_n (fun h9 => absurd h9.2 (by decide))]; exact q125
              have q132 : f126 (3000 + q) 6 = nI i := by rw [ef126]; exact zu_s
              have hT := zTh.ci (fi' := f126) hT (fun i9 k9 h9 => by rw [ef126]; exact zu_n (by omega))
              have hLw := zqLw.cg (fi' := f126) hLw (fun i9 k9 h9 => by rw [ef126]; exact zu_n (by omega))
              have hPk := zqPk.cg (fi' := f126) hPk (fun i9 k9 h9 => by rw [ef126]; exact zu_n (by omega))
              refine lv_aload_n hx hb dX11_findMendings_117 rfl (lv_at hl 3 rfl) ?_
              refine lv_aload hx hb dX11_findMendings_118 (lv_at hl 1 rfl) ?_
              refine zGetI (D := D) (ci := 8) (C := RX8) (T := TX8) (N := 10) hx hb hts hiX8 hown hH (hT.2.2.1 i2 (by omega)).1.1 rfl 1 (by decide) rfl hw11 (fun _ h9 => h9) dX11_findMendings_120 (hPk.2.2.2 i2 (by omega)).1 ?_
              refine zPutI (D := D) (ci := 2) (ty := .int) (C := RX2) (T := TX2) (N := 10) hx hb hts hiX2 tyX2 tyX2_ok nmX2 hown hH hS hL.1.1 rfl 7 (by decide) rfl hw15 (fun _ h9 => h9) rfl (by decide +kernel) rfl rfl dX11_findMendings_123 (fun H locs hH hS => ?_)
              obtain ⟨f133, ef133⟩ : ∃ f9 : zFi, f9 = zu f126 (3000 + q) 7 (nI (cd i2)) := ⟨_, rfl⟩
              rw [← ef133] at hH
              have q134 : f133 3 1 = nI n := by rw [ef133, zu_n (fun h9 => by omega)]; exact q127
              have q135 : f133 (3000 + q) 2 = nI l0 := by rw [ef133, zu_n (fun h9 => absurd h9.2 (by decide))]; exact q128
              have q136 : f133 0 15 = nI td := by rw [ef133, zu_n (fun h9 => by omega)]; exact q129
              have q137 : f133 (3000 + q) 3 = nI sm0 := by rw [ef133, zu_n (fun h9 => absurd h9.2 (by decide))]; exact q130
              have q138 : f133 (3000 + q) 5 = nI ((zFN (ok i) i cd (zFM ok n cd i) i2).1 + 1) := by rw [ef133, zu_n (fun h9 => absurd h9.2 (by decide))]; exact q131
              have q139 : f133 (3000 + q) 6 = nI i := by rw [ef133, zu_n (fun h9 => absurd h9.2 (by decide))]; exact q132
              have q140 : f133 (3000 + q) 7 = nI (cd i2) := by rw [ef133]; exact zu_s
              have hT := zTh.ci (fi' := f133) hT (fun i9 k9 h9 => by rw [ef133]; exact zu_n (by omega))
              have hLw := zqLw.cg (fi' := f133) hLw (fun i9 k9 h9 => by rw [ef133]; exact zu_n (by omega))
              have hPk := zqPk.cg (fi' := f133) hPk (fun i9 k9 h9 => by rw [ef133]; exact zu_n (by omega))
              refine lv_iinc (v := nI (i2 + 1)) (lv' := [(4, .int (nI (i2 + 1))), (6, .int (nI (pN i2))), (5, .ref (τ.1 (300 + i2))), (0, .ref (τ.1 0)), (1, .ref (τ.1 (3000 + q))), (2, .int (nI i)), (3, .int (nI (zSm (fun j => zIf (nI i) 0 (fun j => zPo cd pN n (lc j) * mn j) j) l0)))]) hx hb dX11_findMendings_126 hl (k := 6) rfl (by rw [show (Int32.ofInt 1 : Int32) = nI 1 from by decide, nI_add]) (by decide) rfl (fun ls hl => ?_)
              refine lv_goto (tgt := 20) hx hb dX11_findMendings_129 (by decide) ?_
              have hokt : ok i i2 = true := (hok i i2 (by omega) (by omega)).mpr ⟨htj, hzk110, by omega, by omega⟩
              exact ih107 (n - (i2 + 1)) (by omega) (i2 + 1, f133) _ _ _ (show n - (i2 + 1) = n - (i2 + 1) ∧ ((i2 + 1) ≤ n ∧ zFJ f133 q (zFN (ok i) i cd (zFM ok n cd i) (i2 + 1)) ∧ ∀ a b, ¬ (a = 3000 + q ∧ 5 ≤ b ∧ b ≤ 7) → f133 a b = fi a b) ∧ zH D A τ f133 fr ol s _ ∧ va_S A s.heap _ _ ∧ lv_has _ 7 [(0, .ref (τ.1 0)), (1, .ref (τ.1 (3000 + q))), (2, .int (nI i)), (3, .int (nI (zSm (fun j => zIf (nI i) 0 (fun j => zPo cd pN n (lc j) * mn j) j) l0))), (4, .int (nI (i2 + 1)))] from ⟨rfl, ⟨by omega, by rw [zFN_y hokt]; exact ⟨q138, fun _ => ⟨q139, q140⟩⟩, fun a b h => by rw [ef133, zu_n (by omega), ef126, zu_n (by omega), ef120, zu_n (by omega)]; exact hfr2 a b h⟩, hH, hS, lv_sub hl [3, 4, 5, 6, 0] rfl⟩)
set_option maxHeartbeats 4000000 in
set_option maxRecDepth 100000 in
/-- mend -/
theorem c_mendN (l : Launch) (hl0 : l.stackTraces = false) (D : va_G) (A : Nat → Prop) (sad : Nat → Nat) (τ : zTy) (fi : zFi) (fr : zFr) (ol : Int64) (hF : zFix τ fr) (n : Nat) (hT : zTh τ fi fr n) (td : Nat) (cd pN : Nat → Nat) (hPk : zqPk fi n td cd pN) (q : Nat) (hq5 : q ≤ 512) (hL : zLk τ fr q) (l0 : Nat) (lc mn : Nat → Nat) (hLw : zqLw fi q l0 lc mn) (ok : Nat → Nat → Bool) (sm0 : Nat) (hs0 : fi (3000 + q) 3 = nI sm0) (hs9 : sm0 ≤ 999999) (hok : (∀ k t, k < l0 → t < n → (ok k t = true ↔ (∀ j, j < l0 → ¬ nI k = nI j → 0 < zPo cd pN n (lc j)) ∧ 0 < pN t ∧ zSm (fun j => zIf (nI k) 0 (fun j => zPo cd pN n (lc j) * mn j) j) l0 + pN t * mn k = sm0 ∧ zUd (cd t) (lc k) 4 = 1))) (h50 : fi (3000 + q) 5 = nI 0) : Met l yX11_mend wsX11_mend ({ frames := 5, cells := 0, slots := 0, locals := 117 }) (va_Pc [.ref (τ.1 0), .ref (τ.1 (3000 + q))] (zQc D A sad τ fi fr ol)) (va_Qi (fun (r : Int32) (u : zFi) => ∃ lc2 m2 b2, r = nI b2 ∧ zMe (zPl cd pN n lc mn l0 sm0) (zFM ok n cd l0) lc lc2 m2 b2 ∧ zqLw u q l0 lc2 mn ∧ u (3000 + q) 5 = nI m2 ∧ u (3000 + q) 8 = nI (zCn (fun j => zPo cd pN n (lc2 j)) l0) ∧ ∀ a b, ¬ ((a = 3000 + q ∧ 5 ≤ b ∧ b ≤ 8) ∨ a = 4000 + q) → u a b = fi a b) (fun (u : zFi) (t : State) => zH D A τ u fr ol t t.heap) A) 0 0 A := by
  refine Met.ofW (cc := cX11_mend) (maxL := 4) (ret := (some .boolean)) (by decide) rfl ?_
  intro p9 e9 s m args below meth c9 s₁ B hml hv
  obtain ⟨rfl, hz, hH, hA⟩ := hv
  have hx := B.exec
  have hb := B.bytes
  have hr := B.returns
  have hts := atoms_spec (ws := wsX11_mend) B.pre
  have hown : s.vm.findClass RX11 = some m.cls := findClass_of_methodNamed B.named
  have hlocks := B.notSynchronized
  have hS : va_S A s.heap s.heap [] := va_S.rf
  have hl := lv_entry ([.ref (τ.1 0), .ref (τ.1 (3000 + q))]) (n := 4) (Nat.le_of_ble_eq_true rfl)
  rw [lg_entry_eq]
  generalize (lg_sl ([.ref (τ.1 0), .ref (τ.1 (3000 + q))]) ++ List.replicate (4 - (lg_sl ([.ref (τ.1 0), .ref (τ.1 (3000 + q))])).length) Slot.unset).toArray = ls at hl ⊢
  have hl : lv_has ls 4 [(0, .ref (τ.1 0)), (1, .ref (τ.1 (3000 + q)))] := hl
  have hn30 := hT.1
  have hl8 := hLw.1
  have hiX2 : ∀ w ∈ u_ws RX2 TX2 10, w ∈ wsX11_mend := fun _ h => List.mem_cons_of_mem _ (List.mem_append_left _ (List.mem_append_left _ (List.mem_append_left _ (List.mem_append_right _ h))))
  have hw1 := hts (.fieldLink RX11 234 "PostHouse$Letter" "sum" "I") (by decide +kernel)
  have hw2 := hts (.fieldLink RX11 201 "PostHouse$Letter" "mendings" "I") (by decide +kernel)
  have hw3 := hts (.fieldLink RX11 231 "PostHouse$Letter" "known" "I") (by decide +kernel)
  have hw4 := hts (.fieldLink RX11 459 "PostHouse$Letter" "codes" "[I") (by decide +kernel)
  have hw5 := hts (.fieldLink RX11 462 "PostHouse$Letter" "mendedLine" "I") (by decide +kernel)
  have hw6 := hts (.fieldLink RX11 465 "PostHouse$Letter" "mendedCode" "I") (by decide +kernel)
  refine lv_aload_n hx hb dX11_mend_0 rfl (lv_at hl 0 rfl) ?_
  refine lv_aload_n hx hb dX11_mend_1 rfl (lv_at hl 1 rfl) ?_
  refine lv_iconst (v := (-1)) hx hb dX11_mend_2 (by decide) ?_
  refine va_calli (va_runV (As := [.ref (τ.1 (3000 + q)), .int ((-1))]) (rest := []) ⟨hx, hb, hml, hown, hts⟩ (c_totalButN l hl0 D A sad τ fi fr ol ((-1)) hF n hT td cd pN hPk q hq5 hL l0 lc mn hLw) (cwV 2 hts gX11_mend_X11_totalBut rfl rfl rfl (by decide +kernel) ⟨Nat.le_of_ble_eq_true rfl, Nat.le_of_ble_eq_true rfl⟩) ⟨zQc_bl, zRecv hH (zk_0 hF) rfl, zQc_at hz hS hA hH⟩ rfl rfl hl.1 rfl (lv_room (Nat.le_of_ble_eq_true rfl)) dX11_mend_3 ⟨Nat.le_of_ble_eq_true rfl, Nat.le_of_ble_eq_true rfl⟩) hS (fun q _ h => h) (fun q h => h) (fun r101 u9 t9 H1 locs ht9 hvm9 hw hB hz1 hk1 hS => ?_)
  have hH := zMv ht9 hvm9 hB
  generalize H1 = H at hH hS ⊢
  rw [zSm_m hl8] at hw
  have htb : zSm (fun j => zPo cd pN n (lc j) * mn j) l0 ≤ 7920000 := hLw.bd (fun j _ => Nat.mul_le_mul_right _ hPk.le) (Nat.le_refl l0)
  rcases hw with ⟨rfl, htj⟩ | ⟨htj, rfl⟩
  · skip
    have hpl : ¬ zPl cd pN n lc mn l0 sm0 := fun h9 => by obtain ⟨j9, q9, -, z9⟩ := htj; have h8 := h9.1 j9 q9; omega
    refine lv_aload_n hx hb dX11_mend_6 rfl (lv_at hl 1 rfl) ?_
    refine zGetI (D := D) (ci := 2) (C := RX2) (T := TX2) (N := 10) hx hb hts hiX2 hown hH hL.1.1 rfl 3 (by decide) rfl hw1 (fun _ h9 => h9) dX11_mend_7 hs0 ?_
    refine lv_icmp_ne (tgt := 17) hx hb dX11_mend_10 (by decide) (fun c102 => ?_) (fun c102 => False.elim (by have zc102 := zc_eq ((by decide : ((-1) : Int32).toInt = (-1))) (nI_toInt (by omega)) c102; omega))
    refine lv_iconst (v := nI 0) hx hb dX11_mend_17 (by decide) ?_
    refine lv_istore_n (lv' := [(2, .int (nI 0)), (0, .ref (τ.1 0)), (1, .ref (τ.1 (3000 + q)))]) hx hb dX11_mend_18 rfl hl (by decide) rfl (fun ls hl => ?_)
    refine lv_iload_n hx hb dX11_mend_19 rfl (lv_at hl 0 rfl) ?_
    refine lv_if_ne (tgt := 28) hx hb dX11_mend_20 (by decide) (fun c103 => absurd (by decide) c103) (fun c103 => ?_)
    refine lv_aload_n hx hb dX11_mend_23 rfl (lv_at hl 1 rfl) ?_
    refine lv_aload_n hx hb dX11_mend_24 rfl (lv_at hl 2 rfl) ?_
    refine va_callv (va_runV (As := [.ref (τ.1 (3000 + q))]) (rest := []) ⟨hx, hb, hml, hown, hts⟩ (c_findMN l hl0 D A sad τ fi fr ol hF n hT td cd pN hPk q hq5 hL l0 lc mn hLw ok sm0 hs0 hs9 hok h50) (cwV 1 hts gX11_mend_X11_findMendings rfl rfl rfl (by decide +kernel) ⟨Nat.le_of_ble_eq_true rfl, Nat.le_of_ble_eq_true rfl⟩) ⟨zQc_bl, zRecv hH (zk_0 hF) rfl, zQc_at hz hS hA hH⟩ rfl rfl hl.1 rfl (lv_room (Nat.le_of_ble_eq_true rfl)) dX11_mend_25 ⟨Nat.le_of_ble_eq_true rfl, Nat.le_of_ble_eq_true rfl⟩) hS (fun q _ h => h) (fun q h => h) (fun u9 t9 H1 locs ht9 hvm9 hw hB hz1 hk1 hS => ?_)
    have hH := zMv ht9 hvm9 hB
    clear hB
    generalize u9 = f105 at hw hH
    generalize H1 = H at hH hS ⊢
    obtain ⟨hzj, hff⟩ := hw
    have hzn : (zFM ok n cd l0).1 ≤ 8 * 30 := Nat.le_trans zFM_le (Nat.mul_le_mul hl8 hn30)
    have hz5 := hzj.1
    have q106 : f105 (3000 + q) 2 = nI l0 := by rw [hff (3000 + q) 2 (by omega)]; exact hLw.2.1
    have q107 : f105 0 15 = nI td := by rw [hff 0 15 (by omega)]; exact hPk.1
    have q108 : f105 (3000 + q) 3 = nI sm0 := by rw [hff (3000 + q) 3 (by omega)]; exact hs0
    have hT := zTh.ci (fi' := f105) hT (fun i9 k9 h9 => hff i9 k9 (by omega))
    have hLw := zqLw.cg (fi' := f105) hLw (fun i9 k9 h9 => hff i9 k9 (by omega))
    have hPk := zqPk.cg (fi' := f105) hPk (fun i9 k9 h9 => hff i9 k9 (by omega))
    refine lv_aload_n hx hb dX11_mend_28 rfl (lv_at hl 2 rfl) ?_
    refine zGetI (D := D) (ci := 2) (C := RX2) (T := TX2) (N := 10) hx hb hts hiX2 hown hH hL.1.1 rfl 5 (by decide) rfl hw2 (fun _ h9 => h9) dX11_mend_29 hz5 ?_
    refine lv_iconst (v := nI 1) hx hb dX11_mend_32 (by decide) ?_
    refine lv_icmp_ne (tgt := 40) hx hb dX11_mend_33 (by decide) (fun c109 => ?_) (fun c109 => ?_)
    · have zc109 := c109
      replace zc109 := zc_neq (nI_toInt (by omega)) (nI_toInt (by omega)) zc109
      refine lv_iconst (v := nI 0) hx hb dX11_mend_40 (by decide) ?_
      refine lv_istore_n (lv' := [(3, .int (nI 0)), (2, .int (nI 0)), (0, .ref (τ.1 0)), (1, .ref (τ.1 (3000 + q)))]) hx hb dX11_mend_41 rfl hl (by decide) rfl (fun ls hl => ?_)
      refine lv_iload_n hx hb dX11_mend_42 rfl (lv_at hl 0 rfl) ?_
      refine lv_if_eq (tgt := 59) hx hb dX11_mend_43 (by decide) (fun c110 => ?_) (fun c110 => absurd (by decide) c110)
      refine lv_aload_n hx hb dX11_mend_59 rfl (lv_at hl 3 rfl) ?_
      refine lv_aload_n hx hb dX11_mend_60 rfl (lv_at hl 2 rfl) ?_
      refine lv_aload_n hx hb dX11_mend_61 rfl (lv_at hl 3 rfl) ?_
      refine va_calli (va_runV (As := [.ref (τ.1 (3000 + q))]) (rest := [.ref (τ.1 (3000 + q))]) ⟨hx, hb, hml, hown, hts⟩ (c_knownN l hl0 D A sad τ f105 fr ol hF n hT td cd pN hPk q hq5 hL l0 lc mn hLw) (cwV 1 hts gX11_mend_X11_knownLines rfl rfl rfl (by decide +kernel) ⟨Nat.le_of_ble_eq_true rfl, Nat.le_of_ble_eq_true rfl⟩) ⟨zQc_bl, zRecv hH (zk_0 hF) rfl, zQc_at hz hS hA hH⟩ rfl rfl hl.1 rfl (lv_room (Nat.le_of_ble_eq_true rfl)) dX11_mend_62 ⟨Nat.le_of_ble_eq_true rfl, Nat.le_of_ble_eq_true rfl⟩) hS (fun q _ h => h) (fun q h => h) (fun r111 u9 t9 H1 locs ht9 hvm9 hw hB hz1 hk1 hS => ?_)
      have hH := zMv ht9 hvm9 hB
      generalize H1 = H at hH hS ⊢
      obtain rfl := hw
      refine zPutI (D := D) (ci := 2) (ty := .int) (C := RX2) (T := TX2) (N := 10) hx hb hts hiX2 tyX2 tyX2_ok nmX2 hown hH hS hL.1.1 rfl 8 (by decide) rfl hw3 (fun _ h9 => h9) rfl (by decide +kernel) rfl rfl dX11_mend_65 (fun H locs hH hS => ?_)
      obtain ⟨f112, ef112⟩ : ∃ f9 : zFi, f9 = zu f105 (3000 + q) 8 (nI (zCn (fun j => zPo cd pN n (lc j)) l0)) := ⟨_, rfl⟩
      rw [← ef112] at hH
      have q113 : f112 (3000 + q) 2 = nI l0 := by rw [ef112, zu_n (fun h9 => absurd h9.2 (by decide))]; exact q106
      have q114 : f112 0 15 = nI td := by rw [ef112, zu_n (fun h9 => by omega)]; exact q107
      have q115 : f112 (3000 + q) 3 = nI sm0 := by rw [ef112, zu_n (fun h9 => absurd h9.2 (by decide))]; exact q108
      have q116 : f112 (3000 + q) 5 = nI ((zFM ok n cd l0).1) := by rw [ef112, zu_n (fun h9 => absurd h9.2 (by decide))]; exact hz5
      have q117 : f112 (3000 + q) 8 = nI (zCn (fun j => zPo cd pN n (lc j)) l0) := by rw [ef112]; exact zu_s
      have hT := zTh.ci (fi' := f112) hT (fun i9 k9 h9 => by rw [ef112]; exact zu_n (by omega))
      have hLw := zqLw.cg (fi' := f112) hLw (fun i9 k9 h9 => by rw [ef112]; exact zu_n (by omega))
      have hPk := zqPk.cg (fi' := f112) hPk (fun i9 k9 h9 => by rw [ef112]; exact zu_n (by omega))
      refine lv_iload_n hx hb dX11_mend_68 rfl (lv_at hl 1 rfl) ?_
      refine lv_if_ne (tgt := 76) hx hb dX11_mend_69 (by decide) (fun c118 => absurd (by decide) c118) (fun c118 => ?_)
      refine lv_iload_n hx hb dX11_mend_72 rfl (lv_at hl 0 rfl) ?_
      refine lv_if_eq (tgt := 80) hx hb dX11_mend_73 (by decide) (fun c119 => ?_) (fun c119 => absurd (by decide) c119)
      refine lv_iconst (v := nI 0) hx hb dX11_mend_80 (by decide) ?_
      refine W.widen (k := 0) (n := 0) (by decide) (by decide) ?_
      exact W.zret (v := nI 0) hx hb hr (by decide) (fun t9 ht9 hW9 => ⟨⟨nI 0, f112, rfl, ⟨lc, (zFM ok n cd l0).1, 0, rfl, Or.inr (Or.inr ⟨hpl, by omega, rfl, rfl, rfl⟩), hLw, q116, q117, fun a b h => by rw [ef112, zu_n (by omega), hff a b (by omega)]⟩, zEnd1 hH ht9 hW9⟩, hS.F ht9⟩) hS.2.2 dX11_mend_81
    · have zc109 := c109
      replace zc109 := zc_eq (nI_toInt (by omega)) (nI_toInt (by omega)) zc109
      refine lv_iconst (v := nI 1) hx hb dX11_mend_36 (by decide) ?_
      refine lv_goto (tgt := 41) hx hb dX11_mend_37 (by decide) ?_
      refine lv_istore_n (lv' := [(3, .int (nI 1)), (2, .int (nI 0)), (0, .ref (τ.1 0)), (1, .ref (τ.1 (3000 + q)))]) hx hb dX11_mend_41 rfl hl (by decide) rfl (fun ls hl => ?_)
      refine lv_iload_n hx hb dX11_mend_42 rfl (lv_at hl 0 rfl) ?_
      refine lv_if_eq (tgt := 59) hx hb dX11_mend_43 (by decide) (fun c120 => absurd c120 (by decide)) (fun c120 => ?_)
      obtain ⟨hz6, hz7⟩ := hzj.2 (by omega)
      have hi8 := zFM_in (ok := ok) (n := n) (cd := cd) 8 hl8 (by omega)
      have hc4 := zFM_cb (ok := ok) (n := n) (cd := cd) 10000 (fun j q9 => (hPk.2.2.2 j q9).2.1) (k := l0) (by omega)
      refine lv_aload_n hx hb dX11_mend_46 rfl (lv_at hl 3 rfl) ?_
      refine zGetR (D := D) (ci := 2) (C := RX2) (T := TX2) (N := 10) hx hb hts hiX2 hown hH hL.1.1 rfl 0 (by decide) rfl hw4 (fun _ h9 => h9) dX11_mend_47 hL.2.2.1 ?_
      refine lv_aload_n hx hb dX11_mend_50 rfl (lv_at hl 3 rfl) ?_
      refine zGetI (D := D) (ci := 2) (C := RX2) (T := TX2) (N := 10) hx hb hts hiX2 hown hH hL.1.1 rfl 6 (by decide) rfl hw5 (fun _ h9 => h9) dX11_mend_51 hz6 ?_
      refine lv_aload_n hx hb dX11_mend_54 rfl (lv_at hl 3 rfl) ?_
      refine zGetI (D := D) (ci := 2) (C := RX2) (T := TX2) (N := 10) hx hb hts hiX2 hown hH hL.1.1 rfl 7 (by decide) rfl hw6 (fun _ h9 => h9) dX11_mend_55 hz7 ?_
      refine zIastN (D := D) hx hb hH hS hL.1.2.1 hL.2.1.1 (by omega) (by omega) dX11_mend_58 (fun H locs hH hS => ?_)
      obtain ⟨f121, ef121⟩ : ∃ f9 : zFi, f9 = zu f105 (4000 + q) ((zFM ok n cd l0).2.1) (nI ((zFM ok n cd l0).2.2)) := ⟨_, rfl⟩
      rw [← ef121] at hH
      have q122 : f121 (3000 + q) 2 = nI l0 := by rw [ef121, zu_n (fun h9 => by omega)]; exact q106
      have q123 : f121 0 15 = nI td := by rw [ef121, zu_n (fun h9 => by omega)]; exact q107
      have q124 : f121 (3000 + q) 3 = nI sm0 := by rw [ef121, zu_n (fun h9 => by omega)]; exact q108
      have q125 : f121 (3000 + q) 5 = nI ((zFM ok n cd l0).1) := by rw [ef121, zu_n (fun h9 => by omega)]; exact hz5
      have q126 : f121 (3000 + q) 6 = nI ((zFM ok n cd l0).2.1) := by rw [ef121, zu_n (fun h9 => by omega)]; exact hz6
      have q127 : f121 (3000 + q) 7 = nI ((zFM ok n cd l0).2.2) := by rw [ef121, zu_n (fun h9 => by omega)]; exact hz7
      have q128 : f121 (4000 + q) ((zFM ok n cd l0).2.1) = nI ((zFM ok n cd l0).2.2) := by rw [ef121]; exact zu_s
      have hT := zTh.ci (fi' := f121) hT (fun i9 k9 h9 => by rw [ef121]; exact zu_n (by omega))
      have hPk := zqPk.cg (fi' := f121) hPk (fun i9 k9 h9 => by rw [ef121]; exact zu_n (by omega))
      have hLw := hLw.up hc4 ef121
      refine lv_aload_n hx hb dX11_mend_59 rfl (lv_at hl 3 rfl) ?_
      refine lv_aload_n hx hb dX11_mend_60 rfl (lv_at hl 2 rfl) ?_
      refine lv_aload_n hx hb dX11_mend_61 rfl (lv_at hl 3 rfl) ?_
      refine va_calli (va_runV (As := [.ref (τ.1 (3000 + q))]) (rest := [.ref (τ.1 (3000 + q))]) ⟨hx, hb, hml, hown, hts⟩ (c_knownN l hl0 D A sad τ f121 fr ol hF n hT td cd pN hPk q hq5 hL l0 ((zUp lc (zFM ok n cd l0).2.1 (zFM ok n cd l0).2.2)) mn hLw) (cwV 1 hts gX11_mend_X11_knownLines rfl rfl rfl (by decide +kernel) ⟨Nat.le_of_ble_eq_true rfl, Nat.le_of_ble_eq_true rfl⟩) ⟨zQc_bl, zRecv hH (zk_0 hF) rfl, zQc_at hz hS hA hH⟩ rfl rfl hl.1 rfl (lv_room (Nat.le_of_ble_eq_true rfl)) dX11_mend_62 ⟨Nat.le_of_ble_eq_true rfl, Nat.le_of_ble_eq_true rfl⟩) hS (fun q _ h => h) (fun q h => h) (fun r129 u9 t9 H1 locs ht9 hvm9 hw hB hz1 hk1 hS => ?_)
      have hH := zMv ht9 hvm9 hB
      generalize H1 = H at hH hS ⊢
      obtain rfl := hw
      refine zPutI (D := D) (ci := 2) (ty := .int) (C := RX2) (T := TX2) (N := 10) hx hb hts hiX2 tyX2 tyX2_ok nmX2 hown hH hS hL.1.1 rfl 8 (by decide) rfl hw3 (fun _ h9 => h9) rfl (by decide +kernel) rfl rfl dX11_mend_65 (fun H locs hH hS => ?_)
      obtain ⟨f130, ef130⟩ : ∃ f9 : zFi, f9 = zu f121 (3000 + q) 8 (nI (zCn (fun j => zPo cd pN n ((zUp lc (zFM ok n cd l0).2.1 (zFM ok n cd l0).2.2) j)) l0)) := ⟨_, rfl⟩
      rw [← ef130] at hH
      have q131 : f130 (3000 + q) 2 = nI l0 := by rw [ef130, zu_n (fun h9 => absurd h9.2 (by decide))]; exact q122
      have q132 : f130 0 15 = nI td := by rw [ef130, zu_n (fun h9 => by omega)]; exact q123
      have q133 : f130 (3000 + q) 3 = nI sm0 := by rw [ef130, zu_n (fun h9 => absurd h9.2 (by decide))]; exact q124
      have q134 : f130 (3000 + q) 5 = nI ((zFM ok n cd l0).1) := by rw [ef130, zu_n (fun h9 => absurd h9.2 (by decide))]; exact q125
      have q135 : f130 (3000 + q) 6 = nI ((zFM ok n cd l0).2.1) := by rw [ef130, zu_n (fun h9 => absurd h9.2 (by decide))]; exact q126
      have q136 : f130 (3000 + q) 7 = nI ((zFM ok n cd l0).2.2) := by rw [ef130, zu_n (fun h9 => absurd h9.2 (by decide))]; exact q127
      have q137 : f130 (4000 + q) ((zFM ok n cd l0).2.1) = nI ((zFM ok n cd l0).2.2) := by rw [ef130, zu_n (fun h9 => by omega)]; exact q128
      have q138 : f130 (3000 + q) 8 = nI (zCn (fun j => zPo cd pN n ((zUp lc (zFM ok n cd l0).2.1 (zFM ok n cd l0).2.2) j)) l0) := by rw [ef130]; exact zu_s
      have hT := zTh.ci (fi' := f130) hT (fun i9 k9 h9 => by rw [ef130]; exact zu_n (by omega))
      have hPk := zqPk.cg (fi' := f130) hPk (fun i9 k9 h9 => by rw [ef130]; exact zu_n (by omega))
      have hLw := zqLw.cg (fi' := f130) hLw (fun i9 k9 h9 => by rw [ef130]; exact zu_n (by omega))
      refine lv_iload_n hx hb dX11_mend_68 rfl (lv_at hl 1 rfl) ?_
      refine lv_if_ne (tgt := 76) hx hb dX11_mend_69 (by decide) (fun c139 => absurd (by decide) c139) (fun c139 => ?_)
      refine lv_iload_n hx hb dX11_mend_72 rfl (lv_at hl 0 rfl) ?_
      refine lv_if_eq (tgt := 80) hx hb dX11_mend_73 (by decide) (fun c140 => absurd c140 (by decide)) (fun c140 => ?_)
      refine lv_iconst (v := nI 1) hx hb dX11_mend_76 (by decide) ?_
      refine lv_goto (tgt := 81) hx hb dX11_mend_77 (by decide) ?_
      refine W.widen (k := 0) (n := 0) (by decide) (by decide) ?_
      exact W.zret (v := nI 1) hx hb hr (by decide) (fun t9 ht9 hW9 => ⟨⟨nI 1, f130, rfl, ⟨(zUp lc (zFM ok n cd l0).2.1 (zFM ok n cd l0).2.2), 1, 1, rfl, Or.inr (Or.inl ⟨hpl, by omega, rfl, rfl, rfl⟩), hLw, by have h9 := q134; rw [show (zFM ok n cd l0).1 = 1 by omega] at h9; exact h9, q138, fun a b h => by rw [ef130, zu_n (by omega), ef121, zu_n (by omega), hff a b (by omega)]⟩, zEnd1 hH ht9 hW9⟩, hS.F ht9⟩) hS.2.2 dX11_mend_81
  · skip
    refine lv_aload_n hx hb dX11_mend_6 rfl (lv_at hl 1 rfl) ?_
    refine zGetI (D := D) (ci := 2) (C := RX2) (T := TX2) (N := 10) hx hb hts hiX2 hown hH hL.1.1 rfl 3 (by decide) rfl hw1 (fun _ h9 => h9) dX11_mend_7 hs0 ?_
    refine lv_icmp_ne (tgt := 17) hx hb dX11_mend_10 (by decide) (fun c141 => ?_) (fun c141 => ?_)
    · have zc141 := c141
      replace zc141 := zc_neq (nI_toInt (by omega)) (nI_toInt (by omega)) zc141
      have hpl : ¬ zPl cd pN n lc mn l0 sm0 := fun h9 => by have h8 := h9.2; omega
      refine lv_iconst (v := nI 0) hx hb dX11_mend_17 (by decide) ?_
      refine lv_istore_n (lv' := [(2, .int (nI 0)), (0, .ref (τ.1 0)), (1, .ref (τ.1 (3000 + q)))]) hx hb dX11_mend_18 rfl hl (by decide) rfl (fun ls hl => ?_)
      refine lv_iload_n hx hb dX11_mend_19 rfl (lv_at hl 0 rfl) ?_
      refine lv_if_ne (tgt := 28) hx hb dX11_mend_20 (by decide) (fun c142 => absurd (by decide) c142) (fun c142 => ?_)
      refine lv_aload_n hx hb dX11_mend_23 rfl (lv_at hl 1 rfl) ?_
      refine lv_aload_n hx hb dX11_mend_24 rfl (lv_at hl 2 rfl) ?_
      refine va_callv (va_runV (As := [.ref (τ.1 (3000 + q))]) (rest := []) ⟨hx, hb, hml, hown, hts⟩ (c_findMN l hl0 D A sad τ fi fr ol hF n hT td cd pN hPk q hq5 hL l0 lc mn hLw ok sm0 hs0 hs9 hok h50) (cwV 1 hts gX11_mend_X11_findMendings rfl rfl rfl (by decide +kernel) ⟨Nat.le_of_ble_eq_true rfl, Nat.le_of_ble_eq_true rfl⟩) ⟨zQc_bl, zRecv hH (zk_0 hF) rfl, zQc_at hz hS hA hH⟩ rfl rfl hl.1 rfl (lv_room (Nat.le_of_ble_eq_true rfl)) dX11_mend_25 ⟨Nat.le_of_ble_eq_true rfl, Nat.le_of_ble_eq_true rfl⟩) hS (fun q _ h => h) (fun q h => h) (fun u9 t9 H1 locs ht9 hvm9 hw hB hz1 hk1 hS => ?_)
      have hH := zMv ht9 hvm9 hB
      clear hB
      generalize u9 = f144 at hw hH
      generalize H1 = H at hH hS ⊢
      obtain ⟨hzj, hff⟩ := hw
      have hzn : (zFM ok n cd l0).1 ≤ 8 * 30 := Nat.le_trans zFM_le (Nat.mul_le_mul hl8 hn30)
      have hz5 := hzj.1
      have q145 : f144 (3000 + q) 2 = nI l0 := by rw [hff (3000 + q) 2 (by omega)]; exact hLw.2.1
      have q146 : f144 0 15 = nI td := by rw [hff 0 15 (by omega)]; exact hPk.1
      have q147 : f144 (3000 + q) 3 = nI sm0 := by rw [hff (3000 + q) 3 (by omega)]; exact hs0
      have hT := zTh.ci (fi' := f144) hT (fun i9 k9 h9 => hff i9 k9 (by omega))
      have hLw := zqLw.cg (fi' := f144) hLw (fun i9 k9 h9 => hff i9 k9 (by omega))
      have hPk := zqPk.cg (fi' := f144) hPk (fun i9 k9 h9 => hff i9 k9 (by omega))
      refine lv_aload_n hx hb dX11_mend_28 rfl (lv_at hl 2 rfl) ?_
      refine zGetI (D := D) (ci := 2) (C := RX2) (T := TX2) (N := 10) hx hb hts hiX2 hown hH hL.1.1 rfl 5 (by decide) rfl hw2 (fun _ h9 => h9) dX11_mend_29 hz5 ?_
      refine lv_iconst (v := nI 1) hx hb dX11_mend_32 (by decide) ?_
      refine lv_icmp_ne (tgt := 40) hx hb dX11_mend_33 (by decide) (fun c148 => ?_) (fun c148 => ?_)
      · have zc148 := c148
        replace zc148 := zc_neq (nI_toInt (by omega)) (nI_toInt (by omega)) zc148
        refine lv_iconst (v := nI 0) hx hb dX11_mend_40 (by decide) ?_
        refine lv_istore_n (lv' := [(3, .int (nI 0)), (2, .int (nI 0)), (0, .ref (τ.1 0)), (1, .ref (τ.1 (3000 + q)))]) hx hb dX11_mend_41 rfl hl (by decide) rfl (fun ls hl => ?_)
        refine lv_iload_n hx hb dX11_mend_42 rfl (lv_at hl 0 rfl) ?_
        refine lv_if_eq (tgt := 59) hx hb dX11_mend_43 (by decide) (fun c149 => ?_) (fun c149 => absurd (by decide) c149)
        refine lv_aload_n hx hb dX11_mend_59 rfl (lv_at hl 3 rfl) ?_
        refine lv_aload_n hx hb dX11_mend_60 rfl (lv_at hl 2 rfl) ?_
        refine lv_aload_n hx hb dX11_mend_61 rfl (lv_at hl 3 rfl) ?_
        refine va_calli (va_runV (As := [.ref (τ.1 (3000 + q))]) (rest := [.ref (τ.1 (3000 + q))]) ⟨hx, hb, hml, hown, hts⟩ (c_knownN l hl0 D A sad τ f144 fr ol hF n hT td cd pN hPk q hq5 hL l0 lc mn hLw) (cwV 1 hts gX11_mend_X11_knownLines rfl rfl rfl (by decide +kernel) ⟨Nat.le_of_ble_eq_true rfl, Nat.le_of_ble_eq_true rfl⟩) ⟨zQc_bl, zRecv hH (zk_0 hF) rfl, zQc_at hz hS hA hH⟩ rfl rfl hl.1 rfl (lv_room (Nat.le_of_ble_eq_true rfl)) dX11_mend_62 ⟨Nat.le_of_ble_eq_true rfl, Nat.le_of_ble_eq_true rfl⟩) hS (fun q _ h => h) (fun q h => h) (fun r150 u9 t9 H1 locs ht9 hvm9 hw hB hz1 hk1 hS => ?_)
        have hH := zMv ht9 hvm9 hB
        generalize H1 = H at hH hS ⊢
        obtain rfl := hw
        refine zPutI (D := D) (ci := 2) (ty := .int) (C := RX2) (T := TX2) (N := 10) hx hb hts hiX2 tyX2 tyX2_ok nmX2 hown hH hS hL.1.1 rfl 8 (by decide) rfl hw3 (fun _ h9 => h9) rfl (by decide +kernel) rfl rfl dX11_mend_65 (fun H locs hH hS => ?_)
        obtain ⟨f151, ef151⟩ : ∃ f9 : zFi, f9 = zu f144 (3000 + q) 8 (nI (zCn (fun j => zPo cd pN n (lc j)) l0)) := ⟨_, rfl⟩
        rw [← ef151] at hH
        have q152 : f151 (3000 + q) 2 = nI l0 := by rw [ef151, zu_n (fun h9 => absurd h9.2 (by decide))]; exact q145
        have q153 : f151 0 15 = nI td := by rw [ef151, zu_n (fun h9 => by omega)]; exact q146
        have q154 : f151 (3000 + q) 3 = nI sm0 := by rw [ef151, zu_n (fun h9 => absurd h9.2 (by decide))]; exact q147
        have q155 : f151 (3000 + q) 5 = nI ((zFM ok n cd l0).1) := by rw [ef151, zu_n (fun h9 => absurd h9.2 (by decide))]; exact hz5
        have q156 : f151 (3000 + q) 8 = nI (zCn (fun j => zPo cd pN n (lc j)) l0) := by rw [ef151]; exact zu_s
        have hT := zTh.ci (fi' := f151) hT (fun i9 k9 h9 => by rw [ef151]; exact zu_n (by omega))
        have hLw := zqLw.cg (fi' := f151) hLw (fun i9 k9 h9 => by rw [ef151]; exact zu_n (by omega))
        have hPk := zqPk.cg (fi' := f151) hPk (fun i9 k9 h9 => by rw [ef151]; exact zu_n (by omega))
        refine lv_iload_n hx hb dX11_mend_68 rfl (lv_at hl 1 rfl) ?_
        refine lv_if_ne (tgt := 76) hx hb dX11_mend_69 (by decide) (fun c157 => absurd (by decide) c157) (fun c157 => ?_)
        refine lv_iload_n hx hb dX11_mend_72 rfl (lv_at hl 0 rfl) ?_
        refine lv_if_eq (tgt := 80) hx hb dX11_mend_73 (by decide) (fun c158 => ?_) (fun c158 => absurd (by decide) c158)
        refine lv_iconst (v := nI 0) hx hb dX11_mend_80 (by decide) ?_
        refine W.widen (k := 0) (n := 0) (by decide) (by decide) ?_
        exact W.zret (v := nI 0) hx hb hr (by decide) (fun t9 ht9 hW9 => ⟨⟨nI 0, f151, rfl, ⟨lc, (zFM ok n cd l0).1, 0, rfl, Or.inr (Or.inr ⟨hpl, by omega, rfl, rfl, rfl⟩), hLw, q155, q156, fun a b h => by rw [ef151, zu_n (by omega), hff a b (by omega)]⟩, zEnd1 hH ht9 hW9⟩, hS.F ht9⟩) hS.2.2 dX11_mend_81
      · have zc148 := c148
        replace zc148 := zc_eq (nI_toInt (by omega)) (nI_toInt (by omega)) zc148
        refine lv_iconst (v := nI 1) hx hb dX11_mend_36 (by decide) ?_
        refine lv_goto (tgt := 41) hx hb dX11_mend_37 (by decide) ?_
        refine lv_istore_n (lv' := [(3, .int (nI 1)), (2, .int (nI 0)), (0, .ref (τ.1 0)), (1, .ref (τ.1 (3000 + q)))]) hx hb dX11_mend_41 rfl hl (by decide) rfl (fun ls hl => ?_)
        refine lv_iload_n hx hb dX11_mend_42 rfl (lv_at hl 0 rfl) ?_
        refine lv_if_eq (tgt := 59) hx hb dX11_mend_43 (by decide) (fun c159 => absurd c159 (by decide)) (fun c159 => ?_)
        obtain ⟨hz6, hz7⟩ := hzj.2 (by omega)
        have hi8 := zFM_in (ok := ok) (n := n) (cd := cd) 8 hl8 (by omega)
        have hc4 := zFM_cb (ok := ok) (n := n) (cd := cd) 10000 (fun j q9 => (hPk.2.2.2 j q9).2.1) (k := l0) (by omega)
        refine lv_aload_n hx hb dX11_mend_46 rfl (lv_at hl 3 rfl) ?_
        refine zGetR (D := D) (ci := 2) (C := RX2) (T := TX2) (N := 10) hx hb hts hiX2 hown hH hL.1.1 rfl 0 (by decide) rfl hw4 (fun _ h9 => h9) dX11_mend_47 hL.2.2.1 ?_
        refine lv_aload_n hx hb dX11_mend_50 rfl (lv_at hl 3 rfl) ?_
        refine zGetI (D := D) (ci := 2) (C := RX2) (T := TX2) (N := 10) hx hb hts hiX2 hown hH hL.1.1 rfl 6 (by decide) rfl hw5 (fun _ h9 => h9) dX11_mend_51 hz6 ?_
        refine lv_aload_n hx hb dX11_mend_54 rfl (lv_at hl 3 rfl) ?_
        refine zGetI (D := D) (ci := 2) (C := RX2) (T := TX2) (N := 10) hx hb hts hiX2 hown hH hL.1.1 rfl 7 (by decide) rfl hw6 (fun _ h9 => h9) dX11_mend_55 hz7 ?_
        refine zIastN (D := D) hx hb hH hS hL.1.2.1 hL.2.1.1 (by omega) (by omega) dX11_mend_58 (fun H locs hH hS => ?_)
        obtain ⟨f160, ef160⟩ : ∃ f9 : zFi, f9 = zu f144 (4000 + q) ((zFM ok n cd l0).2.1) (nI ((zFM ok n cd l0).2.2)) := ⟨_, rfl⟩
        rw [← ef160] at hH
        have q161 : f160 (3000 + q) 2 = nI l0 := by rw [ef160, zu_n (fun h9 => by omega)]; exact q145
        have q162 : f160 0 15 = nI td := by rw [ef160, zu_n (fun h9 => by omega)]; exact q146
        have q163 : f160 (3000 + q) 3 = nI sm0 := by rw [ef160, zu_n (fun h9 => by omega)]; exact q147
        have q164 : f160 (3000 + q) 5 = nI ((zFM ok n cd l0).1) := by rw [ef160, zu_n (fun h9 => by omega)]; exact hz5
        have q165 : f160 (3000 + q) 6 = nI ((zFM ok n cd l0).2.1) := by rw [ef160, zu_n (fun h9 => by omega)]; exact hz6
        have q166 : f160 (3000 + q) 7 = nI ((zFM ok n cd l0).2.2) := by rw [ef160, zu_n (fun h9 => by omega)]; exact hz7
        have q167 : f160 (4000 + q) ((zFM ok n cd l0).2.1) = nI ((zFM ok n cd l0).2.2) := by rw [ef160]; exact zu_s
        have hT := zTh.ci (fi' := f160) hT (fun i9 k9 h9 => by rw [ef160]; exact zu_n (by omega))
        have hPk := zqPk.cg (fi' := f160) hPk (fun i9 k9 h9 => by rw [ef160]; exact zu_n (by omega))
        have hLw := hLw.up hc4 ef160
        refine lv_aload_n hx hb dX11_mend_59 rfl (lv_at hl 3 rfl) ?_
        refine lv_aload_n hx hb dX11_mend_60 rfl (lv_at hl 2 rfl) ?_
        refine lv_aload_n hx hb dX11_mend_61 rfl (lv_at hl 3 rfl) ?_
        refine va_calli (va_runV (As := [.ref (τ.1 (3000 + q))]) (rest := [.ref (τ.1 (3000 + q))]) ⟨hx, hb, hml, hown, hts⟩ (c_knownN l hl0 D A sad τ f160 fr ol hF n hT td cd pN hPk q hq5 hL l0 ((zUp lc (zFM ok n cd l0).2.1 (zFM ok n cd l0).2.2)) mn hLw) (cwV 1 hts gX11_mend_X11_knownLines rfl rfl rfl (by decide +kernel) ⟨Nat.le_of_ble_eq_true rfl, Nat.le_of_ble_eq_true rfl⟩) ⟨zQc_bl, zRecv hH (zk_0 hF) rfl, zQc_at hz hS hA hH⟩ rfl rfl hl.1 rfl (lv_room (Nat.le_of_ble_eq_true rfl)) dX11_mend_62 ⟨Nat.le_of_ble_eq_true rfl, Nat.le_of_ble_eq_true rfl⟩) hS (fun q _ h => h) (fun q h => h) (fun r168 u9 t9 H1 locs ht9 hvm9 hw hB hz1 hk1 hS => ?_)
        have hH := zMv ht9 hvm9 hB
        generalize H1 = H at hH hS ⊢
        obtain rfl := hw
        refine zPutI (D := D) (ci := 2) (ty := .int) (C := RX2) (T := TX2) (N := 10) hx hb hts hiX2 tyX2 tyX2_ok nmX2 hown hH hS hL.1.1 rfl 8 (by decide) rfl hw3 (fun _ h9 => h9) rfl (by decide +kernel) rfl rfl dX11_mend_65 (fun H locs hH hS => ?_)
        obtain ⟨f169, ef169⟩ : ∃ f9 : zFi, f9 = zu f160 (3000 + q) 8 (nI (zCn (fun j => zPo cd pN n ((zUp lc (zFM ok n cd l0).2.1 (zFM ok n cd l0).2.2) j)) l0)) := ⟨_, rfl⟩
        rw [← ef169] at hH
        have q170 : f169 (3000 + q) 2 = nI l0 := by rw [ef169, zu_n (fun h9 => absurd h9.2 (by decide))]; exact q161
        have q171 : f169 0 15 = nI td := by rw [ef169, zu_n (fun h9 => by omega)]; exact q162
        have q172 : f169 (3000 + q) 3 = nI sm0 := by rw [ef169, zu_n (fun h9 => absurd h9.2 (by decide))]; exact q163
        have q173 : f169 (3000 + q) 5 = nI ((zFM ok n cd l0).1) := by rw [ef169, zu_n (fun h9 => absurd h9.2 (by decide))]; exact q164
        have q174 : f169 (3000 + q) 6 = nI ((zFM ok n cd l0).2.1) := by rw [ef169, zu_n (fun h9 => absurd h9.2 (by decide))]; exact q165
        have q175 : f169 (3000 + q) 7 = nI ((zFM ok n cd l0).2.2) := by rw [ef169, zu_n (fun h9 => absurd h9.2 (by decide))]; exact q166
        have q176 : f169 (4000 + q) ((zFM ok n cd l0).2.1) = nI ((zFM ok n cd l0).2.2) := by rw [ef169, zu_n (fun h9 => by omega)]; exact q167
        have q177 : f169 (3000 + q) 8 = nI (zCn (fun j => zPo cd pN n ((zUp lc (zFM ok n cd l0).2.1 (zFM ok n cd l0).2.2) j)) l0) := by rw [ef169]; exact zu_s
        have hT := zTh.ci (fi' := f169) hT (fun i9 k9 h9 => by rw [ef169]; exact zu_n (by omega))
        have hPk := zqPk.cg (fi' := f169) hPk (fun i9 k9 h9 => by rw [ef169]; exact zu_n (by omega))
        have hLw := zqLw.cg (fi' := f169) hLw (fun i9 k9 h9 => by rw [ef169]; exact zu_n (by omega))
        refine lv_iload_n hx hb dX11_mend_68 rfl (lv_at hl 1 rfl) ?_
        refine lv_if_ne (tgt := 76) hx hb dX11_mend_69 (by decide) (fun c178 => absurd (by decide) c178) (fun c178 => ?_)
        refine lv_iload_n hx hb dX11_mend_72 rfl (lv_at hl 0 rfl) ?_
        refine lv_if_eq (tgt := 80) hx hb dX11_mend_73 (by decide) (fun c179 => absurd c179 (by decide)) (fun c179 => ?_)
        refine lv_iconst (v := nI 1) hx hb dX11_mend_76 (by decide) ?_
        refine lv_goto (tgt := 81) hx hb dX11_mend_77 (by decide) ?_
        refine W.widen (k := 0) (n := 0) (by decide) (by decide) ?_
        exact W.zret (v := nI 1) hx hb hr (by decide) (fun t9 ht9 hW9 => ⟨⟨nI 1, f169, rfl, ⟨(zUp lc (zFM ok n cd l0).2.1 (zFM ok n cd l0).2.2), 1, 1, rfl, Or.inr (Or.inl ⟨hpl, by omega, rfl, rfl, rfl⟩), hLw, by have h9 := q173; rw [show (zFM ok n cd l0).1 = 1 by omega] at h9; exact h9, q177, fun a b h => by rw [ef169, zu_n (by omega), ef160, zu_n (by omega), hff a b (by omega)]⟩, zEnd1 hH ht9 hW9⟩, hS.F ht9⟩) hS.2.2 dX11_mend_81
    · have zc141 := c141
      replace zc141 := zc_eq (nI_toInt (by omega)) (nI_toInt (by omega)) zc141
      have hpl : zPl cd pN n lc mn l0 sm0 := ⟨fun j q9 => htj j q9 (zNm1 (by omega)), by omega⟩
      refine lv_iconst (v := nI 1) hx hb dX11_mend_13 (by decide) ?_
      refine lv_goto (tgt := 18) hx hb dX11_mend_14 (by decide) ?_
      refine lv_istore_n (lv' := [(2, .int (nI 1)), (0, .ref (τ.1 0)), (1, .ref (τ.1 (3000 + q)))]) hx hb dX11_mend_18 rfl hl (by decide) rfl (fun ls hl => ?_)
      refine lv_iload_n hx hb dX11_mend_19 rfl (lv_at hl 0 rfl) ?_
      refine lv_if_ne (tgt := 28) hx hb dX11_mend_20 (by decide) (fun c180 => ?_) (fun c180 => absurd c180 (by decide))
      refine lv_aload_n hx hb dX11_mend_28 rfl (lv_at hl 2 rfl) ?_
      refine zGetI (D := D) (ci := 2) (C := RX2) (T := TX2) (N := 10) hx hb hts hiX2 hown hH hL.1.1 rfl 5 (by decide) rfl hw2 (fun _ h9 => h9) dX11_mend_29 h50 ?_
      refine lv_iconst (v := nI 1) hx hb dX11_mend_32 (by decide) ?_
      refine lv_icmp_ne (tgt := 40) hx hb dX11_mend_33 (by decide) (fun c181 => ?_) (fun c181 => absurd c181 (by decide))
      refine lv_iconst (v := nI 0) hx hb dX11_mend_40 (by decide) ?_
      refine lv_istore_n (lv' := [(3, .int (nI 0)), (2, .int (nI 1)), (0, .ref (τ.1 0)), (1, .ref (τ.1 (3000 + q)))]) hx hb dX11_mend_41 rfl hl (by decide) rfl (fun ls hl => ?_)
      refine lv_iload_n hx hb dX11_mend_42 rfl (lv_at hl 0 rfl) ?_
      refine lv_if_eq (tgt := 59) hx hb dX11_mend_43 (by decide) (fun c182 => ?_) (fun c182 => absurd (by decide) c182)
      refine lv_aload_n hx hb dX11_mend_59 rfl (lv_at hl 3 rfl) ?_
      refine lv_aload_n hx hb dX11_mend_60 rfl (lv_at hl 2 rfl) ?_
      refine lv_aload_n hx hb dX11_mend_61 rfl (lv_at hl 3 rfl) ?_
      refine va_calli (va_runV (As := [.ref (τ.1 (3000 + q))]) (rest := [.ref (τ.1 (3000 + q))]) ⟨hx, hb, hml, hown, hts⟩ (c_knownN l hl0 D A sad τ fi fr ol hF n hT td cd pN hPk q hq5 hL l0 lc mn hLw) (cwV 1 hts gX11_mend_X11_knownLines rfl rfl rfl (by decide +kernel) ⟨Nat.le_of_ble_eq_true rfl, Nat.le_of_ble_eq_true rfl⟩) ⟨zQc_bl, zRecv hH (zk_0 hF) rfl, zQc_at hz hS hA hH⟩ rfl rfl hl.1 rfl (lv_room (Nat.le_of_ble_eq_true rfl)) dX11_mend_62 ⟨Nat.le_of_ble_eq_true rfl, Nat.le_of_ble_eq_true rfl⟩) hS (fun q _ h => h) (fun q h => h) (fun r183 u9 t9 H1 locs ht9 hvm9 hw hB hz1 hk1 hS => ?_)
      have hH := zMv ht9 hvm9 hB
      generalize H1 = H at hH hS ⊢
      obtain rfl := hw
      refine zPutI (D := D) (ci := 2) (ty := .int) (C := RX2) (T := TX2) (N := 10) hx hb hts hiX2 tyX2 tyX2_ok nmX2 hown hH hS hL.1.1 rfl 8 (by decide) rfl hw3 (fun _ h9 => h9) rfl (by decide +kernel) rfl rfl dX11_mend_65 (fun H locs hH hS => ?_)
      obtain ⟨f184, ef184⟩ : ∃ f9 : zFi, f9 = zu fi (3000 + q) 8 (nI (zCn (fun j => zPo cd pN n (lc j)) l0)) := ⟨_, rfl⟩
      rw [← ef184] at hH
      have q185 : f184 (3000 + q) 2 = nI l0 := by rw [ef184, zu_n (fun h9 => absurd h9.2 (by decide))]; exact hLw.2.1
      have q186 : f184 0 15 = nI td := by rw [ef184, zu_n (fun h9 => by omega)]; exact hPk.1
      have q187 : f184 (3000 + q) 3 = nI sm0 := by rw [ef184, zu_n (fun h9 => absurd h9.2 (by decide))]; exact hs0
      have q188 : f184 (3000 + q) 5 = nI 0 := by rw [ef184, zu_n (fun h9 => absurd h9.2 (by decide))]; exact h50
      have q189 : f184 (3000 + q) 8 = nI (zCn (fun j => zPo cd pN n (lc j)) l0) := by rw [ef184]; exact zu_s
      have hT := zTh.ci (fi' := f184) hT (fun i9 k9 h9 => by rw [ef184]; exact zu_n (by omega))
      have hLw := zqLw.cg (fi' := f184) hLw (fun i9 k9 h9 => by rw [ef184]; exact zu_n (by omega))
      have hPk := zqPk.cg (fi' := f184) hPk (fun i9 k9 h9 => by rw [ef184]; exact zu_n (by omega))
      refine lv_iload_n hx hb dX11_mend_68 rfl (lv_at hl 1 rfl) ?_
      refine lv_if_ne (tgt := 76) hx hb dX11_mend_69 (by decide) (fun c190 => ?_) (fun c190 => absurd c190 (by decide))
      refine lv_iconst (v := nI 1) hx hb dX11_mend_76 (by decide) ?_
      refine lv_goto (tgt := 81) hx hb dX11_mend_77 (by decide) ?_
      refine W.widen (k := 0) (n := 0) (by decide) (by decide) ?_
      exact W.zret (v := nI 1) hx hb hr (by decide) (fun t9 ht9 hW9 => ⟨⟨nI 1, f184, rfl, ⟨lc, 0, 1, rfl, Or.inl ⟨hpl, rfl, rfl, rfl⟩, hLw, q188, q189, fun a b h => by rw [ef184, zu_n (by omega)]⟩, zEnd1 hH ht9 hW9⟩, hS.F ht9⟩) hS.2.2 dX11_mend_81
set_option maxHeartbeats 4000000 in
set_option maxRecDepth 100000 in
/-- waitingDoubts -/
theorem c_waitingN (l : Launch) (hl0 : l.stackTraces = false) (D : va_G) (A : Nat → Prop) (sad : Nat → Nat) (τ : zTy) (fi : zFi) (fr : zFr) (ol : Int64) (hF : zFix τ fr) (d : Nat) (hDo : zDa τ fi fr d) : Met l yX11_waitingDoubts wsX11_waitingDoubts ({ frames := 0, cells := 0, slots := 0, locals := 0 }) (va_Pc [.ref (τ.1 0)] (zQc D A sad τ fi fr ol)) (va_Qi (fun (r : Int32) (u : Unit) => r = nI (zWt fi d)) (fun (u : Unit) (t : State) => zH D A τ fi fr ol t t.heap) A) 0 0 A := by
  refine Met.ofW (cc := cX11_waitingDoubts) (maxL := 3) (ret := (some .int)) (by decide) rfl ?_
  intro p9 e9 s m args below meth c9 s₁ B hml hv
  obtain ⟨rfl, hz, hH, hA⟩ := hv
  have hx := B.exec
  have hb := B.bytes
  have hr := B.returns
  have hts := atoms_spec (ws := wsX11_waitingDoubts) B.pre
  have hown : s.vm.findClass RX11 = some m.cls := findClass_of_methodNamed B.named
  have hlocks := B.notSynchronized
  have hS : va_S A s.heap s.heap [] := va_S.rf
  have hl := lv_entry ([.ref (τ.1 0)]) (n := 3) (Nat.le_of_ble_eq_true rfl)
  rw [lg_entry_eq]
  generalize (lg_sl ([.ref (τ.1 0)]) ++ List.replicate (3 - (lg_sl ([.ref (τ.1 0)])).length) Slot.unset).toArray = ls at hl ⊢
  have hl : lv_has ls 3 [(0, .ref (τ.1 0))] := hl
  have hd512 := hDo.1
  have hiX11 : ∀ w ∈ u_ws RX11 TX11 16, w ∈ wsX11_waitingDoubts := fun _ h => List.mem_cons_of_mem _ (List.mem_append_left _ (List.mem_append_right _ h))
  have hw1 := hts (.fieldLink RX11 215 "PostHouse" "doubtCount" "I") (by decide +kernel)
  have hw2 := hts (.fieldLink RX11 42 "PostHouse" "doubts" "[LPostHouse$Letter;") (by decide +kernel)
  have hiX2 : ∀ w ∈ u_ws RX2 TX2 10, w ∈ wsX11_waitingDoubts := fun _ h => List.mem_cons_of_mem _ (List.mem_append_right _ h)
  have hw4 := hts (.fieldLink RX11 220 "PostHouse$Letter" "waits" "Z") (by decide +kernel)
  refine lv_iconst (v := nI 0) hx hb dX11_waitingDoubts_0 (by decide) ?_
  refine lv_istore_n (lv' := [(1, .int (nI 0)), (0, .ref (τ.1 0))]) hx hb dX11_waitingDoubts_1 rfl hl (by decide) rfl (fun ls hl => ?_)
  refine lv_iconst (v := nI 0) hx hb dX11_waitingDoubts_2 (by decide) ?_
  refine lv_istore_n (lv' := [(2, .int (nI 0)), (1, .int (nI 0)), (0, .ref (τ.1 0))]) hx hb dX11_waitingDoubts_3 rfl hl (by decide) rfl (fun ls hl => ?_)
  refine zLp (σ := Nat) (fun x9 k9 H locs ls => (fun (i : Nat) => k9 = d - i ∧ (i ≤ d) ∧ zH D A τ fi fr ol s H ∧ va_S A s.heap H locs ∧ lv_has ls 3 [(0, .ref (τ.1 0)), (1, .int (nI (zWt fi i))), (2, .int (nI i))]) x9) 0 (d - 0) (show d - 0 = d - 0 ∧ (0 ≤ d) ∧ zH D A τ fi fr ol s _ ∧ va_S A s.heap _ _ ∧ lv_has _ 3 [(0, .ref (τ.1 0)), (1, .int (nI (zWt fi 0))), (2, .int (nI 0))] from ⟨rfl, Nat.zero_le _, hH, hS, lv_sub hl [2, 1, 0] rfl⟩) (fun k9 ih x9 H locs ls hv9 => ?_)
  generalize x9 = i at hv9
  have hv9 : k9 = d - i ∧ (i ≤ d) ∧ zH D A τ fi fr ol s H ∧ va_S A s.heap H locs ∧ lv_has ls 3 [(0, .ref (τ.1 0)), (1, .int (nI (zWt fi i))), (2, .int (nI i))] := hv9
  obtain ⟨hkih101, hv9, hH, hS, hl⟩ := hv9
  obtain h1 := hv9
  have ih101 := ih
  clear ih
  refine lv_iload_n hx hb dX11_waitingDoubts_4 rfl (lv_at hl 2 rfl) ?_
  refine lv_aload_n hx hb dX11_waitingDoubts_5 rfl (lv_at hl 0 rfl) ?_
  refine zGetI (D := D) (ci := 11) (C := RX11) (T := TX11) (N := 16) hx hb hts hiX11 hown hH (zk_0 hF) rfl 10 (by decide) rfl hw1 (fun _ h9 => h9) dX11_waitingDoubts_6 hDo.2.1 ?_
  refine lv_icmp_ge (tgt := 33) hx hb dX11_waitingDoubts_9 (by decide) (fun c102 => ?_) (fun c102 => ?_)
  · have zc102 := c102
    replace zc102 := zc_le (nI_toInt (by omega)) (nI_toInt (by omega)) zc102
    refine lv_iload_n hx hb dX11_waitingDoubts_33 rfl (lv_at hl 1 rfl) ?_
    refine W.widen (k := 0) (n := 0) (by decide) (by decide) ?_
    exact W.iret (v := nI (zWt fi i)) hx hb hr (fun t9 ht9 hW9 => ⟨⟨nI (zWt fi i), (), rfl, by rw [show i = d by omega], zEnd1 hH ht9 hW9⟩, hS.F ht9⟩) hS.2.2 dX11_waitingDoubts_34
  · have zc102 := c102
    replace zc102 := zc_nle (nI_toInt (by omega)) (nI_toInt (by omega)) zc102
    refine lv_aload_n hx hb dX11_waitingDoubts_12 rfl (lv_at hl 0 rfl) ?_
    refine zGetR (D := D) (ci := 11) (C := RX11) (T := TX11) (N := 16) hx hb hts hiX11 hown hH (zk_0 hF) rfl 5 (by decide) rfl hw2 (fun _ h9 => h9) dX11_waitingDoubts_13 (zr_0_5 hF) ?_
    refine lv_iload_n hx hb dX11_waitingDoubts_16 rfl (lv_at hl 2 rfl) ?_
    refine zAaldS (D := D) hx hb hH (zk_15 hF) (by decide) (by decide) rfl (zn_15 hF) (by omega) (by omega) (hDo.2.2.1 i (by omega)).2.1.1 dX11_waitingDoubts_17 ?_
    refine zGetI (D := D) (ci := 2) (C := RX2) (T := TX2) (N := 10) hx hb hts hiX2 hown hH (hDo.2.2.1 i (by omega)).1.1 rfl 9 (by decide) rfl hw4 (fun _ h9 => h9) dX11_waitingDoubts_18 rfl ?_
    refine lv_if_eq (tgt := 27) hx hb dX11_waitingDoubts_21 (by decide) (fun c103 => ?_) (fun c103 => ?_)
    · have zc103 := c103
      replace zc103 := zc_eq (rfl) ((by decide : (0 : Int32).toInt = 0)) zc103
      refine lv_iinc (v := nI (i + 1)) (lv' := [(2, .int (nI (i + 1))), (0, .ref (τ.1 0)), (1, .int (nI (zWt fi i)))]) hx hb dX11_waitingDoubts_27 hl (k := 2) rfl (by rw [show (Int32.ofInt 1 : Int32) = nI 1 from by decide, nI_add]) (by decide) rfl (fun ls hl => ?_)
      refine lv_goto (tgt := 4) hx hb dX11_waitingDoubts_30 (by decide) ?_
      rw [zWt_n c103] at hl
      exact ih101 (d - (i + 1)) (by omega) (i + 1) _ _ _ (show d - (i + 1) = d - (i + 1) ∧ ((i + 1) ≤ d) ∧ zH D A τ fi fr ol s _ ∧ va_S A s.heap _ _ ∧ lv_has _ 3 [(0, .ref (τ.1 0)), (1, .int (nI (zWt fi (i + 1)))), (2, .int (nI (i + 1)))] from ⟨rfl, (by omega), hH, hS, lv_sub hl [1, 2, 0] rfl⟩)
    · have zc103 := c103
      replace zc103 := zc_neq (rfl) ((by decide : (0 : Int32).toInt = 0)) zc103
      refine lv_iinc (v := nI (zWt fi i + 1)) (lv' := [(1, .int (nI (zWt fi i + 1))), (0, .ref (τ.1 0)), (2, .int (nI i))]) hx hb dX11_waitingDoubts_24 hl (k := 1) rfl (by rw [show (Int32.ofInt 1 : Int32) = nI 1 from by decide, nI_add]) (by decide) rfl (fun ls hl => ?_)
      refine lv_iinc (v := nI (i + 1)) (lv' := [(2, .int (nI (i + 1))), (1, .int (nI (zWt fi i + 1))), (0, .ref (τ.1 0))]) hx hb dX11_waitingDoubts_27 hl (k := 2) rfl (by rw [show (Int32.ofInt 1 : Int32) = nI 1 from by decide, nI_add]) (by decide) rfl (fun ls hl => ?_)
      refine lv_goto (tgt := 4) hx hb dX11_waitingDoubts_30 (by decide) ?_
      rw [zWt_y c103] at hl
      exact ih101 (d - (i + 1)) (by omega) (i + 1) _ _ _ (show d - (i + 1) = d - (i + 1) ∧ ((i + 1) ≤ d) ∧ zH D A τ fi fr ol s _ ∧ va_S A s.heap _ _ ∧ lv_has _ 3 [(0, .ref (τ.1 0)), (1, .int (nI (zWt fi (i + 1)))), (2, .int (nI (i + 1)))] from ⟨rfl, (by omega), hH, hS, lv_sub hl [2, 1, 0] rfl⟩)
set_option maxHeartbeats 4000000 in
set_option maxRecDepth 100000 in
/-- letter -/
theorem c_letterN (l : Launch) (hl0 : l.stackTraces = false) (D : va_G) (A : Nat → Prop) (sad : Nat → Nat) (τ : zTy) (fi : zFi) (fr : zFr) (ol : Int64) (L : Nat) (hF : zFix τ fr) (hn : fi 1 1 = nI L) (hn4 : L ≤ 400) (n : Nat) (hT : zTh τ fi fr n) (o : Nat) (hO : zOr τ fi fr n o) (q : Nat) (hDo : zDo τ fi fr q) (td : Nat) (cd pN : Nat → Nat) (hPk : zqPk fi n td cd pN) (hq1 : q < 512) : vx_Met l yX11_letter wsX11_letter ({ frames := 7, cells := 14, slots := 126, locals := 153 }) (va_Pc [.ref (τ.1 0)] (zQc D A sad τ fi fr ol)) (va_Qi (fun (r : Int32) (u : zTy × zFi × zFr) => (∃ xl lc2 m2 b2, zLet (fi 2) L (zS (fi 2) L 0) = .ok xl ∧ zLm2 cd pN n xl lc2 m2 b2 ∧ (((b2 = 1 ∧ zPd cd pN n (fi 10) xl.1 lc2 (zMnN xl) xl.2.2.2.2) ∧ o < 60 ∧ r = nI o ∧ zLo τ fi fr n o q u.1 u.2.1 u.2.2) ∨ (¬ (b2 = 1 ∧ zPd cd pN n (fi 10) xl.1 lc2 (zMnN xl) xl.2.2.2.2) ∧ zWt fi q < 20 ∧ r = -1 - nI (q + 1) ∧ zLd τ fi fr q u.1 u.2.1 u.2.2 ∧ zqLw u.2.1 q xl.1 lc2 (zMnN xl) ∧ u.2.1 (3000 + q) 3 = nI (zN xl.2.2.2.1) ∧ u.2.1 (3000 + q) 4 = xl.2.2.2.2 ∧ u.2.1 (3000 + q) 5 = nI m2 ∧ u.2.1 (3000 + q) 8 = nI (zCn (fun j => zPo cd pN n (lc2 j)) xl.1) ∧ u.2.1 (3000 + q) 9 = nI 1))) ∧ u.2.1 0 14 = zFv (zLet (fi 2) L (zS (fi 2) L 0))) (fun (u : zTy × zFi × zFr) (t : State) => zH D A u.1 u.2.1 u.2.2 ol t t.heap) A) (vx_X (fun u : zTy × zFi × zFr => True) (fun (E : String) (u : zTy × zFi × zFr) (t : State) => ((E = "java/lang/IllegalArgumentException" ∧ (∃ p, zLet (fi 2) L (zS (fi 2) L 0) = .error p) ∧ zLg τ fi fr q u.1 u.2.1 u.2.2 ∧ u.2.1 0 14 = zFv (zLet (fi 2) L (zS (fi 2) L 0))) ∨ (E = "java/lang/UnsupportedOperationException" ∧ (∃ xl lc2 m2 b2, zLet (fi 2) L (zS (fi 2) L 0) = .ok xl ∧ zLm2 cd pN n xl lc2 m2 b2 ∧ (((b2 = 1 ∧ zPd cd pN n (fi 10) xl.1 lc2 (zMnN xl) xl.2.2.2.2) ∧ o = 60) ∨ (¬ (b2 = 1 ∧ zPd cd pN n (fi 10) xl.1 lc2 (zMnN xl) xl.2.2.2.2) ∧ 20 ≤ zWt fi q))) ∧ zLg τ fi fr q u.1 u.2.1 u.2.2 ∧ u.2.1 0 14 = zFv (zLet (fi 2) L (zS (fi 2) L 0)))) ∧ zH D A u.1 u.2.1 u.2.2 ol t t.heap) A) 14 126 A := by
  refine vx_ofW (cc := cX11_letter) (maxL := 3) (ret := (some .int)) (by decide) rfl ?_
  intro p9 e9 s m args below meth c9 s₁ B hml ht0 hv
  obtain ⟨rfl, hz, hH, hA⟩ := hv
  have hx := B.exec
  have hb := B.bytes
  have hr := B.returns
  have hts := atoms_spec (ws := wsX11_letter) B.pre
  have hown : s.vm.findClass RX11 = some m.cls := findClass_of_methodNamed B.named
  have hlocks := B.notSynchronized
  have hS : va_S A s.heap s.heap [] := va_S.rf
  have hl := lv_entry ([.ref (τ.1 0)]) (n := 3) (Nat.le_of_ble_eq_true rfl)
  rw [lg_entry_eq]
  generalize (lg_sl ([.ref (τ.1 0)]) ++ List.replicate (3 - (lg_sl ([.ref (τ.1 0)])).length) Slot.unset).toArray = ls at hl ⊢
  have hl : lv_has ls 3 [(0, .ref (τ.1 0))] := hl
  have hn30 := hT.1
  have hq5 := hDo.1
  have hdd := hDo.2.2.2 q (Nat.le_refl _) (by omega)
  have hcl0 := hH.2.2.2
  have hiX2 : ∀ w ∈ u_ws RX2 TX2 10, w ∈ wsX11_letter := fun _ h => List.mem_cons_of_mem _ (List.mem_append_left _ (List.mem_append_left _ (List.mem_append_left _ (List.mem_append_left _ (List.mem_append_left _ (List.mem_append_left _ (List.mem_append_left _ (List.mem_append_left _ (List.mem_append_left _ (List.mem_append_right _ h))))))))))
  have hw1 := hts (.classLink RX11 40 RX2) (by decide +kernel)
  have hw2 := hts (.instantiable RX2 10) (by decide +kernel)
  have hw3 := hts (.initialized RX2) (by decide +kernel)
  have hw4 := hts (.instanceMethod yX2_init) (by decide +kernel)
  have hiX11 : ∀ w ∈ u_ws RX11 TX11 16, w ∈ wsX11_letter := fun _ h => List.mem_cons_of_mem _ (List.mem_append_left _ (List.mem_append_left _ (List.mem_append_left _ (List.mem_append_left _ (List.mem_append_left _ (List.mem_append_left _ (List.mem_append_left _ (List.mem_append_left _ (List.mem_append_right _ h)))))))))
  have hw6 := hts (.fieldLink RX11 10 "PostHouse" "tape" "LPostHouse$Tape;") (by decide +kernel)
  have hw7 := hts (.fieldLink RX11 72 "PostHouse" "fault" "I") (by decide +kernel)
  have hw8 := hts (.classLink RX11 107 "java/lang/UnsupportedOperationException") (by decide +kernel)
  have hw9 := hts (.initialized "java/lang/UnsupportedOperationException") (by decide +kernel)
  have hw10 := hts (.fieldLink RX11 215 "PostHouse" "doubtCount" "I") (by decide +kernel)
  have hw11 := hts (.fieldLink RX11 220 "PostHouse$Letter" "waits" "Z") (by decide +kernel)
  have hw12 := hts (.fieldLink RX11 42 "PostHouse" "doubts" "[LPostHouse$Letter;") (by decide +kernel)
  have hw13 := hts (.fieldLink RX11 201 "PostHouse$Letter" "mendings" "I") (by decide +kernel)
  have hw14 := hts (.fieldLink RX11 204 "PostHouse" "mendedAtOnce" "I") (by decide +kernel)
  have hw15 := hts (.classLink RX11 91 "java/lang/IllegalArgumentException") (by decide +kernel)
  have hw16 := hts (.initialized "java/lang/IllegalArgumentException") (by decide +kernel)
  refine zNew (D := D) (fs := [.null, .null, .int 0, .int 0, .int 0, .int 0, .int 0, .int 0, .int 0, .int 0]) (ci := 2) (C := RX2) (T := TX2) (N := 10) hx hb hts hiX2 tyX2 tyX2_ok hown hw1 hw2 hw3 hH hS hA rfl (3000 + q) hdd.1 (fun _ => rfl) (by decide) (Nat.le_of_ble_eq_true rfl) (Nat.le_of_ble_eq_true rfl) dX11_letter_0 (fun q9 c9 H hH8 hS => ?_)
  obtain ⟨τ101, eτ101⟩ : ∃ t9 : zTy, t9 = (va_up τ.1 (3000 + q) q9, va_up τ.2.1 (3000 + q) c9, va_up τ.2.2.1 (3000 + q) 18, va_up τ.2.2.2 (3000 + q) 0) := ⟨_, rfl⟩
  obtain ⟨f102, ef102⟩ : ∃ f9 : zFi, f9 = va_up fi (3000 + q) (fun _ => 0) := ⟨_, rfl⟩
  obtain ⟨g103, eg103⟩ : ∃ f9 : zFr, f9 = va_up fr (3000 + q) (fun _ => none) := ⟨_, rfl⟩
  have hH : zH D A τ101 f102 g103 ol s H := by rw [eτ101, ef102, eg103]; exact hH8
  clear hH8
  have hqτ101 : τ101.1 (3000 + q) = q9 := by rw [eτ101]; exact va_up_self _ _ _
  have haτ101 : ∀ i, i ≠ 3000 + q → τ101.1 i = τ.1 i := fun i h => by rw [eτ101]; exact va_up_ne _ _ h
  have hkτ101 : τ101.2.2.1 (3000 + q) = 18 := by rw [eτ101]; exact va_up_self _ _ _
  have hnτ101 : τ101.2.2.2 (3000 + q) = 0 := by rw [eτ101]; exact va_up_self _ _ _
  have hbτ101 : ∀ i, i ≠ 3000 + q → τ101.2.2.1 i = τ.2.2.1 i ∧ τ101.2.2.2 i = τ.2.2.2 i := fun i h => by rw [eτ101]; exact ⟨va_up_ne _ _ h, va_up_ne _ _ h⟩
  have hFτ101 : zFix τ101 g103 := by rw [eτ101, eg103]; exact hF.up (by omega)
  clear eτ101
  subst hqτ101
  rw [show τ.1 0 = τ101.1 0 from (haτ101 0 (by omega)).symm] at hl
  have q104 : f102 1 1 = nI L := by rw [ef102, va_up_ne _ _ (by omega)]; exact hn
  refine W.widen (k := 1) (n := 10) (by decide) (by decide) ?_
  refine lv_dup hx hb dX11_letter_3 rfl ?_
  have hznn := hz.1.2.2.2.2.2.1 _ (List.mem_of_getElem? (i := 5) rfl)
  refine va_callv (va_runIN (host := RX11) (As := []) (rest := [.ref (τ101.1 (3000 + q))]) ⟨hx, hb, hml, hown, hts⟩ (c_Letter_init l hl0 D A sad τ101 f102 g103 ol hFτ101 q hkτ101 (⟨by rw [(hbτ101 (4000 + q) (by omega)).1]; exact hdd.2.1, by rw [(hbτ101 (5000 + q) (by omega)).1]; exact hdd.2.2⟩) hq5) ⟨va_cnB (host := RX11) (y := yX2_init) 0 hts gX11_letter_X2_init_n184 rfl rfl rfl hznn hw3 (by decide +kernel) ⟨Nat.le_of_ble_eq_true rfl, Nat.le_of_ble_eq_true rfl⟩, rfl, hw4⟩ ⟨zQc_bl, zQc_at hz hS hA hH⟩ rfl rfl hl.1 rfl (lv_room (Nat.le_of_ble_eq_true rfl)) dX11_letter_4 ⟨Nat.le_of_ble_eq_true rfl, Nat.le_of_ble_eq_true rfl⟩) hS (fun q _ h => h) (fun q h => h) (fun u9 t9 H1 locs ht9 hvm9 hw hB hz1 hk1 hS => ?_)
  obtain ⟨τ106, f107, g108⟩ := u9
  have hH := zMv ht9 hvm9 hB
  clear hB
  simp only at hw hH
  generalize H1 = H at hH hS ⊢
  refine W.widen (k := 3) (n := 26) (by decide) (by decide) ?_
  have hlw := zLw.of hq5 haτ101 hbτ101 ef102 eg103 hw
  have ha6 : ∀ i, ¬ (i = 4000 + q ∨ i = 5000 + q) → τ106.1 i = τ101.1 i := fun i h => (hw.1 i (by omega) (by omega)).1
  have hL := hlw.1.1
  have hF6 := hlw.1.2
  have hno := hlw.no hcl0 hdd
  have hT := zTh.cg (τ' := τ106) (fi' := f107) (fr' := g108) hT (fun i9 k9 h9 => hlw.2.2.1 i9 k9 (by omega)) (fun i9 k9 h9 => hlw.2.2.2.1 i9 k9 (by omega)) (fun i9 h8 h9 => (hlw.2.1 i9 (by omega)).2)
  have hO := zOr.cg (τ' := τ106) (fi' := f107) (fr' := g108) hO (Nat.le_refl _) (fun i9 k9 h9 => hlw.2.2.1 i9 k9 (by omega)) (fun i9 k9 h9 => hlw.2.2.2.1 i9 k9 (by omega)) (fun i9 h8 h9 => (hlw.2.1 i9 (by omega)).2)
  have hDa := zDa.of hDo hlw
  have p1 : f107 1 1 = nI L := by rw [hlw.2.2.1 _ _ (by omega)]; exact hn
  have p2 : f107 (3000 + q) 2 = nI 0 := by rw [hlw.2.2.2.2.1]; decide
  have p3 : f107 (3000 + q) 6 = nI 0 := by rw [hlw.2.2.2.2.1]; decide
  rw [show τ101.1 0 = τ106.1 0 from (ha6 0 (by omega)).symm] at hl
  refine W.eq (g2 := F0 m 7 ls [.ref (τ106.1 (3000 + q))]) (by rw [ha6 (3000 + q) (by omega)]) ?_
  have hPk := zqPk.cg (fi' := f107) hPk (fun i9 k9 h9 => hlw.2.2.1 i9 k9 (by omega))
  have p5 : f107 (3000 + q) 5 = nI 0 := by rw [hlw.2.2.2.2.1]; decide
  refine lv_astore_n (lv' := [(1, .ref (τ106.1 (3000 + q))), (0, .ref (τ106.1 0))]) hx hb dX11_letter_7 rfl hl (by decide) rfl (fun ls hl => ?_)
  refine lv_aload_n hx hb dX11_letter_8 rfl (lv_at hl 1 rfl) ?_
  refine zGetR (D := D) (ci := 11) (C := RX11) (T := TX11) (N := 16) hx hb hts hiX11 hown hH (zk_0 hF6) rfl 0 (by decide) rfl hw6 (fun _ h9 => h9) dX11_letter_9 (zr_0_0 hF6) ?_
  refine va_callv (va_runV (As := []) (rest := []) ⟨hx, hb, hml, hown, hts⟩ (t_open l hl0 D A sad τ106 f107 g108 ol L hF6 p1 (by omega)) (cwV 0 hts gX11_letter_X7_open rfl rfl rfl (by decide +kernel) ⟨Nat.le_of_ble_eq_true rfl, Nat.le_of_ble_eq_true rfl⟩) ⟨zQc_bl, zRecv hH (zk_1 hF6) rfl, zQc_at hz hS hA hH⟩ rfl rfl hl.1 rfl (lv_room (Nat.le_of_ble_eq_true rfl)) dX11_letter_12 ⟨Nat.le_of_ble_eq_true rfl, Nat.le_of_ble_eq_true rfl⟩) hS (fun q _ h => h) (fun q h => h) (fun u9 t9 H1 locs ht9 hvm9 hw hB hz1 hk1 hS => ?_)
  have hH := zMv ht9 hvm9 hB
  clear hB
  generalize u9 = f110 at hw hH
  generalize H1 = H at hH hS ⊢
  obtain ⟨b7, e7, h7⟩ := hw
  obtain ⟨b111, hb112, q113, hf114⟩ := (⟨b7, h7.2.1, by rw [e7]; exact zu_s, fun i k q => by rw [e7, zu_n (by omega), zu_n (by omega)]⟩ : zTw f107 L f110)
  have q115 : f110 1 1 = nI L := by rw [hf114 1 1 (by omega)]; exact p1
  have q116 : f110 (3000 + q) 2 = nI 0 := by rw [hf114 (3000 + q) 2 (by omega)]; exact p2
  have q117 : f110 (3000 + q) 6 = nI 0 := by rw [hf114 (3000 + q) 6 (by omega)]; exact p3
  have q118 : f110 (3000 + q) 5 = nI 0 := by rw [hf114 (3000 + q) 5 (by omega)]; exact p5
  have hT := zTh.ci (fi' := f110) hT (fun i9 k9 h9 => hf114 i9 k9 (by omega))
  have hO := zOr.ci (fi' := f110) hO (fun i9 k9 h9 => hf114 i9 k9 (by omega))
  have hDa := zDa.ci (fi' := f110) hDa (fun i9 k9 h9 => hf114 i9 k9 (by omega))
  have hPk := zqPk.cg (fi' := f110) hPk (fun i9 k9 h9 => hf114 i9 k9 (by omega))
  have hG2 : f107 2 = fi 2 := funext (fun k => hlw.2.2.1 2 k (by omega))
  have hF2 : f110 2 = fi 2 := by rw [← hG2]; funext k; rw [e7, zu_n (by omega), zu_n (by omega)]
  have h13 : f110 1 3 = -1 := by rw [e7, zu_n (by omega)]; exact zu_s
  have hbz : b111 = zS (fi 2) L 0 := by rw [← hG2, ← h7.eq]; exact zNj (by omega) (by have h9 := h7.2.1; omega) (q113.symm.trans (by rw [e7]; exact zu_s))
  refine lv_aload_n hx hb dX11_letter_15 rfl (lv_at hl 1 rfl) ?_
  refine lv_aload_n hx hb dX11_letter_16 rfl (lv_at hl 0 rfl) ?_
  refine va_callv (va_runV (As := [.ref (τ106.1 (3000 + q))]) (rest := []) ⟨hx, hb, hml, hown, hts⟩ (w_readLetterX l hl0 D A sad τ106 f110 g108 ol L b111 hF6 q115 q113 (by omega) (by omega) q hq5 hL h13 q116) (cwV 1 hts gX11_letter_X11_readLetter rfl rfl rfl (by decide +kernel) ⟨Nat.le_of_ble_eq_true rfl, Nat.le_of_ble_eq_true rfl⟩) ⟨zQc_bl, zRecv hH (zk_0 hF6) rfl, zQc_at hz hS hA hH⟩ rfl rfl hl.1 rfl (lv_room (Nat.le_of_ble_eq_true rfl)) dX11_letter_17 ⟨Nat.le_of_ble_eq_true rfl, Nat.le_of_ble_eq_true rfl⟩) hS (fun q _ h => h) (fun q h => h) (fun u9 t9 H1 locs ht9 hvm9 hw hB hz1 hk1 hS => ?_)
  have hH := zMv ht9 hvm9 hB
  clear hB
  generalize u9 = f120 at hw hH
  generalize H1 = H at hH hS ⊢
  obtain ⟨hrd, ⟨b8, hb8, qb8⟩, ⟨l8, hl8, ql8⟩, hf8⟩ := hw
  rw [hF2, hbz] at hrd
  have q121 : f120 1 1 = nI L := by rw [hf8 1 1 (by omega)]; exact q115
  have q122 : f120 (3000 + q) 6 = nI 0 := by rw [hf8 (3000 + q) 6 (by omega)]; exact q117
  have q123 : f120 (3000 + q) 5 = nI 0 := by rw [hf8 (3000 + q) 5 (by omega)]; exact q118
  have hT := zTh.ci (fi' := f120) hT (fun i9 k9 h9 => hf8 i9 k9 (by omega))
  have hO := zOr.ci (fi' := f120) hO (fun i9 k9 h9 => hf8 i9 k9 (by omega))
  have hDa := zDa.ci (fi' := f120) hDa (fun i9 k9 h9 => hf8 i9 k9 (by omega))
  have hPk := zqPk.cg (fi' := f120) hPk (fun i9 k9 h9 => hf8 i9 k9 (by omega))
  refine lv_aload_n hx hb dX11_letter_20 rfl (lv_at hl 1 rfl) ?_
  refine va_callv (va_runV (As := []) (rest := []) ⟨hx, hb, hml, hown, hts⟩ (c_closeTape l hl0 D A sad τ106 f120 g108 ol L b8 hF6 q121 qb8 (by omega) (by omega)) (cwV 0 hts gX11_letter_X11_closeTape rfl rfl rfl (by decide +kernel) ⟨Nat.le_of_ble_eq_true rfl, Nat.le_of_ble_eq_true rfl⟩) ⟨zQc_bl, zRecv hH (zk_0 hF6) rfl, zQc_at hz hS hA hH⟩ rfl rfl hl.1 rfl (lv_room (Nat.le_of_ble_eq_true rfl)) dX11_letter_21 ⟨Nat.le_of_ble_eq_true rfl, Nat.le_of_ble_eq_true rfl⟩) hS (fun q _ h => h) (fun q h => h) (fun u9 t9 H1 locs ht9 hvm9 hw hB hz1 hk1 hS => ?_)
  have hH := zMv ht9 hvm9 hB
  clear hB
  generalize u9 = f125 at hw hH
  generalize H1 = H at hH hS ⊢
  obtain ⟨w126, hcl, q127, q128, hf129⟩ := hw
  have hfv := zFv_of hn4 (zS_le (by omega)) hrd qb8 hb8 hcl
  have q130 : f125 (3000 + q) 6 = nI 0 := by rw [hf129 (3000 + q) 6 (by omega)]; exact q122
  have q131 : f125 (3000 + q) 5 = nI 0 := by rw [hf129 (3000 + q) 5 (by omega)]; exact q123
  have q132 : f125 1 2 = nI b8 := by rw [hf129 1 2 (by omega)]; exact qb8
  have q133 : f125 (3000 + q) 2 = nI l8 := by rw [hf129 (3000 + q) 2 (by omega)]; exact ql8
  have hT := zTh.ci (fi' := f125) hT (fun i9 k9 h9 => hf129 i9 k9 (by omega))
  have hO := zOr.ci (fi' := f125) hO (fun i9 k9 h9 => hf129 i9 k9 (by omega))
  have hDa := zDa.ci (fi' := f125) hDa (fun i9 k9 h9 => hf129 i9 k9 (by omega))
  have hPk := zqPk.cg (fi' := f125) hPk (fun i9 k9 h9 => hf129 i9 k9 (by omega))
  refine lv_aload_n hx hb dX11_letter_24 rfl (lv_at hl 1 rfl) ?_
  refine zGetI (D := D) (ci := 11) (C := RX11) (T := TX11) (N := 16) hx hb hts hiX11 hown hH (zk_0 hF6) rfl 14 (by decide) rfl hw7 (fun _ h9 => h9) dX11_letter_25 q127 ?_
  refine lv_iconst (v := (-1)) hx hb dX11_letter_28 (by decide) ?_
  refine lv_icmp_eq (tgt := 42) hx hb dX11_letter_29 (by decide) (fun c134 => ?_) (fun c134 => ?_)
  · have zc134 := c134
    replace zc134 := zc_eq (rfl) ((by decide : ((-1) : Int32).toInt = (-1))) zc134
    have hw1 : w126 = -1 := Int32.toInt_inj.mp (by rw [zc134]; decide)
    obtain ⟨xl, hRx, hx2, hx45, hx3, hx4⟩ := zLrd.fin hn4 (zS_le (by omega)) hrd qb8 hb8 hcl hw1
    have hgd := zLet_in hRx
    have hLw := zqLw.cg (zqLw.rd hgd hx2 hx45) (fun i9 k9 h9 => hf129 i9 k9 (by omega))
    have hq3 : f125 (3000 + q) 3 = nI (zN xl.2.2.2.1) := by rw [hf129 _ _ (by omega), hx3]; exact zN_eq hgd.2.2.2.1.1
    have hq4 : f125 (3000 + q) 4 = xl.2.2.2.2 := by rw [hf129 _ _ (by omega), hx4]
    have hxl8 := hgd.2.1
    refine lv_aload_n hx hb dX11_letter_42 rfl (lv_at hl 1 rfl) ?_
    refine lv_aload_n hx hb dX11_letter_43 rfl (lv_at hl 0 rfl) ?_
    refine va_calli (va_runV (As := [.ref (τ106.1 (3000 + q))]) (rest := []) ⟨hx, hb, hml, hown, hts⟩ (c_mendN l hl0 D A sad τ106 f125 g108 ol hF6 n hT td cd pN hPk q hq5 hL xl.1 ((zLcN xl)) ((zMnN xl)) hLw ((zOk cd pN n (zLcN xl) (zMnN xl) xl.1 (zN xl.2.2.2.1))) ((zN xl.2.2.2.1)) hq3 ((zN_le (by have h9 := hgd.2.2.2.1.2; omega))) ((fun k t _ _ => zOk_c)) q131) (cwV 1 hts gX11_letter_X11_mend rfl rfl rfl (by decide +kernel) ⟨Nat.le_of_ble_eq_true rfl, Nat.le_of_ble_eq_true rfl⟩) ⟨zQc_bl, zRecv hH (zk_0 hF6) rfl, zQc_at hz hS hA hH⟩ rfl rfl hl.1 rfl (lv_room (Nat.le_of_ble_eq_true rfl)) dX11_letter_44 ⟨Nat.le_of_ble_eq_true rfl, Nat.le_of_ble_eq_true rfl⟩) hS (fun q _ h => h) (fun q h => h) (fun r135 u9 t9 H1 locs ht9 hvm9 hw hB hz1 hk1 hS => ?_)
    have hH := zMv ht9 hvm9 hB
    clear hB
    generalize u9 = f136 at hw hH
    generalize H1 = H at hH hS ⊢
    obtain ⟨lc2, m2, b2, rfl, hme, hLw2, hm5, hm8, hfm⟩ := hw
    have hb1 := hme.b
    have hm2 := hme.m hxl8 hn30
    have q137 : f136 1 2 = nI b8 := by rw [hfm 1 2 (by omega)]; exact q132
    have q138 : f136 (3000 + q) 2 = nI l8 := by rw [hfm (3000 + q) 2 (by omega)]; exact q133
    have q139 : f136 0 14 = w126 := by rw [hfm 0 14 (by omega)]; exact q127
    have q140 : f136 1 1 = nI 0 := by rw [hfm 1 1 (by omega)]; exact q128
    have q141 : f136 (3000 + q) 3 = nI ((zN xl.2.2.2.1)) := by rw [hfm (3000 + q) 3 (by omega)]; exact hq3
    have q142 : f136 (3000 + q) 4 = xl.2.2.2.2 := by rw [hfm (3000 + q) 4 (by omega)]; exact hq4
    have hT := zTh.ci (fi' := f136) hT (fun i9 k9 h9 => hfm i9 k9 (by omega))
    have hO := zOr.ci (fi' := f136) hO (fun i9 k9 h9 => hfm i9 k9 (by omega))
    have hDa := zDa.ci (fi' := f136) hDa (fun i9 k9 h9 => hfm i9 k9 (by omega))
    have hPk := zqPk.cg (fi' := f136) hPk (fun i9 k9 h9 => hfm i9 k9 (by omega))
    refine lv_istore_n (lv' := [(2, .int (nI b2)), (1, .ref (τ106.1 (3000 + q))), (0, .ref (τ106.1 0))]) hx hb dX11_letter_47 rfl hl (by decide) rfl (fun ls hl => ?_)
    refine lv_iload_n hx hb dX11_letter_48 rfl (lv_at hl 0 rfl) ?_
    refine lv_if_eq (tgt := 88) hx hb dX11_letter_49 (by decide) (fun c143 => ?_) (fun c143 => ?_)
    · have zc143 := c143
      replace zc143 := zc_eq (nI_toInt (by omega)) ((by decide : (0 : Int32).toInt = 0)) zc143
      have hnp : ¬ (b2 = 1 ∧ zPd cd pN n (fi 10) xl.1 lc2 (zMnN xl) xl.2.2.2.2) := fun h9 => absurd h9.1 (by omega)
      refine lv_aload_n hx hb dX11_letter_88 rfl (lv_at hl 2 rfl) ?_
      refine va_calli (va_runV (As := []) (rest := []) ⟨hx, hb, hml, hown, hts⟩ (c_waitingN l hl0 D A sad τ106 f136 g108 ol hF6 q hDa) (cwV 0 hts gX11_letter_X11_waitingDoubts rfl rfl rfl (by decide +kernel) ⟨Nat.le_of_ble_eq_true rfl, Nat.le_of_ble_eq_true rfl⟩) ⟨zQc_bl, zRecv hH (zk_0 hF6) rfl, zQc_at hz hS hA hH⟩ rfl rfl hl.1 rfl (lv_room (Nat.le_of_ble_eq_true rfl)) dX11_letter_89 ⟨Nat.le_of_ble_eq_true rfl, Nat.le_of_ble_eq_true rfl⟩) hS (fun q _ h => h) (fun q h => h) (fun r144 u9 t9 H1 locs ht9 hvm9 hw hB hz1 hk1 hS => ?_)
      have hH := zMv ht9 hvm9 hB
      generalize H1 = H at hH hS ⊢
      obtain rfl := hw
      have hwe : zWt f136 q = zWt fi q := zWt_cg (fun i9 h9 => (show f136 (3000 + i9) 9 = f107 (3000 + i9) 9 from by rw [hfm (3000 + i9) 9 (by omega), hf129 (3000 + i9) 9 (by omega), hf8 (3000 + i9) 9 (by omega), hf114 (3000 + i9) 9 (by omega)]).trans (hlw.2.2.1 (3000 + i9) 9 (by omega)))
      have hwl := zWt_le (fi := f136) (d := q)
      refine lv_bipush (v := nI 20) hx hb dX11_letter_92 (by decide) ?_
      refine lv_icmp_ge (tgt := 107) hx hb dX11_letter_94 (by decide) (fun c145 => ?_) (fun c145 => ?_)
      · have zc145 := c145
        replace zc145 := zc_le (nI_toInt (by omega)) (nI_toInt (by omega)) zc145
        obtain ⟨a146, ha146⟩ := hz.1.2.2.2.2.1 _ (List.mem_of_getElem? (i := 10) rfl)
        have hat : ∀ w ∈ vx_atS RX11 111 "java/lang/UnsupportedOperationException" ["java/lang/RuntimeException", "java/lang/Exception"], w.before _ s = true := vx_hat (fun w h => hts w (List.mem_cons_of_mem _ (List.mem_append_right _ h))) (B := [.castable "java/lang/UnsupportedOperationException" "java/lang/UnsupportedOperationException", .declares (Bundle.initS "java/lang/RuntimeException"), .declares (Bundle.initS "java/lang/Exception"), .declares (Bundle.initS Bundle.tN)]) (by decide +kernel) (vx_c (va_Nw.use rfl (hz.1.2.2.2.2.2.2.2.1 _ (List.mem_of_getElem? (i := 2) rfl))) (vx_c (va_Nw.use rfl (hz.1.2.2.2.2.2.2.2.2 _ (List.mem_of_getElem? (i := 0) rfl))) (vx_c (va_Nw.use rfl (hz.1.2.2.2.2.2.2.2.2 _ (List.mem_of_getElem? (i := 1) rfl))) (vx_c (va_Nw.use rfl (hz.1.2.2.2.2.2.2.2.2 _ (List.mem_of_getElem? (i := 2) rfl))) vx_n))))
        have hH := hH.dropL hno
        obtain ⟨τ147, eτ147⟩ : ∃ t9 : zTy, t9 = zDr τ106 q := ⟨_, rfl⟩
        rw [← eτ147] at hH
        exact vx_throwS hx hb hl0 (own := RX11) (cls := "java/lang/UnsupportedOperationException") (text := "too many doubts wait") (names := ["java/lang/RuntimeException", "java/lang/Exception"]) hown (by decide +kernel) (by decide +kernel) hw8 hw9 ha146 hat (by decide +kernel) hz.1.1 hz.1.2.1 hS (by rw [hml]; exact hl.1) dX11_letter_107 dX11_letter_110 dX11_letter_111 dX11_letter_113 dX11_letter_116 (fun x h9 => (ht0 x h9).elim) (Nat.le_of_ble_eq_true rfl) (Nat.le_of_ble_eq_true rfl) (Nat.le_of_ble_eq_true rfl) (Nat.le_of_ble_eq_true rfl) hlocks (fun t9 hvm9 h91 h92 => ⟨(τ147, f136, g108), trivial, ⟨Or.inr ⟨rfl, ⟨xl, lc2, m2, b2, hRx, hme, Or.inr ⟨hnp, by omega⟩⟩, (show zLg τ fi fr q τ147 f136 g108 from by rw [eτ147]; exact zLg.of hlw hdd q140 (fun a b h => by rw [hfm a b (by omega), hf129 a b (by omega), hf8 a b (by omega), hf114 a b (by omega)])), (q139.trans hfv)⟩, zThr hH hvm9 h92⟩, zF2 hS h91 h92⟩) hS.2.2 (by decide) (by decide)
      · have zc145 := c145
        replace zc145 := zc_nle (nI_toInt (by omega)) (nI_toInt (by omega)) zc145
        refine lv_aload_n hx hb dX11_letter_97 rfl (lv_at hl 2 rfl) ?_
        refine zGetI (D := D) (ci := 11) (C := RX11) (T := TX11) (N := 16) hx hb hts hiX11 hown hH (zk_0 hF6) rfl 10 (by decide) rfl hw10 (fun _ h9 => h9) dX11_letter_98 hDa.2.1 ?_
        refine lv_sipush (v := nI 512) hx hb dX11_letter_101 (by decide) ?_
        refine lv_icmp_lt (tgt := 117) hx hb dX11_letter_104 (by decide) (fun c148 => ?_) (fun c148 => False.elim (by have zc148 := zc_nlt (nI_toInt (by omega)) (nI_toInt (by omega)) c148; omega))
        refine lv_aload_n hx hb dX11_letter_117 rfl (lv_at hl 1 rfl) ?_
        refine lv_iconst (v := nI 1) hx hb dX11_letter_118 (by decide) ?_
        refine zPutI (D := D) (ci := 2) (ty := .boolean) (C := RX2) (T := TX2) (N := 10) hx hb hts hiX2 tyX2 tyX2_ok nmX2 hown hH hS hL.1.1 rfl 9 (by decide) rfl hw11 (fun _ h9 => h9) rfl (by decide +kernel) rfl rfl dX11_letter_119 (fun H locs hH hS => ?_)
        obtain ⟨f149, ef149⟩ : ∃ f9 : zFi, f9 = zu f136 (3000 + q) 9 (nI 1) := ⟨_, rfl⟩
        rw [← ef149] at hH
        have q150 : f149 1 2 = nI b8 := by rw [ef149, zu_n (fun h9 => by omega)]; exact q137
        have q151 : f149 (3000 + q) 2 = nI l8 := by rw [ef149, zu_n (fun h9 => absurd h9.2 (by decide))]; exact q138
        have q152 : f149 0 14 = w126 := by rw [ef149, zu_n (fun h9 => by omega)]; exact q139
        have q153 : f149 1 1 = nI 0 := by rw [ef149, zu_n (fun h9 => by omega)]; exact q140
        have q154 : f149 (3000 + q) 3 = nI ((zN xl.2.2.2.1)) := by rw [ef149, zu_n (fun h9 => absurd h9.2 (by decide))]; exact q141
        have q155 : f149 (3000 + q) 4 = xl.2.2.2.2 := by rw [ef149, zu_n (fun h9 => absurd h9.2 (by decide))]; exact q142
        have q156 : f149 (3000 + q) 5 = nI m2 := by rw [ef149, zu_n (fun h9 => absurd h9.2 (by decide))]; exact hm5
        have q157 : f149 (3000 + q) 8 = nI (zCn (fun j => zPo cd pN n (lc2 j)) xl.1) := by rw [ef149, zu_n (fun h9 => absurd h9.2 (by decide))]; exact hm8
        have q158 : f149 (3000 + q) 9 = nI 1 := by rw [ef149]; exact zu_s
        have hT := zTh.ci (fi' := f149) hT (fun i9 k9 h9 => by rw [ef149]; exact zu_n (by omega))
        have hO := zOr.ci (fi' := f149) hO (fun i9 k9 h9 => by rw [ef149]; exact zu_n (by omega))
        have hDa := zDa.ci (fi' := f149) hDa (fun i9 k9 h9 => by rw [ef149]; exact zu_n (by omega))
        have hPk := zqPk.cg (fi' := f149) hPk (fun i9 k9 h9 => by rw [ef149]; exact zu_n (by omega))
        have hLw2 := zqLw.cg (fi' := f149) hLw2 (fun i9 k9 h9 => by rw [ef149]; exact zu_n (by omega))
        refine lv_aload_n hx hb dX11_letter_122 rfl (lv_at hl 2 rfl) ?_
        refine zGetR (D := D) (ci := 11) (C := RX11) (T := TX11) (N := 16) hx hb hts hiX11 hown hH (zk_0 hF6) rfl 5 (by decide) rfl hw12 (fun _ h9 => h9) dX11_letter_123 (zr_0_5 hF6) ?_
        refine lv_aload_n hx hb dX11_letter_126 rfl (lv_at hl 2 rfl) ?_
        refine zGetI (D := D) (ci := 11) (C := RX11) (T := TX11) (N := 16) hx hb hts hiX11 hown hH (zk_0 hF6) rfl 10 (by decide) rfl hw10 (fun _ h9 => h9) dX11_letter_127 hDa.2.1 ?_
        refine lv_aload_n hx hb dX11_letter_130 rfl (lv_at hl 1 rfl) ?_
        refine zAastS (D := D) (rr := (RX2, TX2, 10)) hx hb hH hS (zk_15 hF6) (by decide) (by decide) rfl hL.1.1 rfl (zn_15 hF6) (by omega) (by omega) dX11_letter_131 (fun H locs hH hS => ?_)
        obtain ⟨g159, eg159⟩ : ∃ f9 : zFr, f9 = zur g108 15 q (some (3000 + q)) := ⟨_, rfl⟩
        rw [← eg159] at hH
        have hF160 : zFix τ106 g159 := by rw [eg159]; exact hF6.ur (by omega)
        refine lv_aload_n hx hb dX11_letter_132 rfl (lv_at hl 2 rfl) ?_
        refine lv_dup hx hb dX11_letter_133 rfl ?_
        refine zGetI (D := D) (ci := 11) (C := RX11) (T := TX11) (N := 16) hx hb hts hiX11 hown hH (zk_0 hF160) rfl 10 (by decide) rfl hw10 (fun _ h9 => h9) dX11_letter_134 hDa.2.1 ?_
        refine lv_iconst (v := nI 1) hx hb dX11_letter_137 (by decide) ?_
        refine lv_iadd hx hb dX11_letter_138 ?_
        refine lv_topi (fun v161 ev161 => ?_)
        obtain rfl : v161 = nI (q + 1) := ev161.trans (nI_add _ _)
        refine zPutI (D := D) (ci := 11) (ty := .int) (C := RX11) (T := TX11) (N := 16) hx hb hts hiX11 tyX11 tyX11_ok nmX11 hown hH hS (zk_0 hF160) rfl 10 (by decide) rfl hw10 (fun _ h9 => h9) rfl (by decide +kernel) rfl rfl dX11_letter_139 (fun H locs hH hS => ?_)
        obtain ⟨f162, ef162⟩ : ∃ f9 : zFi, f9 = zu f149 0 10 (nI (q + 1)) := ⟨_, rfl⟩
        rw [← ef162] at hH
        have q163 : f162 1 2 = nI b8 := by rw [ef162, zu_n (fun h9 => absurd h9.1 (by decide))]; exact q150
        have q164 : f162 (3000 + q) 2 = nI l8 := by rw [ef162, zu_n (fun h9 => by omega)]; exact q151
        have q165 : f162 0 14 = w126 := by rw [ef162, zu_n (fun h9 => absurd h9.2 (by decide))]; exact q152
        have q166 : f162 1 1 = nI 0 := by rw [ef162, zu_n (fun h9 => absurd h9.1 (by decide))]; exact q153
        have q167 : f162 (3000 + q) 3 = nI ((zN xl.2.2.2.1)) := by rw [ef162, zu_n (fun h9 => by omega)]; exact q154
        have q168 : f162 (3000 + q) 4 = xl.2.2.2.2 := by rw [ef162, zu_n (fun h9 => by omega)]; exact q155
        have q169 : f162 (3000 + q) 5 = nI m2 := by rw [ef162, zu_n (fun h9 => by omega)]; exact q156
        have q170 : f162 (3000 + q) 8 = nI (zCn (fun j => zPo cd pN n (lc2 j)) xl.1) := by rw [ef162, zu_n (fun h9 => by omega)]; exact q157
        have q171 : f162 (3000 + q) 9 = nI 1 := by rw [ef162, zu_n (fun h9 => by omega)]; exact q158
        have q172 : f162 0 10 = nI (q + 1) := by rw [ef162]; exact zu_s
        have hLw2 := zqLw.cg (fi' := f162) hLw2 (fun i9 k9 h9 => by rw [ef162]; exact zu_n (by omega))
        refine lv_iconst (v := (-1)) hx hb dX11_letter_142 (by decide) ?_
        refine lv_aload_n hx hb dX11_letter_143 rfl (lv_at hl 2 rfl) ?_
        refine zGetI (D := D) (ci := 11) (C := RX11) (T := TX11) (N := 16) hx hb hts hiX11 hown hH (zk_0 hF160) rfl 10 (by decide) rfl hw10 (fun _ h9 => h9) dX11_letter_144 q172 ?_
        refine lv_isub hx hb dX11_letter_147 ?_
        refine lv_topi (fun v173 ev173 => ?_)
        refine W.widen (k := 14) (n := 126) (by decide) (by decide) ?_
        refine vx_ret ?_
        exact W.iret (v := v173) hx hb hr (fun t9 ht9 hW9 => ⟨⟨v173, (τ106, f162, g159), rfl, (show (∃ xl lc2 m2 b2, zLet (fi 2) L (zS (fi 2) L 0) = .ok xl ∧ zLm2 cd pN n xl lc2 m2 b2 ∧ (((b2 = 1 ∧ zPd cd pN n (fi 10) xl.1 lc2 (zMnN xl) xl.2.2.2.2) ∧ o < 60 ∧ v173 = nI o ∧ zLo τ fi fr n o q τ106 f162 g159) ∨ (¬ (b2 = 1 ∧ zPd cd pN n (fi 10) xl.1 lc2 (zMnN xl) xl.2.2.2.2) ∧ zWt fi q < 20 ∧ v173 = -1 - nI (q + 1) ∧ zLd τ fi fr q τ106 f162 g159 ∧ zqLw f162 q xl.1 lc2 (zMnN xl) ∧ f162 (3000 + q) 3 = nI (zN xl.2.2.2.1) ∧ f162 (3000 + q) 4 = xl.2.2.2.2 ∧ f162 (3000 + q) 5 = nI m2 ∧ f162 (3000 + q) 8 = nI (zCn (fun j => zPo cd pN n (lc2 j)) xl.1) ∧ f162 (3000 + q) 9 = nI 1))) ∧ f162 0 14 = zFv (zLet (fi 2) L (zS (fi 2) L 0)) from ⟨⟨xl, lc2, m2, b2, hRx, hme, Or.inr ⟨hnp, by omega, ev173, zLd.of hDo (by omega) hlw q140 q138 (by omega) (fun a b h => by rw [hfm a b (by omega), hf129 a b (by omega), hf8 a b (by omega), hf114 a b (by omega)]) eg159 (by rw [ef162, ef149]) hF160, hLw2, q167, q168, q169, q170, q171⟩⟩, (q165.trans hfv)⟩), zEnd1 hH ht9 hW9⟩, hS.F ht9⟩) hS.2.2 dX11_letter_148
    · have zc143 := c143
      replace zc143 := zc_neq (nI_toInt (by omega)) ((by decide : (0 : Int32).toInt = 0)) zc143
      refine lv_aload_n hx hb dX11_letter_52 rfl (lv_at hl 2 rfl) ?_
      refine lv_aload_n hx hb dX11_letter_53 rfl (lv_at hl 1 rfl) ?_
      refine va_calli (va_runV (As := [.ref (τ106.1 (3000 + q))]) (rest := []) ⟨hx, hb, hml, hown, hts⟩ (c_isPaidN l hl0 D A sad τ106 f136 g108 ol hF6 n hT td cd pN hPk q hq5 hL xl.1 lc2 ((zMnN xl)) hLw2) (cwV 1 hts gX11_letter_X11_isPaid rfl rfl rfl (by decide +kernel) ⟨Nat.le_of_ble_eq_true rfl, Nat.le_of_ble_eq_true rfl⟩) ⟨zQc_bl, zRecv hH (zk_0 hF6) rfl, zQc_at hz hS hA hH⟩ rfl rfl hl.1 rfl (lv_room (Nat.le_of_ble_eq_true rfl)) dX11_letter_54 ⟨Nat.le_of_ble_eq_true rfl, Nat.le_of_ble_eq_true rfl⟩) hS (fun q _ h => h) (fun q h => h) (fun r174 u9 t9 H1 locs ht9 hvm9 hw hB hz1 hk1 hS => ?_)
      have hH := zMv ht9 hvm9 hB
      generalize H1 = H at hH hS ⊢
      have hR10 : f136 10 = fi 10 := funext (fun k9 => (show f136 10 k9 = f107 10 k9 from by rw [hfm 10 k9 (by omega), hf129 10 k9 (by omega), hf8 10 k9 (by omega), hf114 10 k9 (by omega)]).trans (hlw.2.2.1 10 k9 (by omega)))
      rw [hR10, q142] at hw
      rcases hw with ⟨rfl, hpd⟩ | ⟨rfl, hpd⟩
      · skip
        refine lv_if_eq (tgt := 88) hx hb dX11_letter_57 (by decide) (fun c175 => absurd c175 (by decide)) (fun c175 => ?_)
        refine lv_aload_n hx hb dX11_letter_60 rfl (lv_at hl 2 rfl) ?_
        refine vx_callv (vx_runV (As := []) (rest := []) ⟨hx, hb, hml, hown, hts⟩ (c_needRoom l hl0 D A sad τ106 f136 g108 ol o hF6 hO.2.1 hO.1) (cwV 0 hts gX11_letter_X11_needRoomForOrder rfl rfl rfl (by decide +kernel) ⟨Nat.le_of_ble_eq_true rfl, Nat.le_of_ble_eq_true rfl⟩) ⟨zQc_bl, zRecv hH (zk_0 hF6) rfl, zQc_at hz hS hA hH⟩ rfl rfl hl.1 rfl (lv_room (Nat.le_of_ble_eq_true rfl)) dX11_letter_61 ⟨Nat.le_of_ble_eq_true rfl, Nat.le_of_ble_eq_true rfl⟩) hS (fun q _ h => h) (fun q h => h) (fun q _ h => h) (fun E ce q9 u9 t9 H1 locs ht9 hvm9 hw hB hz1 hk1 hS hce hcv hcl => ?_) (fun u9 t9 H1 locs ht9 hvm9 hw hB hz1 hk1 hS => ?_)
        · obtain ⟨hX, hB⟩ := hB
          have hH := zMv ht9 hvm9 hB
          generalize H1 = H at hH hS hce ⊢
          have hH := hH.dropL hno
          obtain ⟨τ177, eτ177⟩ : ∃ t9 : zTy, t9 = zDr τ106 q := ⟨_, rfl⟩
          rw [← eτ177] at hH
          exact vx_out (fun x h9 => (ht0 x h9).elim) hlocks hce hcv hcl (fun t9 ht9 hvm9 => ⟨(τ177, f136, g108), trivial, ⟨Or.inr ⟨hX.1, ⟨xl, lc2, m2, b2, hRx, hme, Or.inl ⟨⟨by omega, hpd⟩, hX.2⟩⟩, (show zLg τ fi fr q τ177 f136 g108 from by rw [eτ177]; exact zLg.of hlw hdd q140 (fun a b h => by rw [hfm a b (by omega), hf129 a b (by omega), hf8 a b (by omega), hf114 a b (by omega)])), (q139.trans hfv)⟩, zOut hH ht9 hvm9⟩, hS.F ht9⟩) hS.2.2 (by decide) (by decide)
        · skip
          have hH := zMv ht9 hvm9 hB
          generalize H1 = H at hH hS ⊢
          refine W.widen (k := 4) (n := 32) (by decide) (by decide) ?_
          have ho := hw
          refine lv_aload_n hx hb dX11_letter_64 rfl (lv_at hl 1 rfl) ?_
          refine zGetI (D := D) (ci := 2) (C := RX2) (T := TX2) (N := 10) hx hb hts hiX2 hown hH hL.1.1 rfl 5 (by decide) rfl hw13 (fun _ h9 => h9) dX11_letter_65 hm5 ?_
          refine lv_iconst (v := nI 1) hx hb dX11_letter_68 (by decide) ?_
          refine lv_icmp_ne (tgt := 82) hx hb dX11_letter_69 (by decide) (fun c178 => ?_) (fun c178 => ?_)
          · have zc178 := c178
            replace zc178 := zc_neq (nI_toInt (by omega)) (nI_toInt (by omega)) zc178
            refine lv_aload_n hx hb dX11_letter_82 rfl (lv_at hl 2 rfl) ?_
            refine lv_aload_n hx hb dX11_letter_83 rfl (lv_at hl 1 rfl) ?_
            refine va_calli (va_runV (As := [.ref (τ106.1 (3000 + q))]) (rest := []) ⟨hx, hb, hml, hown, hts⟩ (c_makeOrder l hl0 D A sad τ106 f136 g108 ol hF6 n hT q hq5 hL l8 (by omega) q138 o hO ho) (cwV 1 hts gX11_letter_X11_makeOrder rfl rfl rfl (by decide +kernel) ⟨Nat.le_of_ble_eq_true rfl, Nat.le_of_ble_eq_true rfl⟩) ⟨zQc_bl, zRecv hH (zk_0 hF6) rfl, zQc_at hz hS hA hH⟩ rfl rfl hl.1 rfl (lv_room (Nat.le_of_ble_eq_true rfl)) dX11_letter_84 ⟨Nat.le_of_ble_eq_true rfl, Nat.le_of_ble_eq_true rfl⟩) hS (fun q _ h => h) (fun q h => h) (fun r179 u9 t9 H1 locs ht9 hvm9 hw hB hz1 hk1 hS => ?_)
            obtain ⟨τ180, f181, g182⟩ := u9
            have hH := zMv ht9 hvm9 hB
            clear hB
            simp only at hw hH
            generalize H1 = H at hH hS ⊢
            refine W.widen (k := 14) (n := 126) (by decide) (by decide) ?_
            have hmo183 := hw
            clear hw
            have hno2 := zNr.no hmo183.2.2.2.2.2.2.1 hno
            have hH := hH.dropL hno2
            obtain ⟨τ184, eτ184⟩ : ∃ t9 : zTy, t9 = zDr τ180 q := ⟨_, rfl⟩
            rw [← eτ184] at hH
            refine W.widen (k := 14) (n := 126) (by decide) (by decide) ?_
            refine vx_ret ?_
            exact W.iret (v := r179) hx hb hr (fun t9 ht9 hW9 => ⟨⟨r179, (τ184, f181, g182), rfl, (show (∃ xl lc2 m2 b2, zLet (fi 2) L (zS (fi 2) L 0) = .ok xl ∧ zLm2 cd pN n xl lc2 m2 b2 ∧ (((b2 = 1 ∧ zPd cd pN n (fi 10) xl.1 lc2 (zMnN xl) xl.2.2.2.2) ∧ o < 60 ∧ r179 = nI o ∧ zLo τ fi fr n o q τ184 f181 g182) ∨ (¬ (b2 = 1 ∧ zPd cd pN n (fi 10) xl.1 lc2 (zMnN xl) xl.2.2.2.2) ∧ zWt fi q < 20 ∧ r179 = -1 - nI (q + 1) ∧ zLd τ fi fr q τ184 f181 g182 ∧ zqLw f181 q xl.1 lc2 (zMnN xl) ∧ f181 (3000 + q) 3 = nI (zN xl.2.2.2.1) ∧ f181 (3000 + q) 4 = xl.2.2.2.2 ∧ f181 (3000 + q) 5 = nI m2 ∧ f181 (3000 + q) 8 = nI (zCn (fun j => zPo cd pN n (lc2 j)) xl.1) ∧ f181 (3000 + q) 9 = nI 1))) ∧ f181 0 14 = zFv (zLet (fi 2) L (zS (fi 2) L 0)) from ⟨⟨xl, lc2, m2, b2, hRx, hme, Or.inl ⟨⟨by omega, hpd⟩, ho, hmo183.1, by rw [eτ184]; exact zLo.of ho hlw hdd q140 (fun a b h => by rw [hfm a b (by omega), hf129 a b (by omega), hf8 a b (by omega), hf114 a b (by omega)]) hmo183.2⟩⟩, (hmo183.2.2.2.2.1 0 14 (by omega)).trans (q139.trans hfv)⟩), zEnd1 hH ht9 hW9⟩, hS.F ht9⟩) hS.2.2 dX11_letter_87
          · have zc178 := c178
            replace zc178 := zc_eq (nI_toInt (by omega)) (nI_toInt (by omega)) zc178
            refine lv_aload_n hx hb dX11_letter_72 rfl (lv_at hl 2 rfl) ?_
            refine lv_dup hx hb dX11_letter_73 rfl ?_
            refine zGetI (D := D) (ci := 11) (C := RX11) (T := TX11) (N := 16) hx hb hts hiX11 hown hH (zk_0 hF6) rfl 13 (by decide) rfl hw14 (fun _ h9 => h9) dX11_letter_74 rfl ?_
            refine lv_iconst (v := nI 1) hx hb dX11_letter_77 (by decide) ?_
            refine lv_iadd hx hb dX11_letter_78 ?_
            refine lv_topi (fun v185 ev185 => ?_)
            refine zPutI (D := D) (ci := 11) (ty := .int) (C := RX11) (T := TX11) (N := 16) hx hb hts hiX11 tyX11 tyX11_ok nmX11 hown hH hS (zk_0 hF6) rfl 13 (by decide) rfl hw14 (fun _ h9 => h9) rfl (by decide +kernel) rfl rfl dX11_letter_79 (fun H locs hH hS => ?_)
            obtain ⟨f186, ef186⟩ : ∃ f9 : zFi, f9 = zu f136 0 13 v185 := ⟨_, rfl⟩
            rw [← ef186] at hH
            have q187 : f186 1 2 = nI b8 := by rw [ef186, zu_n (fun h9 => absurd h9.1 (by decide))]; exact q137
            have q188 : f186 (3000 + q) 2 = nI l8 := by rw [ef186, zu_n (fun h9 => by omega)]; exact q138
            have q189 : f186 0 14 = w126 := by rw [ef186, zu_n (fun h9 => absurd h9.2 (by decide))]; exact q139
            have q190 : f186 1 1 = nI 0 := by rw [ef186, zu_n (fun h9 => absurd h9.1 (by decide))]; exact q140
            have q191 : f186 (3000 + q) 3 = nI ((zN xl.2.2.2.1)) := by rw [ef186, zu_n (fun h9 => by omega)]; exact q141
            have q192 : f186 (3000 + q) 4 = xl.2.2.2.2 := by rw [ef186, zu_n (fun h9 => by omega)]; exact q142
            have q193 : f186 (3000 + q) 5 = nI m2 := by rw [ef186, zu_n (fun h9 => by omega)]; exact hm5
            have q194 : f186 (3000 + q) 8 = nI (zCn (fun j => zPo cd pN n (lc2 j)) xl.1) := by rw [ef186, zu_n (fun h9 => by omega)]; exact hm8
            have q195 : f186 0 13 = v185 := by rw [ef186]; exact zu_s
            have hT := zTh.ci (fi' := f186) hT (fun i9 k9 h9 => by rw [ef186]; exact zu_n (by omega))
            have hO := zOr.ci (fi' := f186) hO (fun i9 k9 h9 => by rw [ef186]; exact zu_n (by omega))
            have hDa := zDa.ci (fi' := f186) hDa (fun i9 k9 h9 => by rw [ef186]; exact zu_n (by omega))
            have hPk := zqPk.cg (fi' := f186) hPk (fun i9 k9 h9 => by rw [ef186]; exact zu_n (by omega))
            have hLw2 := zqLw.cg (fi' := f186) hLw2 (fun i9 k9 h9 => by rw [ef186]; exact zu_n (by omega))
            refine lv_aload_n hx hb dX11_letter_82 rfl (lv_at hl 2 rfl) ?_
            refine lv_aload_n hx hb dX11_letter_83 rfl (lv_at hl 1 rfl) ?_
            refine va_calli (va_runV (As := [.ref (τ106.1 (3000 + q))]) (rest := []) ⟨hx, hb, hml, hown, hts⟩ (c_makeOrder l hl0 D A sad τ106 f186 g108 ol hF6 n hT q hq5 hL l8 (by omega) q188 o hO ho) (cwV 1 hts gX11_letter_X11_makeOrder rfl rfl rfl (by decide +kernel) ⟨Nat.le_of_ble_eq_true rfl, Nat.le_of_ble_eq_true rfl⟩) ⟨zQc_bl, zRecv hH (zk_0 hF6) rfl, zQc_at hz hS hA hH⟩ rfl rfl hl.1 rfl (lv_room (Nat.le_of_ble_eq_true rfl)) dX11_letter_84 ⟨Nat.le_of_ble_eq_true rfl, Nat.le_of_ble_eq_true rfl⟩) hS (fun q _ h => h) (fun q h => h) (fun r196 u9 t9 H1 locs ht9 hvm9 hw hB hz1 hk1 hS => ?_)
            obtain ⟨τ197, f198, g199⟩ := u9
            have hH := zMv ht9 hvm9 hB
            clear hB
            simp only at hw hH
            generalize H1 = H at hH hS ⊢
            refine W.widen (k := 14) (n := 126) (by decide) (by decide) ?_
            have hmo200 := hw
            clear hw
            have hno2 := zNr.no hmo200.2.2.2.2.2.2.1 hno
            have hH := hH.dropL hno2
            obtain ⟨τ201, eτ201⟩ : ∃ t9 : zTy, t9 = zDr τ197 q := ⟨_, rfl⟩
            rw [← eτ201] at hH
            refine W.widen (k := 14) (n := 126) (by decide) (by decide) ?_
            refine vx_ret ?_
            exact W.iret (v := r196) hx hb hr (fun t9 ht9 hW9 => ⟨⟨r196, (τ201, f198, g199), rfl, (show (∃ xl lc2 m2 b2, zLet (fi 2) L (zS (fi 2) L 0) = .ok xl ∧ zLm2 cd pN n xl lc2 m2 b2 ∧ (((b2 = 1 ∧ zPd cd pN n (fi 10) xl.1 lc2 (zMnN xl) xl.2.2.2.2) ∧ o < 60 ∧ r196 = nI o ∧ zLo τ fi fr n o q τ201 f198 g199) ∨ (¬ (b2 = 1 ∧ zPd cd pN n (fi 10) xl.1 lc2 (zMnN xl) xl.2.2.2.2) ∧ zWt fi q < 20 ∧ r196 = -1 - nI (q + 1) ∧ zLd τ fi fr q τ201 f198 g199 ∧ zqLw f198 q xl.1 lc2 (zMnN xl) ∧ f198 (3000 + q) 3 = nI (zN xl.2.2.2.1) ∧ f198 (3000 + q) 4 = xl.2.2.2.2 ∧ f198 (3000 + q) 5 = nI m2 ∧ f198 (3000 + q) 8 = nI (zCn (fun j => zPo cd pN n (lc2 j)) xl.1) ∧ f198 (3000 + q) 9 = nI 1))) ∧ f198 0 14 = zFv (zLet (fi 2) L (zS (fi 2) L 0)) from ⟨⟨xl, lc2, m2, b2, hRx, hme, Or.inl ⟨⟨by omega, hpd⟩, ho, hmo200.1, by rw [eτ201]; exact zLo.of ho hlw hdd q190 (fun a b h => by rw [ef186, zu_n (by omega), hfm a b (by omega), hf129 a b (by omega), hf8 a b (by omega), hf114 a b (by omega)]) hmo200.2⟩⟩, (hmo200.2.2.2.2.1 0 14 (by omega)).trans (q189.trans hfv)⟩), zEnd1 hH ht9 hW9⟩, hS.F ht9⟩) hS.2.2 dX11_letter_87
      · skip
        refine lv_if_eq (tgt := 88) hx hb dX11_letter_57 (by decide) (fun c202 => ?_) (fun c202 => absurd (by decide) c202)
        have hnp : ¬ (b2 = 1 ∧ zPd cd pN n (fi 10) xl.1 lc2 (zMnN xl) xl.2.2.2.2) := fun h9 => hpd h9.2
        refine lv_aload_n hx hb dX11_letter_88 rfl (lv_at hl 2 rfl) ?_
        refine va_calli (va_runV (As := []) (rest := []) ⟨hx, hb, hml, hown, hts⟩ (c_waitingN l hl0 D A sad τ106 f136 g108 ol hF6 q hDa) (cwV 0 hts gX11_letter_X11_waitingDoubts rfl rfl rfl (by decide +kernel) ⟨Nat.le_of_ble_eq_true rfl, Nat.le_of_ble_eq_true rfl⟩) ⟨zQc_bl, zRecv hH (zk_0 hF6) rfl, zQc_at hz hS hA hH⟩ rfl rfl hl.1 rfl (lv_room (Nat.le_of_ble_eq_true rfl)) dX11_letter_89 ⟨Nat.le_of_ble_eq_true rfl, Nat.le_of_ble_eq_true rfl⟩) hS (fun q _ h => h) (fun q h => h) (fun r203 u9 t9 H1 locs ht9 hvm9 hw hB hz1 hk1 hS => ?_)
        have hH := zMv ht9 hvm9 hB
        generalize H1 = H at hH hS ⊢
        obtain rfl := hw
        have hwe : zWt f136 q = zWt fi q := zWt_cg (fun i9 h9 => (show f136 (3000 + i9) 9 = f107 (3000 + i9) 9 from by rw [hfm (3000 + i9) 9 (by omega), hf129 (3000 + i9) 9 (by omega), hf8 (3000 + i9) 9 (by omega), hf114 (3000 + i9) 9 (by omega)]).trans (hlw.2.2.1 (3000 + i9) 9 (by omega)))
        have hwl := zWt_le (fi := f136) (d := q)
        refine lv_bipush (v := nI 20) hx hb dX11_letter_92 (by decide) ?_
        refine lv_icmp_ge (tgt := 107) hx hb dX11_letter_94 (by decide) (fun c204 => ?_) (fun c204 => ?_)
        · have zc204 := c204
          replace zc204 := zc_le (nI_toInt (by omega)) (nI_toInt (by omega)) zc204
          obtain ⟨a205, ha205⟩ := hz.1.2.2.2.2.1 _ (List.mem_of_getElem? (i := 10) rfl)
          have hat : ∀ w ∈ vx_atS RX11 111 "java/lang/UnsupportedOperationException" ["java/lang/RuntimeException", "java/lang/Exception"], w.before _ s = true := vx_hat (fun w h => hts w (List.mem_cons_of_mem _ (List.mem_append_right _ h))) (B := [.castable "java/lang/UnsupportedOperationException" "java/lang/UnsupportedOperationException", .declares (Bundle.initS "java/lang/RuntimeException"), .declares (Bundle.initS "java/lang/Exception"), .declares (Bundle.initS Bundle.tN)]) (by decide +kernel) (vx_c (va_Nw.use rfl (hz.1.2.2.2.2.2.2.2.1 _ (List.mem_of_getElem? (i := 2) rfl))) (vx_c (va_Nw.use rfl (hz.1.2.2.2.2.2.2.2.2 _ (List.mem_of_getElem? (i := 0) rfl))) (vx_c (va_Nw.use rfl (hz.1.2.2.2.2.2.2.2.2 _ (List.mem_of_getElem? (i := 1) rfl))) (vx_c (va_Nw.use rfl (hz.1.2.2.2.2.2.2.2.2 _ (List.mem_of_getElem? (i := 2) rfl))) vx_n))))
          have hH := hH.dropL hno
          obtain ⟨τ206, eτ206⟩ : ∃ t9 : zTy, t9 = zDr τ106 q := ⟨_, rfl⟩
          rw [← eτ206] at hH
          exact vx_throwS hx hb hl0 (own := RX11) (cls := "java/lang/UnsupportedOperationException") (text := "too many doubts wait") (names := ["java/lang/RuntimeException", "java/lang/Exception"]) hown (by decide +kernel) (by decide +kernel) hw8 hw9 ha205 hat (by decide +kernel) hz.1.1 hz.1.2.1 hS (by rw [hml]; exact hl.1) dX11_letter_107 dX11_letter_110 dX11_letter_111 dX11_letter_113 dX11_letter_116 (fun x h9 => (ht0 x h9).elim) (Nat.le_of_ble_eq_true rfl) (Nat.le_of_ble_eq_true rfl) (Nat.le_of_ble_eq_true rfl) (Nat.le_of_ble_eq_true rfl) hlocks (fun t9 hvm9 h91 h92 => ⟨(τ206, f136, g108), trivial, ⟨Or.inr ⟨rfl, ⟨xl, lc2, m2, b2, hRx, hme, Or.inr ⟨hnp, by omega⟩⟩, (show zLg τ fi fr q τ206 f136 g108 from by rw [eτ206]; exact zLg.of hlw hdd q140 (fun a b h => by rw [hfm a b (by omega), hf129 a b (by omega), hf8 a b (by omega), hf114 a b (by omega)])), (q139.trans hfv)⟩, zThr hH hvm9 h92⟩, zF2 hS h91 h92⟩) hS.2.2 (by decide) (by decide)
        · have zc204 := c204
          replace zc204 := zc_nle (nI_toInt (by omega)) (nI_toInt (by omega)) zc204
          refine lv_aload_n hx hb dX11_letter_97 rfl (lv_at hl 2 rfl) ?_
          refine zGetI (D := D) (ci := 11) (C := RX11) (T := TX11) (N := 16) hx hb hts hiX11 hown hH (zk_0 hF6) rfl 10 (by decide) rfl hw10 (fun _ h9 => h9) dX11_letter_98 hDa.2.1 ?_
          refine lv_sipush (v := nI 512) hx hb dX11_letter_101 (by decide) ?_
          refine lv_icmp_lt (tgt := 117) hx hb dX11_letter_104 (by decide) (fun c207 => ?_) (fun c207 => False.elim (by have zc207 := zc_nlt (nI_toInt (by omega)) (nI_toInt (by omega)) c207; omega))
          refine lv_aload_n hx hb dX11_letter_117 rfl (lv_at hl 1 rfl) ?_
          refine lv_iconst (v := nI 1) hx hb dX11_letter_118 (by decide) ?_
          refine zPutI (D := D) (ci := 2) (ty := .boolean) (C := RX2) (T := TX2) (N := 10) hx hb hts hiX2 tyX2 tyX2_ok nmX2 hown hH hS hL.1.1 rfl 9 (by decide) rfl hw11 (fun _ h9 => h9) rfl (by decide +kernel) rfl rfl dX11_letter_119 (fun H locs hH hS => ?_)
          obtain ⟨f208, ef208⟩ : ∃ f9 : zFi, f9 = zu f136 (3000 + q) 9 (nI 1) := ⟨_, rfl⟩
          rw [← ef208] at hH
          have q209 : f208 1 2 = nI b8 := by rw [ef208, zu_n (fun h9 => by omega)]; exact q137
          have q210 : f208 (3000 + q) 2 = nI l8 := by rw [ef208, zu_n (fun h9 => absurd h9.2 (by decide))]; exact q138
          have q211 : f208 0 14 = w126 := by rw [ef208, zu_n (fun h9 => by omega)]; exact q139
          have q212 : f208 1 1 = nI 0 := by rw [ef208, zu_n (fun h9 => by omega)]; exact q140
          have q213 : f208 (3000 + q) 3 = nI ((zN xl.2.2.2.1)) := by rw [ef208, zu_n (fun h9 => absurd h9.2 (by decide))]; exact q141
          have q214 : f208 (3000 + q) 4 = xl.2.2.2.2 := by rw [ef208, zu_n (fun h9 => absurd h9.2 (by decide))]; exact q142
          have q215 : f208 (3000 + q) 5 = nI m2 := by rw [ef208, zu_n (fun h9 => absurd h9.2 (by decide))]; exact hm5
          have q216 : f208 (3000 + q) 8 = nI (zCn (fun j => zPo cd pN n (lc2 j)) xl.1) := by rw [ef208, zu_n (fun h9 => absurd h9.2 (by decide))]; exact hm8
          have q217 : f208 (3000 + q) 9 = nI 1 := by rw [ef208]; exact zu_s
          have hT := zTh.ci (fi' := f208) hT (fun i9 k9 h9 => by rw [ef208]; exact zu_n (by omega))
          have hO := zOr.ci (fi' := f208) hO (fun i9 k9 h9 => by rw [ef208]; exact zu_n (by omega))
          have hDa := zDa.ci (fi' := f208) hDa (fun i9 k9 h9 => by rw [ef208]; exact zu_n (by omega))
          have hPk := zqPk.cg (fi' := f208) hPk (fun i9 k9 h9 => by rw [ef208]; exact zu_n (by omega))
          have hLw2 := zqLw.cg (fi' := f208) hLw2 (fun i9 k9 h9 => by rw [ef208]; exact zu_n (by omega))
          refine lv_aload_n hx hb dX11_letter_122 rfl (lv_at hl 2 rfl) ?_
          refine zGetR (D := D) (ci := 11) (C := RX11) (T := TX11) (N := 16) hx hb hts hiX11 hown hH (zk_0 hF6) rfl 5 (by decide) rfl hw12 (fun _ h9 => h9) dX11_letter_123 (zr_0_5 hF6) ?_
          refine lv_aload_n hx hb dX11_letter_126 rfl (lv_at hl 2 rfl) ?_
          refine zGetI (D := D) (ci := 11) (C := RX11) (T := TX11) (N := 16) hx hb hts hiX11 hown hH (zk_0 hF6) rfl 10 (by decide) rfl hw10 (fun _ h9 => h9) dX11_letter_127 hDa.2.1 ?_
          refine lv_aload_n hx hb dX11_letter_130 rfl (lv_at hl 1 rfl) ?_
          refine zAastS (D := D) (rr := (RX2, TX2, 10)) hx hb hH hS (zk_15 hF6) (by decide) (by decide) rfl hL.1.1 rfl (zn_15 hF6) (by omega) (by omega) dX11_letter_131 (fun H locs hH hS => ?_)
          obtain ⟨g218, eg218⟩ : ∃ f9 : zFr, f9 = zur g108 15 q (some (3000 + q)) := ⟨_, rfl⟩
          rw [← eg218] at hH
          have hF219 : zFix τ106 g218 := by rw [eg218]; exact hF6.ur (by omega)
          refine lv_aload_n hx hb dX11_letter_132 rfl (lv_at hl 2 rfl) ?_
          refine lv_dup hx hb dX11_letter_133 rfl ?_
          refine zGetI (D := D) (ci := 11) (C := RX11) (T := TX11) (N := 16) hx hb hts hiX11 hown hH (zk_0 hF219) rfl 10 (by decide) rfl hw10 (fun _ h9 => h9) dX11_letter_134 hDa.2.1 ?_
          refine lv_iconst (v := nI 1) hx hb dX11_letter_137 (by decide) ?_
          refine lv_iadd hx hb dX11_letter_138 ?_
          refine lv_topi (fun v220 ev220 => ?_)
          obtain rfl : v220 = nI (q + 1) := ev220.trans (nI_add _ _)
          refine zPutI (D := D) (ci := 11) (ty := .int) (C := RX11) (T := TX11) (N := 16) hx hb hts hiX11 tyX11 tyX11_ok nmX11 hown hH hS (zk_0 hF219) rfl 10 (by decide) rfl hw10 (fun _ h9 => h9) rfl (by decide +kernel) rfl rfl dX11_letter_139 (fun H locs hH hS => ?_)
          obtain ⟨f221, ef221⟩ : ∃ f9 : zFi, f9 = zu f208 0 10 (nI (q + 1)) := ⟨_, rfl⟩
          rw [← ef221] at hH
          have q222 : f221 1 2 = nI b8 := by rw [ef221, zu_n (fun h9 => absurd h9.1 (by decide))]; exact q209
          have q223 : f221 (3000 + q) 2 = nI l8 := by rw [ef221, zu_n (fun h9 => by omega)]; exact q210
          have q224 : f221 0 14 = w126 := by rw [ef221, zu_n (fun h9 => absurd h9.2 (by decide))]; exact q211
          have q225 : f221 1 1 = nI 0 := by rw [ef221, zu_n (fun h9 => absurd h9.1 (by decide))]; exact q212
          have q226 : f221 (3000 + q) 3 = nI ((zN xl.2.2.2.1)) := by rw [ef221, zu_n (fun h9 => by omega)]; exact q213
          have q227 : f221 (3000 + q) 4 = xl.2.2.2.2 := by rw [ef221, zu_n (fun h9 => by omega)]; exact q214
          have q228 : f221 (3000 + q) 5 = nI m2 := by rw [ef221, zu_n (fun h9 => by omega)]; exact q215
          have q229 : f221 (3000 + q) 8 = nI (zCn (fun j => zPo cd pN n (lc2 j)) xl.1) := by rw [ef221, zu_n (fun h9 => by omega)]; exact q216
          have q230 : f221 (3000 + q) 9 = nI 1 := by rw [ef221, zu_n (fun h9 => by omega)]; exact q217
          have q231 : f221 0 10 = nI (q + 1) := by rw [ef221]; exact zu_s
          have hLw2 := zqLw.cg (fi' := f221) hLw2 (fun i9 k9 h9 => by rw [ef221]; exact zu_n (by omega))
          refine lv_iconst (v := (-1)) hx hb dX11_letter_142 (by decide) ?_
          refine lv_aload_n hx hb dX11_letter_143 rfl (lv_at hl 2 rfl) ?_
          refine zGetI (D := D) (ci := 11) (C := RX11) (T := TX11) (N := 16) hx hb hts hiX11 hown hH (zk_0 hF219) rfl 10 (by decide) rfl hw10 (fun _ h9 => h9) dX11_letter_144 q231 ?_
          refine lv_isub hx hb dX11_letter_147 ?_
          refine lv_topi (fun v232 ev232 => ?_)
          refine W.widen (k := 14) (n := 126) (by decide) (by decide) ?_
          refine vx_ret ?_
          exact W.iret (v := v232) hx hb hr (fun t9 ht9 hW9 => ⟨⟨v232, (τ106, f221, g218), rfl, (show (∃ xl lc2 m2 b2, zLet (fi 2) L (zS (fi 2) L 0) = .ok xl ∧ zLm2 cd pN n xl lc2 m2 b2 ∧ (((b2 = 1 ∧ zPd cd pN n (fi 10) xl.1 lc2 (zMnN xl) xl.2.2.2.2) ∧ o < 60 ∧ v232 = nI o ∧ zLo τ fi fr n o q τ106 f221 g218) ∨ (¬ (b2 = 1 ∧ zPd cd pN n (fi 10) xl.1 lc2 (zMnN xl) xl.2.2.2.2) ∧ zWt fi q < 20 ∧ v232 = -1 - nI (q + 1) ∧ zLd τ fi fr q τ106 f221 g218 ∧ zqLw f221 q xl.1 lc2 (zMnN xl) ∧ f221 (3000 + q) 3 = nI (zN xl.2.2.2.1) ∧ f221 (3000 + q) 4 = xl.2.2.2.2 ∧ f221 (3000 + q) 5 = nI m2 ∧ f221 (3000 + q) 8 = nI (zCn (fun j => zPo cd pN n (lc2 j)) xl.1) ∧ f221 (3000 + q) 9 = nI 1))) ∧ f221 0 14 = zFv (zLet (fi 2) L (zS (fi 2) L 0)) from ⟨⟨xl, lc2, m2, b2, hRx, hme, Or.inr ⟨hnp, by omega, ev232, zLd.of hDo (by omega) hlw q140 q138 (by omega) (fun a b h => by rw [hfm a b (by omega), hf129 a b (by omega), hf8 a b (by omega), hf114 a b (by omega)]) eg218 (by rw [ef221, ef208]) hF219, hLw2, q226, q227, q228, q229, q230⟩⟩, (q224.trans hfv)⟩), zEnd1 hH ht9 hW9⟩, hS.F ht9⟩) hS.2.2 dX11_letter_148
  · have zc134 := c134
    replace zc134 := zc_neq (rfl) ((by decide : ((-1) : Int32).toInt = (-1))) zc134
    have hRe := zFv_er (R := zLet (fi 2) L (zS (fi 2) L 0)) (fun h9 => zc134 (by rw [hfv, h9]; decide))
    obtain ⟨a233, ha233⟩ := hz.1.2.2.2.2.1 _ (List.mem_of_getElem? (i := 9) rfl)
    have hat : ∀ w ∈ vx_atS RX11 95 "java/lang/IllegalArgumentException" ["java/lang/RuntimeException", "java/lang/Exception"], w.before _ s = true := vx_hat (fun w h => hts w (List.mem_cons_of_mem _ (List.mem_append_left _ (List.mem_append_right _ h)))) (B := [.castable "java/lang/IllegalArgumentException" "java/lang/IllegalArgumentException", .declares (Bundle.initS "java/lang/RuntimeException"), .declares (Bundle.initS "java/lang/Exception"), .declares (Bundle.initS Bundle.tN)]) (by decide +kernel) (vx_c (va_Nw.use rfl (hz.1.2.2.2.2.2.2.2.1 _ (List.mem_of_getElem? (i := 1) rfl))) (vx_c (va_Nw.use rfl (hz.1.2.2.2.2.2.2.2.2 _ (List.mem_of_getElem? (i := 0) rfl))) (vx_c (va_Nw.use rfl (hz.1.2.2.2.2.2.2.2.2 _ (List.mem_of_getElem? (i := 1) rfl))) (vx_c (va_Nw.use rfl (hz.1.2.2.2.2.2.2.2.2 _ (List.mem_of_getElem? (i := 2) rfl))) vx_n))))
    have hH := hH.dropL hno
    obtain ⟨τ234, eτ234⟩ : ∃ t9 : zTy, t9 = zDr τ106 q := ⟨_, rfl⟩
    rw [← eτ234] at hH
    exact vx_throwS hx hb hl0 (own := RX11) (cls := "java/lang/IllegalArgumentException") (text := "the text of the letter is wrong") (names := ["java/lang/RuntimeException", "java/lang/Exception"]) hown (by decide +kernel) (by decide +kernel) hw15 hw16 ha233 hat (by decide +kernel) hz.1.1 hz.1.2.1 hS (by rw [hml]; exact hl.1) dX11_letter_32 dX11_letter_35 dX11_letter_36 dX11_letter_38 dX11_letter_41 (fun x h9 => (ht0 x h9).elim) (Nat.le_of_ble_eq_true rfl) (Nat.le_of_ble_eq_true rfl) (Nat.le_of_ble_eq_true rfl) (Nat.le_of_ble_eq_true rfl) hlocks (fun t9 hvm9 h91 h92 => ⟨(τ234, f125, g108), trivial, ⟨Or.inl ⟨rfl, hRe, (show zLg τ fi fr q τ234 f125 g108 from by rw [eτ234]; exact zLg.of hlw hdd q128 (fun a b h => by rw [hf129 a b (by omega), hf8 a b (by omega), hf114 a b (by omega)])), (q127.trans hfv)⟩, zThr hH hvm9 h92⟩, zF2 hS h91 h92⟩) hS.2.2 (by decide) (by decide)
set_option maxHeartbeats 4000000 in
set_option maxRecDepth 100000 in
/-- settle -/
theorem c_settleN (l : Launch) (hl0 : l.stackTraces = false) (D : va_G) (A : Nat → Prop) (sad : Nat → Nat) (τ : zTy) (fi : zFi) (fr : zFr) (ol : Int64) (x y : Int32) (hF : zFix τ fr) (n : Nat) (hT : zTh τ fi fr n) (o : Nat) (hO : zOr τ fi fr n o) (d : Nat) (hDo : zDo τ fi fr d) (td : Nat) (cd pN : Nat → Nat) (hPk : zqPk fi n td cd pN) (LL : Nat → Nat) (LC MN : Nat → Nat → Nat) (hDl : ∀ q, q < d → zqLw fi q (LL q) (LC q) (MN q)) : vx_Met l yX11_settle wsX11_settle ({ frames := 7, cells := 12, slots := 106, locals := 115 }) (va_Pc [.ref (τ.1 0), .int x, .int y] (zQc D A sad τ fi fr ol)) (va_Qi (fun (r : Int32) (u : zTy × zFi × zFr) => ∃ b, b < d ∧ x = nI b ∧ ¬ fi (3000 + b) 9 = 0 ∧ ((y.toInt = 0 ∧ r = -1 ∧ u.1 = τ ∧ u.2.2 = fr ∧ u.2.1 = zu fi (3000 + b) 9 (nI 0)) ∨ (¬ y.toInt = 0 ∧ ¬ zPd cd pN n (fi 10) (LL b) (LC b) (MN b) (fi (3000 + b) 4) ∧ r = -1 ∧ u.1 = τ ∧ u.2.2 = fr ∧ u.2.1 = fi) ∨ (¬ y.toInt = 0 ∧ zPd cd pN n (fi 10) (LL b) (LC b) (MN b) (fi (3000 + b) 4) ∧ o < 60 ∧ r = nI o ∧ zNO τ (zu fi (3000 + b) 9 (nI 0)) fr n o u.1 u.2.1 u.2.2))) (fun (u : zTy × zFi × zFr) (t : State) => zH D A u.1 u.2.1 u.2.2 ol t t.heap) A) (vx_X (fun u : Unit => True) (fun (E : String) (u : Unit) (t : State) => ((E = "java/lang/IndexOutOfBoundsException" ∧ ¬ (0 ≤ x.toInt ∧ x.toInt < (d : Int))) ∨ (E = "java/lang/IllegalStateException" ∧ ∃ b, b < d ∧ x = nI b ∧ fi (3000 + b) 9 = 0) ∨ (E = "java/lang/UnsupportedOperationException" ∧ ∃ b, b < d ∧ x = nI b ∧ ¬ fi (3000 + b) 9 = 0 ∧ ¬ y.toInt = 0 ∧ zPd cd pN n (fi 10) (LL b) (LC b) (MN b) (fi (3000 + b) 4) ∧ o = 60)) ∧ zH D A τ fi fr ol t t.heap) A) 12 106 A := by
  refine vx_ofW (cc := cX11_settle) (maxL := 4) (ret := (some .int)) (by decide) rfl ?_
  intro p9 e9 s m args below meth c9 s₁ B hml ht0 hv
  obtain ⟨rfl, hz, hH, hA⟩ := hv
  have hx := B.exec
  have hb := B.bytes
  have hr := B.returns
  have hts := atoms_spec (ws := wsX11_settle) B.pre
  have hown : s.vm.findClass RX11 = some m.cls := findClass_of_methodNamed B.named
  have hlocks := B.notSynchronized
  have hS : va_S A s.heap s.heap [] := va_S.rf
  have hl := lv_entry ([.ref (τ.1 0), .int x, .int y]) (n := 4) (Nat.le_of_ble_eq_true rfl)
  rw [lg_entry_eq]
  generalize (lg_sl ([.ref (τ.1 0), .int x, .int y]) ++ List.replicate (4 - (lg_sl ([.ref (τ.1 0), .int x, .int y])).length) Slot.unset).toArray = ls at hl ⊢
  have hl : lv_has ls 4 [(0, .ref (τ.1 0)), (1, .int x), (2, .int y)] := hl
  have hn30 := hT.1
  have hiX2 : ∀ w ∈ u_ws RX2 TX2 10, w ∈ wsX11_settle := fun _ h => List.mem_cons_of_mem _ (List.mem_append_left _ (List.mem_append_left _ (List.mem_append_left _ (List.mem_append_left _ (List.mem_append_left _ (List.mem_append_left _ (List.mem_append_left _ (List.mem_append_left _ (List.mem_append_left _ (List.mem_append_right _ h))))))))))
  have hw1 := hts (.fieldLink RX11 220 "PostHouse$Letter" "waits" "Z") (by decide +kernel)
  have hw2 := hts (.classLink RX11 242 "java/lang/IllegalStateException") (by decide +kernel)
  have hw3 := hts (.initialized "java/lang/IllegalStateException") (by decide +kernel)
  refine lv_aload_n hx hb dX11_settle_0 rfl (lv_at hl 0 rfl) ?_
  refine lv_iload_n hx hb dX11_settle_1 rfl (lv_at hl 1 rfl) ?_
  refine vx_callq (vx_runV (As := [.int x]) (rest := []) ⟨hx, hb, hml, hown, hts⟩ (c_doubtAt l hl0 D A sad τ fi fr ol x hF d hDo) (cwV 1 hts gX11_settle_X11_doubtAt rfl rfl rfl (by decide +kernel) ⟨Nat.le_of_ble_eq_true rfl, Nat.le_of_ble_eq_true rfl⟩) ⟨zQc_bl, zRecv hH (zk_0 hF) rfl, zQc_at hz hS hA hH⟩ rfl rfl hl.1 rfl (lv_room (Nat.le_of_ble_eq_true rfl)) dX11_settle_2 ⟨Nat.le_of_ble_eq_true rfl, Nat.le_of_ble_eq_true rfl⟩) hS (fun q _ h => h) (fun q h => h) (fun q _ h => h) (fun E ce q9 u9 t9 H1 locs ht9 hvm9 hw hB hz1 hk1 hS hce hcv hcl => ?_) (fun r101 u9 t9 H1 locs ht9 hvm9 hw hB hz1 hk1 hS => ?_)
  · obtain ⟨hX, hB⟩ := hB
    have hH := zMv ht9 hvm9 hB
    generalize H1 = H at hH hS hce ⊢
    exact vx_out (fun x h9 => (ht0 x h9).elim) hlocks hce hcv hcl (fun t9 ht9 hvm9 => ⟨(), trivial, ⟨Or.inl hX, zOut hH ht9 hvm9⟩, hS.F ht9⟩) hS.2.2 (by decide) (by decide)
  · skip
    have hH := zMv ht9 hvm9 hB
    generalize H1 = H at hH hS ⊢
    refine W.widen (k := 1) (n := 6) (by decide) (by decide) ?_
    obtain ⟨q, hq, rfl, rfl⟩ := hw
    have hL := hDo.lk hq
    have hq5 : q ≤ 512 := by have := hDo.1; omega
    obtain ⟨l0, hl8, hln⟩ := (hDo.2.2.1 q hq).2.2.1
    have hLw := hDl q hq
    refine lv_astore_n (lv' := [(3, .ref (τ.1 (3000 + q))), (0, .ref (τ.1 0)), (1, .int (nI q)), (2, .int y)]) hx hb dX11_settle_5 rfl hl (by decide) rfl (fun ls hl => ?_)
    refine lv_aload_n hx hb dX11_settle_6 rfl (lv_at hl 0 rfl) ?_
    refine zGetI (D := D) (ci := 2) (C := RX2) (T := TX2) (N := 10) hx hb hts hiX2 hown hH hL.1.1 rfl 9 (by decide) rfl hw1 (fun _ h9 => h9) dX11_settle_7 rfl ?_
    refine lv_if_ne (tgt := 23) hx hb dX11_settle_10 (by decide) (fun c102 => ?_) (fun c102 => ?_)
    · have zc102 := c102
      replace zc102 := zc_neq (rfl) ((by decide : (0 : Int32).toInt = 0)) zc102
      have hwt : ¬ fi (3000 + q) 9 = 0 := fun h9 => zc102 (by rw [h9]; decide)
      refine lv_iload_n hx hb dX11_settle_23 rfl (lv_at hl 3 rfl) ?_
      refine lv_if_ne (tgt := 34) hx hb dX11_settle_24 (by decide) (fun c103 => ?_) (fun c103 => ?_)
      · have zc103 := c103
        replace zc103 := zc_neq (rfl) ((by decide : (0 : Int32).toInt = 0)) zc103
        have hyt := zc103
        refine lv_aload_n hx hb dX11_settle_34 rfl (lv_at hl 1 rfl) ?_
        refine lv_aload_n hx hb dX11_settle_35 rfl (lv_at hl 0 rfl) ?_
        refine va_calli (va_runV (As := [.ref (τ.1 (3000 + q))]) (rest := []) ⟨hx, hb, hml, hown, hts⟩ (c_isPaidN l hl0 D A sad τ fi fr ol hF n hT td cd pN hPk q hq5 hL ((LL q)) ((LC q)) ((MN q)) hLw) (cwV 1 hts gX11_settle_X11_isPaid rfl rfl rfl (by decide +kernel) ⟨Nat.le_of_ble_eq_true rfl, Nat.le_of_ble_eq_true rfl⟩) ⟨zQc_bl, zRecv hH (zk_0 hF) rfl, zQc_at hz hS hA hH⟩ rfl rfl hl.1 rfl (lv_room (Nat.le_of_ble_eq_true rfl)) dX11_settle_36 ⟨Nat.le_of_ble_eq_true rfl, Nat.le_of_ble_eq_true rfl⟩) hS (fun q _ h => h) (fun q h => h) (fun r104 u9 t9 H1 locs ht9 hvm9 hw hB hz1 hk1 hS => ?_)
        have hH := zMv ht9 hvm9 hB
        generalize H1 = H at hH hS ⊢
        rcases hw with ⟨rfl, hpd⟩ | ⟨rfl, hpd⟩
        · skip
          refine lv_if_ne (tgt := 44) hx hb dX11_settle_39 (by decide) (fun c105 => ?_) (fun c105 => absurd c105 (by decide))
          refine lv_aload_n hx hb dX11_settle_44 rfl (lv_at hl 1 rfl) ?_
          refine vx_callv (vx_runV (As := []) (rest := []) ⟨hx, hb, hml, hown, hts⟩ (c_needRoom l hl0 D A sad τ fi fr ol o hF hO.2.1 hO.1) (cwV 0 hts gX11_settle_X11_needRoomForOrder rfl rfl rfl (by decide +kernel) ⟨Nat.le_of_ble_eq_true rfl, Nat.le_of_ble_eq_true rfl⟩) ⟨zQc_bl, zRecv hH (zk_0 hF) rfl, zQc_at hz hS hA hH⟩ rfl rfl hl.1 rfl (lv_room (Nat.le_of_ble_eq_true rfl)) dX11_settle_45 ⟨Nat.le_of_ble_eq_true rfl, Nat.le_of_ble_eq_true rfl⟩) hS (fun q _ h => h) (fun q h => h) (fun q _ h => h) (fun E ce q9 u9 t9 H1 locs ht9 hvm9 hw hB hz1 hk1 hS hce hcv hcl => ?_) (fun u9 t9 H1 locs ht9 hvm9 hw hB hz1 hk1 hS => ?_)
          · obtain ⟨hX, hB⟩ := hB
            have hH := zMv ht9 hvm9 hB
            generalize H1 = H at hH hS hce ⊢
            exact vx_out (fun x h9 => (ht0 x h9).elim) hlocks hce hcv hcl (fun t9 ht9 hvm9 => ⟨(), trivial, ⟨Or.inr (Or.inr ⟨hX.1, q, hq, rfl, hwt, hyt, hpd, hX.2⟩), zOut hH ht9 hvm9⟩, hS.F ht9⟩) hS.2.2 (by decide) (by decide)
          · skip
            have hH := zMv ht9 hvm9 hB
            generalize H1 = H at hH hS ⊢
            refine W.widen (k := 2) (n := 12) (by decide) (by decide) ?_
            have ho := hw
            refine lv_aload_n hx hb dX11_settle_48 rfl (lv_at hl 0 rfl) ?_
            refine lv_iconst (v := nI 0) hx hb dX11_settle_49 (by decide) ?_
            refine zPutI (D := D) (ci := 2) (ty := .boolean) (C := RX2) (T := TX2) (N := 10) hx hb hts hiX2 tyX2 tyX2_ok nmX2 hown hH hS hL.1.1 rfl 9 (by decide) rfl hw1 (fun _ h9 => h9) rfl (by decide +kernel) rfl rfl dX11_settle_50 (fun H locs hH hS => ?_)
            obtain ⟨f107, ef107⟩ : ∃ f9 : zFi, f9 = zu fi (3000 + q) 9 (nI 0) := ⟨_, rfl⟩
            rw [← ef107] at hH
            have q108 : f107 (3000 + q) 2 = nI l0 := by rw [ef107, zu_n (fun h9 => absurd h9.2 (by decide))]; exact hln
            have q109 : f107 (3000 + q) 9 = nI 0 := by rw [ef107]; exact zu_s
            have hT := zTh.ci (fi' := f107) hT (fun i9 k9 h9 => by rw [ef107]; exact zu_n (by omega))
            have hO := zOr.ci (fi' := f107) hO (fun i9 k9 h9 => by rw [ef107]; exact zu_n (by omega))
            refine lv_aload_n hx hb dX11_settle_53 rfl (lv_at hl 1 rfl) ?_
            refine lv_aload_n hx hb dX11_settle_54 rfl (lv_at hl 0 rfl) ?_
            refine va_calli (va_runV (As := [.ref (τ.1 (3000 + q))]) (rest := []) ⟨hx, hb, hml, hown, hts⟩ (c_makeOrder l hl0 D A sad τ f107 fr ol hF n hT q hq5 hL l0 (by omega) q108 o hO ho) (cwV 1 hts gX11_settle_X11_makeOrder rfl rfl rfl (by decide +kernel) ⟨Nat.le_of_ble_eq_true rfl, Nat.le_of_ble_eq_true rfl⟩) ⟨zQc_bl, zRecv hH (zk_0 hF) rfl, zQc_at hz hS hA hH⟩ rfl rfl hl.1 rfl (lv_room (Nat.le_of_ble_eq_true rfl)) dX11_settle_55 ⟨Nat.le_of_ble_eq_true rfl, Nat.le_of_ble_eq_true rfl⟩) hS (fun q _ h => h) (fun q h => h) (fun r110 u9 t9 H1 locs ht9 hvm9 hw hB hz1 hk1 hS => ?_)
            obtain ⟨τ111, f112, g113⟩ := u9
            have hH := zMv ht9 hvm9 hB
            clear hB
            simp only at hw hH
            generalize H1 = H at hH hS ⊢
            refine W.widen (k := 12) (n := 106) (by decide) (by decide) ?_
            have hmo114 := hw
            clear hw
            refine W.widen (k := 12) (n := 106) (by decide) (by decide) ?_
            refine vx_ret ?_
            exact W.iret (v := r110) hx hb hr (fun t9 ht9 hW9 => ⟨⟨r110, (τ111, f112, g113), rfl, (show ∃ b, b < d ∧ (nI q) = nI b ∧ ¬ fi (3000 + b) 9 = 0 ∧ ((y.toInt = 0 ∧ r110 = -1 ∧ τ111 = τ ∧ g113 = fr ∧ f112 = zu fi (3000 + b) 9 (nI 0)) ∨ (¬ y.toInt = 0 ∧ ¬ zPd cd pN n (fi 10) (LL b) (LC b) (MN b) (fi (3000 + b) 4) ∧ r110 = -1 ∧ τ111 = τ ∧ g113 = fr ∧ f112 = fi) ∨ (¬ y.toInt = 0 ∧ zPd cd pN n (fi 10) (LL b) (LC b) (MN b) (fi (3000 + b) 4) ∧ o < 60 ∧ r110 = nI o ∧ zNO τ (zu fi (3000 + b) 9 (nI 0)) fr n o τ111 f112 g113)) from ⟨q, hq, rfl, hwt, Or.inr (Or.inr ⟨hyt, hpd, ho, hmo114.1, by rw [← ef107]; exact hmo114.2⟩)⟩), zEnd1 hH ht9 hW9⟩, hS.F ht9⟩) hS.2.2 dX11_settle_58
        · skip
          refine lv_if_ne (tgt := 44) hx hb dX11_settle_39 (by decide) (fun c115 => absurd (by decide) c115) (fun c115 => ?_)
          refine lv_iconst (v := (-1)) hx hb dX11_settle_42 (by decide) ?_
          refine W.widen (k := 12) (n := 106) (by decide) (by decide) ?_
          refine vx_ret ?_
          exact W.iret (v := (-1)) hx hb hr (fun t9 ht9 hW9 => ⟨⟨(-1), (τ, fi, fr), rfl, (show ∃ b, b < d ∧ (nI q) = nI b ∧ ¬ fi (3000 + b) 9 = 0 ∧ ((y.toInt = 0 ∧ ((-1)) = -1 ∧ τ = τ ∧ fr = fr ∧ fi = zu fi (3000 + b) 9 (nI 0)) ∨ (¬ y.toInt = 0 ∧ ¬ zPd cd pN n (fi 10) (LL b) (LC b) (MN b) (fi (3000 + b) 4) ∧ ((-1)) = -1 ∧ τ = τ ∧ fr = fr ∧ fi = fi) ∨ (¬ y.toInt = 0 ∧ zPd cd pN n (fi 10) (LL b) (LC b) (MN b) (fi (3000 + b) 4) ∧ o < 60 ∧ ((-1)) = nI o ∧ zNO τ (zu fi (3000 + b) 9 (nI 0)) fr n o τ fi fr)) from ⟨q, hq, rfl, hwt, Or.inr (Or.inl ⟨hyt, hpd, rfl, rfl, rfl, rfl⟩)⟩), zEnd1 hH ht9 hW9⟩, hS.F ht9⟩) hS.2.2 dX11_settle_43
      · have zc103 := c103
        replace zc103 := zc_eq (rfl) ((by decide : (0 : Int32).toInt = 0)) zc103
        have hyt := zc103
        refine lv_aload_n hx hb dX11_settle_27 rfl (lv_at hl 0 rfl) ?_
        refine lv_iconst (v := nI 0) hx hb dX11_settle_28 (by decide) ?_
        refine zPutI (D := D) (ci := 2) (ty := .boolean) (C := RX2) (T := TX2) (N := 10) hx hb hts hiX2 tyX2 tyX2_ok nmX2 hown hH hS hL.1.1 rfl 9 (by decide) rfl hw1 (fun _ h9 => h9) rfl (by decide +kernel) rfl rfl dX11_settle_29 (fun H locs hH hS => ?_)
        obtain ⟨f116, ef116⟩ : ∃ f9 : zFi, f9 = zu fi (3000 + q) 9 (nI 0) := ⟨_, rfl⟩
        rw [← ef116] at hH
        have q117 : f116 (3000 + q) 2 = nI l0 := by rw [ef116, zu_n (fun h9 => absurd h9.2 (by decide))]; exact hln
        have q118 : f116 (3000 + q) 9 = nI 0 := by rw [ef116]; exact zu_s
        have hT := zTh.ci (fi' := f116) hT (fun i9 k9 h9 => by rw [ef116]; exact zu_n (by omega))
        have hO := zOr.ci (fi' := f116) hO (fun i9 k9 h9 => by rw [ef116]; exact zu_n (by omega))
        refine lv_iconst (v := (-1)) hx hb dX11_settle_32 (by decide) ?_
        refine W.widen (k := 12) (n := 106) (by decide) (by decide) ?_
        refine vx_ret ?_
        exact W.iret (v := (-1)) hx hb hr (fun t9 ht9 hW9 => ⟨⟨(-1), (τ, f116, fr), rfl, (show ∃ b, b < d ∧ (nI q) = nI b ∧ ¬ fi (3000 + b) 9 = 0 ∧ ((y.toInt = 0 ∧ ((-1)) = -1 ∧ τ = τ ∧ fr = fr ∧ f116 = zu fi (3000 + b) 9 (nI 0)) ∨ (¬ y.toInt = 0 ∧ ¬ zPd cd pN n (fi 10) (LL b) (LC b) (MN b) (fi (3000 + b) 4) ∧ ((-1)) = -1 ∧ τ = τ ∧ fr = fr ∧ f116 = fi) ∨ (¬ y.toInt = 0 ∧ zPd cd pN n (fi 10) (LL b) (LC b) (MN b) (fi (3000 + b) 4) ∧ o < 60 ∧ ((-1)) = nI o ∧ zNO τ (zu fi (3000 + b) 9 (nI 0)) fr n o τ f116 fr)) from ⟨q, hq, rfl, hwt, Or.inl ⟨hyt, rfl, rfl, rfl, ef116⟩⟩), zEnd1 hH ht9 hW9⟩, hS.F ht9⟩) hS.2.2 dX11_settle_33
    · have zc102 := c102
      replace zc102 := zc_eq (rfl) ((by decide : (0 : Int32).toInt = 0)) zc102
      have hwt : fi (3000 + q) 9 = 0 := Int32.toInt_inj.mp (by rw [zc102]; decide)
      obtain ⟨a119, ha119⟩ := hz.1.2.2.2.2.1 _ (List.mem_of_getElem? (i := 12) rfl)
      have hat : ∀ w ∈ vx_atS RX11 246 "java/lang/IllegalStateException" ["java/lang/RuntimeException", "java/lang/Exception"], w.before _ s = true := vx_hat (fun w h => hts w (List.mem_cons_of_mem _ (List.mem_append_left _ (List.mem_append_left _ (List.mem_append_right _ h))))) (B := [.castable "java/lang/IllegalStateException" "java/lang/IllegalStateException", .declares (Bundle.initS "java/lang/RuntimeException"), .declares (Bundle.initS "java/lang/Exception"), .declares (Bundle.initS Bundle.tN)]) (by decide +kernel) (vx_c (va_Nw.use rfl (hz.1.2.2.2.2.2.2.2.1 _ (List.mem_of_getElem? (i := 4) rfl))) (vx_c (va_Nw.use rfl (hz.1.2.2.2.2.2.2.2.2 _ (List.mem_of_getElem? (i := 0) rfl))) (vx_c (va_Nw.use rfl (hz.1.2.2.2.2.2.2.2.2 _ (List.mem_of_getElem? (i := 1) rfl))) (vx_c (va_Nw.use rfl (hz.1.2.2.2.2.2.2.2.2 _ (List.mem_of_getElem? (i := 2) rfl))) vx_n))))
      exact vx_throwS hx hb hl0 (own := RX11) (cls := "java/lang/IllegalStateException") (text := "the doubt does not wait") (names := ["java/lang/RuntimeException", "java/lang/Exception"]) hown (by decide +kernel) (by decide +kernel) hw2 hw3 ha119 hat (by decide +kernel) hz.1.1 hz.1.2.1 hS (by rw [hml]; exact hl.1) dX11_settle_13 dX11_settle_16 dX11_settle_17 dX11_settle_19 dX11_settle_22 (fun x h9 => (ht0 x h9).elim) (Nat.le_of_ble_eq_true rfl) (Nat.le_of_ble_eq_true rfl) (Nat.le_of_ble_eq_true rfl) (Nat.le_of_ble_eq_true rfl) hlocks (fun t9 hvm9 h91 h92 => ⟨(), trivial, ⟨Or.inr (Or.inl ⟨rfl, q, hq, rfl, hwt⟩), zThr hH hvm9 h92⟩, zF2 hS h91 h92⟩) hS.2.2 (by decide) (by decide)
