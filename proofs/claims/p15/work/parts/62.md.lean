set_option maxHeartbeats 4000000 in
set_option maxRecDepth 100000 in
/-- thingCode -/
theorem m_thingCode (l : Launch) (hl0 : l.stackTraces = false) (D : va_G) (A : Nat → Prop) (sad : Nat → Nat) (τ : zTy) (fi : zFi) (fr : zFr) (ol : Int64) (L a : Nat) (hF : zFix τ fr) (he : fi 30 22 = nI L) (ha : fi 30 23 = nI a) (hL4 : L ≤ 400) (haL : a ≤ L) (n : Nat) (hMt : zMt fi n) (x : Int32) : Met l yX12_thingCode wsX12_thingCode ({ frames := 2, cells := 0, slots := 0, locals := 48 }) (va_Pc [.ref (τ.1 30), .int x] (zQc D A sad τ fi fr ol)) (va_Qi (fun (r : Int32) (u : zFi) => (r = 0 ∨ (r = 1 ∧ ∃ t, t < n ∧ u 30 25 = nI t)) ∧ (∃ c, a ≤ c ∧ c ≤ L ∧ u 30 23 = nI c ∧ True) ∧ ∀ a b, ¬ (a = 30 ∧ 23 ≤ b ∧ b ≤ 25) → u a b = fi a b) (fun (u : zFi) (t : State) => zH D A τ u fr ol t t.heap) A) 0 0 A := by
  refine Met.ofW (cc := cX12_thingCode) (maxL := 5) (ret := (some .boolean)) (by decide) rfl ?_
  intro p9 e9 s m args below meth c9 s₁ B hml hv
  obtain ⟨rfl, hz, hH, hA⟩ := hv
  have hx := B.exec
  have hb := B.bytes
  have hr := B.returns
  have hts := atoms_spec (ws := wsX12_thingCode) B.pre
  have hown : s.vm.findClass RX12 = some m.cls := findClass_of_methodNamed B.named
  have hlocks := B.notSynchronized
  have hS : va_S A s.heap s.heap [] := va_S.rf
  have hl := lv_entry ([.ref (τ.1 30), .int x]) (n := 5) (Nat.le_of_ble_eq_true rfl)
  rw [lg_entry_eq]
  generalize (lg_sl ([.ref (τ.1 30), .int x]) ++ List.replicate (5 - (lg_sl ([.ref (τ.1 30), .int x])).length) Slot.unset).toArray = ls at hl ⊢
  have hl : lv_has ls 5 [(0, .ref (τ.1 30)), (1, .int x)] := hl
  have hm30 := hMt.1
  have hiX12 : ∀ w ∈ u_ws RX12 TX12 71, w ∈ wsX12_thingCode := fun _ h => List.mem_cons_of_mem _ (List.mem_append_right _ h)
  have hw1 := hts (.fieldLink RX12 206 "PostHouseModel" "at" "I") (by decide +kernel)
  have hw2 := hts (.fieldLink RX12 229 "PostHouseModel" "number" "I") (by decide +kernel)
  refine lv_aload_n hx hb dX12_thingCode_0 rfl (lv_at hl 0 rfl) ?_
  refine va_calli (va_runV (As := []) (rest := []) ⟨hx, hb, hml, hown, hts⟩ (m_sign l hl0 D A sad τ fi fr ol L a hF he ha (by omega) (by omega)) (cwV 0 hts gX12_thingCode_X12_sign rfl rfl rfl (by decide +kernel) ⟨Nat.le_of_ble_eq_true rfl, Nat.le_of_ble_eq_true rfl⟩) ⟨zQc_bl, zRecv hH (zk_30 hF) rfl, zQc_at hz hS hA hH⟩ rfl rfl hl.1 rfl (lv_room (Nat.le_of_ble_eq_true rfl)) dX12_thingCode_1 ⟨Nat.le_of_ble_eq_true rfl, Nat.le_of_ble_eq_true rfl⟩) hS (fun q _ h => h) (fun q h => h) (fun r101 u9 t9 H1 locs ht9 hvm9 hw hB hz1 hk1 hS => ?_)
  have hH := zMv ht9 hvm9 hB
  clear hB
  generalize u9 = f102 at hw hH
  generalize H1 = H at hH hS ⊢
  obtain ⟨hr109, ⟨c103, hc104, hc105, q106, hx107⟩, hf108⟩ := hw
  have q110 : f102 30 22 = nI L := by rw [hf108 30 22 (by omega)]; exact he
  have q111 : f102 30 2 = nI n := by rw [hf108 30 2 (by omega)]; exact hMt.2.1
  have hMt := zMt.ci (fi' := f102) hMt (fun i9 k9 h9 => hf108 i9 k9 (by omega))
  refine lv_istore_n (lv' := [(2, .int r101), (0, .ref (τ.1 30)), (1, .int x)]) hx hb dX12_thingCode_4 rfl hl (by decide) rfl (fun ls hl => ?_)
  refine lv_aload_n hx hb dX12_thingCode_5 rfl (lv_at hl 1 rfl) ?_
  refine zGetI (D := D) (ci := 12) (C := RX12) (T := TX12) (N := 71) hx hb hts hiX12 hown hH (zk_30 hF) rfl 23 (by decide) rfl hw1 (fun _ h9 => h9) dX12_thingCode_6 q106 ?_
  refine lv_istore_n (lv' := [(3, .int (nI c103)), (2, .int r101), (0, .ref (τ.1 30)), (1, .int x)]) hx hb dX12_thingCode_9 rfl hl (by decide) rfl (fun ls hl => ?_)
  refine lv_aload_n hx hb dX12_thingCode_10 rfl (lv_at hl 2 rfl) ?_
  refine lv_iconst (v := nI 4) hx hb dX12_thingCode_11 (by decide) ?_
  refine lv_iconst (v := nI 4) hx hb dX12_thingCode_12 (by decide) ?_
  refine lv_iconst (v := nI 0) hx hb dX12_thingCode_13 (by decide) ?_
  refine lv_sipush (v := nI 9999) hx hb dX12_thingCode_14 (by decide) ?_
  refine va_calli (va_runV (As := [.int (nI 4), .int (nI 4), .int (nI 0), .int (nI 9999)]) (rest := []) ⟨hx, hb, hml, hown, hts⟩ (m_digits l hl0 D A sad τ f102 fr ol L c103 hF q110 q106 (by omega) (by omega) (nI 4) (nI 4) (nI 0) (nI 9999)) (cwV 4 hts gX12_thingCode_X12_digits rfl rfl rfl (by decide +kernel) ⟨Nat.le_of_ble_eq_true rfl, Nat.le_of_ble_eq_true rfl⟩) ⟨zQc_bl, zRecv hH (zk_30 hF) rfl, zQc_at hz hS hA hH⟩ rfl rfl hl.1 rfl (lv_room (Nat.le_of_ble_eq_true rfl)) dX12_thingCode_17 ⟨Nat.le_of_ble_eq_true rfl, Nat.le_of_ble_eq_true rfl⟩) hS (fun q _ h => h) (fun q h => h) (fun r112 u9 t9 H1 locs ht9 hvm9 hw hB hz1 hk1 hS => ?_)
  have hH := zMv ht9 hvm9 hB
  clear hB
  generalize u9 = f113 at hw hH
  generalize H1 = H at hH hS ⊢
  obtain ⟨hr120, ⟨c114, hc115, hc116, q117, hx118⟩, hf119⟩ := hw
  have q121 : f113 30 22 = nI L := by rw [hf119 30 22 (by omega)]; exact q110
  have q122 : f113 30 2 = nI n := by rw [hf119 30 2 (by omega)]; exact q111
  have hMt := zMt.ci (fi' := f113) hMt (fun i9 k9 h9 => hf119 i9 k9 (by omega))
  rcases hr120 with rfl | ⟨rfl, hlo123, hhi124⟩
  · skip
    refine lv_if_ne (tgt := 25) hx hb dX12_thingCode_20 (by decide) (fun c125 => absurd (by decide) c125) (fun c125 => ?_)
    refine lv_iconst (v := nI 0) hx hb dX12_thingCode_23 (by decide) ?_
    refine W.widen (k := 0) (n := 0) (by decide) (by decide) ?_
    exact W.zret (v := nI 0) hx hb hr (by decide) (fun t9 ht9 hW9 => ⟨⟨nI 0, f113, rfl, ⟨Or.inl rfl, ⟨c114, by omega, by omega, q117, trivial⟩, fun a b h => by rw [hf119 a b (by omega), hf108 a b (by omega)]⟩, zEnd1 hH ht9 hW9⟩, hS.F ht9⟩) hS.2.2 dX12_thingCode_24
  · skip
    refine lv_if_ne (tgt := 25) hx hb dX12_thingCode_20 (by decide) (fun c126 => ?_) (fun c126 => absurd c126 (by decide))
    refine lv_aload_n hx hb dX12_thingCode_25 rfl (lv_at hl 2 rfl) ?_
    refine lv_aload_n hx hb dX12_thingCode_26 rfl (lv_at hl 2 rfl) ?_
    refine zGetI (D := D) (ci := 12) (C := RX12) (T := TX12) (N := 71) hx hb hts hiX12 hown hH (zk_30 hF) rfl 25 (by decide) rfl hw2 (fun _ h9 => h9) dX12_thingCode_27 rfl ?_
    refine va_calli (va_runV (As := [.int (f113 30 25)]) (rest := []) ⟨hx, hb, hml, hown, hts⟩ (m_thingOf l hl0 D A sad τ f113 fr ol (f113 30 25) hF n q122 (by omega)) (cwV 1 hts gX12_thingCode_X12_thingOf rfl rfl rfl (by decide +kernel) ⟨Nat.le_of_ble_eq_true rfl, Nat.le_of_ble_eq_true rfl⟩) ⟨zQc_bl, zRecv hH (zk_30 hF) rfl, zQc_at hz hS hA hH⟩ rfl rfl hl.1 rfl (lv_room (Nat.le_of_ble_eq_true rfl)) dX12_thingCode_30 ⟨Nat.le_of_ble_eq_true rfl, Nat.le_of_ble_eq_true rfl⟩) hS (fun q _ h => h) (fun q h => h) (fun r127 u9 t9 H1 locs ht9 hvm9 hw hB hz1 hk1 hS => ?_)
    have hH := zMv ht9 hvm9 hB
    generalize H1 = H at hH hS ⊢
    rcases hw with ⟨t128, ht128, hcd, hcl, rfl⟩ | ⟨hno, rfl⟩
    · skip
      refine lv_istore (lv' := [(4, .int (nI t128)), (3, .int (nI c103)), (2, .int r101), (0, .ref (τ.1 30)), (1, .int x)]) hx hb dX12_thingCode_33 hl (by decide) rfl (fun ls hl => ?_)
      refine lv_iload hx hb dX12_thingCode_35 (lv_at hl 0 rfl) ?_
      refine lv_iconst (v := (-1)) hx hb dX12_thingCode_37 (by decide) ?_
      refine lv_icmp_eq (tgt := 47) hx hb dX12_thingCode_38 (by decide) (fun c129 => False.elim (by have zc129 := zc_eq (nI_toInt (by omega)) ((by decide : ((-1) : Int32).toInt = (-1))) c129; omega)) (fun c129 => ?_)
      refine lv_iload hx hb dX12_thingCode_41 (lv_at hl 0 rfl) ?_
      refine lv_iload_n hx hb dX12_thingCode_43 rfl (lv_at hl 4 rfl) ?_
      refine lv_icmp_ne (tgt := 53) hx hb dX12_thingCode_44 (by decide) (fun c130 => ?_) (fun c130 => ?_)
      · have zc130 := c130
        replace zc130 := zc_neq (nI_toInt (by omega)) (rfl) zc130
        refine lv_aload_n hx hb dX12_thingCode_53 rfl (lv_at hl 3 rfl) ?_
        refine lv_iload hx hb dX12_thingCode_54 (lv_at hl 0 rfl) ?_
        refine zPutI (D := D) (ci := 12) (ty := .int) (C := RX12) (T := TX12) (N := 71) hx hb hts hiX12 tyX12 tyX12_ok nmX12 hown hH hS (zk_30 hF) rfl 25 (by decide) rfl hw2 (fun _ h9 => h9) rfl (by decide +kernel) rfl rfl dX12_thingCode_56 (fun H locs hH hS => ?_)
        obtain ⟨f131, ef131⟩ : ∃ f9 : zFi, f9 = zu f113 30 25 (nI t128) := ⟨_, rfl⟩
        rw [← ef131] at hH
        have q132 : f131 30 22 = nI L := by rw [ef131, zu_n (fun h9 => absurd h9.2 (by decide))]; exact q121
        have q133 : f131 30 2 = nI n := by rw [ef131, zu_n (fun h9 => absurd h9.2 (by decide))]; exact q122
        have q134 : f131 30 23 = nI c114 := by rw [ef131, zu_n (fun h9 => absurd h9.2 (by decide))]; exact q117
        have q135 : f131 30 25 = nI t128 := by rw [ef131]; exact zu_s
        have hMt := zMt.ci (fi' := f131) hMt (fun i9 k9 h9 => by rw [ef131]; exact zu_n (by omega))
        refine lv_iconst (v := nI 1) hx hb dX12_thingCode_59 (by decide) ?_
        refine W.widen (k := 0) (n := 0) (by decide) (by decide) ?_
        exact W.zret (v := nI 1) hx hb hr (by decide) (fun t9 ht9 hW9 => ⟨⟨nI 1, f131, rfl, ⟨Or.inr ⟨rfl, t128, by omega, q135⟩, ⟨c114, by omega, by omega, q134, trivial⟩, fun a b h => by rw [ef131, zu_n (by omega), hf119 a b (by omega), hf108 a b (by omega)]⟩, zEnd1 hH ht9 hW9⟩, hS.F ht9⟩) hS.2.2 dX12_thingCode_60
      · have zc130 := c130
        replace zc130 := zc_eq (nI_toInt (by omega)) (rfl) zc130
        refine lv_aload_n hx hb dX12_thingCode_47 rfl (lv_at hl 3 rfl) ?_
        refine lv_iload_n hx hb dX12_thingCode_48 rfl (lv_at hl 1 rfl) ?_
        refine va_calli (va_runV (As := [.int (nI c103)]) (rest := []) ⟨hx, hb, hml, hown, hts⟩ (m_wrong l hl0 D A sad τ f113 fr ol (nI c103) hF) (cwV 1 hts gX12_thingCode_X12_wrong rfl rfl rfl (by decide +kernel) ⟨Nat.le_of_ble_eq_true rfl, Nat.le_of_ble_eq_true rfl⟩) ⟨zQc_bl, zRecv hH (zk_30 hF) rfl, zQc_at hz hS hA hH⟩ rfl rfl hl.1 rfl (lv_room (Nat.le_of_ble_eq_true rfl)) dX12_thingCode_49 ⟨Nat.le_of_ble_eq_true rfl, Nat.le_of_ble_eq_true rfl⟩) hS (fun q _ h => h) (fun q h => h) (fun r136 u9 t9 H1 locs ht9 hvm9 hw hB hz1 hk1 hS => ?_)
        have hH := zMv ht9 hvm9 hB
        clear hB
        generalize u9 = f137 at hw hH
        generalize H1 = H at hH hS ⊢
        obtain ⟨rfl, hf138⟩ := hw
        have q139 : f137 30 22 = nI L := by rw [hf138 30 22 (by omega)]; exact q121
        have q140 : f137 30 2 = nI n := by rw [hf138 30 2 (by omega)]; exact q122
        have q141 : f137 30 23 = nI c114 := by rw [hf138 30 23 (by omega)]; exact q117
        have hMt := zMt.ci (fi' := f137) hMt (fun i9 k9 h9 => hf138 i9 k9 (by omega))
        refine W.widen (k := 0) (n := 0) (by decide) (by decide) ?_
        exact W.zret (v := 0) hx hb hr (by decide) (fun t9 ht9 hW9 => ⟨⟨0, f137, rfl, ⟨Or.inl rfl, ⟨c114, by omega, by omega, q141, trivial⟩, fun a b h => by rw [hf138 a b (by omega), hf119 a b (by omega), hf108 a b (by omega)]⟩, zEnd1 hH ht9 hW9⟩, hS.F ht9⟩) hS.2.2 dX12_thingCode_52
    · skip
      refine lv_istore (lv' := [(4, .int ((-1))), (3, .int (nI c103)), (2, .int r101), (0, .ref (τ.1 30)), (1, .int x)]) hx hb dX12_thingCode_33 hl (by decide) rfl (fun ls hl => ?_)
      refine lv_iload hx hb dX12_thingCode_35 (lv_at hl 0 rfl) ?_
      refine lv_iconst (v := (-1)) hx hb dX12_thingCode_37 (by decide) ?_
      refine lv_icmp_eq (tgt := 47) hx hb dX12_thingCode_38 (by decide) (fun c142 => ?_) (fun c142 => absurd (by decide) c142)
      refine lv_aload_n hx hb dX12_thingCode_47 rfl (lv_at hl 3 rfl) ?_
      refine lv_iload_n hx hb dX12_thingCode_48 rfl (lv_at hl 1 rfl) ?_
      refine va_calli (va_runV (As := [.int (nI c103)]) (rest := []) ⟨hx, hb, hml, hown, hts⟩ (m_wrong l hl0 D A sad τ f113 fr ol (nI c103) hF) (cwV 1 hts gX12_thingCode_X12_wrong rfl rfl rfl (by decide +kernel) ⟨Nat.le_of_ble_eq_true rfl, Nat.le_of_ble_eq_true rfl⟩) ⟨zQc_bl, zRecv hH (zk_30 hF) rfl, zQc_at hz hS hA hH⟩ rfl rfl hl.1 rfl (lv_room (Nat.le_of_ble_eq_true rfl)) dX12_thingCode_49 ⟨Nat.le_of_ble_eq_true rfl, Nat.le_of_ble_eq_true rfl⟩) hS (fun q _ h => h) (fun q h => h) (fun r143 u9 t9 H1 locs ht9 hvm9 hw hB hz1 hk1 hS => ?_)
      have hH := zMv ht9 hvm9 hB
      clear hB
      generalize u9 = f144 at hw hH
      generalize H1 = H at hH hS ⊢
      obtain ⟨rfl, hf145⟩ := hw
      have q146 : f144 30 22 = nI L := by rw [hf145 30 22 (by omega)]; exact q121
      have q147 : f144 30 2 = nI n := by rw [hf145 30 2 (by omega)]; exact q122
      have q148 : f144 30 23 = nI c114 := by rw [hf145 30 23 (by omega)]; exact q117
      have hMt := zMt.ci (fi' := f144) hMt (fun i9 k9 h9 => hf145 i9 k9 (by omega))
      refine W.widen (k := 0) (n := 0) (by decide) (by decide) ?_
      exact W.zret (v := 0) hx hb hr (by decide) (fun t9 ht9 hW9 => ⟨⟨0, f144, rfl, ⟨Or.inl rfl, ⟨c114, by omega, by omega, q148, trivial⟩, fun a b h => by rw [hf145 a b (by omega), hf119 a b (by omega), hf108 a b (by omega)]⟩, zEnd1 hH ht9 hW9⟩, hS.F ht9⟩) hS.2.2 dX12_thingCode_52
/-- what takes a thing's place -/
def zMx (fi : zFi) (n : Nat) : Prop := ∀ t, t < 30 → fi 40 t = -1 ∨ ∃ t2, t2 < n ∧ fi 40 t = nI t2
def zMd (fi : zFi) (n : Nat) : Prop := ∀ t, t < n → fi 46 t = -1 ∨ ∃ t2, t2 < n ∧ fi 46 t = nI t2
theorem zMx.ci {fi fi' : zFi} {n : Nat} (h : zMx fi n) (hi : ∀ i k, i = 40 → fi' i k = fi i k) : zMx fi' n := fun t q => by rw [hi 40 t rfl]; exact h t q
theorem zMd.ci {fi fi' : zFi} {n : Nat} (h : zMd fi n) (hi : ∀ i k, i = 46 → fi' i k = fi i k) : zMd fi' n := fun t q => by rw [hi 46 t rfl]; exact h t q
theorem zMx.set {fi fi' : zFi} {n t : Nat} {v : Int32} (h : zMx fi n) (e : fi' = zu fi 40 t v) (hv : v = -1 ∨ ∃ t2, t2 < n ∧ v = nI t2) : zMx fi' n := fun j q => by
  by_cases hj : j = t
  · subst hj; rw [e, zu_s]; exact hv
  · rw [e, zu_n (by omega)]; exact h j q
theorem zMd.set {fi fi' : zFi} {n t : Nat} {v : Int32} (h : zMd fi n) (e : fi' = zu fi 46 t v) (hv : v = -1 ∨ ∃ t2, t2 < n ∧ v = nI t2) : zMd fi' n := fun j q => by
  by_cases hj : j = t
  · subst hj; rw [e, zu_s]; exact hv
  · rw [e, zu_n (by omega)]; exact h j q
set_option maxHeartbeats 4000000 in
set_option maxRecDepth 100000 in
/-- readRule -/
theorem m_readRule (l : Launch) (hl0 : l.stackTraces = false) (D : va_G) (A : Nat → Prop) (sad : Nat → Nat) (τ : zTy) (fi : zFi) (fr : zFr) (ol : Int64) (L a : Nat) (hF : zFix τ fr) (he : fi 30 22 = nI L) (ha : fi 30 23 = nI a) (hL4 : L ≤ 400) (haL : a ≤ L) (n : Nat) (hMt : zMt fi n) (hMd : zMd fi n) : Met l yX12_readRule wsX12_readRule ({ frames := 3, cells := 0, slots := 0, locals := 72 }) (va_Pc [.ref (τ.1 30)] (zQc D A sad τ fi fr ol)) (va_Qi (fun (r : Int32) (u : zFi) => (r = 0 ∨ r = 1) ∧ (∃ c, a ≤ c ∧ c ≤ L ∧ u 30 23 = nI c ∧ True) ∧ zMd u n ∧ ∀ a b, ¬ (a = 45 ∨ a = 46 ∨ (a = 30 ∧ 23 ≤ b ∧ b ≤ 25)) → u a b = fi a b) (fun (u : zFi) (t : State) => zH D A τ u fr ol t t.heap) A) 0 0 A := by
  refine Met.ofW (cc := cX12_readRule) (maxL := 2) (ret := (some .boolean)) (by decide) rfl ?_
  intro p9 e9 s m args below meth c9 s₁ B hml hv
  obtain ⟨rfl, hz, hH, hA⟩ := hv
  have hx := B.exec
  have hb := B.bytes
  have hr := B.returns
  have hts := atoms_spec (ws := wsX12_readRule) B.pre
  have hown : s.vm.findClass RX12 = some m.cls := findClass_of_methodNamed B.named
  have hlocks := B.notSynchronized
  have hS : va_S A s.heap s.heap [] := va_S.rf
  have hl := lv_entry ([.ref (τ.1 30)]) (n := 2) (Nat.le_of_ble_eq_true rfl)
  rw [lg_entry_eq]
  generalize (lg_sl ([.ref (τ.1 30)]) ++ List.replicate (2 - (lg_sl ([.ref (τ.1 30)])).length) Slot.unset).toArray = ls at hl ⊢
  have hl : lv_has ls 2 [(0, .ref (τ.1 30))] := hl
  have hm30 := hMt.1
  have hw0 := hts (.constantLong RX12 236 482854658917) (by decide +kernel)
  have hw1 := hts (.constantLong RX12 246 108187682958948) (by decide +kernel)
  have hw2 := hts (.constantLong RX12 248 1886352244) (by decide +kernel)
  have hw3 := hts (.constantLong RX12 250 1718773093) (by decide +kernel)
  have hw4 := hts (.constantLong RX12 252 1650549611) (by decide +kernel)
  have hiX12 : ∀ w ∈ u_ws RX12 TX12 71, w ∈ wsX12_readRule := fun _ h => List.mem_cons_of_mem _ (List.mem_append_right _ h)
  have hw6 := hts (.fieldLink RX12 206 "PostHouseModel" "at" "I") (by decide +kernel)
  have hw7 := hts (.fieldLink RX12 52 "PostHouseModel" "draft" "[I") (by decide +kernel)
  have hw8 := hts (.fieldLink RX12 229 "PostHouseModel" "number" "I") (by decide +kernel)
  have hw9 := hts (.constant RX12 254 999999) (by decide +kernel)
  have hw10 := hts (.constantLong RX12 241 25209) (by decide +kernel)
  have hw11 := hts (.fieldLink RX12 55 "PostHouseModel" "draftOther" "[I") (by decide +kernel)
  refine lv_aload_n hx hb dX12_readRule_0 rfl (lv_at hl 0 rfl) ?_
  refine lv_ldc2 (v := 482854658917) hx hb hown hw0 dX12_readRule_1 ?_
  refine va_calli (va_runV (As := [.long 482854658917]) (rest := []) ⟨hx, hb, hml, hown, hts⟩ (m_isWord l hl0 D A sad τ fi fr ol L a hF he ha (by omega) (by omega) 482854658917) (cwV 1 hts gX12_readRule_X12_isWord rfl rfl rfl (by decide +kernel) ⟨Nat.le_of_ble_eq_true rfl, Nat.le_of_ble_eq_true rfl⟩) ⟨zQc_bl, zRecv hH (zk_30 hF) rfl, zQc_at hz hS hA hH⟩ rfl rfl hl.1 rfl (lv_room (Nat.le_of_ble_eq_true rfl)) dX12_readRule_4 ⟨Nat.le_of_ble_eq_true rfl, Nat.le_of_ble_eq_true rfl⟩) hS (fun q _ h => h) (fun q h => h) (fun r101 u9 t9 H1 locs ht9 hvm9 hw hB hz1 hk1 hS => ?_)
  have hH := zMv ht9 hvm9 hB
  clear hB
  generalize u9 = f102 at hw hH
  generalize H1 = H at hH hS ⊢
  obtain ⟨hr109, ⟨c103, hc104, hc105, q106, hx107⟩, hf108⟩ := hw
  have q110 : f102 30 22 = nI L := by rw [hf108 30 22 (by omega)]; exact he
  have q111 : f102 30 2 = nI n := by rw [hf108 30 2 (by omega)]; exact hMt.2.1
  have hMt := zMt.ci (fi' := f102) hMt (fun i9 k9 h9 => hf108 i9 k9 (by omega))
  have hMd := zMd.ci (fi' := f102) hMd (fun i9 k9 h9 => hf108 i9 k9 (by omega))
  rcases hr109 with rfl | rfl
  · skip
    refine lv_if_eq (tgt := 65) hx hb dX12_readRule_7 (by decide) (fun c112 => ?_) (fun c112 => absurd (by decide) c112)
    refine lv_aload_n hx hb dX12_readRule_65 rfl (lv_at hl 0 rfl) ?_
    refine lv_ldc2 (v := 108187682958948) hx hb hown hw1 dX12_readRule_66 ?_
    refine va_calli (va_runV (As := [.long 108187682958948]) (rest := []) ⟨hx, hb, hml, hown, hts⟩ (m_isWord l hl0 D A sad τ f102 fr ol L c103 hF q110 q106 (by omega) (by omega) 108187682958948) (cwV 1 hts gX12_readRule_X12_isWord rfl rfl rfl (by decide +kernel) ⟨Nat.le_of_ble_eq_true rfl, Nat.le_of_ble_eq_true rfl⟩) ⟨zQc_bl, zRecv hH (zk_30 hF) rfl, zQc_at hz hS hA hH⟩ rfl rfl hl.1 rfl (lv_room (Nat.le_of_ble_eq_true rfl)) dX12_readRule_69 ⟨Nat.le_of_ble_eq_true rfl, Nat.le_of_ble_eq_true rfl⟩) hS (fun q _ h => h) (fun q h => h) (fun r113 u9 t9 H1 locs ht9 hvm9 hw hB hz1 hk1 hS => ?_)
    have hH := zMv ht9 hvm9 hB
    clear hB
    generalize u9 = f114 at hw hH
    generalize H1 = H at hH hS ⊢
    obtain ⟨hr121, ⟨c115, hc116, hc117, q118, hx119⟩, hf120⟩ := hw
    have q122 : f114 30 22 = nI L := by rw [hf120 30 22 (by omega)]; exact q110
    have q123 : f114 30 2 = nI n := by rw [hf120 30 2 (by omega)]; exact q111
    have hMt := zMt.ci (fi' := f114) hMt (fun i9 k9 h9 => hf120 i9 k9 (by omega))
    have hMd := zMd.ci (fi' := f114) hMd (fun i9 k9 h9 => hf120 i9 k9 (by omega))
    rcases hr121 with rfl | rfl
    · skip
      refine lv_if_eq (tgt := 79) hx hb dX12_readRule_72 (by decide) (fun c124 => ?_) (fun c124 => absurd (by decide) c124)
      refine lv_aload_n hx hb dX12_readRule_79 rfl (lv_at hl 0 rfl) ?_
      refine lv_ldc2 (v := 1886352244) hx hb hown hw2 dX12_readRule_80 ?_
      refine va_calli (va_runV (As := [.long 1886352244]) (rest := []) ⟨hx, hb, hml, hown, hts⟩ (m_isWord l hl0 D A sad τ f114 fr ol L c115 hF q122 q118 (by omega) (by omega) 1886352244) (cwV 1 hts gX12_readRule_X12_isWord rfl rfl rfl (by decide +kernel) ⟨Nat.le_of_ble_eq_true rfl, Nat.le_of_ble_eq_true rfl⟩) ⟨zQc_bl, zRecv hH (zk_30 hF) rfl, zQc_at hz hS hA hH⟩ rfl rfl hl.1 rfl (lv_room (Nat.le_of_ble_eq_true rfl)) dX12_readRule_83 ⟨Nat.le_of_ble_eq_true rfl, Nat.le_of_ble_eq_true rfl⟩) hS (fun q _ h => h) (fun q h => h) (fun r125 u9 t9 H1 locs ht9 hvm9 hw hB hz1 hk1 hS => ?_)
      have hH := zMv ht9 hvm9 hB
      clear hB
      generalize u9 = f126 at hw hH
      generalize H1 = H at hH hS ⊢
      obtain ⟨hr133, ⟨c127, hc128, hc129, q130, hx131⟩, hf132⟩ := hw
      have q134 : f126 30 22 = nI L := by rw [hf132 30 22 (by omega)]; exact q122
      have q135 : f126 30 2 = nI n := by rw [hf132 30 2 (by omega)]; exact q123
      have hMt := zMt.ci (fi' := f126) hMt (fun i9 k9 h9 => hf132 i9 k9 (by omega))
      have hMd := zMd.ci (fi' := f126) hMd (fun i9 k9 h9 => hf132 i9 k9 (by omega))
      rcases hr133 with rfl | rfl
      · skip
        refine lv_if_eq (tgt := 93) hx hb dX12_readRule_86 (by decide) (fun c136 => ?_) (fun c136 => absurd (by decide) c136)
        refine lv_aload_n hx hb dX12_readRule_93 rfl (lv_at hl 0 rfl) ?_
        refine lv_ldc2 (v := 1718773093) hx hb hown hw3 dX12_readRule_94 ?_
        refine va_calli (va_runV (As := [.long 1718773093]) (rest := []) ⟨hx, hb, hml, hown, hts⟩ (m_isWord l hl0 D A sad τ f126 fr ol L c127 hF q134 q130 (by omega) (by omega) 1718773093) (cwV 1 hts gX12_readRule_X12_isWord rfl rfl rfl (by decide +kernel) ⟨Nat.le_of_ble_eq_true rfl, Nat.le_of_ble_eq_true rfl⟩) ⟨zQc_bl, zRecv hH (zk_30 hF) rfl, zQc_at hz hS hA hH⟩ rfl rfl hl.1 rfl (lv_room (Nat.le_of_ble_eq_true rfl)) dX12_readRule_97 ⟨Nat.le_of_ble_eq_true rfl, Nat.le_of_ble_eq_true rfl⟩) hS (fun q _ h => h) (fun q h => h) (fun r137 u9 t9 H1 locs ht9 hvm9 hw hB hz1 hk1 hS => ?_)
        have hH := zMv ht9 hvm9 hB
        clear hB
        generalize u9 = f138 at hw hH
        generalize H1 = H at hH hS ⊢
        obtain ⟨hr145, ⟨c139, hc140, hc141, q142, hx143⟩, hf144⟩ := hw
        have q146 : f138 30 22 = nI L := by rw [hf144 30 22 (by omega)]; exact q134
        have q147 : f138 30 2 = nI n := by rw [hf144 30 2 (by omega)]; exact q135
        have hMt := zMt.ci (fi' := f138) hMt (fun i9 k9 h9 => hf144 i9 k9 (by omega))
        have hMd := zMd.ci (fi' := f138) hMd (fun i9 k9 h9 => hf144 i9 k9 (by omega))
        rcases hr145 with rfl | rfl
        · skip
          refine lv_if_eq (tgt := 107) hx hb dX12_readRule_100 (by decide) (fun c148 => ?_) (fun c148 => absurd (by decide) c148)
          refine lv_aload_n hx hb dX12_readRule_107 rfl (lv_at hl 0 rfl) ?_
          refine lv_ldc2 (v := 1650549611) hx hb hown hw4 dX12_readRule_108 ?_
          refine va_calli (va_runV (As := [.long 1650549611]) (rest := []) ⟨hx, hb, hml, hown, hts⟩ (m_isWord l hl0 D A sad τ f138 fr ol L c139 hF q146 q142 (by omega) (by omega) 1650549611) (cwV 1 hts gX12_readRule_X12_isWord rfl rfl rfl (by decide +kernel) ⟨Nat.le_of_ble_eq_true rfl, Nat.le_of_ble_eq_true rfl⟩) ⟨zQc_bl, zRecv hH (zk_30 hF) rfl, zQc_at hz hS hA hH⟩ rfl rfl hl.1 rfl (lv_room (Nat.le_of_ble_eq_true rfl)) dX12_readRule_111 ⟨Nat.le_of_ble_eq_true rfl, Nat.le_of_ble_eq_true rfl⟩) hS (fun q _ h => h) (fun q h => h) (fun r149 u9 t9 H1 locs ht9 hvm9 hw hB hz1 hk1 hS => ?_)
          have hH := zMv ht9 hvm9 hB
          clear hB
          generalize u9 = f150 at hw hH
          generalize H1 = H at hH hS ⊢
          obtain ⟨hr157, ⟨c151, hc152, hc153, q154, hx155⟩, hf156⟩ := hw
          have q158 : f150 30 22 = nI L := by rw [hf156 30 22 (by omega)]; exact q146
          have q159 : f150 30 2 = nI n := by rw [hf156 30 2 (by omega)]; exact q147
          have hMt := zMt.ci (fi' := f150) hMt (fun i9 k9 h9 => hf156 i9 k9 (by omega))
          have hMd := zMd.ci (fi' := f150) hMd (fun i9 k9 h9 => hf156 i9 k9 (by omega))
          rcases hr157 with rfl | rfl
          · skip
            refine lv_if_eq (tgt := 121) hx hb dX12_readRule_114 (by decide) (fun c160 => ?_) (fun c160 => absurd (by decide) c160)
            refine lv_iconst (v := (-1)) hx hb dX12_readRule_121 (by decide) ?_
            refine lv_istore_n (lv' := [(1, .int ((-1))), (0, .ref (τ.1 30))]) hx hb dX12_readRule_122 rfl hl (by decide) rfl (fun ls hl => ?_)
            refine lv_iload_n hx hb dX12_readRule_123 rfl (lv_at hl 0 rfl) ?_
            refine lv_iconst (v := (-1)) hx hb dX12_readRule_124 (by decide) ?_
            refine lv_icmp_ne (tgt := 137) hx hb dX12_readRule_125 (by decide) (fun c161 => absurd (by decide) c161) (fun c161 => ?_)
            refine lv_aload_n hx hb dX12_readRule_128 rfl (lv_at hl 1 rfl) ?_
            refine lv_aload_n hx hb dX12_readRule_129 rfl (lv_at hl 1 rfl) ?_
            refine zGetI (D := D) (ci := 12) (C := RX12) (T := TX12) (N := 71) hx hb hts hiX12 hown hH (zk_30 hF) rfl 23 (by decide) rfl hw6 (fun _ h9 => h9) dX12_readRule_130 q154 ?_
            refine va_calli (va_runV (As := [.int (nI c151)]) (rest := []) ⟨hx, hb, hml, hown, hts⟩ (m_wrong l hl0 D A sad τ f150 fr ol (nI c151) hF) (cwV 1 hts gX12_readRule_X12_wrong rfl rfl rfl (by decide +kernel) ⟨Nat.le_of_ble_eq_true rfl, Nat.le_of_ble_eq_true rfl⟩) ⟨zQc_bl, zRecv hH (zk_30 hF) rfl, zQc_at hz hS hA hH⟩ rfl rfl hl.1 rfl (lv_room (Nat.le_of_ble_eq_true rfl)) dX12_readRule_133 ⟨Nat.le_of_ble_eq_true rfl, Nat.le_of_ble_eq_true rfl⟩) hS (fun q _ h => h) (fun q h => h) (fun r162 u9 t9 H1 locs ht9 hvm9 hw hB hz1 hk1 hS => ?_)
            have hH := zMv ht9 hvm9 hB
            clear hB
            generalize u9 = f163 at hw hH
            generalize H1 = H at hH hS ⊢
            obtain ⟨rfl, hf164⟩ := hw
            have q165 : f163 30 22 = nI L := by rw [hf164 30 22 (by omega)]; exact q158
            have q166 : f163 30 2 = nI n := by rw [hf164 30 2 (by omega)]; exact q159
            have q167 : f163 30 23 = nI c151 := by rw [hf164 30 23 (by omega)]; exact q154
            have hMt := zMt.ci (fi' := f163) hMt (fun i9 k9 h9 => hf164 i9 k9 (by omega))
            have hMd := zMd.ci (fi' := f163) hMd (fun i9 k9 h9 => hf164 i9 k9 (by omega))
            refine W.widen (k := 0) (n := 0) (by decide) (by decide) ?_
            exact W.zret (v := 0) hx hb hr (by decide) (fun t9 ht9 hW9 => ⟨⟨0, f163, rfl, ⟨Or.inl rfl, ⟨c151, by omega, by omega, q167, trivial⟩, hMd, fun a b h => by rw [hf164 a b (by omega), hf156 a b (by omega), hf144 a b (by omega), hf132 a b (by omega), hf120 a b (by omega), hf108 a b (by omega)]⟩, zEnd1 hH ht9 hW9⟩, hS.F ht9⟩) hS.2.2 dX12_readRule_136
          · skip
            refine lv_if_eq (tgt := 121) hx hb dX12_readRule_114 (by decide) (fun c168 => absurd c168 (by decide)) (fun c168 => ?_)
            refine lv_iconst (v := nI 3) hx hb dX12_readRule_117 (by decide) ?_
            refine lv_goto (tgt := 122) hx hb dX12_readRule_118 (by decide) ?_
            refine lv_istore_n (lv' := [(1, .int (nI 3)), (0, .ref (τ.1 30))]) hx hb dX12_readRule_122 rfl hl (by decide) rfl (fun ls hl => ?_)
            refine lv_iload_n hx hb dX12_readRule_123 rfl (lv_at hl 0 rfl) ?_
            refine lv_iconst (v := (-1)) hx hb dX12_readRule_124 (by decide) ?_
            refine lv_icmp_ne (tgt := 137) hx hb dX12_readRule_125 (by decide) (fun c169 => ?_) (fun c169 => absurd c169 (by decide))
            refine lv_aload_n hx hb dX12_readRule_137 rfl (lv_at hl 1 rfl) ?_
            refine lv_aload_n hx hb dX12_readRule_138 rfl (lv_at hl 1 rfl) ?_
            refine va_calli (va_runV (As := []) (rest := [.ref (τ.1 30)]) ⟨hx, hb, hml, hown, hts⟩ (m_wordEnd l hl0 D A sad τ f150 fr ol L c151 hF q158 q154 (by omega) (by omega)) (cwV 0 hts gX12_readRule_X12_wordEnd rfl rfl rfl (by decide +kernel) ⟨Nat.le_of_ble_eq_true rfl, Nat.le_of_ble_eq_true rfl⟩) ⟨zQc_bl, zRecv hH (zk_30 hF) rfl, zQc_at hz hS hA hH⟩ rfl rfl hl.1 rfl (lv_room (Nat.le_of_ble_eq_true rfl)) dX12_readRule_139 ⟨Nat.le_of_ble_eq_true rfl, Nat.le_of_ble_eq_true rfl⟩) hS (fun q _ h => h) (fun q h => h) (fun r170 u9 t9 H1 locs ht9 hvm9 hw hB hz1 hk1 hS => ?_)
            have hH := zMv ht9 hvm9 hB
            generalize H1 = H at hH hS ⊢
            obtain ⟨c171, h1c171, h2c171, rfl⟩ := hw
            refine zPutI (D := D) (ci := 12) (ty := .int) (C := RX12) (T := TX12) (N := 71) hx hb hts hiX12 tyX12 tyX12_ok nmX12 hown hH hS (zk_30 hF) rfl 23 (by decide) rfl hw6 (fun _ h9 => h9) rfl (by decide +kernel) rfl rfl dX12_readRule_142 (fun H locs hH hS => ?_)
            obtain ⟨f172, ef172⟩ : ∃ f9 : zFi, f9 = zu f150 30 23 (nI c171) := ⟨_, rfl⟩
            rw [← ef172] at hH
            have q173 : f172 30 22 = nI L := by rw [ef172, zu_n (fun h9 => absurd h9.2 (by decide))]; exact q158
            have q174 : f172 30 2 = nI n := by rw [ef172, zu_n (fun h9 => absurd h9.2 (by decide))]; exact q159
            have q175 : f172 30 23 = nI c171 := by rw [ef172]; exact zu_s
            have hMt := zMt.ci (fi' := f172) hMt (fun i9 k9 h9 => by rw [ef172]; exact zu_n (by omega))
            have hMd := zMd.ci (fi' := f172) hMd (fun i9 k9 h9 => by rw [ef172]; exact zu_n (by omega))
            refine lv_aload_n hx hb dX12_readRule_145 rfl (lv_at hl 1 rfl) ?_
            refine lv_iconst (v := nI 1) hx hb dX12_readRule_146 (by decide) ?_
            refine lv_bipush (v := nI 6) hx hb dX12_readRule_147 (by decide) ?_
            refine lv_iconst (v := nI 0) hx hb dX12_readRule_149 (by decide) ?_
            refine lv_iload_n hx hb dX12_readRule_150 rfl (lv_at hl 0 rfl) ?_
            refine lv_iconst (v := nI 1) hx hb dX12_readRule_151 (by decide) ?_
            refine lv_icmp_ne (tgt := 161) hx hb dX12_readRule_152 (by decide) (fun c176 => ?_) (fun c176 => absurd c176 (by decide))
            refine lv_iload_n hx hb dX12_readRule_161 rfl (lv_at hl 0 rfl) ?_
            refine lv_iconst (v := nI 2) hx hb dX12_readRule_162 (by decide) ?_
            refine lv_icmp_ne (tgt := 171) hx hb dX12_readRule_163 (by decide) (fun c177 => ?_) (fun c177 => absurd c177 (by decide))
            refine lv_bipush (v := nI 99) hx hb dX12_readRule_171 (by decide) ?_
            refine va_calli (va_runV (As := [.int (nI 1), .int (nI 6), .int (nI 0), .int (nI 99)]) (rest := []) ⟨hx, hb, hml, hown, hts⟩ (m_digits l hl0 D A sad τ f172 fr ol L c171 hF q173 q175 (by omega) (by omega) (nI 1) (nI 6) (nI 0) (nI 99)) (cwV 4 hts gX12_readRule_X12_digits rfl rfl rfl (by decide +kernel) ⟨Nat.le_of_ble_eq_true rfl, Nat.le_of_ble_eq_true rfl⟩) ⟨zQc_bl, zRecv hH (zk_30 hF) rfl, zQc_at hz hS hA hH⟩ rfl rfl hl.1 rfl (lv_room (Nat.le_of_ble_eq_true rfl)) dX12_readRule_173 ⟨Nat.le_of_ble_eq_true rfl, Nat.le_of_ble_eq_true rfl⟩) hS (fun q _ h => h) (fun q h => h) (fun r178 u9 t9 H1 locs ht9 hvm9 hw hB hz1 hk1 hS => ?_)
            have hH := zMv ht9 hvm9 hB
            clear hB
            generalize u9 = f179 at hw hH
            generalize H1 = H at hH hS ⊢
            obtain ⟨hr186, ⟨c180, hc181, hc182, q183, hx184⟩, hf185⟩ := hw
            have q187 : f179 30 22 = nI L := by rw [hf185 30 22 (by omega)]; exact q173
            have q188 : f179 30 2 = nI n := by rw [hf185 30 2 (by omega)]; exact q174
            have hMt := zMt.ci (fi' := f179) hMt (fun i9 k9 h9 => hf185 i9 k9 (by omega))
            have hMd := zMd.ci (fi' := f179) hMd (fun i9 k9 h9 => hf185 i9 k9 (by omega))
            rcases hr186 with rfl | ⟨rfl, hlo189, hhi190⟩
            · skip
              refine lv_if_ne (tgt := 181) hx hb dX12_readRule_176 (by decide) (fun c191 => absurd (by decide) c191) (fun c191 => ?_)
              refine lv_iconst (v := nI 0) hx hb dX12_readRule_179 (by decide) ?_
              refine W.widen (k := 0) (n := 0) (by decide) (by decide) ?_
              exact W.zret (v := nI 0) hx hb hr (by decide) (fun t9 ht9 hW9 => ⟨⟨nI 0, f179, rfl, ⟨Or.inl rfl, ⟨c180, by omega, by omega, q183, trivial⟩, hMd, fun a b h => by rw [hf185 a b (by omega), ef172, zu_n (by omega), hf156 a b (by omega), hf144 a b (by omega), hf132 a b (by omega), hf120 a b (by omega), hf108 a b (by omega)]⟩, zEnd1 hH ht9 hW9⟩, hS.F ht9⟩) hS.2.2 dX12_readRule_180
            · skip
              refine lv_if_ne (tgt := 181) hx hb dX12_readRule_176 (by decide) (fun c192 => ?_) (fun c192 => absurd c192 (by decide))
              refine lv_aload_n hx hb dX12_readRule_181 rfl (lv_at hl 1 rfl) ?_
              refine zGetR (D := D) (ci := 12) (C := RX12) (T := TX12) (N := 71) hx hb hts hiX12 hown hH (zk_30 hF) rfl 18 (by decide) rfl hw7 (fun _ h9 => h9) dX12_readRule_182 (zr_30_18 hF) ?_
              refine lv_iload_n hx hb dX12_readRule_185 rfl (lv_at hl 0 rfl) ?_
              refine lv_aload_n hx hb dX12_readRule_186 rfl (lv_at hl 1 rfl) ?_
              refine zGetI (D := D) (ci := 12) (C := RX12) (T := TX12) (N := 71) hx hb hts hiX12 hown hH (zk_30 hF) rfl 25 (by decide) rfl hw8 (fun _ h9 => h9) dX12_readRule_187 rfl ?_
              refine zIastN (D := D) hx hb hH hS (zk_45 hF) (zn_45 hF) (by omega) (by omega) dX12_readRule_190 (fun H locs hH hS => ?_)
              obtain ⟨f193, ef193⟩ : ∃ f9 : zFi, f9 = zu f179 45 3 (f179 30 25) := ⟨_, rfl⟩
              rw [← ef193] at hH
              have q194 : f193 30 22 = nI L := by rw [ef193, zu_n (fun h9 => absurd h9.1 (by decide))]; exact q187
              have q195 : f193 30 2 = nI n := by rw [ef193, zu_n (fun h9 => absurd h9.1 (by decide))]; exact q188
              have q196 : f193 30 23 = nI c180 := by rw [ef193, zu_n (fun h9 => absurd h9.1 (by decide))]; exact q183
              have q197 : f193 45 3 = f179 30 25 := by rw [ef193]; exact zu_s
              have hMt := zMt.ci (fi' := f193) hMt (fun i9 k9 h9 => by rw [ef193]; exact zu_n (by omega))
              have hMd := zMd.ci (fi' := f193) hMd (fun i9 k9 h9 => by rw [ef193]; exact zu_n (by omega))
              refine lv_iconst (v := nI 1) hx hb dX12_readRule_191 (by decide) ?_
              refine W.widen (k := 0) (n := 0) (by decide) (by decide) ?_
              exact W.zret (v := nI 1) hx hb hr (by decide) (fun t9 ht9 hW9 => ⟨⟨nI 1, f193, rfl, ⟨Or.inr rfl, ⟨c180, by omega, by omega, q196, trivial⟩, hMd, fun a b h => by rw [ef193, zu_n (by omega), hf185 a b (by omega), ef172, zu_n (by omega), hf156 a b (by omega), hf144 a b (by omega), hf132 a b (by omega), hf120 a b (by omega), hf108 a b (by omega)]⟩, zEnd1 hH ht9 hW9⟩, hS.F ht9⟩) hS.2.2 dX12_readRule_192
        · skip
          refine lv_if_eq (tgt := 107) hx hb dX12_readRule_100 (by decide) (fun c198 => absurd c198 (by decide)) (fun c198 => ?_)
          refine lv_iconst (v := nI 2) hx hb dX12_readRule_103 (by decide) ?_
          refine lv_goto (tgt := 122) hx hb dX12_readRule_104 (by decide) ?_
          refine lv_istore_n (lv' := [(1, .int (nI 2)), (0, .ref (τ.1 30))]) hx hb dX12_readRule_122 rfl hl (by decide) rfl (fun ls hl => ?_)
          refine lv_iload_n hx hb dX12_readRule_123 rfl (lv_at hl 0 rfl) ?_
          refine lv_iconst (v := (-1)) hx hb dX12_readRule_124 (by decide) ?_
          refine lv_icmp_ne (tgt := 137) hx hb dX12_readRule_125 (by decide) (fun c199 => ?_) (fun c199 => absurd c199 (by decide))
          refine lv_aload_n hx hb dX12_readRule_137 rfl (lv_at hl 1 rfl) ?_
          refine lv_aload_n hx hb dX12_readRule_138 rfl (lv_at hl 1 rfl) ?_
          refine va_calli (va_runV (As := []) (rest := [.ref (τ.1 30)]) ⟨hx, hb, hml, hown, hts⟩ (m_wordEnd l hl0 D A sad τ f138 fr ol L c139 hF q146 q142 (by omega) (by omega)) (cwV 0 hts gX12_readRule_X12_wordEnd rfl rfl rfl (by decide +kernel) ⟨Nat.le_of_ble_eq_true rfl, Nat.le_of_ble_eq_true rfl⟩) ⟨zQc_bl, zRecv hH (zk_30 hF) rfl, zQc_at hz hS hA hH⟩ rfl rfl hl.1 rfl (lv_room (Nat.le_of_ble_eq_true rfl)) dX12_readRule_139 ⟨Nat.le_of_ble_eq_true rfl, Nat.le_of_ble_eq_true rfl⟩) hS (fun q _ h => h) (fun q h => h) (fun r200 u9 t9 H1 locs ht9 hvm9 hw hB hz1 hk1 hS => ?_)
          have hH := zMv ht9 hvm9 hB
          generalize H1 = H at hH hS ⊢
          obtain ⟨c201, h1c201, h2c201, rfl⟩ := hw
          refine zPutI (D := D) (ci := 12) (ty := .int) (C := RX12) (T := TX12) (N := 71) hx hb hts hiX12 tyX12 tyX12_ok nmX12 hown hH hS (zk_30 hF) rfl 23 (by decide) rfl hw6 (fun _ h9 => h9) rfl (by decide +kernel) rfl rfl dX12_readRule_142 (fun H locs hH hS => ?_)
          obtain ⟨f202, ef202⟩ : ∃ f9 : zFi, f9 = zu f138 30 23 (nI c201) := ⟨_, rfl⟩
          rw [← ef202] at hH
          have q203 : f202 30 22 = nI L := by rw [ef202, zu_n (fun h9 => absurd h9.2 (by decide))]; exact q146
          have q204 : f202 30 2 = nI n := by rw [ef202, zu_n (fun h9 => absurd h9.2 (by decide))]; exact q147
          have q205 : f202 30 23 = nI c201 := by rw [ef202]; exact zu_s
          have hMt := zMt.ci (fi' := f202) hMt (fun i9 k9 h9 => by rw [ef202]; exact zu_n (by omega))
          have hMd := zMd.ci (fi' := f202) hMd (fun i9 k9 h9 => by rw [ef202]; exact zu_n (by omega))
          refine lv_aload_n hx hb dX12_readRule_145 rfl (lv_at hl 1 rfl) ?_
          refine lv_iconst (v := nI 1) hx hb dX12_readRule_146 (by decide) ?_
          refine lv_bipush (v := nI 6) hx hb dX12_readRule_147 (by decide) ?_
          refine lv_iconst (v := nI 0) hx hb dX12_readRule_149 (by decide) ?_
          refine lv_iload_n hx hb dX12_readRule_150 rfl (lv_at hl 0 rfl) ?_
          refine lv_iconst (v := nI 1) hx hb dX12_readRule_151 (by decide) ?_
          refine lv_icmp_ne (tgt := 161) hx hb dX12_readRule_152 (by decide) (fun c206 => ?_) (fun c206 => absurd c206 (by decide))
          refine lv_iload_n hx hb dX12_readRule_161 rfl (lv_at hl 0 rfl) ?_
          refine lv_iconst (v := nI 2) hx hb dX12_readRule_162 (by decide) ?_
          refine lv_icmp_ne (tgt := 171) hx hb dX12_readRule_163 (by decide) (fun c207 => absurd (by decide) c207) (fun c207 => ?_)
          refine lv_ldc (v := nI 999999) hx hb hown hw9 dX12_readRule_166 ?_
          refine lv_goto (tgt := 173) hx hb dX12_readRule_168 (by decide) ?_
          refine va_calli (va_runV (As := [.int (nI 1), .int (nI 6), .int (nI 0), .int (nI 999999)]) (rest := []) ⟨hx, hb, hml, hown, hts⟩ (m_digits l hl0 D A sad τ f202 fr ol L c201 hF q203 q205 (by omega) (by omega) (nI 1) (nI 6) (nI 0) (nI 999999)) (cwV 4 hts gX12_readRule_X12_digits rfl rfl rfl (by decide +kernel) ⟨Nat.le_of_ble_eq_true rfl, Nat.le_of_ble_eq_true rfl⟩) ⟨zQc_bl, zRecv hH (zk_30 hF) rfl, zQc_at hz hS hA hH⟩ rfl rfl hl.1 rfl (lv_room (Nat.le_of_ble_eq_true rfl)) dX12_readRule_173 ⟨Nat.le_of_ble_eq_true rfl, Nat.le_of_ble_eq_true rfl⟩) hS (fun q _ h => h) (fun q h => h) (fun r208 u9 t9 H1 locs ht9 hvm9 hw hB hz1 hk1 hS => ?_)
          have hH := zMv ht9 hvm9 hB
          clear hB
          generalize u9 = f209 at hw hH
          generalize H1 = H at hH hS ⊢
          obtain ⟨hr216, ⟨c210, hc211, hc212, q213, hx214⟩, hf215⟩ := hw
          have q217 : f209 30 22 = nI L := by rw [hf215 30 22 (by omega)]; exact q203
          have q218 : f209 30 2 = nI n := by rw [hf215 30 2 (by omega)]; exact q204
          have hMt := zMt.ci (fi' := f209) hMt (fun i9 k9 h9 => hf215 i9 k9 (by omega))
          have hMd := zMd.ci (fi' := f209) hMd (fun i9 k9 h9 => hf215 i9 k9 (by omega))
          rcases hr216 with rfl | ⟨rfl, hlo219, hhi220⟩
          · skip
            refine lv_if_ne (tgt := 181) hx hb dX12_readRule_176 (by decide) (fun c221 => absurd (by decide) c221) (fun c221 => ?_)
            refine lv_iconst (v := nI 0) hx hb dX12_readRule_179 (by decide) ?_
            refine W.widen (k := 0) (n := 0) (by decide) (by decide) ?_
            exact W.zret (v := nI 0) hx hb hr (by decide) (fun t9 ht9 hW9 => ⟨⟨nI 0, f209, rfl, ⟨Or.inl rfl, ⟨c210, by omega, by omega, q213, trivial⟩, hMd, fun a b h => by rw [hf215 a b (by omega), ef202, zu_n (by omega), hf144 a b (by omega), hf132 a b (by omega), hf120 a b (by omega), hf108 a b (by omega)]⟩, zEnd1 hH ht9 hW9⟩, hS.F ht9⟩) hS.2.2 dX12_readRule_180
          · skip
            refine lv_if_ne (tgt := 181) hx hb dX12_readRule_176 (by decide) (fun c222 => ?_) (fun c222 => absurd c222 (by decide))
            refine lv_aload_n hx hb dX12_readRule_181 rfl (lv_at hl 1 rfl) ?_
            refine zGetR (D := D) (ci := 12) (C := RX12) (T := TX12) (N := 71) hx hb hts hiX12 hown hH (zk_30 hF) rfl 18 (by decide) rfl hw7 (fun _ h9 => h9) dX12_readRule_182 (zr_30_18 hF) ?_
            refine lv_iload_n hx hb dX12_readRule_185 rfl (lv_at hl 0 rfl) ?_
            refine lv_aload_n hx hb dX12_readRule_186 rfl (lv_at hl 1 rfl) ?_
            refine zGetI (D := D) (ci := 12) (C := RX12) (T := TX12) (N := 71) hx hb hts hiX12 hown hH (zk_30 hF) rfl 25 (by decide) rfl hw8 (fun _ h9 => h9) dX12_readRule_187 rfl ?_
            refine zIastN (D := D) hx hb hH hS (zk_45 hF) (zn_45 hF) (by omega) (by omega) dX12_readRule_190 (fun H locs hH hS => ?_)
            obtain ⟨f223, ef223⟩ : ∃ f9 : zFi, f9 = zu f209 45 2 (f209 30 25) := ⟨_, rfl⟩
            rw [← ef223] at hH
            have q224 : f223 30 22 = nI L := by rw [ef223, zu_n (fun h9 => absurd h9.1 (by decide))]; exact q217
            have q225 : f223 30 2 = nI n := by rw [ef223, zu_n (fun h9 => absurd h9.1 (by decide))]; exact q218
            have q226 : f223 30 23 = nI c210 := by rw [ef223, zu_n (fun h9 => absurd h9.1 (by decide))]; exact q213
            have q227 : f223 45 2 = f209 30 25 := by rw [ef223]; exact zu_s
            have hMt := zMt.ci (fi' := f223) hMt (fun i9 k9 h9 => by rw [ef223]; exact zu_n (by omega))
            have hMd := zMd.ci (fi' := f223) hMd (fun i9 k9 h9 => by rw [ef223]; exact zu_n (by omega))
            refine lv_iconst (v := nI 1) hx hb dX12_readRule_191 (by decide) ?_
            refine W.widen (k := 0) (n := 0) (by decide) (by decide) ?_
            exact W.zret (v := nI 1) hx hb hr (by decide) (fun t9 ht9 hW9 => ⟨⟨nI 1, f223, rfl, ⟨Or.inr rfl, ⟨c210, by omega, by omega, q226, trivial⟩, hMd, fun a b h => by rw [ef223, zu_n (by omega), hf215 a b (by omega), ef202, zu_n (by omega), hf144 a b (by omega), hf132 a b (by omega), hf120 a b (by omega), hf108 a b (by omega)]⟩, zEnd1 hH ht9 hW9⟩, hS.F ht9⟩) hS.2.2 dX12_readRule_192
      · skip
        refine lv_if_eq (tgt := 93) hx hb dX12_readRule_86 (by decide) (fun c228 => absurd c228 (by decide)) (fun c228 => ?_)
        refine lv_iconst (v := nI 1) hx hb dX12_readRule_89 (by decide) ?_
        refine lv_goto (tgt := 122) hx hb dX12_readRule_90 (by decide) ?_
        refine lv_istore_n (lv' := [(1, .int (nI 1)), (0, .ref (τ.1 30))]) hx hb dX12_readRule_122 rfl hl (by decide) rfl (fun ls hl => ?_)
        refine lv_iload_n hx hb dX12_readRule_123 rfl (lv_at hl 0 rfl) ?_
        refine lv_iconst (v := (-1)) hx hb dX12_readRule_124 (by decide) ?_
        refine lv_icmp_ne (tgt := 137) hx hb dX12_readRule_125 (by decide) (fun c229 => ?_) (fun c229 => absurd c229 (by decide))
        refine lv_aload_n hx hb dX12_readRule_137 rfl (lv_at hl 1 rfl) ?_
        refine lv_aload_n hx hb dX12_readRule_138 rfl (lv_at hl 1 rfl) ?_
        refine va_calli (va_runV (As := []) (rest := [.ref (τ.1 30)]) ⟨hx, hb, hml, hown, hts⟩ (m_wordEnd l hl0 D A sad τ f126 fr ol L c127 hF q134 q130 (by omega) (by omega)) (cwV 0 hts gX12_readRule_X12_wordEnd rfl rfl rfl (by decide +kernel) ⟨Nat.le_of_ble_eq_true rfl, Nat.le_of_ble_eq_true rfl⟩) ⟨zQc_bl, zRecv hH (zk_30 hF) rfl, zQc_at hz hS hA hH⟩ rfl rfl hl.1 rfl (lv_room (Nat.le_of_ble_eq_true rfl)) dX12_readRule_139 ⟨Nat.le_of_ble_eq_true rfl, Nat.le_of_ble_eq_true rfl⟩) hS (fun q _ h => h) (fun q h => h) (fun r230 u9 t9 H1 locs ht9 hvm9 hw hB hz1 hk1 hS => ?_)
        have hH := zMv ht9 hvm9 hB
        generalize H1 = H at hH hS ⊢
        obtain ⟨c231, h1c231, h2c231, rfl⟩ := hw
        refine zPutI (D := D) (ci := 12) (ty := .int) (C := RX12) (T := TX12) (N := 71) hx hb hts hiX12 tyX12 tyX12_ok nmX12 hown hH hS (zk_30 hF) rfl 23 (by decide) rfl hw6 (fun _ h9 => h9) rfl (by decide +kernel) rfl rfl dX12_readRule_142 (fun H locs hH hS => ?_)
        obtain ⟨f232, ef232⟩ : ∃ f9 : zFi, f9 = zu f126 30 23 (nI c231) := ⟨_, rfl⟩
        rw [← ef232] at hH
        have q233 : f232 30 22 = nI L := by rw [ef232, zu_n (fun h9 => absurd h9.2 (by decide))]; exact q134
        have q234 : f232 30 2 = nI n := by rw [ef232, zu_n (fun h9 => absurd h9.2 (by decide))]; exact q135
        have q235 : f232 30 23 = nI c231 := by rw [ef232]; exact zu_s
        have hMt := zMt.ci (fi' := f232) hMt (fun i9 k9 h9 => by rw [ef232]; exact zu_n (by omega))
        have hMd := zMd.ci (fi' := f232) hMd (fun i9 k9 h9 => by rw [ef232]; exact zu_n (by omega))
        refine lv_aload_n hx hb dX12_readRule_145 rfl (lv_at hl 1 rfl) ?_
        refine lv_iconst (v := nI 1) hx hb dX12_readRule_146 (by decide) ?_
        refine lv_bipush (v := nI 6) hx hb dX12_readRule_147 (by decide) ?_
        refine lv_iconst (v := nI 0) hx hb dX12_readRule_149 (by decide) ?_
        refine lv_iload_n hx hb dX12_readRule_150 rfl (lv_at hl 0 rfl) ?_
        refine lv_iconst (v := nI 1) hx hb dX12_readRule_151 (by decide) ?_
        refine lv_icmp_ne (tgt := 161) hx hb dX12_readRule_152 (by decide) (fun c236 => absurd (by decide) c236) (fun c236 => ?_)
        refine lv_sipush (v := nI 9999) hx hb dX12_readRule_155 (by decide) ?_
        refine lv_goto (tgt := 173) hx hb dX12_readRule_158 (by decide) ?_
        refine va_calli (va_runV (As := [.int (nI 1), .int (nI 6), .int (nI 0), .int (nI 9999)]) (rest := []) ⟨hx, hb, hml, hown, hts⟩ (m_digits l hl0 D A sad τ f232 fr ol L c231 hF q233 q235 (by omega) (by omega) (nI 1) (nI 6) (nI 0) (nI 9999)) (cwV 4 hts gX12_readRule_X12_digits rfl rfl rfl (by decide +kernel) ⟨Nat.le_of_ble_eq_true rfl, Nat.le_of_ble_eq_true rfl⟩) ⟨zQc_bl, zRecv hH (zk_30 hF) rfl, zQc_at hz hS hA hH⟩ rfl rfl hl.1 rfl (lv_room (Nat.le_of_ble_eq_true rfl)) dX12_readRule_173 ⟨Nat.le_of_ble_eq_true rfl, Nat.le_of_ble_eq_true rfl⟩) hS (fun q _ h => h) (fun q h => h) (fun r237 u9 t9 H1 locs ht9 hvm9 hw hB hz1 hk1 hS => ?_)
        have hH := zMv ht9 hvm9 hB
        clear hB
        generalize u9 = f238 at hw hH
        generalize H1 = H at hH hS ⊢
        obtain ⟨hr245, ⟨c239, hc240, hc241, q242, hx243⟩, hf244⟩ := hw
        have q246 : f238 30 22 = nI L := by rw [hf244 30 22 (by omega)]; exact q233
        have q247 : f238 30 2 = nI n := by rw [hf244 30 2 (by omega)]; exact q234
        have hMt := zMt.ci (fi' := f238) hMt (fun i9 k9 h9 => hf244 i9 k9 (by omega))
        have hMd := zMd.ci (fi' := f238) hMd (fun i9 k9 h9 => hf244 i9 k9 (by omega))
        rcases hr245 with rfl | ⟨rfl, hlo248, hhi249⟩
        · skip
          refine lv_if_ne (tgt := 181) hx hb dX12_readRule_176 (by decide) (fun c250 => absurd (by decide) c250) (fun c250 => ?_)
          refine lv_iconst (v := nI 0) hx hb dX12_readRule_179 (by decide) ?_
          refine W.widen (k := 0) (n := 0) (by decide) (by decide) ?_
          exact W.zret (v := nI 0) hx hb hr (by decide) (fun t9 ht9 hW9 => ⟨⟨nI 0, f238, rfl, ⟨Or.inl rfl, ⟨c239, by omega, by omega, q242, trivial⟩, hMd, fun a b h => by rw [hf244 a b (by omega), ef232, zu_n (by omega), hf132 a b (by omega), hf120 a b (by omega), hf108 a b (by omega)]⟩, zEnd1 hH ht9 hW9⟩, hS.F ht9⟩) hS.2.2 dX12_readRule_180
        · skip
          refine lv_if_ne (tgt := 181) hx hb dX12_readRule_176 (by decide) (fun c251 => ?_) (fun c251 => absurd c251 (by decide))
          refine lv_aload_n hx hb dX12_readRule_181 rfl (lv_at hl 1 rfl) ?_
          refine zGetR (D := D) (ci := 12) (C := RX12) (T := TX12) (N := 71) hx hb hts hiX12 hown hH (zk_30 hF) rfl 18 (by decide) rfl hw7 (fun _ h9 => h9) dX12_readRule_182 (zr_30_18 hF) ?_
          refine lv_iload_n hx hb dX12_readRule_185 rfl (lv_at hl 0 rfl) ?_
          refine lv_aload_n hx hb dX12_readRule_186 rfl (lv_at hl 1 rfl) ?_
          refine zGetI (D := D) (ci := 12) (C := RX12) (T := TX12) (N := 71) hx hb hts hiX12 hown hH (zk_30 hF) rfl 25 (by decide) rfl hw8 (fun _ h9 => h9) dX12_readRule_187 rfl ?_
          refine zIastN (D := D) hx hb hH hS (zk_45 hF) (zn_45 hF) (by omega) (by omega) dX12_readRule_190 (fun H locs hH hS => ?_)
          obtain ⟨f252, ef252⟩ : ∃ f9 : zFi, f9 = zu f238 45 1 (f238 30 25) := ⟨_, rfl⟩
          rw [← ef252] at hH
          have q253 : f252 30 22 = nI L := by rw [ef252, zu_n (fun h9 => absurd h9.1 (by decide))]; exact q246
          have q254 : f252 30 2 = nI n := by rw [ef252, zu_n (fun h9 => absurd h9.1 (by decide))]; exact q247
          have q255 : f252 30 23 = nI c239 := by rw [ef252, zu_n (fun h9 => absurd h9.1 (by decide))]; exact q242
          have q256 : f252 45 1 = f238 30 25 := by rw [ef252]; exact zu_s
          have hMt := zMt.ci (fi' := f252) hMt (fun i9 k9 h9 => by rw [ef252]; exact zu_n (by omega))
          have hMd := zMd.ci (fi' := f252) hMd (fun i9 k9 h9 => by rw [ef252]; exact zu_n (by omega))
          refine lv_iconst (v := nI 1) hx hb dX12_readRule_191 (by decide) ?_
          refine W.widen (k := 0) (n := 0) (by decide) (by decide) ?_
          exact W.zret (v := nI 1) hx hb hr (by decide) (fun t9 ht9 hW9 => ⟨⟨nI 1, f252, rfl, ⟨Or.inr rfl, ⟨c239, by omega, by omega, q255, trivial⟩, hMd, fun a b h => by rw [ef252, zu_n (by omega), hf244 a b (by omega), ef232, zu_n (by omega), hf132 a b (by omega), hf120 a b (by omega), hf108 a b (by omega)]⟩, zEnd1 hH ht9 hW9⟩, hS.F ht9⟩) hS.2.2 dX12_readRule_192
    · skip
      refine lv_if_eq (tgt := 79) hx hb dX12_readRule_72 (by decide) (fun c257 => absurd c257 (by decide)) (fun c257 => ?_)
      refine lv_iconst (v := nI 0) hx hb dX12_readRule_75 (by decide) ?_
      refine lv_goto (tgt := 122) hx hb dX12_readRule_76 (by decide) ?_
      refine lv_istore_n (lv' := [(1, .int (nI 0)), (0, .ref (τ.1 30))]) hx hb dX12_readRule_122 rfl hl (by decide) rfl (fun ls hl => ?_)
      refine lv_iload_n hx hb dX12_readRule_123 rfl (lv_at hl 0 rfl) ?_
      refine lv_iconst (v := (-1)) hx hb dX12_readRule_124 (by decide) ?_
      refine lv_icmp_ne (tgt := 137) hx hb dX12_readRule_125 (by decide) (fun c258 => ?_) (fun c258 => absurd c258 (by decide))
      refine lv_aload_n hx hb dX12_readRule_137 rfl (lv_at hl 1 rfl) ?_
      refine lv_aload_n hx hb dX12_readRule_138 rfl (lv_at hl 1 rfl) ?_
      refine va_calli (va_runV (As := []) (rest := [.ref (τ.1 30)]) ⟨hx, hb, hml, hown, hts⟩ (m_wordEnd l hl0 D A sad τ f114 fr ol L c115 hF q122 q118 (by omega) (by omega)) (cwV 0 hts gX12_readRule_X12_wordEnd rfl rfl rfl (by decide +kernel) ⟨Nat.le_of_ble_eq_true rfl, Nat.le_of_ble_eq_true rfl⟩) ⟨zQc_bl, zRecv hH (zk_30 hF) rfl, zQc_at hz hS hA hH⟩ rfl rfl hl.1 rfl (lv_room (Nat.le_of_ble_eq_true rfl)) dX12_readRule_139 ⟨Nat.le_of_ble_eq_true rfl, Nat.le_of_ble_eq_true rfl⟩) hS (fun q _ h => h) (fun q h => h) (fun r259 u9 t9 H1 locs ht9 hvm9 hw hB hz1 hk1 hS => ?_)
      have hH := zMv ht9 hvm9 hB
      generalize H1 = H at hH hS ⊢
      obtain ⟨c260, h1c260, h2c260, rfl⟩ := hw
      refine zPutI (D := D) (ci := 12) (ty := .int) (C := RX12) (T := TX12) (N := 71) hx hb hts hiX12 tyX12 tyX12_ok nmX12 hown hH hS (zk_30 hF) rfl 23 (by decide) rfl hw6 (fun _ h9 => h9) rfl (by decide +kernel) rfl rfl dX12_readRule_142 (fun H locs hH hS => ?_)
      obtain ⟨f261, ef261⟩ : ∃ f9 : zFi, f9 = zu f114 30 23 (nI c260) := ⟨_, rfl⟩
      rw [← ef261] at hH
      have q262 : f261 30 22 = nI L := by rw [ef261, zu_n (fun h9 => absurd h9.2 (by decide))]; exact q122
      have q263 : f261 30 2 = nI n := by rw [ef261, zu_n (fun h9 => absurd h9.2 (by decide))]; exact q123
      have q264 : f261 30 23 = nI c260 := by rw [ef261]; exact zu_s
      have hMt := zMt.ci (fi' := f261) hMt (fun i9 k9 h9 => by rw [ef261]; exact zu_n (by omega))
      have hMd := zMd.ci (fi' := f261) hMd (fun i9 k9 h9 => by rw [ef261]; exact zu_n (by omega))
      refine lv_aload_n hx hb dX12_readRule_145 rfl (lv_at hl 1 rfl) ?_
      refine lv_iconst (v := nI 1) hx hb dX12_readRule_146 (by decide) ?_
      refine lv_bipush (v := nI 6) hx hb dX12_readRule_147 (by decide) ?_
      refine lv_iconst (v := nI 0) hx hb dX12_readRule_149 (by decide) ?_
      refine lv_iload_n hx hb dX12_readRule_150 rfl (lv_at hl 0 rfl) ?_
      refine lv_iconst (v := nI 1) hx hb dX12_readRule_151 (by decide) ?_
      refine lv_icmp_ne (tgt := 161) hx hb dX12_readRule_152 (by decide) (fun c265 => ?_) (fun c265 => absurd c265 (by decide))
      refine lv_iload_n hx hb dX12_readRule_161 rfl (lv_at hl 0 rfl) ?_
      refine lv_iconst (v := nI 2) hx hb dX12_readRule_162 (by decide) ?_
      refine lv_icmp_ne (tgt := 171) hx hb dX12_readRule_163 (by decide) (fun c266 => ?_) (fun c266 => absurd c266 (by decide))
      refine lv_bipush (v := nI 99) hx hb dX12_readRule_171 (by decide) ?_
      refine va_calli (va_runV (As := [.int (nI 1), .int (nI 6), .int (nI 0), .int (nI 99)]) (rest := []) ⟨hx, hb, hml, hown, hts⟩ (m_digits l hl0 D A sad τ f261 fr ol L c260 hF q262 q264 (by omega) (by omega) (nI 1) (nI 6) (nI 0) (nI 99)) (cwV 4 hts gX12_readRule_X12_digits rfl rfl rfl (by decide +kernel) ⟨Nat.le_of_ble_eq_true rfl, Nat.le_of_ble_eq_true rfl⟩) ⟨zQc_bl, zRecv hH (zk_30 hF) rfl, zQc_at hz hS hA hH⟩ rfl rfl hl.1 rfl (lv_room (Nat.le_of_ble_eq_true rfl)) dX12_readRule_173 ⟨Nat.le_of_ble_eq_true rfl, Nat.le_of_ble_eq_true rfl⟩) hS (fun q _ h => h) (fun q h => h) (fun r267 u9 t9 H1 locs ht9 hvm9 hw hB hz1 hk1 hS => ?_)
      have hH := zMv ht9 hvm9 hB
      clear hB
      generalize u9 = f268 at hw hH
      generalize H1 = H at hH hS ⊢
      obtain ⟨hr275, ⟨c269, hc270, hc271, q272, hx273⟩, hf274⟩ := hw
      have q276 : f268 30 22 = nI L := by rw [hf274 30 22 (by omega)]; exact q262
      have q277 : f268 30 2 = nI n := by rw [hf274 30 2 (by omega)]; exact q263
      have hMt := zMt.ci (fi' := f268) hMt (fun i9 k9 h9 => hf274 i9 k9 (by omega))
      have hMd := zMd.ci (fi' := f268) hMd (fun i9 k9 h9 => hf274 i9 k9 (by omega))
      rcases hr275 with rfl | ⟨rfl, hlo278, hhi279⟩
      · skip
        refine lv_if_ne (tgt := 181) hx hb dX12_readRule_176 (by decide) (fun c280 => absurd (by decide) c280) (fun c280 => ?_)
        refine lv_iconst (v := nI 0) hx hb dX12_readRule_179 (by decide) ?_
        refine W.widen (k := 0) (n := 0) (by decide) (by decide) ?_
        exact W.zret (v := nI 0) hx hb hr (by decide) (fun t9 ht9 hW9 => ⟨⟨nI 0, f268, rfl, ⟨Or.inl rfl, ⟨c269, by omega, by omega, q272, trivial⟩, hMd, fun a b h => by rw [hf274 a b (by omega), ef261, zu_n (by omega), hf120 a b (by omega), hf108 a b (by omega)]⟩, zEnd1 hH ht9 hW9⟩, hS.F ht9⟩) hS.2.2 dX12_readRule_180
      · skip
        refine lv_if_ne (tgt := 181) hx hb dX12_readRule_176 (by decide) (fun c281 => ?_) (fun c281 => absurd c281 (by decide))
        refine lv_aload_n hx hb dX12_readRule_181 rfl (lv_at hl 1 rfl) ?_
        refine zGetR (D := D) (ci := 12) (C := RX12) (T := TX12) (N := 71) hx hb hts hiX12 hown hH (zk_30 hF) rfl 18 (by decide) rfl hw7 (fun _ h9 => h9) dX12_readRule_182 (zr_30_18 hF) ?_
        refine lv_iload_n hx hb dX12_readRule_185 rfl (lv_at hl 0 rfl) ?_
        refine lv_aload_n hx hb dX12_readRule_186 rfl (lv_at hl 1 rfl) ?_
        refine zGetI (D := D) (ci := 12) (C := RX12) (T := TX12) (N := 71) hx hb hts hiX12 hown hH (zk_30 hF) rfl 25 (by decide) rfl hw8 (fun _ h9 => h9) dX12_readRule_187 rfl ?_
        refine zIastN (D := D) hx hb hH hS (zk_45 hF) (zn_45 hF) (by omega) (by omega) dX12_readRule_190 (fun H locs hH hS => ?_)
        obtain ⟨f282, ef282⟩ : ∃ f9 : zFi, f9 = zu f268 45 0 (f268 30 25) := ⟨_, rfl⟩
        rw [← ef282] at hH
        have q283 : f282 30 22 = nI L := by rw [ef282, zu_n (fun h9 => absurd h9.1 (by decide))]; exact q276
        have q284 : f282 30 2 = nI n := by rw [ef282, zu_n (fun h9 => absurd h9.1 (by decide))]; exact q277
        have q285 : f282 30 23 = nI c269 := by rw [ef282, zu_n (fun h9 => absurd h9.1 (by decide))]; exact q272
        have q286 : f282 45 0 = f268 30 25 := by rw [ef282]; exact zu_s
        have hMt := zMt.ci (fi' := f282) hMt (fun i9 k9 h9 => by rw [ef282]; exact zu_n (by omega))
        have hMd := zMd.ci (fi' := f282) hMd (fun i9 k9 h9 => by rw [ef282]; exact zu_n (by omega))
        refine lv_iconst (v := nI 1) hx hb dX12_readRule_191 (by decide) ?_
        refine W.widen (k := 0) (n := 0) (by decide) (by decide) ?_
        exact W.zret (v := nI 1) hx hb hr (by decide) (fun t9 ht9 hW9 => ⟨⟨nI 1, f282, rfl, ⟨Or.inr rfl, ⟨c269, by omega, by omega, q285, trivial⟩, hMd, fun a b h => by rw [ef282, zu_n (by omega), hf274 a b (by omega), ef261, zu_n (by omega), hf120 a b (by omega), hf108 a b (by omega)]⟩, zEnd1 hH ht9 hW9⟩, hS.F ht9⟩) hS.2.2 dX12_readRule_192
  · skip
    refine lv_if_eq (tgt := 65) hx hb dX12_readRule_7 (by decide) (fun c287 => absurd c287 (by decide)) (fun c287 => ?_)
    refine lv_aload_n hx hb dX12_readRule_10 rfl (lv_at hl 0 rfl) ?_
    refine lv_aload_n hx hb dX12_readRule_11 rfl (lv_at hl 0 rfl) ?_
    refine va_calli (va_runV (As := []) (rest := [.ref (τ.1 30)]) ⟨hx, hb, hml, hown, hts⟩ (m_wordEnd l hl0 D A sad τ f102 fr ol L c103 hF q110 q106 (by omega) (by omega)) (cwV 0 hts gX12_readRule_X12_wordEnd rfl rfl rfl (by decide +kernel) ⟨Nat.le_of_ble_eq_true rfl, Nat.le_of_ble_eq_true rfl⟩) ⟨zQc_bl, zRecv hH (zk_30 hF) rfl, zQc_at hz hS hA hH⟩ rfl rfl hl.1 rfl (lv_room (Nat.le_of_ble_eq_true rfl)) dX12_readRule_12 ⟨Nat.le_of_ble_eq_true rfl, Nat.le_of_ble_eq_true rfl⟩) hS (fun q _ h => h) (fun q h => h) (fun r288 u9 t9 H1 locs ht9 hvm9 hw hB hz1 hk1 hS => ?_)
    have hH := zMv ht9 hvm9 hB
    generalize H1 = H at hH hS ⊢
    obtain ⟨c289, h1c289, h2c289, rfl⟩ := hw
    refine zPutI (D := D) (ci := 12) (ty := .int) (C := RX12) (T := TX12) (N := 71) hx hb hts hiX12 tyX12 tyX12_ok nmX12 hown hH hS (zk_30 hF) rfl 23 (by decide) rfl hw6 (fun _ h9 => h9) rfl (by decide +kernel) rfl rfl dX12_readRule_15 (fun H locs hH hS => ?_)
    obtain ⟨f290, ef290⟩ : ∃ f9 : zFi, f9 = zu f102 30 23 (nI c289) := ⟨_, rfl⟩
    rw [← ef290] at hH
    have q291 : f290 30 22 = nI L := by rw [ef290, zu_n (fun h9 => absurd h9.2 (by decide))]; exact q110
    have q292 : f290 30 2 = nI n := by rw [ef290, zu_n (fun h9 => absurd h9.2 (by decide))]; exact q111
    have q293 : f290 30 23 = nI c289 := by rw [ef290]; exact zu_s
    have hMt := zMt.ci (fi' := f290) hMt (fun i9 k9 h9 => by rw [ef290]; exact zu_n (by omega))
    have hMd := zMd.ci (fi' := f290) hMd (fun i9 k9 h9 => by rw [ef290]; exact zu_n (by omega))
    refine lv_aload_n hx hb dX12_readRule_18 rfl (lv_at hl 0 rfl) ?_
    refine lv_iconst (v := (-1)) hx hb dX12_readRule_19 (by decide) ?_
    refine va_calli (va_runV (As := [.int ((-1))]) (rest := []) ⟨hx, hb, hml, hown, hts⟩ (m_thingCode l hl0 D A sad τ f290 fr ol L c289 hF q291 q293 (by omega) (by omega) n hMt ((-1))) (cwV 1 hts gX12_readRule_X12_thingCode rfl rfl rfl (by decide +kernel) ⟨Nat.le_of_ble_eq_true rfl, Nat.le_of_ble_eq_true rfl⟩) ⟨zQc_bl, zRecv hH (zk_30 hF) rfl, zQc_at hz hS hA hH⟩ rfl rfl hl.1 rfl (lv_room (Nat.le_of_ble_eq_true rfl)) dX12_readRule_20 ⟨Nat.le_of_ble_eq_true rfl, Nat.le_of_ble_eq_true rfl⟩) hS (fun q _ h => h) (fun q h => h) (fun r294 u9 t9 H1 locs ht9 hvm9 hw hB hz1 hk1 hS => ?_)
    have hH := zMv ht9 hvm9 hB
    clear hB
    generalize u9 = f295 at hw hH
    generalize H1 = H at hH hS ⊢
    obtain ⟨hr302, ⟨c296, hc297, hc298, q299, hx300⟩, hf301⟩ := hw
    have q303 : f295 30 22 = nI L := by rw [hf301 30 22 (by omega)]; exact q291
    have q304 : f295 30 2 = nI n := by rw [hf301 30 2 (by omega)]; exact q292
    have hMt := zMt.ci (fi' := f295) hMt (fun i9 k9 h9 => hf301 i9 k9 (by omega))
    have hMd := zMd.ci (fi' := f295) hMd (fun i9 k9 h9 => hf301 i9 k9 (by omega))
    rcases hr302 with rfl | ⟨rfl, t305, ht306, q307⟩
    · skip
      refine lv_if_ne (tgt := 28) hx hb dX12_readRule_23 (by decide) (fun c308 => absurd (by decide) c308) (fun c308 => ?_)
      refine lv_iconst (v := nI 0) hx hb dX12_readRule_26 (by decide) ?_
      refine W.widen (k := 0) (n := 0) (by decide) (by decide) ?_
      exact W.zret (v := nI 0) hx hb hr (by decide) (fun t9 ht9 hW9 => ⟨⟨nI 0, f295, rfl, ⟨Or.inl rfl, ⟨c296, by omega, by omega, q299, trivial⟩, hMd, fun a b h => by rw [hf301 a b (by omega), ef290, zu_n (by omega), hf108 a b (by omega)]⟩, zEnd1 hH ht9 hW9⟩, hS.F ht9⟩) hS.2.2 dX12_readRule_27
    · skip
      refine lv_if_ne (tgt := 28) hx hb dX12_readRule_23 (by decide) (fun c309 => ?_) (fun c309 => absurd c309 (by decide))
      refine lv_aload_n hx hb dX12_readRule_28 rfl (lv_at hl 0 rfl) ?_
      refine zGetI (D := D) (ci := 12) (C := RX12) (T := TX12) (N := 71) hx hb hts hiX12 hown hH (zk_30 hF) rfl 25 (by decide) rfl hw8 (fun _ h9 => h9) dX12_readRule_29 q307 ?_
      refine lv_istore_n (lv' := [(1, .int (nI t305)), (0, .ref (τ.1 30))]) hx hb dX12_readRule_32 rfl hl (by decide) rfl (fun ls hl => ?_)
      refine lv_aload_n hx hb dX12_readRule_33 rfl (lv_at hl 1 rfl) ?_
      refine lv_ldc2 (v := 25209) hx hb hown hw10 dX12_readRule_34 ?_
      refine va_calli (va_runV (As := [.long 25209]) (rest := []) ⟨hx, hb, hml, hown, hts⟩ (m_passes l hl0 D A sad τ f295 fr ol L c296 hF q303 q299 (by omega) (by omega) 25209) (cwV 1 hts gX12_readRule_X12_passes rfl rfl rfl (by decide +kernel) ⟨Nat.le_of_ble_eq_true rfl, Nat.le_of_ble_eq_true rfl⟩) ⟨zQc_bl, zRecv hH (zk_30 hF) rfl, zQc_at hz hS hA hH⟩ rfl rfl hl.1 rfl (lv_room (Nat.le_of_ble_eq_true rfl)) dX12_readRule_37 ⟨Nat.le_of_ble_eq_true rfl, Nat.le_of_ble_eq_true rfl⟩) hS (fun q _ h => h) (fun q h => h) (fun r310 u9 t9 H1 locs ht9 hvm9 hw hB hz1 hk1 hS => ?_)
      have hH := zMv ht9 hvm9 hB
      clear hB
      generalize u9 = f311 at hw hH
      generalize H1 = H at hH hS ⊢
      obtain ⟨hr318, ⟨c312, hc313, hc314, q315, hx316⟩, hf317⟩ := hw
      have q319 : f311 30 22 = nI L := by rw [hf317 30 22 (by omega)]; exact q303
      have q320 : f311 30 2 = nI n := by rw [hf317 30 2 (by omega)]; exact q304
      have q321 : f311 30 25 = nI t305 := by rw [hf317 30 25 (by omega)]; exact q307
      have hMt := zMt.ci (fi' := f311) hMt (fun i9 k9 h9 => hf317 i9 k9 (by omega))
      have hMd := zMd.ci (fi' := f311) hMd (fun i9 k9 h9 => hf317 i9 k9 (by omega))
      rcases hr318 with rfl | rfl
      · skip
        refine lv_if_eq (tgt := 51) hx hb dX12_readRule_40 (by decide) (fun c322 => ?_) (fun c322 => absurd (by decide) c322)
        refine lv_iconst (v := nI 0) hx hb dX12_readRule_51 (by decide) ?_
        refine W.widen (k := 0) (n := 0) (by decide) (by decide) ?_
        exact W.zret (v := nI 0) hx hb hr (by decide) (fun t9 ht9 hW9 => ⟨⟨nI 0, f311, rfl, ⟨Or.inl rfl, ⟨c312, by omega, by omega, q315, trivial⟩, hMd, fun a b h => by rw [hf317 a b (by omega), hf301 a b (by omega), ef290, zu_n (by omega), hf108 a b (by omega)]⟩, zEnd1 hH ht9 hW9⟩, hS.F ht9⟩) hS.2.2 dX12_readRule_52
      · skip
        refine lv_if_eq (tgt := 51) hx hb dX12_readRule_40 (by decide) (fun c323 => absurd c323 (by decide)) (fun c323 => ?_)
        refine lv_aload_n hx hb dX12_readRule_43 rfl (lv_at hl 1 rfl) ?_
        refine lv_iload_n hx hb dX12_readRule_44 rfl (lv_at hl 0 rfl) ?_
        refine va_calli (va_runV (As := [.int (nI t305)]) (rest := []) ⟨hx, hb, hml, hown, hts⟩ (m_thingCode l hl0 D A sad τ f311 fr ol L c312 hF q319 q315 (by omega) (by omega) n hMt (nI t305)) (cwV 1 hts gX12_readRule_X12_thingCode rfl rfl rfl (by decide +kernel) ⟨Nat.le_of_ble_eq_true rfl, Nat.le_of_ble_eq_true rfl⟩) ⟨zQc_bl, zRecv hH (zk_30 hF) rfl, zQc_at hz hS hA hH⟩ rfl rfl hl.1 rfl (lv_room (Nat.le_of_ble_eq_true rfl)) dX12_readRule_45 ⟨Nat.le_of_ble_eq_true rfl, Nat.le_of_ble_eq_true rfl⟩) hS (fun q _ h => h) (fun q h => h) (fun r324 u9 t9 H1 locs ht9 hvm9 hw hB hz1 hk1 hS => ?_)
        have hH := zMv ht9 hvm9 hB
        clear hB
        generalize u9 = f325 at hw hH
        generalize H1 = H at hH hS ⊢
        obtain ⟨hr332, ⟨c326, hc327, hc328, q329, hx330⟩, hf331⟩ := hw
        have q333 : f325 30 22 = nI L := by rw [hf331 30 22 (by omega)]; exact q319
        have q334 : f325 30 2 = nI n := by rw [hf331 30 2 (by omega)]; exact q320
        have hMt := zMt.ci (fi' := f325) hMt (fun i9 k9 h9 => hf331 i9 k9 (by omega))
        have hMd := zMd.ci (fi' := f325) hMd (fun i9 k9 h9 => hf331 i9 k9 (by omega))
        rcases hr332 with rfl | ⟨rfl, t335, ht336, q337⟩
        · skip
          refine lv_if_ne (tgt := 53) hx hb dX12_readRule_48 (by decide) (fun c338 => absurd (by decide) c338) (fun c338 => ?_)
          refine lv_iconst (v := nI 0) hx hb dX12_readRule_51 (by decide) ?_
          refine W.widen (k := 0) (n := 0) (by decide) (by decide) ?_
          exact W.zret (v := nI 0) hx hb hr (by decide) (fun t9 ht9 hW9 => ⟨⟨nI 0, f325, rfl, ⟨Or.inl rfl, ⟨c326, by omega, by omega, q329, trivial⟩, hMd, fun a b h => by rw [hf331 a b (by omega), hf317 a b (by omega), hf301 a b (by omega), ef290, zu_n (by omega), hf108 a b (by omega)]⟩, zEnd1 hH ht9 hW9⟩, hS.F ht9⟩) hS.2.2 dX12_readRule_52
        · skip
          refine lv_if_ne (tgt := 53) hx hb dX12_readRule_48 (by decide) (fun c339 => ?_) (fun c339 => absurd c339 (by decide))
          refine lv_aload_n hx hb dX12_readRule_53 rfl (lv_at hl 1 rfl) ?_
          refine zGetR (D := D) (ci := 12) (C := RX12) (T := TX12) (N := 71) hx hb hts hiX12 hown hH (zk_30 hF) rfl 19 (by decide) rfl hw11 (fun _ h9 => h9) dX12_readRule_54 (zr_30_19 hF) ?_
          refine lv_iload_n hx hb dX12_readRule_57 rfl (lv_at hl 0 rfl) ?_
          refine lv_aload_n hx hb dX12_readRule_58 rfl (lv_at hl 1 rfl) ?_
          refine zGetI (D := D) (ci := 12) (C := RX12) (T := TX12) (N := 71) hx hb hts hiX12 hown hH (zk_30 hF) rfl 25 (by decide) rfl hw8 (fun _ h9 => h9) dX12_readRule_59 q337 ?_
          refine zIastN (D := D) hx hb hH hS (zk_46 hF) (zn_46 hF) (by omega) (by omega) dX12_readRule_62 (fun H locs hH hS => ?_)
          obtain ⟨f340, ef340⟩ : ∃ f9 : zFi, f9 = zu f325 46 t305 (nI t335) := ⟨_, rfl⟩
          rw [← ef340] at hH
          have q341 : f340 30 22 = nI L := by rw [ef340, zu_n (fun h9 => absurd h9.1 (by decide))]; exact q333
          have q342 : f340 30 2 = nI n := by rw [ef340, zu_n (fun h9 => absurd h9.1 (by decide))]; exact q334
          have q343 : f340 30 23 = nI c326 := by rw [ef340, zu_n (fun h9 => absurd h9.1 (by decide))]; exact q329
          have q344 : f340 30 25 = nI t335 := by rw [ef340, zu_n (fun h9 => absurd h9.1 (by decide))]; exact q337
          have q345 : f340 46 t305 = nI t335 := by rw [ef340]; exact zu_s
          have hMt := zMt.ci (fi' := f340) hMt (fun i9 k9 h9 => by rw [ef340]; exact zu_n (by omega))
          have hMd := hMd.set ef340 (Or.inr ⟨t335, ht336, rfl⟩)
          refine lv_iconst (v := nI 1) hx hb dX12_readRule_63 (by decide) ?_
          refine W.widen (k := 0) (n := 0) (by decide) (by decide) ?_
          exact W.zret (v := nI 1) hx hb hr (by decide) (fun t9 ht9 hW9 => ⟨⟨nI 1, f340, rfl, ⟨Or.inr rfl, ⟨c326, by omega, by omega, q343, trivial⟩, hMd, fun a b h => by rw [ef340, zu_n (by omega), hf331 a b (by omega), hf317 a b (by omega), hf301 a b (by omega), ef290, zu_n (by omega), hf108 a b (by omega)]⟩, zEnd1 hH ht9 hW9⟩, hS.F ht9⟩) hS.2.2 dX12_readRule_64
set_option maxHeartbeats 4000000 in
set_option maxRecDepth 100000 in
/-- beginText -/
theorem m_begin (l : Launch) (hl0 : l.stackTraces = false) (D : va_G) (A : Nat → Prop) (sad : Nat → Nat) (τ : zTy) (fi : zFi) (fr : zFr) (ol : Int64) (L : Nat) (hF : zFix τ fr) (hn : fi 30 21 = nI L) : Met l yX12_beginText wsX12_beginText ({ frames := 0, cells := 0, slots := 0, locals := 0 }) (va_Pc [.ref (τ.1 30)] (zQc D A sad τ fi fr ol)) (va_Qv (fun (u : zFi) => u 30 21 = nI 0 ∧ u 30 22 = nI L ∧ u 30 23 = nI 0 ∧ ∀ a b, ¬ (a = 30 ∧ 21 ≤ b ∧ b ≤ 24) → u a b = fi a b) (fun (u : zFi) (t : State) => zH D A τ u fr ol t t.heap) A) 0 0 A := by
  refine Met.ofW (cc := cX12_beginText) (maxL := 1) (ret := none) (by decide) rfl ?_
  intro p9 e9 s m args below meth c9 s₁ B hml hv
  obtain ⟨rfl, hz, hH, hA⟩ := hv
  have hx := B.exec
  have hb := B.bytes
  have hr := B.returns
  have hts := atoms_spec (ws := wsX12_beginText) B.pre
  have hown : s.vm.findClass RX12 = some m.cls := findClass_of_methodNamed B.named
  have hlocks := B.notSynchronized
  have hS : va_S A s.heap s.heap [] := va_S.rf
  have hl := lv_entry ([.ref (τ.1 30)]) (n := 1) (Nat.le_of_ble_eq_true rfl)
  rw [lg_entry_eq]
  generalize (lg_sl ([.ref (τ.1 30)]) ++ List.replicate (1 - (lg_sl ([.ref (τ.1 30)])).length) Slot.unset).toArray = ls at hl ⊢
  have hl : lv_has ls 1 [(0, .ref (τ.1 30))] := hl
  have hiX12 : ∀ w ∈ u_ws RX12 TX12 71, w ∈ wsX12_beginText := fun _ h => List.mem_cons_of_mem _ (List.mem_append_right _ h)
  have hw1 := hts (.fieldLink RX12 178 "PostHouseModel" "taped" "I") (by decide +kernel)
  have hw2 := hts (.fieldLink RX12 209 "PostHouseModel" "end" "I") (by decide +kernel)
  have hw3 := hts (.fieldLink RX12 206 "PostHouseModel" "at" "I") (by decide +kernel)
  have hw4 := hts (.fieldLink RX12 61 "PostHouseModel" "fault" "I") (by decide +kernel)
  refine lv_aload_n hx hb dX12_beginText_0 rfl (lv_at hl 0 rfl) ?_
  refine lv_aload_n hx hb dX12_beginText_1 rfl (lv_at hl 0 rfl) ?_
  refine zGetI (D := D) (ci := 12) (C := RX12) (T := TX12) (N := 71) hx hb hts hiX12 hown hH (zk_30 hF) rfl 21 (by decide) rfl hw1 (fun _ h9 => h9) dX12_beginText_2 hn ?_
  refine zPutI (D := D) (ci := 12) (ty := .int) (C := RX12) (T := TX12) (N := 71) hx hb hts hiX12 tyX12 tyX12_ok nmX12 hown hH hS (zk_30 hF) rfl 22 (by decide) rfl hw2 (fun _ h9 => h9) rfl (by decide +kernel) rfl rfl dX12_beginText_5 (fun H locs hH hS => ?_)
  obtain ⟨f101, ef101⟩ : ∃ f9 : zFi, f9 = zu fi 30 22 (nI L) := ⟨_, rfl⟩
  rw [← ef101] at hH
  have q102 : f101 30 21 = nI L := by rw [ef101, zu_n (fun h9 => absurd h9.2 (by decide))]; exact hn
  have q103 : f101 30 22 = nI L := by rw [ef101]; exact zu_s
  refine lv_aload_n hx hb dX12_beginText_8 rfl (lv_at hl 0 rfl) ?_
  refine lv_iconst (v := nI 0) hx hb dX12_beginText_9 (by decide) ?_
  refine zPutI (D := D) (ci := 12) (ty := .int) (C := RX12) (T := TX12) (N := 71) hx hb hts hiX12 tyX12 tyX12_ok nmX12 hown hH hS (zk_30 hF) rfl 21 (by decide) rfl hw1 (fun _ h9 => h9) rfl (by decide +kernel) rfl rfl dX12_beginText_10 (fun H locs hH hS => ?_)
  obtain ⟨f104, ef104⟩ : ∃ f9 : zFi, f9 = zu f101 30 21 (nI 0) := ⟨_, rfl⟩
  rw [← ef104] at hH
  have q105 : f104 30 22 = nI L := by rw [ef104, zu_n (fun h9 => absurd h9.2 (by decide))]; exact q103
  have q106 : f104 30 21 = nI 0 := by rw [ef104]; exact zu_s
  refine lv_aload_n hx hb dX12_beginText_13 rfl (lv_at hl 0 rfl) ?_
  refine lv_iconst (v := nI 0) hx hb dX12_beginText_14 (by decide) ?_
  refine zPutI (D := D) (ci := 12) (ty := .int) (C := RX12) (T := TX12) (N := 71) hx hb hts hiX12 tyX12 tyX12_ok nmX12 hown hH hS (zk_30 hF) rfl 23 (by decide) rfl hw3 (fun _ h9 => h9) rfl (by decide +kernel) rfl rfl dX12_beginText_15 (fun H locs hH hS => ?_)
  obtain ⟨f107, ef107⟩ : ∃ f9 : zFi, f9 = zu f104 30 23 (nI 0) := ⟨_, rfl⟩
  rw [← ef107] at hH
  have q108 : f107 30 22 = nI L := by rw [ef107, zu_n (fun h9 => absurd h9.2 (by decide))]; exact q105
  have q109 : f107 30 21 = nI 0 := by rw [ef107, zu_n (fun h9 => absurd h9.2 (by decide))]; exact q106
  have q110 : f107 30 23 = nI 0 := by rw [ef107]; exact zu_s
  refine lv_aload_n hx hb dX12_beginText_18 rfl (lv_at hl 0 rfl) ?_
  refine lv_iconst (v := (-1)) hx hb dX12_beginText_19 (by decide) ?_
  refine zPutI (D := D) (ci := 12) (ty := .int) (C := RX12) (T := TX12) (N := 71) hx hb hts hiX12 tyX12 tyX12_ok nmX12 hown hH hS (zk_30 hF) rfl 24 (by decide) rfl hw4 (fun _ h9 => h9) rfl (by decide +kernel) rfl rfl dX12_beginText_20 (fun H locs hH hS => ?_)
  obtain ⟨f111, ef111⟩ : ∃ f9 : zFi, f9 = zu f107 30 24 ((-1)) := ⟨_, rfl⟩
  rw [← ef111] at hH
  have q112 : f111 30 22 = nI L := by rw [ef111, zu_n (fun h9 => absurd h9.2 (by decide))]; exact q108
  have q113 : f111 30 21 = nI 0 := by rw [ef111, zu_n (fun h9 => absurd h9.2 (by decide))]; exact q109
  have q114 : f111 30 23 = nI 0 := by rw [ef111, zu_n (fun h9 => absurd h9.2 (by decide))]; exact q110
  have q115 : f111 30 24 = (-1) := by rw [ef111]; exact zu_s
  refine W.widen (k := 0) (n := 0) (by decide) (by decide) ?_
  exact W.vret hx hb hr (fun t9 ht9 hW9 => ⟨⟨f111, rfl, ⟨q113, q112, q114, fun a b h => by rw [ef111, zu_n (by omega), ef107, zu_n (by omega), ef104, zu_n (by omega), ef101, zu_n (by omega)]⟩, zEnd1 hH ht9 hW9⟩, hS.F ht9⟩) hS.2.2 dX12_beginText_23
