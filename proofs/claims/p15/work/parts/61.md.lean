theorem zMt.pr {fi fi' : zFi} {n t k : Nat} (h : zMt fi n) (h2 : fi' 30 2 = fi 30 2) (hk : k ≤ 4) (e : fi' 36 t = nI k) (ho : ∀ j, j ≠ t → fi' 36 j = fi 36 j) : zMt fi' n := ⟨h.1, by rw [h2]; exact h.2.1, fun j q => by
  by_cases hj : j = t
  · subst hj; exact ⟨k, hk, e⟩
  · rw [ho j hj]; exact h.2.2 j q⟩
set_option maxHeartbeats 4000000 in
set_option maxRecDepth 100000 in
/-- price -/
theorem m_price (l : Launch) (hl0 : l.stackTraces = false) (D : va_G) (A : Nat → Prop) (sad : Nat → Nat) (τ : zTy) (fi : zFi) (fr : zFr) (ol : Int64) (x y z w : Int32) (hF : zFix τ fr) (n : Nat) (hMt : zMt fi n) : Met l yX12_price wsX12_price ({ frames := 1, cells := 0, slots := 0, locals := 22 }) (va_Pc [.ref (τ.1 30), .int x, .int y, .int z, .int w] (zQc D A sad τ fi fr ol)) (va_Qi (fun (r : Int32) (u : zFi) => zMt u n ∧ ∀ a b, ¬ (a = 36 ∨ a = 37 ∨ a = 38 ∨ a = 39 ∨ (a = 30 ∧ b = 0)) → u a b = fi a b) (fun (u : zFi) (t : State) => zH D A τ u fr ol t t.heap) A) 0 0 A := by
  refine Met.ofW (cc := cX12_price) (maxL := 7) (ret := (some .int)) (by decide) rfl ?_
  intro p9 e9 s m args below meth c9 s₁ B hml hv
  obtain ⟨rfl, hz, hH, hA⟩ := hv
  have hx := B.exec
  have hb := B.bytes
  have hr := B.returns
  have hts := atoms_spec (ws := wsX12_price) B.pre
  have hown : s.vm.findClass RX12 = some m.cls := findClass_of_methodNamed B.named
  have hlocks := B.notSynchronized
  have hS : va_S A s.heap s.heap [] := va_S.rf
  have hl := lv_entry ([.ref (τ.1 30), .int x, .int y, .int z, .int w]) (n := 7) (Nat.le_of_ble_eq_true rfl)
  rw [lg_entry_eq]
  generalize (lg_sl ([.ref (τ.1 30), .int x, .int y, .int z, .int w]) ++ List.replicate (7 - (lg_sl ([.ref (τ.1 30), .int x, .int y, .int z, .int w])).length) Slot.unset).toArray = ls at hl ⊢
  have hl : lv_has ls 7 [(0, .ref (τ.1 30)), (1, .int x), (2, .int y), (3, .int z), (4, .int w)] := hl
  have hm30 := hMt.1
  have hMt0 := hMt
  have hw0 := hts (.fieldLink RX12 165 "PostHouseModel" "thrown" "I") (by decide +kernel)
  have hiX12 : ∀ w ∈ u_ws RX12 TX12 71, w ∈ wsX12_price := fun _ h => List.mem_cons_of_mem _ (List.mem_append_right _ h)
  have hw2 := hts (.fieldLink RX12 25 "PostHouseModel" "prices" "[I") (by decide +kernel)
  have hw3 := hts (.fieldLink RX12 28 "PostHouseModel" "priceMoney" "[I") (by decide +kernel)
  have hw4 := hts (.fieldLink RX12 31 "PostHouseModel" "priceFrom" "[I") (by decide +kernel)
  have hw5 := hts (.fieldLink RX12 34 "PostHouseModel" "priceTo" "[I") (by decide +kernel)
  refine lv_iload_n hx hb dX12_price_0 rfl (lv_at hl 2 rfl) ?_
  refine lv_iconst (v := nI 1) hx hb dX12_price_1 (by decide) ?_
  refine lv_sipush (v := nI 10000) hx hb dX12_price_2 (by decide) ?_
  refine va_calli (va_runS (As := [.int y, .int (nI 1), .int (nI 10000)]) (rest := []) ⟨hx, hb, hml, hown, hts⟩ (m_isIn l hl0 D A sad τ fi fr ol y (nI 1) (nI 10000)) (cwS 3 hts gX12_price_X12_isIn rfl rfl rfl (by decide +kernel) ⟨Nat.le_of_ble_eq_true rfl, Nat.le_of_ble_eq_true rfl⟩) ⟨zQc_bl, zQc_at hz hS hA hH⟩ rfl rfl hl.1 rfl (lv_room (Nat.le_of_ble_eq_true rfl)) dX12_price_5 ⟨Nat.le_of_ble_eq_true rfl, Nat.le_of_ble_eq_true rfl⟩) hS (fun q _ h => h) (fun q h => h) (fun r101 u9 t9 H1 locs ht9 hvm9 hw hB hz1 hk1 hS => ?_)
  have hH := zMv ht9 hvm9 hB
  generalize H1 = H at hH hS ⊢
  rcases hw with ⟨rfl, hy102⟩ | ⟨rfl, hn103⟩
  · skip
    replace hy102 := zWi1 (rfl) (nI_toInt (by omega)) (nI_toInt (by omega)) hy102
    refine lv_if_eq (tgt := 44) hx hb dX12_price_8 (by decide) (fun c104 => absurd c104 (by decide)) (fun c104 => ?_)
    refine lv_iload_n hx hb dX12_price_11 rfl (lv_at hl 3 rfl) ?_
    refine lv_iconst (v := nI 0) hx hb dX12_price_12 (by decide) ?_
    refine lv_sipush (v := nI 999) hx hb dX12_price_13 (by decide) ?_
    refine va_calli (va_runS (As := [.int z, .int (nI 0), .int (nI 999)]) (rest := []) ⟨hx, hb, hml, hown, hts⟩ (m_isIn l hl0 D A sad τ fi fr ol z (nI 0) (nI 999)) (cwS 3 hts gX12_price_X12_isIn rfl rfl rfl (by decide +kernel) ⟨Nat.le_of_ble_eq_true rfl, Nat.le_of_ble_eq_true rfl⟩) ⟨zQc_bl, zQc_at hz hS hA hH⟩ rfl rfl hl.1 rfl (lv_room (Nat.le_of_ble_eq_true rfl)) dX12_price_16 ⟨Nat.le_of_ble_eq_true rfl, Nat.le_of_ble_eq_true rfl⟩) hS (fun q _ h => h) (fun q h => h) (fun r105 u9 t9 H1 locs ht9 hvm9 hw hB hz1 hk1 hS => ?_)
    have hH := zMv ht9 hvm9 hB
    generalize H1 = H at hH hS ⊢
    rcases hw with ⟨rfl, hy106⟩ | ⟨rfl, hn107⟩
    · skip
      replace hy106 := zWi1 (rfl) (nI_toInt (by omega)) (nI_toInt (by omega)) hy106
      refine lv_if_eq (tgt := 44) hx hb dX12_price_19 (by decide) (fun c108 => absurd c108 (by decide)) (fun c108 => ?_)
      refine lv_iload hx hb dX12_price_22 (lv_at hl 4 rfl) ?_
      refine lv_iconst (v := nI 0) hx hb dX12_price_24 (by decide) ?_
      refine lv_sipush (v := nI 999) hx hb dX12_price_25 (by decide) ?_
      refine va_calli (va_runS (As := [.int w, .int (nI 0), .int (nI 999)]) (rest := []) ⟨hx, hb, hml, hown, hts⟩ (m_isIn l hl0 D A sad τ fi fr ol w (nI 0) (nI 999)) (cwS 3 hts gX12_price_X12_isIn rfl rfl rfl (by decide +kernel) ⟨Nat.le_of_ble_eq_true rfl, Nat.le_of_ble_eq_true rfl⟩) ⟨zQc_bl, zQc_at hz hS hA hH⟩ rfl rfl hl.1 rfl (lv_room (Nat.le_of_ble_eq_true rfl)) dX12_price_28 ⟨Nat.le_of_ble_eq_true rfl, Nat.le_of_ble_eq_true rfl⟩) hS (fun q _ h => h) (fun q h => h) (fun r109 u9 t9 H1 locs ht9 hvm9 hw hB hz1 hk1 hS => ?_)
      have hH := zMv ht9 hvm9 hB
      generalize H1 = H at hH hS ⊢
      rcases hw with ⟨rfl, hy110⟩ | ⟨rfl, hn111⟩
      · skip
        replace hy110 := zWi1 (rfl) (nI_toInt (by omega)) (nI_toInt (by omega)) hy110
        refine lv_if_eq (tgt := 44) hx hb dX12_price_31 (by decide) (fun c112 => absurd c112 (by decide)) (fun c112 => ?_)
        refine lv_iload_n hx hb dX12_price_34 rfl (lv_at hl 3 rfl) ?_
        refine lv_iload hx hb dX12_price_35 (lv_at hl 4 rfl) ?_
        refine lv_icmp_gt (tgt := 44) hx hb dX12_price_37 (by decide) (fun c113 => ?_) (fun c113 => ?_)
        · have zc113 := c113
          replace zc113 := zc_lt (rfl) (rfl) zc113
          refine lv_iconst (v := nI 0) hx hb dX12_price_44 (by decide) ?_
          refine lv_istore (lv' := [(5, .int (nI 0)), (0, .ref (τ.1 30)), (1, .int x), (2, .int y), (3, .int z), (4, .int w)]) hx hb dX12_price_45 hl (by decide) rfl (fun ls hl => ?_)
          refine lv_aload_n hx hb dX12_price_47 rfl (lv_at hl 1 rfl) ?_
          refine lv_aload_n hx hb dX12_price_48 rfl (lv_at hl 1 rfl) ?_
          refine lv_iload_n hx hb dX12_price_49 rfl (lv_at hl 2 rfl) ?_
          refine va_calli (va_runV (As := [.int x]) (rest := [.ref (τ.1 30)]) ⟨hx, hb, hml, hown, hts⟩ (m_isThing l hl0 D A sad τ fi fr ol x n hF hMt.2.1 (by omega)) (cwV 1 hts gX12_price_X12_isThing rfl rfl rfl (by decide +kernel) ⟨Nat.le_of_ble_eq_true rfl, Nat.le_of_ble_eq_true rfl⟩) ⟨zQc_bl, zRecv hH (zk_30 hF) rfl, zQc_at hz hS hA hH⟩ rfl rfl hl.1 rfl (lv_room (Nat.le_of_ble_eq_true rfl)) dX12_price_50 ⟨Nat.le_of_ble_eq_true rfl, Nat.le_of_ble_eq_true rfl⟩) hS (fun q _ h => h) (fun q h => h) (fun r114 u9 t9 H1 locs ht9 hvm9 hw hB hz1 hk1 hS => ?_)
          have hH := zMv ht9 hvm9 hB
          generalize H1 = H at hH hS ⊢
          rcases hw with ⟨t, ht, rfl, rfl⟩ | ⟨hno, rfl⟩
          · skip
            refine lv_if_ne (tgt := 60) hx hb dX12_price_53 (by decide) (fun c115 => ?_) (fun c115 => absurd c115 (by decide))
            refine lv_iload hx hb dX12_price_60 (lv_at hl 0 rfl) ?_
            refine lv_if_ne (tgt := 69) hx hb dX12_price_62 (by decide) (fun c116 => absurd (by decide) c116) (fun c116 => ?_)
            refine lv_iconst (v := nI 2) hx hb dX12_price_65 (by decide) ?_
            refine lv_goto (tgt := 84) hx hb dX12_price_66 (by decide) ?_
            refine zPutI (D := D) (ci := 12) (ty := .int) (C := RX12) (T := TX12) (N := 71) hx hb hts hiX12 tyX12 tyX12_ok nmX12 hown hH hS (zk_30 hF) rfl 0 (by decide) rfl hw0 (fun _ h9 => h9) rfl (by decide +kernel) rfl rfl dX12_price_84 (fun H locs hH hS => ?_)
            obtain ⟨f117, ef117⟩ : ∃ f9 : zFi, f9 = zu fi 30 0 (nI 2) := ⟨_, rfl⟩
            rw [← ef117] at hH
            have q118 : f117 30 2 = nI n := by rw [ef117, zu_n (fun h9 => absurd h9.2 (by decide))]; exact hMt.2.1
            have q119 : f117 30 0 = nI 2 := by rw [ef117]; exact zu_s
            have hMt := zMt.ci (fi' := f117) hMt (fun i9 k9 h9 => by rw [ef117]; exact zu_n (by omega))
            refine lv_aload_n hx hb dX12_price_87 rfl (lv_at hl 1 rfl) ?_
            refine zGetI (D := D) (ci := 12) (C := RX12) (T := TX12) (N := 71) hx hb hts hiX12 hown hH (zk_30 hF) rfl 0 (by decide) rfl hw0 (fun _ h9 => h9) dX12_price_88 q119 ?_
            refine lv_if_le (tgt := 96) hx hb dX12_price_91 (by decide) (fun c120 => absurd c120 (by decide)) (fun c120 => ?_)
            refine lv_iconst (v := nI 0) hx hb dX12_price_94 (by decide) ?_
            refine W.widen (k := 0) (n := 0) (by decide) (by decide) ?_
            exact W.iret (v := nI 0) hx hb hr (fun t9 ht9 hW9 => ⟨⟨nI 0, f117, rfl, ⟨hMt, fun a b h => by rw [ef117, zu_n (by omega)]⟩, zEnd1 hH ht9 hW9⟩, hS.F ht9⟩) hS.2.2 dX12_price_95
          · skip
            refine lv_if_ne (tgt := 60) hx hb dX12_price_53 (by decide) (fun c121 => absurd (by decide) c121) (fun c121 => ?_)
            refine lv_iconst (v := nI 1) hx hb dX12_price_56 (by decide) ?_
            refine lv_goto (tgt := 84) hx hb dX12_price_57 (by decide) ?_
            refine zPutI (D := D) (ci := 12) (ty := .int) (C := RX12) (T := TX12) (N := 71) hx hb hts hiX12 tyX12 tyX12_ok nmX12 hown hH hS (zk_30 hF) rfl 0 (by decide) rfl hw0 (fun _ h9 => h9) rfl (by decide +kernel) rfl rfl dX12_price_84 (fun H locs hH hS => ?_)
            obtain ⟨f122, ef122⟩ : ∃ f9 : zFi, f9 = zu fi 30 0 (nI 1) := ⟨_, rfl⟩
            rw [← ef122] at hH
            have q123 : f122 30 2 = nI n := by rw [ef122, zu_n (fun h9 => absurd h9.2 (by decide))]; exact hMt.2.1
            have q124 : f122 30 0 = nI 1 := by rw [ef122]; exact zu_s
            have hMt := zMt.ci (fi' := f122) hMt (fun i9 k9 h9 => by rw [ef122]; exact zu_n (by omega))
            refine lv_aload_n hx hb dX12_price_87 rfl (lv_at hl 1 rfl) ?_
            refine zGetI (D := D) (ci := 12) (C := RX12) (T := TX12) (N := 71) hx hb hts hiX12 hown hH (zk_30 hF) rfl 0 (by decide) rfl hw0 (fun _ h9 => h9) dX12_price_88 q124 ?_
            refine lv_if_le (tgt := 96) hx hb dX12_price_91 (by decide) (fun c125 => absurd c125 (by decide)) (fun c125 => ?_)
            refine lv_iconst (v := nI 0) hx hb dX12_price_94 (by decide) ?_
            refine W.widen (k := 0) (n := 0) (by decide) (by decide) ?_
            exact W.iret (v := nI 0) hx hb hr (fun t9 ht9 hW9 => ⟨⟨nI 0, f122, rfl, ⟨hMt, fun a b h => by rw [ef122, zu_n (by omega)]⟩, zEnd1 hH ht9 hW9⟩, hS.F ht9⟩) hS.2.2 dX12_price_95
        · have zc113 := c113
          replace zc113 := zc_nlt (rfl) (rfl) zc113
          refine lv_iconst (v := nI 1) hx hb dX12_price_40 (by decide) ?_
          refine lv_goto (tgt := 45) hx hb dX12_price_41 (by decide) ?_
          refine lv_istore (lv' := [(5, .int (nI 1)), (0, .ref (τ.1 30)), (1, .int x), (2, .int y), (3, .int z), (4, .int w)]) hx hb dX12_price_45 hl (by decide) rfl (fun ls hl => ?_)
          refine lv_aload_n hx hb dX12_price_47 rfl (lv_at hl 1 rfl) ?_
          refine lv_aload_n hx hb dX12_price_48 rfl (lv_at hl 1 rfl) ?_
          refine lv_iload_n hx hb dX12_price_49 rfl (lv_at hl 2 rfl) ?_
          refine va_calli (va_runV (As := [.int x]) (rest := [.ref (τ.1 30)]) ⟨hx, hb, hml, hown, hts⟩ (m_isThing l hl0 D A sad τ fi fr ol x n hF hMt.2.1 (by omega)) (cwV 1 hts gX12_price_X12_isThing rfl rfl rfl (by decide +kernel) ⟨Nat.le_of_ble_eq_true rfl, Nat.le_of_ble_eq_true rfl⟩) ⟨zQc_bl, zRecv hH (zk_30 hF) rfl, zQc_at hz hS hA hH⟩ rfl rfl hl.1 rfl (lv_room (Nat.le_of_ble_eq_true rfl)) dX12_price_50 ⟨Nat.le_of_ble_eq_true rfl, Nat.le_of_ble_eq_true rfl⟩) hS (fun q _ h => h) (fun q h => h) (fun r126 u9 t9 H1 locs ht9 hvm9 hw hB hz1 hk1 hS => ?_)
          have hH := zMv ht9 hvm9 hB
          generalize H1 = H at hH hS ⊢
          rcases hw with ⟨t, ht, rfl, rfl⟩ | ⟨hno, rfl⟩
          · skip
            refine lv_if_ne (tgt := 60) hx hb dX12_price_53 (by decide) (fun c127 => ?_) (fun c127 => absurd c127 (by decide))
            refine lv_iload hx hb dX12_price_60 (lv_at hl 0 rfl) ?_
            refine lv_if_ne (tgt := 69) hx hb dX12_price_62 (by decide) (fun c128 => ?_) (fun c128 => absurd c128 (by decide))
            obtain ⟨k0, hk4, hk0⟩ := hMt.2.2 t ht
            refine lv_aload_n hx hb dX12_price_69 rfl (lv_at hl 1 rfl) ?_
            refine zGetR (D := D) (ci := 12) (C := RX12) (T := TX12) (N := 71) hx hb hts hiX12 hown hH (zk_30 hF) rfl 8 (by decide) rfl hw2 (fun _ h9 => h9) dX12_price_70 (zr_30_8 hF) ?_
            refine lv_iload_n hx hb dX12_price_73 rfl (lv_at hl 2 rfl) ?_
            refine zIaldN (D := D) hx hb hH (zk_36 hF) (zn_36 hF) (by omega) (by omega) hk0 dX12_price_74 ?_
            refine lv_iconst (v := nI 4) hx hb dX12_price_75 (by decide) ?_
            refine lv_icmp_ne (tgt := 83) hx hb dX12_price_76 (by decide) (fun c129 => ?_) (fun c129 => ?_)
            · have zc129 := c129
              replace zc129 := zc_neq (nI_toInt (by omega)) (nI_toInt (by omega)) zc129
              refine lv_iconst (v := nI 0) hx hb dX12_price_83 (by decide) ?_
              refine zPutI (D := D) (ci := 12) (ty := .int) (C := RX12) (T := TX12) (N := 71) hx hb hts hiX12 tyX12 tyX12_ok nmX12 hown hH hS (zk_30 hF) rfl 0 (by decide) rfl hw0 (fun _ h9 => h9) rfl (by decide +kernel) rfl rfl dX12_price_84 (fun H locs hH hS => ?_)
              obtain ⟨f130, ef130⟩ : ∃ f9 : zFi, f9 = zu fi 30 0 (nI 0) := ⟨_, rfl⟩
              rw [← ef130] at hH
              have q131 : f130 30 2 = nI n := by rw [ef130, zu_n (fun h9 => absurd h9.2 (by decide))]; exact hMt.2.1
              have q132 : f130 36 t = nI k0 := by rw [ef130, zu_n (fun h9 => absurd h9.1 (by decide))]; exact hk0
              have q133 : f130 30 0 = nI 0 := by rw [ef130]; exact zu_s
              have hMt := zMt.ci (fi' := f130) hMt (fun i9 k9 h9 => by rw [ef130]; exact zu_n (by omega))
              refine lv_aload_n hx hb dX12_price_87 rfl (lv_at hl 1 rfl) ?_
              refine zGetI (D := D) (ci := 12) (C := RX12) (T := TX12) (N := 71) hx hb hts hiX12 hown hH (zk_30 hF) rfl 0 (by decide) rfl hw0 (fun _ h9 => h9) dX12_price_88 q133 ?_
              refine lv_if_le (tgt := 96) hx hb dX12_price_91 (by decide) (fun c134 => ?_) (fun c134 => absurd (by decide) c134)
              refine lv_iconst (v := nI 4) hx hb dX12_price_96 (by decide) ?_
              refine lv_iload_n hx hb dX12_price_97 rfl (lv_at hl 2 rfl) ?_
              refine lv_imul hx hb dX12_price_98 ?_
              refine lv_topi (fun v135 ev135 => ?_)
              obtain rfl : v135 = nI (4 * t) := ev135.trans (pk_mul _ _)
              refine lv_aload_n hx hb dX12_price_99 rfl (lv_at hl 1 rfl) ?_
              refine zGetR (D := D) (ci := 12) (C := RX12) (T := TX12) (N := 71) hx hb hts hiX12 hown hH (zk_30 hF) rfl 8 (by decide) rfl hw2 (fun _ h9 => h9) dX12_price_100 (zr_30_8 hF) ?_
              refine lv_iload_n hx hb dX12_price_103 rfl (lv_at hl 2 rfl) ?_
              refine zIaldN (D := D) hx hb hH (zk_36 hF) (zn_36 hF) (by omega) (by omega) q132 dX12_price_104 ?_
              refine lv_iadd hx hb dX12_price_105 ?_
              refine lv_topi (fun v136 ev136 => ?_)
              obtain rfl : v136 = nI (4 * t + k0) := ev136.trans (nI_add _ _)
              refine lv_istore (lv' := [(6, .int (nI (4 * t + k0))), (5, .int (nI 1)), (0, .ref (τ.1 30)), (1, .int (nI t)), (2, .int y), (3, .int z), (4, .int w)]) hx hb dX12_price_106 hl (by decide) rfl (fun ls hl => ?_)
              refine lv_aload_n hx hb dX12_price_108 rfl (lv_at hl 2 rfl) ?_
              refine zGetR (D := D) (ci := 12) (C := RX12) (T := TX12) (N := 71) hx hb hts hiX12 hown hH (zk_30 hF) rfl 9 (by decide) rfl hw3 (fun _ h9 => h9) dX12_price_109 (zr_30_9 hF) ?_
              refine lv_iload hx hb dX12_price_112 (lv_at hl 0 rfl) ?_
              refine lv_iload_n hx hb dX12_price_114 rfl (lv_at hl 4 rfl) ?_
              refine zIastN (D := D) hx hb hH hS (zk_37 hF) (zn_37 hF) (by omega) (by omega) dX12_price_115 (fun H locs hH hS => ?_)
              obtain ⟨f137, ef137⟩ : ∃ f9 : zFi, f9 = zu f130 37 (4 * t + k0) y := ⟨_, rfl⟩
              rw [← ef137] at hH
              have q138 : f137 30 2 = nI n := by rw [ef137, zu_n (fun h9 => absurd h9.1 (by decide))]; exact q131
              have q139 : f137 36 t = nI k0 := by rw [ef137, zu_n (fun h9 => absurd h9.1 (by decide))]; exact q132
              have q140 : f137 30 0 = nI 0 := by rw [ef137, zu_n (fun h9 => absurd h9.1 (by decide))]; exact q133
              have q141 : f137 37 (4 * t + k0) = y := by rw [ef137]; exact zu_s
              have hMt := zMt.ci (fi' := f137) hMt (fun i9 k9 h9 => by rw [ef137]; exact zu_n (by omega))
              refine lv_aload_n hx hb dX12_price_116 rfl (lv_at hl 2 rfl) ?_
              refine zGetR (D := D) (ci := 12) (C := RX12) (T := TX12) (N := 71) hx hb hts hiX12 hown hH (zk_30 hF) rfl 10 (by decide) rfl hw4 (fun _ h9 => h9) dX12_price_117 (zr_30_10 hF) ?_
              refine lv_iload hx hb dX12_price_120 (lv_at hl 0 rfl) ?_
              refine lv_iload_n hx hb dX12_price_122 rfl (lv_at hl 5 rfl) ?_
              refine zIastN (D := D) hx hb hH hS (zk_38 hF) (zn_38 hF) (by omega) (by omega) dX12_price_123 (fun H locs hH hS => ?_)
              obtain ⟨f142, ef142⟩ : ∃ f9 : zFi, f9 = zu f137 38 (4 * t + k0) z := ⟨_, rfl⟩
              rw [← ef142] at hH
              have q143 : f142 30 2 = nI n := by rw [ef142, zu_n (fun h9 => absurd h9.1 (by decide))]; exact q138
              have q144 : f142 36 t = nI k0 := by rw [ef142, zu_n (fun h9 => absurd h9.1 (by decide))]; exact q139
              have q145 : f142 30 0 = nI 0 := by rw [ef142, zu_n (fun h9 => absurd h9.1 (by decide))]; exact q140
              have q146 : f142 37 (4 * t + k0) = y := by rw [ef142, zu_n (fun h9 => absurd h9.1 (by decide))]; exact q141
              have q147 : f142 38 (4 * t + k0) = z := by rw [ef142]; exact zu_s
              have hMt := zMt.ci (fi' := f142) hMt (fun i9 k9 h9 => by rw [ef142]; exact zu_n (by omega))
              refine lv_aload_n hx hb dX12_price_124 rfl (lv_at hl 2 rfl) ?_
              refine zGetR (D := D) (ci := 12) (C := RX12) (T := TX12) (N := 71) hx hb hts hiX12 hown hH (zk_30 hF) rfl 11 (by decide) rfl hw5 (fun _ h9 => h9) dX12_price_125 (zr_30_11 hF) ?_
              refine lv_iload hx hb dX12_price_128 (lv_at hl 0 rfl) ?_
              refine lv_iload hx hb dX12_price_130 (lv_at hl 6 rfl) ?_
              refine zIastN (D := D) hx hb hH hS (zk_39 hF) (zn_39 hF) (by omega) (by omega) dX12_price_132 (fun H locs hH hS => ?_)
              obtain ⟨f148, ef148⟩ : ∃ f9 : zFi, f9 = zu f142 39 (4 * t + k0) w := ⟨_, rfl⟩
              rw [← ef148] at hH
              have q149 : f148 30 2 = nI n := by rw [ef148, zu_n (fun h9 => absurd h9.1 (by decide))]; exact q143
              have q150 : f148 36 t = nI k0 := by rw [ef148, zu_n (fun h9 => absurd h9.1 (by decide))]; exact q144
              have q151 : f148 30 0 = nI 0 := by rw [ef148, zu_n (fun h9 => absurd h9.1 (by decide))]; exact q145
              have q152 : f148 37 (4 * t + k0) = y := by rw [ef148, zu_n (fun h9 => absurd h9.1 (by decide))]; exact q146
              have q153 : f148 38 (4 * t + k0) = z := by rw [ef148, zu_n (fun h9 => absurd h9.1 (by decide))]; exact q147
              have q154 : f148 39 (4 * t + k0) = w := by rw [ef148]; exact zu_s
              have hMt := zMt.ci (fi' := f148) hMt (fun i9 k9 h9 => by rw [ef148]; exact zu_n (by omega))
              refine lv_aload_n hx hb dX12_price_133 rfl (lv_at hl 2 rfl) ?_
              refine zGetR (D := D) (ci := 12) (C := RX12) (T := TX12) (N := 71) hx hb hts hiX12 hown hH (zk_30 hF) rfl 8 (by decide) rfl hw2 (fun _ h9 => h9) dX12_price_134 (zr_30_8 hF) ?_
              refine lv_iload_n hx hb dX12_price_137 rfl (lv_at hl 3 rfl) ?_
              refine lv_dup2_11 hx hb dX12_price_138 rfl rfl ?_
              refine zIaldN (D := D) hx hb hH (zk_36 hF) (zn_36 hF) (by omega) (by omega) q150 dX12_price_139 ?_
              refine lv_iconst (v := nI 1) hx hb dX12_price_140 (by decide) ?_
              refine lv_iadd hx hb dX12_price_141 ?_
              refine lv_topi (fun v155 ev155 => ?_)
              obtain rfl : v155 = nI (k0 + 1) := ev155.trans (nI_add _ _)
              refine zIastN (D := D) hx hb hH hS (zk_36 hF) (zn_36 hF) (by omega) (by omega) dX12_price_142 (fun H locs hH hS => ?_)
              obtain ⟨f156, ef156⟩ : ∃ f9 : zFi, f9 = zu f148 36 t (nI (k0 + 1)) := ⟨_, rfl⟩
              rw [← ef156] at hH
              have q157 : f156 30 2 = nI n := by rw [ef156, zu_n (fun h9 => absurd h9.1 (by decide))]; exact q149
              have q158 : f156 30 0 = nI 0 := by rw [ef156, zu_n (fun h9 => absurd h9.1 (by decide))]; exact q151
              have q159 : f156 37 (4 * t + k0) = y := by rw [ef156, zu_n (fun h9 => absurd h9.1 (by decide))]; exact q152
              have q160 : f156 38 (4 * t + k0) = z := by rw [ef156, zu_n (fun h9 => absurd h9.1 (by decide))]; exact q153
              have q161 : f156 39 (4 * t + k0) = w := by rw [ef156, zu_n (fun h9 => absurd h9.1 (by decide))]; exact q154
              have q162 : f156 36 t = nI (k0 + 1) := by rw [ef156]; exact zu_s
              refine lv_aload_n hx hb dX12_price_143 rfl (lv_at hl 2 rfl) ?_
              refine zGetR (D := D) (ci := 12) (C := RX12) (T := TX12) (N := 71) hx hb hts hiX12 hown hH (zk_30 hF) rfl 8 (by decide) rfl hw2 (fun _ h9 => h9) dX12_price_144 (zr_30_8 hF) ?_
              refine lv_iload_n hx hb dX12_price_147 rfl (lv_at hl 3 rfl) ?_
              refine zIaldN (D := D) hx hb hH (zk_36 hF) (zn_36 hF) (by omega) (by omega) q162 dX12_price_148 ?_
              refine W.widen (k := 0) (n := 0) (by decide) (by decide) ?_
              exact W.iret (v := nI (k0 + 1)) hx hb hr (fun t9 ht9 hW9 => ⟨⟨nI (k0 + 1), f156, rfl, ⟨hMt0.pr (k := k0 + 1) (t := t) (by rw [ef156, zu_n (by omega), ef148, zu_n (by omega), ef142, zu_n (by omega), ef137, zu_n (by omega), ef130, zu_n (by omega)]) (by omega) q162 (fun j h => by rw [ef156, zu_n (by omega), ef148, zu_n (by omega), ef142, zu_n (by omega), ef137, zu_n (by omega), ef130, zu_n (by omega)]), fun a b h => by rw [ef156, zu_n (by omega), ef148, zu_n (by omega), ef142, zu_n (by omega), ef137, zu_n (by omega), ef130, zu_n (by omega)]⟩, zEnd1 hH ht9 hW9⟩, hS.F ht9⟩) hS.2.2 dX12_price_149
            · have zc129 := c129
              replace zc129 := zc_eq (nI_toInt (by omega)) (nI_toInt (by omega)) zc129
              refine lv_iconst (v := nI 3) hx hb dX12_price_79 (by decide) ?_
              refine lv_goto (tgt := 84) hx hb dX12_price_80 (by decide) ?_
              refine zPutI (D := D) (ci := 12) (ty := .int) (C := RX12) (T := TX12) (N := 71) hx hb hts hiX12 tyX12 tyX12_ok nmX12 hown hH hS (zk_30 hF) rfl 0 (by decide) rfl hw0 (fun _ h9 => h9) rfl (by decide +kernel) rfl rfl dX12_price_84 (fun H locs hH hS => ?_)
              obtain ⟨f163, ef163⟩ : ∃ f9 : zFi, f9 = zu fi 30 0 (nI 3) := ⟨_, rfl⟩
              rw [← ef163] at hH
              have q164 : f163 30 2 = nI n := by rw [ef163, zu_n (fun h9 => absurd h9.2 (by decide))]; exact hMt.2.1
              have q165 : f163 36 t = nI k0 := by rw [ef163, zu_n (fun h9 => absurd h9.1 (by decide))]; exact hk0
              have q166 : f163 30 0 = nI 3 := by rw [ef163]; exact zu_s
              have hMt := zMt.ci (fi' := f163) hMt (fun i9 k9 h9 => by rw [ef163]; exact zu_n (by omega))
              refine lv_aload_n hx hb dX12_price_87 rfl (lv_at hl 1 rfl) ?_
              refine zGetI (D := D) (ci := 12) (C := RX12) (T := TX12) (N := 71) hx hb hts hiX12 hown hH (zk_30 hF) rfl 0 (by decide) rfl hw0 (fun _ h9 => h9) dX12_price_88 q166 ?_
              refine lv_if_le (tgt := 96) hx hb dX12_price_91 (by decide) (fun c167 => absurd c167 (by decide)) (fun c167 => ?_)
              refine lv_iconst (v := nI 0) hx hb dX12_price_94 (by decide) ?_
              refine W.widen (k := 0) (n := 0) (by decide) (by decide) ?_
              exact W.iret (v := nI 0) hx hb hr (fun t9 ht9 hW9 => ⟨⟨nI 0, f163, rfl, ⟨hMt, fun a b h => by rw [ef163, zu_n (by omega)]⟩, zEnd1 hH ht9 hW9⟩, hS.F ht9⟩) hS.2.2 dX12_price_95
          · skip
            refine lv_if_ne (tgt := 60) hx hb dX12_price_53 (by decide) (fun c168 => absurd (by decide) c168) (fun c168 => ?_)
            refine lv_iconst (v := nI 1) hx hb dX12_price_56 (by decide) ?_
            refine lv_goto (tgt := 84) hx hb dX12_price_57 (by decide) ?_
            refine zPutI (D := D) (ci := 12) (ty := .int) (C := RX12) (T := TX12) (N := 71) hx hb hts hiX12 tyX12 tyX12_ok nmX12 hown hH hS (zk_30 hF) rfl 0 (by decide) rfl hw0 (fun _ h9 => h9) rfl (by decide +kernel) rfl rfl dX12_price_84 (fun H locs hH hS => ?_)
            obtain ⟨f169, ef169⟩ : ∃ f9 : zFi, f9 = zu fi 30 0 (nI 1) := ⟨_, rfl⟩
            rw [← ef169] at hH
            have q170 : f169 30 2 = nI n := by rw [ef169, zu_n (fun h9 => absurd h9.2 (by decide))]; exact hMt.2.1
            have q171 : f169 30 0 = nI 1 := by rw [ef169]; exact zu_s
            have hMt := zMt.ci (fi' := f169) hMt (fun i9 k9 h9 => by rw [ef169]; exact zu_n (by omega))
            refine lv_aload_n hx hb dX12_price_87 rfl (lv_at hl 1 rfl) ?_
            refine zGetI (D := D) (ci := 12) (C := RX12) (T := TX12) (N := 71) hx hb hts hiX12 hown hH (zk_30 hF) rfl 0 (by decide) rfl hw0 (fun _ h9 => h9) dX12_price_88 q171 ?_
            refine lv_if_le (tgt := 96) hx hb dX12_price_91 (by decide) (fun c172 => absurd c172 (by decide)) (fun c172 => ?_)
            refine lv_iconst (v := nI 0) hx hb dX12_price_94 (by decide) ?_
            refine W.widen (k := 0) (n := 0) (by decide) (by decide) ?_
            exact W.iret (v := nI 0) hx hb hr (fun t9 ht9 hW9 => ⟨⟨nI 0, f169, rfl, ⟨hMt, fun a b h => by rw [ef169, zu_n (by omega)]⟩, zEnd1 hH ht9 hW9⟩, hS.F ht9⟩) hS.2.2 dX12_price_95
      · skip
        replace hn111 := zWi0 (rfl) (nI_toInt (by omega)) (nI_toInt (by omega)) hn111
        refine lv_if_eq (tgt := 44) hx hb dX12_price_31 (by decide) (fun c173 => ?_) (fun c173 => absurd (by decide) c173)
        refine lv_iconst (v := nI 0) hx hb dX12_price_44 (by decide) ?_
        refine lv_istore (lv' := [(5, .int (nI 0)), (0, .ref (τ.1 30)), (1, .int x), (2, .int y), (3, .int z), (4, .int w)]) hx hb dX12_price_45 hl (by decide) rfl (fun ls hl => ?_)
        refine lv_aload_n hx hb dX12_price_47 rfl (lv_at hl 1 rfl) ?_
        refine lv_aload_n hx hb dX12_price_48 rfl (lv_at hl 1 rfl) ?_
        refine lv_iload_n hx hb dX12_price_49 rfl (lv_at hl 2 rfl) ?_
        refine va_calli (va_runV (As := [.int x]) (rest := [.ref (τ.1 30)]) ⟨hx, hb, hml, hown, hts⟩ (m_isThing l hl0 D A sad τ fi fr ol x n hF hMt.2.1 (by omega)) (cwV 1 hts gX12_price_X12_isThing rfl rfl rfl (by decide +kernel) ⟨Nat.le_of_ble_eq_true rfl, Nat.le_of_ble_eq_true rfl⟩) ⟨zQc_bl, zRecv hH (zk_30 hF) rfl, zQc_at hz hS hA hH⟩ rfl rfl hl.1 rfl (lv_room (Nat.le_of_ble_eq_true rfl)) dX12_price_50 ⟨Nat.le_of_ble_eq_true rfl, Nat.le_of_ble_eq_true rfl⟩) hS (fun q _ h => h) (fun q h => h) (fun r174 u9 t9 H1 locs ht9 hvm9 hw hB hz1 hk1 hS => ?_)
        have hH := zMv ht9 hvm9 hB
        generalize H1 = H at hH hS ⊢
        rcases hw with ⟨t, ht, rfl, rfl⟩ | ⟨hno, rfl⟩
        · skip
          refine lv_if_ne (tgt := 60) hx hb dX12_price_53 (by decide) (fun c175 => ?_) (fun c175 => absurd c175 (by decide))
          refine lv_iload hx hb dX12_price_60 (lv_at hl 0 rfl) ?_
          refine lv_if_ne (tgt := 69) hx hb dX12_price_62 (by decide) (fun c176 => absurd (by decide) c176) (fun c176 => ?_)
          refine lv_iconst (v := nI 2) hx hb dX12_price_65 (by decide) ?_
          refine lv_goto (tgt := 84) hx hb dX12_price_66 (by decide) ?_
          refine zPutI (D := D) (ci := 12) (ty := .int) (C := RX12) (T := TX12) (N := 71) hx hb hts hiX12 tyX12 tyX12_ok nmX12 hown hH hS (zk_30 hF) rfl 0 (by decide) rfl hw0 (fun _ h9 => h9) rfl (by decide +kernel) rfl rfl dX12_price_84 (fun H locs hH hS => ?_)
          obtain ⟨f177, ef177⟩ : ∃ f9 : zFi, f9 = zu fi 30 0 (nI 2) := ⟨_, rfl⟩
          rw [← ef177] at hH
          have q178 : f177 30 2 = nI n := by rw [ef177, zu_n (fun h9 => absurd h9.2 (by decide))]; exact hMt.2.1
          have q179 : f177 30 0 = nI 2 := by rw [ef177]; exact zu_s
          have hMt := zMt.ci (fi' := f177) hMt (fun i9 k9 h9 => by rw [ef177]; exact zu_n (by omega))
          refine lv_aload_n hx hb dX12_price_87 rfl (lv_at hl 1 rfl) ?_
          refine zGetI (D := D) (ci := 12) (C := RX12) (T := TX12) (N := 71) hx hb hts hiX12 hown hH (zk_30 hF) rfl 0 (by decide) rfl hw0 (fun _ h9 => h9) dX12_price_88 q179 ?_
          refine lv_if_le (tgt := 96) hx hb dX12_price_91 (by decide) (fun c180 => absurd c180 (by decide)) (fun c180 => ?_)
          refine lv_iconst (v := nI 0) hx hb dX12_price_94 (by decide) ?_
          refine W.widen (k := 0) (n := 0) (by decide) (by decide) ?_
          exact W.iret (v := nI 0) hx hb hr (fun t9 ht9 hW9 => ⟨⟨nI 0, f177, rfl, ⟨hMt, fun a b h => by rw [ef177, zu_n (by omega)]⟩, zEnd1 hH ht9 hW9⟩, hS.F ht9⟩) hS.2.2 dX12_price_95
        · skip
          refine lv_if_ne (tgt := 60) hx hb dX12_price_53 (by decide) (fun c181 => absurd (by decide) c181) (fun c181 => ?_)
          refine lv_iconst (v := nI 1) hx hb dX12_price_56 (by decide) ?_
          refine lv_goto (tgt := 84) hx hb dX12_price_57 (by decide) ?_
          refine zPutI (D := D) (ci := 12) (ty := .int) (C := RX12) (T := TX12) (N := 71) hx hb hts hiX12 tyX12 tyX12_ok nmX12 hown hH hS (zk_30 hF) rfl 0 (by decide) rfl hw0 (fun _ h9 => h9) rfl (by decide +kernel) rfl rfl dX12_price_84 (fun H locs hH hS => ?_)
          obtain ⟨f182, ef182⟩ : ∃ f9 : zFi, f9 = zu fi 30 0 (nI 1) := ⟨_, rfl⟩
          rw [← ef182] at hH
          have q183 : f182 30 2 = nI n := by rw [ef182, zu_n (fun h9 => absurd h9.2 (by decide))]; exact hMt.2.1
          have q184 : f182 30 0 = nI 1 := by rw [ef182]; exact zu_s
          have hMt := zMt.ci (fi' := f182) hMt (fun i9 k9 h9 => by rw [ef182]; exact zu_n (by omega))
          refine lv_aload_n hx hb dX12_price_87 rfl (lv_at hl 1 rfl) ?_
          refine zGetI (D := D) (ci := 12) (C := RX12) (T := TX12) (N := 71) hx hb hts hiX12 hown hH (zk_30 hF) rfl 0 (by decide) rfl hw0 (fun _ h9 => h9) dX12_price_88 q184 ?_
          refine lv_if_le (tgt := 96) hx hb dX12_price_91 (by decide) (fun c185 => absurd c185 (by decide)) (fun c185 => ?_)
          refine lv_iconst (v := nI 0) hx hb dX12_price_94 (by decide) ?_
          refine W.widen (k := 0) (n := 0) (by decide) (by decide) ?_
          exact W.iret (v := nI 0) hx hb hr (fun t9 ht9 hW9 => ⟨⟨nI 0, f182, rfl, ⟨hMt, fun a b h => by rw [ef182, zu_n (by omega)]⟩, zEnd1 hH ht9 hW9⟩, hS.F ht9⟩) hS.2.2 dX12_price_95
    · skip
      replace hn107 := zWi0 (rfl) (nI_toInt (by omega)) (nI_toInt (by omega)) hn107
      refine lv_if_eq (tgt := 44) hx hb dX12_price_19 (by decide) (fun c186 => ?_) (fun c186 => absurd (by decide) c186)
      refine lv_iconst (v := nI 0) hx hb dX12_price_44 (by decide) ?_
      refine lv_istore (lv' := [(5, .int (nI 0)), (0, .ref (τ.1 30)), (1, .int x), (2, .int y), (3, .int z), (4, .int w)]) hx hb dX12_price_45 hl (by decide) rfl (fun ls hl => ?_)
      refine lv_aload_n hx hb dX12_price_47 rfl (lv_at hl 1 rfl) ?_
      refine lv_aload_n hx hb dX12_price_48 rfl (lv_at hl 1 rfl) ?_
      refine lv_iload_n hx hb dX12_price_49 rfl (lv_at hl 2 rfl) ?_
      refine va_calli (va_runV (As := [.int x]) (rest := [.ref (τ.1 30)]) ⟨hx, hb, hml, hown, hts⟩ (m_isThing l hl0 D A sad τ fi fr ol x n hF hMt.2.1 (by omega)) (cwV 1 hts gX12_price_X12_isThing rfl rfl rfl (by decide +kernel) ⟨Nat.le_of_ble_eq_true rfl, Nat.le_of_ble_eq_true rfl⟩) ⟨zQc_bl, zRecv hH (zk_30 hF) rfl, zQc_at hz hS hA hH⟩ rfl rfl hl.1 rfl (lv_room (Nat.le_of_ble_eq_true rfl)) dX12_price_50 ⟨Nat.le_of_ble_eq_true rfl, Nat.le_of_ble_eq_true rfl⟩) hS (fun q _ h => h) (fun q h => h) (fun r187 u9 t9 H1 locs ht9 hvm9 hw hB hz1 hk1 hS => ?_)
      have hH := zMv ht9 hvm9 hB
      generalize H1 = H at hH hS ⊢
      rcases hw with ⟨t, ht, rfl, rfl⟩ | ⟨hno, rfl⟩
      · skip
        refine lv_if_ne (tgt := 60) hx hb dX12_price_53 (by decide) (fun c188 => ?_) (fun c188 => absurd c188 (by decide))
        refine lv_iload hx hb dX12_price_60 (lv_at hl 0 rfl) ?_
        refine lv_if_ne (tgt := 69) hx hb dX12_price_62 (by decide) (fun c189 => absurd (by decide) c189) (fun c189 => ?_)
        refine lv_iconst (v := nI 2) hx hb dX12_price_65 (by decide) ?_
        refine lv_goto (tgt := 84) hx hb dX12_price_66 (by decide) ?_
        refine zPutI (D := D) (ci := 12) (ty := .int) (C := RX12) (T := TX12) (N := 71) hx hb hts hiX12 tyX12 tyX12_ok nmX12 hown hH hS (zk_30 hF) rfl 0 (by decide) rfl hw0 (fun _ h9 => h9) rfl (by decide +kernel) rfl rfl dX12_price_84 (fun H locs hH hS => ?_)
        obtain ⟨f190, ef190⟩ : ∃ f9 : zFi, f9 = zu fi 30 0 (nI 2) := ⟨_, rfl⟩
        rw [← ef190] at hH
        have q191 : f190 30 2 = nI n := by rw [ef190, zu_n (fun h9 => absurd h9.2 (by decide))]; exact hMt.2.1
        have q192 : f190 30 0 = nI 2 := by rw [ef190]; exact zu_s
        have hMt := zMt.ci (fi' := f190) hMt (fun i9 k9 h9 => by rw [ef190]; exact zu_n (by omega))
        refine lv_aload_n hx hb dX12_price_87 rfl (lv_at hl 1 rfl) ?_
        refine zGetI (D := D) (ci := 12) (C := RX12) (T := TX12) (N := 71) hx hb hts hiX12 hown hH (zk_30 hF) rfl 0 (by decide) rfl hw0 (fun _ h9 => h9) dX12_price_88 q192 ?_
        refine lv_if_le (tgt := 96) hx hb dX12_price_91 (by decide) (fun c193 => absurd c193 (by decide)) (fun c193 => ?_)
        refine lv_iconst (v := nI 0) hx hb dX12_price_94 (by decide) ?_
        refine W.widen (k := 0) (n := 0) (by decide) (by decide) ?_
        exact W.iret (v := nI 0) hx hb hr (fun t9 ht9 hW9 => ⟨⟨nI 0, f190, rfl, ⟨hMt, fun a b h => by rw [ef190, zu_n (by omega)]⟩, zEnd1 hH ht9 hW9⟩, hS.F ht9⟩) hS.2.2 dX12_price_95
      · skip
        refine lv_if_ne (tgt := 60) hx hb dX12_price_53 (by decide) (fun c194 => absurd (by decide) c194) (fun c194 => ?_)
        refine lv_iconst (v := nI 1) hx hb dX12_price_56 (by decide) ?_
        refine lv_goto (tgt := 84) hx hb dX12_price_57 (by decide) ?_
        refine zPutI (D := D) (ci := 12) (ty := .int) (C := RX12) (T := TX12) (N := 71) hx hb hts hiX12 tyX12 tyX12_ok nmX12 hown hH hS (zk_30 hF) rfl 0 (by decide) rfl hw0 (fun _ h9 => h9) rfl (by decide +kernel) rfl rfl dX12_price_84 (fun H locs hH hS => ?_)
        obtain ⟨f195, ef195⟩ : ∃ f9 : zFi, f9 = zu fi 30 0 (nI 1) := ⟨_, rfl⟩
        rw [← ef195] at hH
        have q196 : f195 30 2 = nI n := by rw [ef195, zu_n (fun h9 => absurd h9.2 (by decide))]; exact hMt.2.1
        have q197 : f195 30 0 = nI 1 := by rw [ef195]; exact zu_s
        have hMt := zMt.ci (fi' := f195) hMt (fun i9 k9 h9 => by rw [ef195]; exact zu_n (by omega))
        refine lv_aload_n hx hb dX12_price_87 rfl (lv_at hl 1 rfl) ?_
        refine zGetI (D := D) (ci := 12) (C := RX12) (T := TX12) (N := 71) hx hb hts hiX12 hown hH (zk_30 hF) rfl 0 (by decide) rfl hw0 (fun _ h9 => h9) dX12_price_88 q197 ?_
        refine lv_if_le (tgt := 96) hx hb dX12_price_91 (by decide) (fun c198 => absurd c198 (by decide)) (fun c198 => ?_)
        refine lv_iconst (v := nI 0) hx hb dX12_price_94 (by decide) ?_
        refine W.widen (k := 0) (n := 0) (by decide) (by decide) ?_
        exact W.iret (v := nI 0) hx hb hr (fun t9 ht9 hW9 => ⟨⟨nI 0, f195, rfl, ⟨hMt, fun a b h => by rw [ef195, zu_n (by omega)]⟩, zEnd1 hH ht9 hW9⟩, hS.F ht9⟩) hS.2.2 dX12_price_95
  · skip
    replace hn103 := zWi0 (rfl) (nI_toInt (by omega)) (nI_toInt (by omega)) hn103
    refine lv_if_eq (tgt := 44) hx hb dX12_price_8 (by decide) (fun c199 => ?_) (fun c199 => absurd (by decide) c199)
    refine lv_iconst (v := nI 0) hx hb dX12_price_44 (by decide) ?_
    refine lv_istore (lv' := [(5, .int (nI 0)), (0, .ref (τ.1 30)), (1, .int x), (2, .int y), (3, .int z), (4, .int w)]) hx hb dX12_price_45 hl (by decide) rfl (fun ls hl => ?_)
    refine lv_aload_n hx hb dX12_price_47 rfl (lv_at hl 1 rfl) ?_
    refine lv_aload_n hx hb dX12_price_48 rfl (lv_at hl 1 rfl) ?_
    refine lv_iload_n hx hb dX12_price_49 rfl (lv_at hl 2 rfl) ?_
    refine va_calli (va_runV (As := [.int x]) (rest := [.ref (τ.1 30)]) ⟨hx, hb, hml, hown, hts⟩ (m_isThing l hl0 D A sad τ fi fr ol x n hF hMt.2.1 (by omega)) (cwV 1 hts gX12_price_X12_isThing rfl rfl rfl (by decide +kernel) ⟨Nat.le_of_ble_eq_true rfl, Nat.le_of_ble_eq_true rfl⟩) ⟨zQc_bl, zRecv hH (zk_30 hF) rfl, zQc_at hz hS hA hH⟩ rfl rfl hl.1 rfl (lv_room (Nat.le_of_ble_eq_true rfl)) dX12_price_50 ⟨Nat.le_of_ble_eq_true rfl, Nat.le_of_ble_eq_true rfl⟩) hS (fun q _ h => h) (fun q h => h) (fun r200 u9 t9 H1 locs ht9 hvm9 hw hB hz1 hk1 hS => ?_)
    have hH := zMv ht9 hvm9 hB
    generalize H1 = H at hH hS ⊢
    rcases hw with ⟨t, ht, rfl, rfl⟩ | ⟨hno, rfl⟩
    · skip
      refine lv_if_ne (tgt := 60) hx hb dX12_price_53 (by decide) (fun c201 => ?_) (fun c201 => absurd c201 (by decide))
      refine lv_iload hx hb dX12_price_60 (lv_at hl 0 rfl) ?_
      refine lv_if_ne (tgt := 69) hx hb dX12_price_62 (by decide) (fun c202 => absurd (by decide) c202) (fun c202 => ?_)
      refine lv_iconst (v := nI 2) hx hb dX12_price_65 (by decide) ?_
      refine lv_goto (tgt := 84) hx hb dX12_price_66 (by decide) ?_
      refine zPutI (D := D) (ci := 12) (ty := .int) (C := RX12) (T := TX12) (N := 71) hx hb hts hiX12 tyX12 tyX12_ok nmX12 hown hH hS (zk_30 hF) rfl 0 (by decide) rfl hw0 (fun _ h9 => h9) rfl (by decide +kernel) rfl rfl dX12_price_84 (fun H locs hH hS => ?_)
      obtain ⟨f203, ef203⟩ : ∃ f9 : zFi, f9 = zu fi 30 0 (nI 2) := ⟨_, rfl⟩
      rw [← ef203] at hH
      have q204 : f203 30 2 = nI n := by rw [ef203, zu_n (fun h9 => absurd h9.2 (by decide))]; exact hMt.2.1
      have q205 : f203 30 0 = nI 2 := by rw [ef203]; exact zu_s
      have hMt := zMt.ci (fi' := f203) hMt (fun i9 k9 h9 => by rw [ef203]; exact zu_n (by omega))
      refine lv_aload_n hx hb dX12_price_87 rfl (lv_at hl 1 rfl) ?_
      refine zGetI (D := D) (ci := 12) (C := RX12) (T := TX12) (N := 71) hx hb hts hiX12 hown hH (zk_30 hF) rfl 0 (by decide) rfl hw0 (fun _ h9 => h9) dX12_price_88 q205 ?_
      refine lv_if_le (tgt := 96) hx hb dX12_price_91 (by decide) (fun c206 => absurd c206 (by decide)) (fun c206 => ?_)
      refine lv_iconst (v := nI 0) hx hb dX12_price_94 (by decide) ?_
      refine W.widen (k := 0) (n := 0) (by decide) (by decide) ?_
      exact W.iret (v := nI 0) hx hb hr (fun t9 ht9 hW9 => ⟨⟨nI 0, f203, rfl, ⟨hMt, fun a b h => by rw [ef203, zu_n (by omega)]⟩, zEnd1 hH ht9 hW9⟩, hS.F ht9⟩) hS.2.2 dX12_price_95
    · skip
      refine lv_if_ne (tgt := 60) hx hb dX12_price_53 (by decide) (fun c207 => absurd (by decide) c207) (fun c207 => ?_)
      refine lv_iconst (v := nI 1) hx hb dX12_price_56 (by decide) ?_
      refine lv_goto (tgt := 84) hx hb dX12_price_57 (by decide) ?_
      refine zPutI (D := D) (ci := 12) (ty := .int) (C := RX12) (T := TX12) (N := 71) hx hb hts hiX12 tyX12 tyX12_ok nmX12 hown hH hS (zk_30 hF) rfl 0 (by decide) rfl hw0 (fun _ h9 => h9) rfl (by decide +kernel) rfl rfl dX12_price_84 (fun H locs hH hS => ?_)
      obtain ⟨f208, ef208⟩ : ∃ f9 : zFi, f9 = zu fi 30 0 (nI 1) := ⟨_, rfl⟩
      rw [← ef208] at hH
      have q209 : f208 30 2 = nI n := by rw [ef208, zu_n (fun h9 => absurd h9.2 (by decide))]; exact hMt.2.1
      have q210 : f208 30 0 = nI 1 := by rw [ef208]; exact zu_s
      have hMt := zMt.ci (fi' := f208) hMt (fun i9 k9 h9 => by rw [ef208]; exact zu_n (by omega))
      refine lv_aload_n hx hb dX12_price_87 rfl (lv_at hl 1 rfl) ?_
      refine zGetI (D := D) (ci := 12) (C := RX12) (T := TX12) (N := 71) hx hb hts hiX12 hown hH (zk_30 hF) rfl 0 (by decide) rfl hw0 (fun _ h9 => h9) dX12_price_88 q210 ?_
      refine lv_if_le (tgt := 96) hx hb dX12_price_91 (by decide) (fun c211 => absurd c211 (by decide)) (fun c211 => ?_)
      refine lv_iconst (v := nI 0) hx hb dX12_price_94 (by decide) ?_
      refine W.widen (k := 0) (n := 0) (by decide) (by decide) ?_
      exact W.iret (v := nI 0) hx hb hr (fun t9 ht9 hW9 => ⟨⟨nI 0, f208, rfl, ⟨hMt, fun a b h => by rw [ef208, zu_n (by omega)]⟩, zEnd1 hH ht9 hW9⟩, hS.F ht9⟩) hS.2.2 dX12_price_95
/-- the model's comings -/
def zMc (fi : zFi) (n c : Nat) : Prop := c ≤ 60 ∧ fi 30 13 = nI c ∧ ∀ j, j < c → (∃ t, t < n ∧ fi 41 j = nI t) ∧ ∃ k, k ≤ 10000 ∧ fi 43 j = nI k
theorem zMc.ci {fi fi' : zFi} {n c : Nat} (h : zMc fi n c) (hi : ∀ i k, (i = 30 ∧ k = 13) ∨ i = 41 ∨ i = 43 → fi' i k = fi i k) : zMc fi' n c := ⟨h.1, by rw [hi 30 13 (by omega)]; exact h.2.1, fun t q => by rw [hi 41 t (by omega), hi 43 t (by omega)]; exact h.2.2 t q⟩
theorem zMc.add {fi fi' : zFi} {n c t : Nat} (h : zMc fi n c) (hc : c < 60) (ht : t < n) (e : fi' 30 13 = nI (c + 1)) (e2 : fi' 41 c = nI t) (e3 : ∃ k, k ≤ 10000 ∧ fi' 43 c = nI k) (ho : ∀ i j, (i = 41 ∨ i = 43) → j ≠ c → fi' i j = fi i j) : zMc fi' n (c + 1) := ⟨by omega, e, fun j q => by
  by_cases hj : j = c
  · subst hj; exact ⟨⟨t, ht, e2⟩, e3⟩
  · rw [ho 41 j (by omega) hj, ho 43 j (by omega) hj]; exact h.2.2 j (by omega)⟩
set_option maxHeartbeats 4000000 in
set_option maxRecDepth 100000 in
/-- coming -/
theorem m_coming (l : Launch) (hl0 : l.stackTraces = false) (D : va_G) (A : Nat → Prop) (sad : Nat → Nat) (τ : zTy) (fi : zFi) (fr : zFr) (ol : Int64) (x y z : Int32) (td : Nat) (htd : fi 30 1 = nI td) (htd9 : td ≤ 999) (hF : zFix τ fr) (n : Nat) (hMt : zMt fi n) (c : Nat) (hMc : zMc fi n c) : Met l yX12_coming wsX12_coming ({ frames := 1, cells := 0, slots := 0, locals := 22 }) (va_Pc [.ref (τ.1 30), .int x, .int y, .int z] (zQc D A sad τ fi fr ol)) (va_Qi (fun (r : Int32) (u : zFi) => (∃ k, k ≤ c + 1 ∧ zMc u n k) ∧ ∀ a b, ¬ (a = 41 ∨ a = 42 ∨ a = 43 ∨ (a = 30 ∧ (b = 0 ∨ b = 13))) → u a b = fi a b) (fun (u : zFi) (t : State) => zH D A τ u fr ol t t.heap) A) 0 0 A := by
  refine Met.ofW (cc := cX12_coming) (maxL := 4) (ret := (some .int)) (by decide) rfl ?_
  intro p9 e9 s m args below meth c9 s₁ B hml hv
  obtain ⟨rfl, hz, hH, hA⟩ := hv
  have hx := B.exec
  have hb := B.bytes
  have hr := B.returns
  have hts := atoms_spec (ws := wsX12_coming) B.pre
  have hown : s.vm.findClass RX12 = some m.cls := findClass_of_methodNamed B.named
  have hlocks := B.notSynchronized
  have hS : va_S A s.heap s.heap [] := va_S.rf
  have hl := lv_entry ([.ref (τ.1 30), .int x, .int y, .int z]) (n := 4) (Nat.le_of_ble_eq_true rfl)
  rw [lg_entry_eq]
  generalize (lg_sl ([.ref (τ.1 30), .int x, .int y, .int z]) ++ List.replicate (4 - (lg_sl ([.ref (τ.1 30), .int x, .int y, .int z])).length) Slot.unset).toArray = ls at hl ⊢
  have hl : lv_has ls 4 [(0, .ref (τ.1 30)), (1, .int x), (2, .int y), (3, .int z)] := hl
  have hm30 := hMt.1
  have hc60 := hMc.1
  have hMc0 := hMc
  have hiX12 : ∀ w ∈ u_ws RX12 TX12 71, w ∈ wsX12_coming := fun _ h => List.mem_cons_of_mem _ (List.mem_append_right _ h)
  have hw1 := hts (.fieldLink RX12 200 "PostHouseModel" "today" "I") (by decide +kernel)
  have hw2 := hts (.fieldLink RX12 165 "PostHouseModel" "thrown" "I") (by decide +kernel)
  have hw3 := hts (.fieldLink RX12 203 "PostHouseModel" "comings" "I") (by decide +kernel)
  have hw4 := hts (.fieldLink RX12 40 "PostHouseModel" "comingThing" "[I") (by decide +kernel)
  have hw5 := hts (.fieldLink RX12 43 "PostHouseModel" "comingDay" "[I") (by decide +kernel)
  have hw6 := hts (.fieldLink RX12 46 "PostHouseModel" "comingMany" "[I") (by decide +kernel)
  refine lv_aload_n hx hb dX12_coming_0 rfl (lv_at hl 0 rfl) ?_
  refine lv_aload_n hx hb dX12_coming_1 rfl (lv_at hl 0 rfl) ?_
  refine lv_iload_n hx hb dX12_coming_2 rfl (lv_at hl 1 rfl) ?_
  refine va_calli (va_runV (As := [.int x]) (rest := [.ref (τ.1 30)]) ⟨hx, hb, hml, hown, hts⟩ (m_isThing l hl0 D A sad τ fi fr ol x n hF hMt.2.1 (by omega)) (cwV 1 hts gX12_coming_X12_isThing rfl rfl rfl (by decide +kernel) ⟨Nat.le_of_ble_eq_true rfl, Nat.le_of_ble_eq_true rfl⟩) ⟨zQc_bl, zRecv hH (zk_30 hF) rfl, zQc_at hz hS hA hH⟩ rfl rfl hl.1 rfl (lv_room (Nat.le_of_ble_eq_true rfl)) dX12_coming_3 ⟨Nat.le_of_ble_eq_true rfl, Nat.le_of_ble_eq_true rfl⟩) hS (fun q _ h => h) (fun q h => h) (fun r101 u9 t9 H1 locs ht9 hvm9 hw hB hz1 hk1 hS => ?_)
  have hH := zMv ht9 hvm9 hB
  generalize H1 = H at hH hS ⊢
  rcases hw with ⟨t, ht, rfl, rfl⟩ | ⟨hno, rfl⟩
  · skip
    refine lv_if_ne (tgt := 13) hx hb dX12_coming_6 (by decide) (fun c102 => ?_) (fun c102 => absurd c102 (by decide))
    refine lv_iload_n hx hb dX12_coming_13 rfl (lv_at hl 2 rfl) ?_
    refine lv_aload_n hx hb dX12_coming_14 rfl (lv_at hl 0 rfl) ?_
    refine zGetI (D := D) (ci := 12) (C := RX12) (T := TX12) (N := 71) hx hb hts hiX12 hown hH (zk_30 hF) rfl 1 (by decide) rfl hw1 (fun _ h9 => h9) dX12_coming_15 htd ?_
    refine lv_icmp_le (tgt := 39) hx hb dX12_coming_18 (by decide) (fun c103 => ?_) (fun c103 => ?_)
    · have zc103 := c103
      replace zc103 := zc_le (rfl) (nI_toInt (by omega)) zc103
      refine lv_iconst (v := nI 2) hx hb dX12_coming_39 (by decide) ?_
      refine lv_goto (tgt := 57) hx hb dX12_coming_40 (by decide) ?_
      refine zPutI (D := D) (ci := 12) (ty := .int) (C := RX12) (T := TX12) (N := 71) hx hb hts hiX12 tyX12 tyX12_ok nmX12 hown hH hS (zk_30 hF) rfl 0 (by decide) rfl hw2 (fun _ h9 => h9) rfl (by decide +kernel) rfl rfl dX12_coming_57 (fun H locs hH hS => ?_)
      obtain ⟨f104, ef104⟩ : ∃ f9 : zFi, f9 = zu fi 30 0 (nI 2) := ⟨_, rfl⟩
      rw [← ef104] at hH
      have q105 : f104 30 2 = nI n := by rw [ef104, zu_n (fun h9 => absurd h9.2 (by decide))]; exact hMt.2.1
      have q106 : f104 30 13 = nI c := by rw [ef104, zu_n (fun h9 => absurd h9.2 (by decide))]; exact hMc.2.1
      have q107 : f104 30 1 = nI td := by rw [ef104, zu_n (fun h9 => absurd h9.2 (by decide))]; exact htd
      have q108 : f104 30 0 = nI 2 := by rw [ef104]; exact zu_s
      have hMc := zMc.ci (fi' := f104) hMc (fun i9 k9 h9 => by rw [ef104]; exact zu_n (by omega))
      refine lv_aload_n hx hb dX12_coming_60 rfl (lv_at hl 0 rfl) ?_
      refine zGetI (D := D) (ci := 12) (C := RX12) (T := TX12) (N := 71) hx hb hts hiX12 hown hH (zk_30 hF) rfl 0 (by decide) rfl hw2 (fun _ h9 => h9) dX12_coming_61 q108 ?_
      refine lv_if_le (tgt := 69) hx hb dX12_coming_64 (by decide) (fun c109 => absurd c109 (by decide)) (fun c109 => ?_)
      refine lv_iconst (v := nI 0) hx hb dX12_coming_67 (by decide) ?_
      refine W.widen (k := 0) (n := 0) (by decide) (by decide) ?_
      exact W.iret (v := nI 0) hx hb hr (fun t9 ht9 hW9 => ⟨⟨nI 0, f104, rfl, ⟨⟨c, by omega, hMc⟩, fun a b h => by rw [ef104, zu_n (by omega)]⟩, zEnd1 hH ht9 hW9⟩, hS.F ht9⟩) hS.2.2 dX12_coming_68
    · have zc103 := c103
      replace zc103 := zc_nle (rfl) (nI_toInt (by omega)) zc103
      refine lv_iload_n hx hb dX12_coming_21 rfl (lv_at hl 2 rfl) ?_
      refine lv_sipush (v := nI 999) hx hb dX12_coming_22 (by decide) ?_
      refine lv_icmp_gt (tgt := 39) hx hb dX12_coming_25 (by decide) (fun c110 => ?_) (fun c110 => ?_)
      · have zc110 := c110
        replace zc110 := zc_lt (nI_toInt (by omega)) (rfl) zc110
        refine lv_iconst (v := nI 2) hx hb dX12_coming_39 (by decide) ?_
        refine lv_goto (tgt := 57) hx hb dX12_coming_40 (by decide) ?_
        refine zPutI (D := D) (ci := 12) (ty := .int) (C := RX12) (T := TX12) (N := 71) hx hb hts hiX12 tyX12 tyX12_ok nmX12 hown hH hS (zk_30 hF) rfl 0 (by decide) rfl hw2 (fun _ h9 => h9) rfl (by decide +kernel) rfl rfl dX12_coming_57 (fun H locs hH hS => ?_)
        obtain ⟨f111, ef111⟩ : ∃ f9 : zFi, f9 = zu fi 30 0 (nI 2) := ⟨_, rfl⟩
        rw [← ef111] at hH
        have q112 : f111 30 2 = nI n := by rw [ef111, zu_n (fun h9 => absurd h9.2 (by decide))]; exact hMt.2.1
        have q113 : f111 30 13 = nI c := by rw [ef111, zu_n (fun h9 => absurd h9.2 (by decide))]; exact hMc.2.1
        have q114 : f111 30 1 = nI td := by rw [ef111, zu_n (fun h9 => absurd h9.2 (by decide))]; exact htd
        have q115 : f111 30 0 = nI 2 := by rw [ef111]; exact zu_s
        have hMc := zMc.ci (fi' := f111) hMc (fun i9 k9 h9 => by rw [ef111]; exact zu_n (by omega))
        refine lv_aload_n hx hb dX12_coming_60 rfl (lv_at hl 0 rfl) ?_
        refine zGetI (D := D) (ci := 12) (C := RX12) (T := TX12) (N := 71) hx hb hts hiX12 hown hH (zk_30 hF) rfl 0 (by decide) rfl hw2 (fun _ h9 => h9) dX12_coming_61 q115 ?_
        refine lv_if_le (tgt := 69) hx hb dX12_coming_64 (by decide) (fun c116 => absurd c116 (by decide)) (fun c116 => ?_)
        refine lv_iconst (v := nI 0) hx hb dX12_coming_67 (by decide) ?_
        refine W.widen (k := 0) (n := 0) (by decide) (by decide) ?_
        exact W.iret (v := nI 0) hx hb hr (fun t9 ht9 hW9 => ⟨⟨nI 0, f111, rfl, ⟨⟨c, by omega, hMc⟩, fun a b h => by rw [ef111, zu_n (by omega)]⟩, zEnd1 hH ht9 hW9⟩, hS.F ht9⟩) hS.2.2 dX12_coming_68
      · have zc110 := c110
        replace zc110 := zc_nlt (nI_toInt (by omega)) (rfl) zc110
        refine lv_iload_n hx hb dX12_coming_28 rfl (lv_at hl 3 rfl) ?_
        refine lv_iconst (v := nI 1) hx hb dX12_coming_29 (by decide) ?_
        refine lv_sipush (v := nI 10000) hx hb dX12_coming_30 (by decide) ?_
        refine va_calli (va_runS (As := [.int z, .int (nI 1), .int (nI 10000)]) (rest := [.ref (τ.1 30)]) ⟨hx, hb, hml, hown, hts⟩ (m_isIn l hl0 D A sad τ fi fr ol z (nI 1) (nI 10000)) (cwS 3 hts gX12_coming_X12_isIn rfl rfl rfl (by decide +kernel) ⟨Nat.le_of_ble_eq_true rfl, Nat.le_of_ble_eq_true rfl⟩) ⟨zQc_bl, zQc_at hz hS hA hH⟩ rfl rfl hl.1 rfl (lv_room (Nat.le_of_ble_eq_true rfl)) dX12_coming_33 ⟨Nat.le_of_ble_eq_true rfl, Nat.le_of_ble_eq_true rfl⟩) hS (fun q _ h => h) (fun q h => h) (fun r117 u9 t9 H1 locs ht9 hvm9 hw hB hz1 hk1 hS => ?_)
        have hH := zMv ht9 hvm9 hB
        generalize H1 = H at hH hS ⊢
        rcases hw with ⟨rfl, hy118⟩ | ⟨rfl, hn119⟩
        · skip
          replace hy118 := zWi1 (rfl) (nI_toInt (by omega)) (nI_toInt (by omega)) hy118
          refine lv_if_ne (tgt := 43) hx hb dX12_coming_36 (by decide) (fun c120 => ?_) (fun c120 => absurd c120 (by decide))
          refine lv_aload_n hx hb dX12_coming_43 rfl (lv_at hl 0 rfl) ?_
          refine zGetI (D := D) (ci := 12) (C := RX12) (T := TX12) (N := 71) hx hb hts hiX12 hown hH (zk_30 hF) rfl 13 (by decide) rfl hw3 (fun _ h9 => h9) dX12_coming_44 hMc.2.1 ?_
          refine lv_bipush (v := nI 60) hx hb dX12_coming_47 (by decide) ?_
          refine lv_icmp_ne (tgt := 56) hx hb dX12_coming_49 (by decide) (fun c121 => ?_) (fun c121 => ?_)
          · have zc121 := c121
            replace zc121 := zc_neq (nI_toInt (by omega)) (nI_toInt (by omega)) zc121
            refine lv_iconst (v := nI 0) hx hb dX12_coming_56 (by decide) ?_
            refine zPutI (D := D) (ci := 12) (ty := .int) (C := RX12) (T := TX12) (N := 71) hx hb hts hiX12 tyX12 tyX12_ok nmX12 hown hH hS (zk_30 hF) rfl 0 (by decide) rfl hw2 (fun _ h9 => h9) rfl (by decide +kernel) rfl rfl dX12_coming_57 (fun H locs hH hS => ?_)
            obtain ⟨f122, ef122⟩ : ∃ f9 : zFi, f9 = zu fi 30 0 (nI 0) := ⟨_, rfl⟩
            rw [← ef122] at hH
            have q123 : f122 30 2 = nI n := by rw [ef122, zu_n (fun h9 => absurd h9.2 (by decide))]; exact hMt.2.1
            have q124 : f122 30 13 = nI c := by rw [ef122, zu_n (fun h9 => absurd h9.2 (by decide))]; exact hMc.2.1
            have q125 : f122 30 1 = nI td := by rw [ef122, zu_n (fun h9 => absurd h9.2 (by decide))]; exact htd
            have q126 : f122 30 0 = nI 0 := by rw [ef122]; exact zu_s
            have hMc := zMc.ci (fi' := f122) hMc (fun i9 k9 h9 => by rw [ef122]; exact zu_n (by omega))
            refine lv_aload_n hx hb dX12_coming_60 rfl (lv_at hl 0 rfl) ?_
            refine zGetI (D := D) (ci := 12) (C := RX12) (T := TX12) (N := 71) hx hb hts hiX12 hown hH (zk_30 hF) rfl 0 (by decide) rfl hw2 (fun _ h9 => h9) dX12_coming_61 q126 ?_
            refine lv_if_le (tgt := 69) hx hb dX12_coming_64 (by decide) (fun c127 => ?_) (fun c127 => absurd (by decide) c127)
            refine lv_aload_n hx hb dX12_coming_69 rfl (lv_at hl 0 rfl) ?_
            refine zGetR (D := D) (ci := 12) (C := RX12) (T := TX12) (N := 71) hx hb hts hiX12 hown hH (zk_30 hF) rfl 14 (by decide) rfl hw4 (fun _ h9 => h9) dX12_coming_70 (zr_30_14 hF) ?_
            refine lv_aload_n hx hb dX12_coming_73 rfl (lv_at hl 0 rfl) ?_
            refine zGetI (D := D) (ci := 12) (C := RX12) (T := TX12) (N := 71) hx hb hts hiX12 hown hH (zk_30 hF) rfl 13 (by decide) rfl hw3 (fun _ h9 => h9) dX12_coming_74 q124 ?_
            refine lv_iload_n hx hb dX12_coming_77 rfl (lv_at hl 1 rfl) ?_
            refine zIastN (D := D) hx hb hH hS (zk_41 hF) (zn_41 hF) (by omega) (by omega) dX12_coming_78 (fun H locs hH hS => ?_)
            obtain ⟨f128, ef128⟩ : ∃ f9 : zFi, f9 = zu f122 41 c (nI t) := ⟨_, rfl⟩
            rw [← ef128] at hH
            have q129 : f128 30 2 = nI n := by rw [ef128, zu_n (fun h9 => absurd h9.1 (by decide))]; exact q123
            have q130 : f128 30 13 = nI c := by rw [ef128, zu_n (fun h9 => absurd h9.1 (by decide))]; exact q124
            have q131 : f128 30 1 = nI td := by rw [ef128, zu_n (fun h9 => absurd h9.1 (by decide))]; exact q125
            have q132 : f128 30 0 = nI 0 := by rw [ef128, zu_n (fun h9 => absurd h9.1 (by decide))]; exact q126
            have q133 : f128 41 c = nI t := by rw [ef128]; exact zu_s
            refine lv_aload_n hx hb dX12_coming_79 rfl (lv_at hl 0 rfl) ?_
            refine zGetR (D := D) (ci := 12) (C := RX12) (T := TX12) (N := 71) hx hb hts hiX12 hown hH (zk_30 hF) rfl 15 (by decide) rfl hw5 (fun _ h9 => h9) dX12_coming_80 (zr_30_15 hF) ?_
            refine lv_aload_n hx hb dX12_coming_83 rfl (lv_at hl 0 rfl) ?_
            refine zGetI (D := D) (ci := 12) (C := RX12) (T := TX12) (N := 71) hx hb hts hiX12 hown hH (zk_30 hF) rfl 13 (by decide) rfl hw3 (fun _ h9 => h9) dX12_coming_84 q130 ?_
            refine lv_iload_n hx hb dX12_coming_87 rfl (lv_at hl 2 rfl) ?_
            refine zIastN (D := D) hx hb hH hS (zk_42 hF) (zn_42 hF) (by omega) (by omega) dX12_coming_88 (fun H locs hH hS => ?_)
            obtain ⟨f134, ef134⟩ : ∃ f9 : zFi, f9 = zu f128 42 c y := ⟨_, rfl⟩
            rw [← ef134] at hH
            have q135 : f134 30 2 = nI n := by rw [ef134, zu_n (fun h9 => absurd h9.1 (by decide))]; exact q129
            have q136 : f134 30 13 = nI c := by rw [ef134, zu_n (fun h9 => absurd h9.1 (by decide))]; exact q130
            have q137 : f134 30 1 = nI td := by rw [ef134, zu_n (fun h9 => absurd h9.1 (by decide))]; exact q131
            have q138 : f134 30 0 = nI 0 := by rw [ef134, zu_n (fun h9 => absurd h9.1 (by decide))]; exact q132
            have q139 : f134 41 c = nI t := by rw [ef134, zu_n (fun h9 => absurd h9.1 (by decide))]; exact q133
            have q140 : f134 42 c = y := by rw [ef134]; exact zu_s
            refine lv_aload_n hx hb dX12_coming_89 rfl (lv_at hl 0 rfl) ?_
            refine zGetR (D := D) (ci := 12) (C := RX12) (T := TX12) (N := 71) hx hb hts hiX12 hown hH (zk_30 hF) rfl 16 (by decide) rfl hw6 (fun _ h9 => h9) dX12_coming_90 (zr_30_16 hF) ?_
            refine lv_aload_n hx hb dX12_coming_93 rfl (lv_at hl 0 rfl) ?_
            refine zGetI (D := D) (ci := 12) (C := RX12) (T := TX12) (N := 71) hx hb hts hiX12 hown hH (zk_30 hF) rfl 13 (by decide) rfl hw3 (fun _ h9 => h9) dX12_coming_94 q136 ?_
            refine lv_iload_n hx hb dX12_coming_97 rfl (lv_at hl 3 rfl) ?_
            refine zIastN (D := D) hx hb hH hS (zk_43 hF) (zn_43 hF) (by omega) (by omega) dX12_coming_98 (fun H locs hH hS => ?_)
            obtain ⟨f141, ef141⟩ : ∃ f9 : zFi, f9 = zu f134 43 c z := ⟨_, rfl⟩
            rw [← ef141] at hH
            have q142 : f141 30 2 = nI n := by rw [ef141, zu_n (fun h9 => absurd h9.1 (by decide))]; exact q135
            have q143 : f141 30 13 = nI c := by rw [ef141, zu_n (fun h9 => absurd h9.1 (by decide))]; exact q136
            have q144 : f141 30 1 = nI td := by rw [ef141, zu_n (fun h9 => absurd h9.1 (by decide))]; exact q137
            have q145 : f141 30 0 = nI 0 := by rw [ef141, zu_n (fun h9 => absurd h9.1 (by decide))]; exact q138
            have q146 : f141 41 c = nI t := by rw [ef141, zu_n (fun h9 => absurd h9.1 (by decide))]; exact q139
            have q147 : f141 42 c = y := by rw [ef141, zu_n (fun h9 => absurd h9.1 (by decide))]; exact q140
            have q148 : f141 43 c = z := by rw [ef141]; exact zu_s
            refine lv_aload_n hx hb dX12_coming_99 rfl (lv_at hl 0 rfl) ?_
            refine lv_dup hx hb dX12_coming_100 rfl ?_
            refine zGetI (D := D) (ci := 12) (C := RX12) (T := TX12) (N := 71) hx hb hts hiX12 hown hH (zk_30 hF) rfl 13 (by decide) rfl hw3 (fun _ h9 => h9) dX12_coming_101 q143 ?_
            refine lv_iconst (v := nI 1) hx hb dX12_coming_104 (by decide) ?_
            refine lv_iadd hx hb dX12_coming_105 ?_
            refine lv_topi (fun v149 ev149 => ?_)
            obtain rfl : v149 = nI (c + 1) := ev149.trans (nI_add _ _)
            refine zPutI (D := D) (ci := 12) (ty := .int) (C := RX12) (T := TX12) (N := 71) hx hb hts hiX12 tyX12 tyX12_ok nmX12 hown hH hS (zk_30 hF) rfl 13 (by decide) rfl hw3 (fun _ h9 => h9) rfl (by decide +kernel) rfl rfl dX12_coming_106 (fun H locs hH hS => ?_)
            obtain ⟨f150, ef150⟩ : ∃ f9 : zFi, f9 = zu f141 30 13 (nI (c + 1)) := ⟨_, rfl⟩
            rw [← ef150] at hH
            have q151 : f150 30 2 = nI n := by rw [ef150, zu_n (fun h9 => absurd h9.2 (by decide))]; exact q142
            have q152 : f150 30 1 = nI td := by rw [ef150, zu_n (fun h9 => absurd h9.2 (by decide))]; exact q144
            have q153 : f150 30 0 = nI 0 := by rw [ef150, zu_n (fun h9 => absurd h9.2 (by decide))]; exact q145
            have q154 : f150 41 c = nI t := by rw [ef150, zu_n (fun h9 => absurd h9.1 (by decide))]; exact q146
            have q155 : f150 42 c = y := by rw [ef150, zu_n (fun h9 => absurd h9.1 (by decide))]; exact q147
            have q156 : f150 43 c = z := by rw [ef150, zu_n (fun h9 => absurd h9.1 (by decide))]; exact q148
            have q157 : f150 30 13 = nI (c + 1) := by rw [ef150]; exact zu_s
            refine lv_aload_n hx hb dX12_coming_109 rfl (lv_at hl 0 rfl) ?_
            refine zGetI (D := D) (ci := 12) (C := RX12) (T := TX12) (N := 71) hx hb hts hiX12 hown hH (zk_30 hF) rfl 13 (by decide) rfl hw3 (fun _ h9 => h9) dX12_coming_110 q157 ?_
            refine W.widen (k := 0) (n := 0) (by decide) (by decide) ?_
            exact W.iret (v := nI (c + 1)) hx hb hr (fun t9 ht9 hW9 => ⟨⟨nI (c + 1), f150, rfl, ⟨⟨c + 1, by omega, hMc0.add (by omega) ht q157 (by rw [ef150, zu_n (by omega), ef141, zu_n (by omega), ef134, zu_n (by omega), ef128]; exact zu_s) (by obtain ⟨k8, h91, h92⟩ := zNatB (x := z) (n := 10001) (by have h8 := hy118; omega) (by have h8 := hy118; omega); exact ⟨k8, by omega, by rw [ef150, zu_n (by omega), ef141, zu_s]; exact h92⟩) (fun i j h8 h => by rw [ef150, zu_n (by omega), ef141, zu_n (by omega), ef134, zu_n (by omega), ef128, zu_n (by omega), ef122, zu_n (by omega)])⟩, fun a b h => by rw [ef150, zu_n (by omega), ef141, zu_n (by omega), ef134, zu_n (by omega), ef128, zu_n (by omega), ef122, zu_n (by omega)]⟩, zEnd1 hH ht9 hW9⟩, hS.F ht9⟩) hS.2.2 dX12_coming_113
          · have zc121 := c121
            replace zc121 := zc_eq (nI_toInt (by omega)) (nI_toInt (by omega)) zc121
            refine lv_iconst (v := nI 3) hx hb dX12_coming_52 (by decide) ?_
            refine lv_goto (tgt := 57) hx hb dX12_coming_53 (by decide) ?_
            refine zPutI (D := D) (ci := 12) (ty := .int) (C := RX12) (T := TX12) (N := 71) hx hb hts hiX12 tyX12 tyX12_ok nmX12 hown hH hS (zk_30 hF) rfl 0 (by decide) rfl hw2 (fun _ h9 => h9) rfl (by decide +kernel) rfl rfl dX12_coming_57 (fun H locs hH hS => ?_)
            obtain ⟨f158, ef158⟩ : ∃ f9 : zFi, f9 = zu fi 30 0 (nI 3) := ⟨_, rfl⟩
            rw [← ef158] at hH
            have q159 : f158 30 2 = nI n := by rw [ef158, zu_n (fun h9 => absurd h9.2 (by decide))]; exact hMt.2.1
            have q160 : f158 30 13 = nI c := by rw [ef158, zu_n (fun h9 => absurd h9.2 (by decide))]; exact hMc.2.1
            have q161 : f158 30 1 = nI td := by rw [ef158, zu_n (fun h9 => absurd h9.2 (by decide))]; exact htd
            have q162 : f158 30 0 = nI 3 := by rw [ef158]; exact zu_s
            have hMc := zMc.ci (fi' := f158) hMc (fun i9 k9 h9 => by rw [ef158]; exact zu_n (by omega))
            refine lv_aload_n hx hb dX12_coming_60 rfl (lv_at hl 0 rfl) ?_
            refine zGetI (D := D) (ci := 12) (C := RX12) (T := TX12) (N := 71) hx hb hts hiX12 hown hH (zk_30 hF) rfl 0 (by decide) rfl hw2 (fun _ h9 => h9) dX12_coming_61 q162 ?_
            refine lv_if_le (tgt := 69) hx hb dX12_coming_64 (by decide) (fun c163 => absurd c163 (by decide)) (fun c163 => ?_)
            refine lv_iconst (v := nI 0) hx hb dX12_coming_67 (by decide) ?_
            refine W.widen (k := 0) (n := 0) (by decide) (by decide) ?_
            exact W.iret (v := nI 0) hx hb hr (fun t9 ht9 hW9 => ⟨⟨nI 0, f158, rfl, ⟨⟨c, by omega, hMc⟩, fun a b h => by rw [ef158, zu_n (by omega)]⟩, zEnd1 hH ht9 hW9⟩, hS.F ht9⟩) hS.2.2 dX12_coming_68
        · skip
          replace hn119 := zWi0 (rfl) (nI_toInt (by omega)) (nI_toInt (by omega)) hn119
          refine lv_if_ne (tgt := 43) hx hb dX12_coming_36 (by decide) (fun c164 => absurd (by decide) c164) (fun c164 => ?_)
          refine lv_iconst (v := nI 2) hx hb dX12_coming_39 (by decide) ?_
          refine lv_goto (tgt := 57) hx hb dX12_coming_40 (by decide) ?_
          refine zPutI (D := D) (ci := 12) (ty := .int) (C := RX12) (T := TX12) (N := 71) hx hb hts hiX12 tyX12 tyX12_ok nmX12 hown hH hS (zk_30 hF) rfl 0 (by decide) rfl hw2 (fun _ h9 => h9) rfl (by decide +kernel) rfl rfl dX12_coming_57 (fun H locs hH hS => ?_)
          obtain ⟨f165, ef165⟩ : ∃ f9 : zFi, f9 = zu fi 30 0 (nI 2) := ⟨_, rfl⟩
          rw [← ef165] at hH
          have q166 : f165 30 2 = nI n := by rw [ef165, zu_n (fun h9 => absurd h9.2 (by decide))]; exact hMt.2.1
          have q167 : f165 30 13 = nI c := by rw [ef165, zu_n (fun h9 => absurd h9.2 (by decide))]; exact hMc.2.1
          have q168 : f165 30 1 = nI td := by rw [ef165, zu_n (fun h9 => absurd h9.2 (by decide))]; exact htd
          have q169 : f165 30 0 = nI 2 := by rw [ef165]; exact zu_s
          have hMc := zMc.ci (fi' := f165) hMc (fun i9 k9 h9 => by rw [ef165]; exact zu_n (by omega))
          refine lv_aload_n hx hb dX12_coming_60 rfl (lv_at hl 0 rfl) ?_
          refine zGetI (D := D) (ci := 12) (C := RX12) (T := TX12) (N := 71) hx hb hts hiX12 hown hH (zk_30 hF) rfl 0 (by decide) rfl hw2 (fun _ h9 => h9) dX12_coming_61 q169 ?_
          refine lv_if_le (tgt := 69) hx hb dX12_coming_64 (by decide) (fun c170 => absurd c170 (by decide)) (fun c170 => ?_)
          refine lv_iconst (v := nI 0) hx hb dX12_coming_67 (by decide) ?_
          refine W.widen (k := 0) (n := 0) (by decide) (by decide) ?_
          exact W.iret (v := nI 0) hx hb hr (fun t9 ht9 hW9 => ⟨⟨nI 0, f165, rfl, ⟨⟨c, by omega, hMc⟩, fun a b h => by rw [ef165, zu_n (by omega)]⟩, zEnd1 hH ht9 hW9⟩, hS.F ht9⟩) hS.2.2 dX12_coming_68
  · skip
    refine lv_if_ne (tgt := 13) hx hb dX12_coming_6 (by decide) (fun c171 => absurd (by decide) c171) (fun c171 => ?_)
    refine lv_iconst (v := nI 1) hx hb dX12_coming_9 (by decide) ?_
    refine lv_goto (tgt := 57) hx hb dX12_coming_10 (by decide) ?_
    refine zPutI (D := D) (ci := 12) (ty := .int) (C := RX12) (T := TX12) (N := 71) hx hb hts hiX12 tyX12 tyX12_ok nmX12 hown hH hS (zk_30 hF) rfl 0 (by decide) rfl hw2 (fun _ h9 => h9) rfl (by decide +kernel) rfl rfl dX12_coming_57 (fun H locs hH hS => ?_)
    obtain ⟨f172, ef172⟩ : ∃ f9 : zFi, f9 = zu fi 30 0 (nI 1) := ⟨_, rfl⟩
    rw [← ef172] at hH
    have q173 : f172 30 2 = nI n := by rw [ef172, zu_n (fun h9 => absurd h9.2 (by decide))]; exact hMt.2.1
    have q174 : f172 30 13 = nI c := by rw [ef172, zu_n (fun h9 => absurd h9.2 (by decide))]; exact hMc.2.1
    have q175 : f172 30 1 = nI td := by rw [ef172, zu_n (fun h9 => absurd h9.2 (by decide))]; exact htd
    have q176 : f172 30 0 = nI 1 := by rw [ef172]; exact zu_s
    have hMc := zMc.ci (fi' := f172) hMc (fun i9 k9 h9 => by rw [ef172]; exact zu_n (by omega))
    refine lv_aload_n hx hb dX12_coming_60 rfl (lv_at hl 0 rfl) ?_
    refine zGetI (D := D) (ci := 12) (C := RX12) (T := TX12) (N := 71) hx hb hts hiX12 hown hH (zk_30 hF) rfl 0 (by decide) rfl hw2 (fun _ h9 => h9) dX12_coming_61 q176 ?_
    refine lv_if_le (tgt := 69) hx hb dX12_coming_64 (by decide) (fun c177 => absurd c177 (by decide)) (fun c177 => ?_)
    refine lv_iconst (v := nI 0) hx hb dX12_coming_67 (by decide) ?_
    refine W.widen (k := 0) (n := 0) (by decide) (by decide) ?_
    exact W.iret (v := nI 0) hx hb hr (fun t9 ht9 hW9 => ⟨⟨nI 0, f172, rfl, ⟨⟨c, by omega, hMc⟩, fun a b h => by rw [ef172, zu_n (by omega)]⟩, zEnd1 hH ht9 hW9⟩, hS.F ht9⟩) hS.2.2 dX12_coming_68
set_option maxHeartbeats 4000000 in
set_option maxRecDepth 100000 in
/-- sign -/
theorem m_sign (l : Launch) (hl0 : l.stackTraces = false) (D : va_G) (A : Nat → Prop) (sad : Nat → Nat) (τ : zTy) (fi : zFi) (fr : zFr) (ol : Int64) (L a : Nat) (hF : zFix τ fr) (he : fi 30 22 = nI L) (ha : fi 30 23 = nI a) (hL4 : L ≤ 400) (haL : a ≤ L) : Met l yX12_sign wsX12_sign ({ frames := 0, cells := 0, slots := 0, locals := 0 }) (va_Pc [.ref (τ.1 30)] (zQc D A sad τ fi fr ol)) (va_Qi (fun (r : Int32) (u : zFi) => True ∧ (∃ c, a ≤ c ∧ c ≤ L ∧ u 30 23 = nI c ∧ (c < L ∨ r = -1)) ∧ ∀ a b, ¬ (a = 30 ∧ b = 23) → u a b = fi a b) (fun (u : zFi) (t : State) => zH D A τ u fr ol t t.heap) A) 0 0 A := by
  refine Met.ofW (cc := cX12_sign) (maxL := 1) (ret := (some .int)) (by decide) rfl ?_
  intro p9 e9 s m args below meth c9 s₁ B hml hv
  obtain ⟨rfl, hz, hH, hA⟩ := hv
  have hx := B.exec
  have hb := B.bytes
  have hr := B.returns
  have hts := atoms_spec (ws := wsX12_sign) B.pre
  have hown : s.vm.findClass RX12 = some m.cls := findClass_of_methodNamed B.named
  have hlocks := B.notSynchronized
  have hS : va_S A s.heap s.heap [] := va_S.rf
  have hl := lv_entry ([.ref (τ.1 30)]) (n := 1) (Nat.le_of_ble_eq_true rfl)
  rw [lg_entry_eq]
  generalize (lg_sl ([.ref (τ.1 30)]) ++ List.replicate (1 - (lg_sl ([.ref (τ.1 30)])).length) Slot.unset).toArray = ls at hl ⊢
  have hl : lv_has ls 1 [(0, .ref (τ.1 30))] := hl
  have hiX12 : ∀ w ∈ u_ws RX12 TX12 71, w ∈ wsX12_sign := fun _ h => List.mem_cons_of_mem _ (List.mem_append_right _ h)
  have hw1 := hts (.fieldLink RX12 206 "PostHouseModel" "at" "I") (by decide +kernel)
  have hw2 := hts (.fieldLink RX12 209 "PostHouseModel" "end" "I") (by decide +kernel)
  have hw3 := hts (.fieldLink RX12 58 "PostHouseModel" "tape" "[I") (by decide +kernel)
  refine zLp (σ := Nat × zFi) (fun x9 k9 H locs ls => (fun (c : Nat) (f : zFi) => k9 = L - c ∧ (a ≤ c ∧ c ≤ L ∧ f 30 23 = nI c ∧ ∀ a b, ¬ (a = 30 ∧ b = 23) → f a b = fi a b) ∧ zH D A τ f fr ol s H ∧ va_S A s.heap H locs ∧ lv_has ls 1 [(0, .ref (τ.1 30))]) x9.1 x9.2) (a, fi) (L - a) (show L - a = L - a ∧ (a ≤ a ∧ a ≤ L ∧ fi 30 23 = nI a ∧ ∀ a b, ¬ (a = 30 ∧ b = 23) → fi a b = fi a b) ∧ zH D A τ fi fr ol s _ ∧ va_S A s.heap _ _ ∧ lv_has _ 1 [(0, .ref (τ.1 30))] from ⟨rfl, ⟨Nat.le_refl _, haL, ha, fun _ _ _ => rfl⟩, hH, hS, lv_sub hl [0] rfl⟩) (fun k9 ih x9 H locs ls hv9 => ?_)
  obtain ⟨c, f⟩ := x9
  have hv9 : k9 = L - c ∧ (a ≤ c ∧ c ≤ L ∧ f 30 23 = nI c ∧ ∀ a b, ¬ (a = 30 ∧ b = 23) → f a b = fi a b) ∧ zH D A τ f fr ol s H ∧ va_S A s.heap H locs ∧ lv_has ls 1 [(0, .ref (τ.1 30))] := hv9
  obtain ⟨hkih101, hv9, hH, hS, hl⟩ := hv9
  obtain ⟨h1, h2, hc, hfr⟩ := hv9
  have ih101 := ih
  clear ih
  have q22 : f 30 22 = nI L := by rw [hfr 30 22 (by omega)]; exact he
  refine lv_aload_n hx hb dX12_sign_0 rfl (lv_at hl 0 rfl) ?_
  refine zGetI (D := D) (ci := 12) (C := RX12) (T := TX12) (N := 71) hx hb hts hiX12 hown hH (zk_30 hF) rfl 23 (by decide) rfl hw1 (fun _ h9 => h9) dX12_sign_1 hc ?_
  refine lv_aload_n hx hb dX12_sign_4 rfl (lv_at hl 0 rfl) ?_
  refine zGetI (D := D) (ci := 12) (C := RX12) (T := TX12) (N := 71) hx hb hts hiX12 hown hH (zk_30 hF) rfl 22 (by decide) rfl hw2 (fun _ h9 => h9) dX12_sign_5 q22 ?_
  refine lv_icmp_ge (tgt := 38) hx hb dX12_sign_8 (by decide) (fun c102 => ?_) (fun c102 => ?_)
  · have zc102 := c102
    replace zc102 := zc_le (nI_toInt (by omega)) (nI_toInt (by omega)) zc102
    refine lv_aload_n hx hb dX12_sign_38 rfl (lv_at hl 0 rfl) ?_
    refine zGetI (D := D) (ci := 12) (C := RX12) (T := TX12) (N := 71) hx hb hts hiX12 hown hH (zk_30 hF) rfl 23 (by decide) rfl hw1 (fun _ h9 => h9) dX12_sign_39 hc ?_
    refine lv_aload_n hx hb dX12_sign_42 rfl (lv_at hl 0 rfl) ?_
    refine zGetI (D := D) (ci := 12) (C := RX12) (T := TX12) (N := 71) hx hb hts hiX12 hown hH (zk_30 hF) rfl 22 (by decide) rfl hw2 (fun _ h9 => h9) dX12_sign_43 q22 ?_
    refine lv_icmp_ge (tgt := 61) hx hb dX12_sign_46 (by decide) (fun c103 => ?_) (fun c103 => ?_)
    · have zc103 := c103
      replace zc103 := zc_le (nI_toInt (by omega)) (nI_toInt (by omega)) zc103
      refine lv_iconst (v := (-1)) hx hb dX12_sign_61 (by decide) ?_
      refine W.widen (k := 0) (n := 0) (by decide) (by decide) ?_
      exact W.iret (v := (-1)) hx hb hr (fun t9 ht9 hW9 => ⟨⟨(-1), f, rfl, ⟨trivial, ⟨c, by omega, by omega, hc, Or.inr rfl⟩, fun a b h => hfr a b h⟩, zEnd1 hH ht9 hW9⟩, hS.F ht9⟩) hS.2.2 dX12_sign_62
    · have zc103 := c103
      replace zc103 := zc_nle (nI_toInt (by omega)) (nI_toInt (by omega)) zc103
      refine lv_aload_n hx hb dX12_sign_49 rfl (lv_at hl 0 rfl) ?_
      refine zGetR (D := D) (ci := 12) (C := RX12) (T := TX12) (N := 71) hx hb hts hiX12 hown hH (zk_30 hF) rfl 20 (by decide) rfl hw3 (fun _ h9 => h9) dX12_sign_50 (zr_30_20 hF) ?_
      refine lv_aload_n hx hb dX12_sign_53 rfl (lv_at hl 0 rfl) ?_
      refine zGetI (D := D) (ci := 12) (C := RX12) (T := TX12) (N := 71) hx hb hts hiX12 hown hH (zk_30 hF) rfl 23 (by decide) rfl hw1 (fun _ h9 => h9) dX12_sign_54 hc ?_
      refine zIaldN (D := D) hx hb hH (zk_47 hF) (zn_47 hF) (by omega) (by omega) rfl dX12_sign_57 ?_
      refine lv_goto (tgt := 62) hx hb dX12_sign_58 (by decide) ?_
      refine W.widen (k := 0) (n := 0) (by decide) (by decide) ?_
      exact W.iret (v := f 47 c) hx hb hr (fun t9 ht9 hW9 => ⟨⟨f 47 c, f, rfl, ⟨trivial, ⟨c, by omega, by omega, hc, Or.inl (by omega)⟩, fun a b h => hfr a b h⟩, zEnd1 hH ht9 hW9⟩, hS.F ht9⟩) hS.2.2 dX12_sign_62
  · have zc102 := c102
    replace zc102 := zc_nle (nI_toInt (by omega)) (nI_toInt (by omega)) zc102
    refine lv_aload_n hx hb dX12_sign_11 rfl (lv_at hl 0 rfl) ?_
    refine zGetR (D := D) (ci := 12) (C := RX12) (T := TX12) (N := 71) hx hb hts hiX12 hown hH (zk_30 hF) rfl 20 (by decide) rfl hw3 (fun _ h9 => h9) dX12_sign_12 (zr_30_20 hF) ?_
    refine lv_aload_n hx hb dX12_sign_15 rfl (lv_at hl 0 rfl) ?_
    refine zGetI (D := D) (ci := 12) (C := RX12) (T := TX12) (N := 71) hx hb hts hiX12 hown hH (zk_30 hF) rfl 23 (by decide) rfl hw1 (fun _ h9 => h9) dX12_sign_16 hc ?_
    refine zIaldN (D := D) hx hb hH (zk_47 hF) (zn_47 hF) (by omega) (by omega) rfl dX12_sign_19 ?_
    refine lv_bipush (v := nI 32) hx hb dX12_sign_20 (by decide) ?_
    refine lv_icmp_ne (tgt := 38) hx hb dX12_sign_22 (by decide) (fun c104 => ?_) (fun c104 => ?_)
    · have zc104 := c104
      replace zc104 := zc_neq (rfl) (nI_toInt (by omega)) zc104
      refine lv_aload_n hx hb dX12_sign_38 rfl (lv_at hl 0 rfl) ?_
      refine zGetI (D := D) (ci := 12) (C := RX12) (T := TX12) (N := 71) hx hb hts hiX12 hown hH (zk_30 hF) rfl 23 (by decide) rfl hw1 (fun _ h9 => h9) dX12_sign_39 hc ?_
      refine lv_aload_n hx hb dX12_sign_42 rfl (lv_at hl 0 rfl) ?_
      refine zGetI (D := D) (ci := 12) (C := RX12) (T := TX12) (N := 71) hx hb hts hiX12 hown hH (zk_30 hF) rfl 22 (by decide) rfl hw2 (fun _ h9 => h9) dX12_sign_43 q22 ?_
      refine lv_icmp_ge (tgt := 61) hx hb dX12_sign_46 (by decide) (fun c105 => ?_) (fun c105 => ?_)
      · have zc105 := c105
        replace zc105 := zc_le (nI_toInt (by omega)) (nI_toInt (by omega)) zc105
        refine lv_iconst (v := (-1)) hx hb dX12_sign_61 (by decide) ?_
        refine W.widen (k := 0) (n := 0) (by decide) (by decide) ?_
        exact W.iret (v := (-1)) hx hb hr (fun t9 ht9 hW9 => ⟨⟨(-1), f, rfl, ⟨trivial, ⟨c, by omega, by omega, hc, Or.inr rfl⟩, fun a b h => hfr a b h⟩, zEnd1 hH ht9 hW9⟩, hS.F ht9⟩) hS.2.2 dX12_sign_62
      · have zc105 := c105
        replace zc105 := zc_nle (nI_toInt (by omega)) (nI_toInt (by omega)) zc105
        refine lv_aload_n hx hb dX12_sign_49 rfl (lv_at hl 0 rfl) ?_
        refine zGetR (D := D) (ci := 12) (C := RX12) (T := TX12) (N := 71) hx hb hts hiX12 hown hH (zk_30 hF) rfl 20 (by decide) rfl hw3 (fun _ h9 => h9) dX12_sign_50 (zr_30_20 hF) ?_
        refine lv_aload_n hx hb dX12_sign_53 rfl (lv_at hl 0 rfl) ?_
        refine zGetI (D := D) (ci := 12) (C := RX12) (T := TX12) (N := 71) hx hb hts hiX12 hown hH (zk_30 hF) rfl 23 (by decide) rfl hw1 (fun _ h9 => h9) dX12_sign_54 hc ?_
        refine zIaldN (D := D) hx hb hH (zk_47 hF) (zn_47 hF) (by omega) (by omega) rfl dX12_sign_57 ?_
        refine lv_goto (tgt := 62) hx hb dX12_sign_58 (by decide) ?_
        refine W.widen (k := 0) (n := 0) (by decide) (by decide) ?_
        exact W.iret (v := f 47 c) hx hb hr (fun t9 ht9 hW9 => ⟨⟨f 47 c, f, rfl, ⟨trivial, ⟨c, by omega, by omega, hc, Or.inl (by omega)⟩, fun a b h => hfr a b h⟩, zEnd1 hH ht9 hW9⟩, hS.F ht9⟩) hS.2.2 dX12_sign_62
    · have zc104 := c104
      replace zc104 := zc_eq (rfl) (nI_toInt (by omega)) zc104
      refine lv_aload_n hx hb dX12_sign_25 rfl (lv_at hl 0 rfl) ?_
      refine lv_dup hx hb dX12_sign_26 rfl ?_
      refine zGetI (D := D) (ci := 12) (C := RX12) (T := TX12) (N := 71) hx hb hts hiX12 hown hH (zk_30 hF) rfl 23 (by decide) rfl hw1 (fun _ h9 => h9) dX12_sign_27 hc ?_
      refine lv_iconst (v := nI 1) hx hb dX12_sign_30 (by decide) ?_
      refine lv_iadd hx hb dX12_sign_31 ?_
      refine lv_topi (fun v106 ev106 => ?_)
      obtain rfl : v106 = nI (c + 1) := ev106.trans (nI_add _ _)
      refine zPutI (D := D) (ci := 12) (ty := .int) (C := RX12) (T := TX12) (N := 71) hx hb hts hiX12 tyX12 tyX12_ok nmX12 hown hH hS (zk_30 hF) rfl 23 (by decide) rfl hw1 (fun _ h9 => h9) rfl (by decide +kernel) rfl rfl dX12_sign_32 (fun H locs hH hS => ?_)
      obtain ⟨f107, ef107⟩ : ∃ f9 : zFi, f9 = zu f 30 23 (nI (c + 1)) := ⟨_, rfl⟩
      rw [← ef107] at hH
      have q108 : f107 30 22 = nI L := by rw [ef107, zu_n (fun h9 => absurd h9.2 (by decide))]; exact q22
      have q109 : f107 30 23 = nI (c + 1) := by rw [ef107]; exact zu_s
      refine lv_goto (tgt := 0) hx hb dX12_sign_35 (by decide) ?_
      exact ih101 (L - (c + 1)) (by omega) (c + 1, f107) _ _ _ (show L - (c + 1) = L - (c + 1) ∧ (a ≤ (c + 1) ∧ (c + 1) ≤ L ∧ f107 30 23 = nI (c + 1) ∧ ∀ a b, ¬ (a = 30 ∧ b = 23) → f107 a b = fi a b) ∧ zH D A τ f107 fr ol s _ ∧ va_S A s.heap _ _ ∧ lv_has _ 1 [(0, .ref (τ.1 30))] from ⟨rfl, ⟨by omega, by omega, q109, fun a b h => by rw [ef107, zu_n (by omega)]; exact hfr a b h⟩, hH, hS, lv_sub hl [0] rfl⟩)
set_option maxHeartbeats 4000000 in
set_option maxRecDepth 100000 in
/-- isDigit -/
theorem m_isDigit (l : Launch) (hl0 : l.stackTraces = false) (D : va_G) (A : Nat → Prop) (sad : Nat → Nat) (τ : zTy) (fi : zFi) (fr : zFr) (ol : Int64) (x : Int32) : Met l yX12_isDigit wsX12_isDigit ({ frames := 0, cells := 0, slots := 0, locals := 0 }) (va_Pc [.int x] (zQc D A sad τ fi fr ol)) (va_Qi (fun (r : Int32) (u : Unit) => True) (fun (u : Unit) (t : State) => zH D A τ fi fr ol t t.heap) A) 0 0 A := by
  refine Met.ofW (cc := cX12_isDigit) (maxL := 1) (ret := (some .boolean)) (by decide) rfl ?_
  intro p9 e9 s m args below meth c9 s₁ B hml hv
  obtain ⟨rfl, hz, hH, hA⟩ := hv
  have hx := B.exec
  have hb := B.bytes
  have hr := B.returns
  have hts := atoms_spec (ws := wsX12_isDigit) B.pre
  have hown : s.vm.findClass RX12 = some m.cls := findClass_of_methodNamed B.named
  have hlocks := B.notSynchronized
  have hS : va_S A s.heap s.heap [] := va_S.rf
  have hl := lv_entry ([.int x]) (n := 1) (Nat.le_of_ble_eq_true rfl)
  rw [lg_entry_eq]
  generalize (lg_sl ([.int x]) ++ List.replicate (1 - (lg_sl ([.int x])).length) Slot.unset).toArray = ls at hl ⊢
  have hl : lv_has ls 1 [(0, .int x)] := hl
  refine lv_iload_n hx hb dX12_isDigit_0 rfl (lv_at hl 0 rfl) ?_
  refine lv_bipush (v := nI 48) hx hb dX12_isDigit_1 (by decide) ?_
  refine lv_icmp_lt (tgt := 16) hx hb dX12_isDigit_3 (by decide) (fun c101 => ?_) (fun c101 => ?_)
  · have zc101 := c101
    replace zc101 := zc_lt (rfl) (nI_toInt (by omega)) zc101
    refine lv_iconst (v := nI 0) hx hb dX12_isDigit_16 (by decide) ?_
    refine W.widen (k := 0) (n := 0) (by decide) (by decide) ?_
    exact W.zret (v := nI 0) hx hb hr (by decide) (fun t9 ht9 hW9 => ⟨⟨nI 0, (), rfl, trivial, zEnd1 hH ht9 hW9⟩, hS.F ht9⟩) hS.2.2 dX12_isDigit_17
  · have zc101 := c101
    replace zc101 := zc_nlt (rfl) (nI_toInt (by omega)) zc101
    refine lv_iload_n hx hb dX12_isDigit_6 rfl (lv_at hl 0 rfl) ?_
    refine lv_bipush (v := nI 57) hx hb dX12_isDigit_7 (by decide) ?_
    refine lv_icmp_gt (tgt := 16) hx hb dX12_isDigit_9 (by decide) (fun c102 => ?_) (fun c102 => ?_)
    · have zc102 := c102
      replace zc102 := zc_lt (nI_toInt (by omega)) (rfl) zc102
      refine lv_iconst (v := nI 0) hx hb dX12_isDigit_16 (by decide) ?_
      refine W.widen (k := 0) (n := 0) (by decide) (by decide) ?_
      exact W.zret (v := nI 0) hx hb hr (by decide) (fun t9 ht9 hW9 => ⟨⟨nI 0, (), rfl, trivial, zEnd1 hH ht9 hW9⟩, hS.F ht9⟩) hS.2.2 dX12_isDigit_17
    · have zc102 := c102
      replace zc102 := zc_nlt (nI_toInt (by omega)) (rfl) zc102
      refine lv_iconst (v := nI 1) hx hb dX12_isDigit_12 (by decide) ?_
      refine lv_goto (tgt := 17) hx hb dX12_isDigit_13 (by decide) ?_
      refine W.widen (k := 0) (n := 0) (by decide) (by decide) ?_
      exact W.zret (v := nI 1) hx hb hr (by decide) (fun t9 ht9 hW9 => ⟨⟨nI 1, (), rfl, trivial, zEnd1 hH ht9 hW9⟩, hS.F ht9⟩) hS.2.2 dX12_isDigit_17
set_option maxHeartbeats 4000000 in
set_option maxRecDepth 100000 in
/-- wordEnd -/
theorem m_wordEnd (l : Launch) (hl0 : l.stackTraces = false) (D : va_G) (A : Nat → Prop) (sad : Nat → Nat) (τ : zTy) (fi : zFi) (fr : zFr) (ol : Int64) (L a : Nat) (hF : zFix τ fr) (he : fi 30 22 = nI L) (ha : fi 30 23 = nI a) (hL4 : L ≤ 400) (haL : a ≤ L) : Met l yX12_wordEnd wsX12_wordEnd ({ frames := 0, cells := 0, slots := 0, locals := 0 }) (va_Pc [.ref (τ.1 30)] (zQc D A sad τ fi fr ol)) (va_Qi (fun (r : Int32) (u : Unit) => ∃ c, a ≤ c ∧ c ≤ L ∧ r = nI c) (fun (u : Unit) (t : State) => zH D A τ fi fr ol t t.heap) A) 0 0 A := by
  refine Met.ofW (cc := cX12_wordEnd) (maxL := 2) (ret := (some .int)) (by decide) rfl ?_
  intro p9 e9 s m args below meth c9 s₁ B hml hv
  obtain ⟨rfl, hz, hH, hA⟩ := hv
  have hx := B.exec
  have hb := B.bytes
  have hr := B.returns
  have hts := atoms_spec (ws := wsX12_wordEnd) B.pre
  have hown : s.vm.findClass RX12 = some m.cls := findClass_of_methodNamed B.named
  have hlocks := B.notSynchronized
  have hS : va_S A s.heap s.heap [] := va_S.rf
  have hl := lv_entry ([.ref (τ.1 30)]) (n := 2) (Nat.le_of_ble_eq_true rfl)
  rw [lg_entry_eq]
  generalize (lg_sl ([.ref (τ.1 30)]) ++ List.replicate (2 - (lg_sl ([.ref (τ.1 30)])).length) Slot.unset).toArray = ls at hl ⊢
  have hl : lv_has ls 2 [(0, .ref (τ.1 30))] := hl
  have hiX12 : ∀ w ∈ u_ws RX12 TX12 71, w ∈ wsX12_wordEnd := fun _ h => List.mem_cons_of_mem _ (List.mem_append_right _ h)
  have hw1 := hts (.fieldLink RX12 206 "PostHouseModel" "at" "I") (by decide +kernel)
  have hw2 := hts (.fieldLink RX12 209 "PostHouseModel" "end" "I") (by decide +kernel)
  have hw3 := hts (.fieldLink RX12 58 "PostHouseModel" "tape" "[I") (by decide +kernel)
  refine lv_aload_n hx hb dX12_wordEnd_0 rfl (lv_at hl 0 rfl) ?_
  refine zGetI (D := D) (ci := 12) (C := RX12) (T := TX12) (N := 71) hx hb hts hiX12 hown hH (zk_30 hF) rfl 23 (by decide) rfl hw1 (fun _ h9 => h9) dX12_wordEnd_1 ha ?_
  refine lv_istore_n (lv' := [(1, .int (nI a)), (0, .ref (τ.1 30))]) hx hb dX12_wordEnd_4 rfl hl (by decide) rfl (fun ls hl => ?_)
  refine zLp (σ := Nat) (fun x9 k9 H locs ls => (fun (c : Nat) => k9 = L - c ∧ (a ≤ c ∧ c ≤ L) ∧ zH D A τ fi fr ol s H ∧ va_S A s.heap H locs ∧ lv_has ls 2 [(0, .ref (τ.1 30)), (1, .int (nI c))]) x9) a (L - a) (show L - a = L - a ∧ (a ≤ a ∧ a ≤ L) ∧ zH D A τ fi fr ol s _ ∧ va_S A s.heap _ _ ∧ lv_has _ 2 [(0, .ref (τ.1 30)), (1, .int (nI a))] from ⟨rfl, ⟨Nat.le_refl _, haL⟩, hH, hS, lv_sub hl [1, 0] rfl⟩) (fun k9 ih x9 H locs ls hv9 => ?_)
  generalize x9 = c at hv9
  have hv9 : k9 = L - c ∧ (a ≤ c ∧ c ≤ L) ∧ zH D A τ fi fr ol s H ∧ va_S A s.heap H locs ∧ lv_has ls 2 [(0, .ref (τ.1 30)), (1, .int (nI c))] := hv9
  obtain ⟨hkih101, hv9, hH, hS, hl⟩ := hv9
  obtain ⟨h1, h2⟩ := hv9
  have ih101 := ih
  clear ih
  refine lv_iload_n hx hb dX12_wordEnd_5 rfl (lv_at hl 1 rfl) ?_
  refine lv_aload_n hx hb dX12_wordEnd_6 rfl (lv_at hl 0 rfl) ?_
  refine zGetI (D := D) (ci := 12) (C := RX12) (T := TX12) (N := 71) hx hb hts hiX12 hown hH (zk_30 hF) rfl 22 (by decide) rfl hw2 (fun _ h9 => h9) dX12_wordEnd_7 he ?_
  refine lv_icmp_ge (tgt := 41) hx hb dX12_wordEnd_10 (by decide) (fun c102 => ?_) (fun c102 => ?_)
  · have zc102 := c102
    replace zc102 := zc_le (nI_toInt (by omega)) (nI_toInt (by omega)) zc102
    refine lv_iload_n hx hb dX12_wordEnd_41 rfl (lv_at hl 1 rfl) ?_
    refine W.widen (k := 0) (n := 0) (by decide) (by decide) ?_
    exact W.iret (v := nI c) hx hb hr (fun t9 ht9 hW9 => ⟨⟨nI c, (), rfl, ⟨c, h1, h2, rfl⟩, zEnd1 hH ht9 hW9⟩, hS.F ht9⟩) hS.2.2 dX12_wordEnd_42
  · have zc102 := c102
    replace zc102 := zc_nle (nI_toInt (by omega)) (nI_toInt (by omega)) zc102
    refine lv_aload_n hx hb dX12_wordEnd_13 rfl (lv_at hl 0 rfl) ?_
    refine zGetR (D := D) (ci := 12) (C := RX12) (T := TX12) (N := 71) hx hb hts hiX12 hown hH (zk_30 hF) rfl 20 (by decide) rfl hw3 (fun _ h9 => h9) dX12_wordEnd_14 (zr_30_20 hF) ?_
    refine lv_iload_n hx hb dX12_wordEnd_17 rfl (lv_at hl 1 rfl) ?_
    refine zIaldN (D := D) hx hb hH (zk_47 hF) (zn_47 hF) (by omega) (by omega) rfl dX12_wordEnd_18 ?_
    refine lv_bipush (v := nI 97) hx hb dX12_wordEnd_19 (by decide) ?_
    refine lv_icmp_lt (tgt := 41) hx hb dX12_wordEnd_21 (by decide) (fun c103 => ?_) (fun c103 => ?_)
    · have zc103 := c103
      replace zc103 := zc_lt (rfl) (nI_toInt (by omega)) zc103
      refine lv_iload_n hx hb dX12_wordEnd_41 rfl (lv_at hl 1 rfl) ?_
      refine W.widen (k := 0) (n := 0) (by decide) (by decide) ?_
      exact W.iret (v := nI c) hx hb hr (fun t9 ht9 hW9 => ⟨⟨nI c, (), rfl, ⟨c, h1, h2, rfl⟩, zEnd1 hH ht9 hW9⟩, hS.F ht9⟩) hS.2.2 dX12_wordEnd_42
    · have zc103 := c103
      replace zc103 := zc_nlt (rfl) (nI_toInt (by omega)) zc103
      refine lv_aload_n hx hb dX12_wordEnd_24 rfl (lv_at hl 0 rfl) ?_
      refine zGetR (D := D) (ci := 12) (C := RX12) (T := TX12) (N := 71) hx hb hts hiX12 hown hH (zk_30 hF) rfl 20 (by decide) rfl hw3 (fun _ h9 => h9) dX12_wordEnd_25 (zr_30_20 hF) ?_
      refine lv_iload_n hx hb dX12_wordEnd_28 rfl (lv_at hl 1 rfl) ?_
      refine zIaldN (D := D) hx hb hH (zk_47 hF) (zn_47 hF) (by omega) (by omega) rfl dX12_wordEnd_29 ?_
      refine lv_bipush (v := nI 122) hx hb dX12_wordEnd_30 (by decide) ?_
      refine lv_icmp_gt (tgt := 41) hx hb dX12_wordEnd_32 (by decide) (fun c104 => ?_) (fun c104 => ?_)
      · have zc104 := c104
        replace zc104 := zc_lt (nI_toInt (by omega)) (rfl) zc104
        refine lv_iload_n hx hb dX12_wordEnd_41 rfl (lv_at hl 1 rfl) ?_
        refine W.widen (k := 0) (n := 0) (by decide) (by decide) ?_
        exact W.iret (v := nI c) hx hb hr (fun t9 ht9 hW9 => ⟨⟨nI c, (), rfl, ⟨c, h1, h2, rfl⟩, zEnd1 hH ht9 hW9⟩, hS.F ht9⟩) hS.2.2 dX12_wordEnd_42
      · have zc104 := c104
        replace zc104 := zc_nlt (nI_toInt (by omega)) (rfl) zc104
        refine lv_iinc (v := nI (c + 1)) (lv' := [(1, .int (nI (c + 1))), (0, .ref (τ.1 30))]) hx hb dX12_wordEnd_35 hl (k := 1) rfl (by rw [show (Int32.ofInt 1 : Int32) = nI 1 from by decide, nI_add]) (by decide) rfl (fun ls hl => ?_)
        refine lv_goto (tgt := 5) hx hb dX12_wordEnd_38 (by decide) ?_
        exact ih101 (L - (c + 1)) (by omega) (c + 1) _ _ _ (show L - (c + 1) = L - (c + 1) ∧ (a ≤ (c + 1) ∧ (c + 1) ≤ L) ∧ zH D A τ fi fr ol s _ ∧ va_S A s.heap _ _ ∧ lv_has _ 2 [(0, .ref (τ.1 30)), (1, .int (nI (c + 1)))] from ⟨rfl, ⟨by omega, by omega⟩, hH, hS, lv_sub hl [1, 0] rfl⟩)
set_option maxHeartbeats 4000000 in
set_option maxRecDepth 100000 in
/-- isWord -/
theorem m_isWord (l : Launch) (hl0 : l.stackTraces = false) (D : va_G) (A : Nat → Prop) (sad : Nat → Nat) (τ : zTy) (fi : zFi) (fr : zFr) (ol : Int64) (L a : Nat) (hF : zFix τ fr) (he : fi 30 22 = nI L) (ha : fi 30 23 = nI a) (hL4 : L ≤ 400) (haL : a ≤ L) (wd : Int64) : Met l yX12_isWord wsX12_isWord ({ frames := 1, cells := 0, slots := 0, locals := 21 }) (va_Pc [.ref (τ.1 30), .long wd] (zQc D A sad τ fi fr ol)) (va_Qi (fun (r : Int32) (u : zFi) => (r = 0 ∨ r = 1) ∧ (∃ c, a ≤ c ∧ c ≤ L ∧ u 30 23 = nI c ∧ True) ∧ ∀ a b, ¬ (a = 30 ∧ b = 23) → u a b = fi a b) (fun (u : zFi) (t : State) => zH D A τ u fr ol t t.heap) A) 0 0 A := by
  refine Met.ofW (cc := cX12_isWord) (maxL := 8) (ret := (some .boolean)) (by decide) rfl ?_
  intro p9 e9 s m args below meth c9 s₁ B hml hv
  obtain ⟨rfl, hz, hH, hA⟩ := hv
  have hx := B.exec
  have hb := B.bytes
  have hr := B.returns
  have hts := atoms_spec (ws := wsX12_isWord) B.pre
  have hown : s.vm.findClass RX12 = some m.cls := findClass_of_methodNamed B.named
  have hlocks := B.notSynchronized
  have hS : va_S A s.heap s.heap [] := va_S.rf
  have hl := lv_entry ([.ref (τ.1 30), .long wd]) (n := 8) (Nat.le_of_ble_eq_true rfl)
  rw [lg_entry_eq]
  generalize (lg_sl ([.ref (τ.1 30), .long wd]) ++ List.replicate (8 - (lg_sl ([.ref (τ.1 30), .long wd])).length) Slot.unset).toArray = ls at hl ⊢
  have hl : lv_has ls 8 [(0, .ref (τ.1 30)), (1, .long wd)] := hl
  have hiX12 : ∀ w ∈ u_ws RX12 TX12 71, w ∈ wsX12_isWord := fun _ h => List.mem_cons_of_mem _ (List.mem_append_right _ h)
  have hw1 := hts (.fieldLink RX12 206 "PostHouseModel" "at" "I") (by decide +kernel)
  have hw2 := hts (.fieldLink RX12 58 "PostHouseModel" "tape" "[I") (by decide +kernel)
  refine lv_aload_n hx hb dX12_isWord_0 rfl (lv_at hl 0 rfl) ?_
  refine va_calli (va_runV (As := []) (rest := []) ⟨hx, hb, hml, hown, hts⟩ (m_sign l hl0 D A sad τ fi fr ol L a hF he ha (by omega) (by omega)) (cwV 0 hts gX12_isWord_X12_sign rfl rfl rfl (by decide +kernel) ⟨Nat.le_of_ble_eq_true rfl, Nat.le_of_ble_eq_true rfl⟩) ⟨zQc_bl, zRecv hH (zk_30 hF) rfl, zQc_at hz hS hA hH⟩ rfl rfl hl.1 rfl (lv_room (Nat.le_of_ble_eq_true rfl)) dX12_isWord_1 ⟨Nat.le_of_ble_eq_true rfl, Nat.le_of_ble_eq_true rfl⟩) hS (fun q _ h => h) (fun q h => h) (fun r101 u9 t9 H1 locs ht9 hvm9 hw hB hz1 hk1 hS => ?_)
  have hH := zMv ht9 hvm9 hB
  clear hB
  generalize u9 = f102 at hw hH
  generalize H1 = H at hH hS ⊢
  obtain ⟨hr109, ⟨c103, hc104, hc105, q106, hx107⟩, hf108⟩ := hw
  have q110 : f102 30 22 = nI L := by rw [hf108 30 22 (by omega)]; exact he
  refine lv_istore_n (lv' := [(3, .int r101), (0, .ref (τ.1 30)), (1, .long wd)]) hx hb dX12_isWord_4 rfl hl (by decide) rfl (fun ls hl => ?_)
  refine lv_aload_n hx hb dX12_isWord_5 rfl (lv_at hl 1 rfl) ?_
  refine va_calli (va_runV (As := []) (rest := []) ⟨hx, hb, hml, hown, hts⟩ (m_wordEnd l hl0 D A sad τ f102 fr ol L c103 hF q110 q106 (by omega) (by omega)) (cwV 0 hts gX12_isWord_X12_wordEnd rfl rfl rfl (by decide +kernel) ⟨Nat.le_of_ble_eq_true rfl, Nat.le_of_ble_eq_true rfl⟩) ⟨zQc_bl, zRecv hH (zk_30 hF) rfl, zQc_at hz hS hA hH⟩ rfl rfl hl.1 rfl (lv_room (Nat.le_of_ble_eq_true rfl)) dX12_isWord_6 ⟨Nat.le_of_ble_eq_true rfl, Nat.le_of_ble_eq_true rfl⟩) hS (fun q _ h => h) (fun q h => h) (fun r111 u9 t9 H1 locs ht9 hvm9 hw hB hz1 hk1 hS => ?_)
  have hH := zMv ht9 hvm9 hB
  generalize H1 = H at hH hS ⊢
  obtain ⟨c112, h1c112, h2c112, rfl⟩ := hw
  refine lv_istore (lv' := [(4, .int (nI c112)), (3, .int r101), (0, .ref (τ.1 30)), (1, .long wd)]) hx hb dX12_isWord_9 hl (by decide) rfl (fun ls hl => ?_)
  refine lv_iload hx hb dX12_isWord_11 (lv_at hl 0 rfl) ?_
  refine lv_aload_n hx hb dX12_isWord_13 rfl (lv_at hl 2 rfl) ?_
  refine zGetI (D := D) (ci := 12) (C := RX12) (T := TX12) (N := 71) hx hb hts hiX12 hown hH (zk_30 hF) rfl 23 (by decide) rfl hw1 (fun _ h9 => h9) dX12_isWord_14 q106 ?_
  refine lv_icmp_eq (tgt := 32) hx hb dX12_isWord_17 (by decide) (fun c113 => ?_) (fun c113 => ?_)
  · have zc113 := c113
    replace zc113 := zc_eq (nI_toInt (by omega)) (nI_toInt (by omega)) zc113
    refine lv_iconst (v := nI 0) hx hb dX12_isWord_32 (by decide) ?_
    refine W.widen (k := 0) (n := 0) (by decide) (by decide) ?_
    exact W.zret (v := nI 0) hx hb hr (by decide) (fun t9 ht9 hW9 => ⟨⟨nI 0, f102, rfl, ⟨Or.inl rfl, ⟨c103, by omega, by omega, q106, trivial⟩, fun a b h => by rw [hf108 a b (by omega)]⟩, zEnd1 hH ht9 hW9⟩, hS.F ht9⟩) hS.2.2 dX12_isWord_33
  · have zc113 := c113
    replace zc113 := zc_neq (nI_toInt (by omega)) (nI_toInt (by omega)) zc113
    refine lv_iload hx hb dX12_isWord_20 (lv_at hl 0 rfl) ?_
    refine lv_aload_n hx hb dX12_isWord_22 rfl (lv_at hl 2 rfl) ?_
    refine zGetI (D := D) (ci := 12) (C := RX12) (T := TX12) (N := 71) hx hb hts hiX12 hown hH (zk_30 hF) rfl 23 (by decide) rfl hw1 (fun _ h9 => h9) dX12_isWord_23 q106 ?_
    refine lv_isub hx hb dX12_isWord_26 ?_
    refine lv_topi (fun v114 ev114 => ?_)
    have iv114 : v114.toInt = ((c112 : Nat) : Int) - ((c103 : Nat) : Int) := by rw [ev114]; exact pk_sub_toInt (by omega) (by omega)
    refine lv_bipush (v := nI 7) hx hb dX12_isWord_27 (by decide) ?_
    refine lv_icmp_le (tgt := 34) hx hb dX12_isWord_29 (by decide) (fun c115 => ?_) (fun c115 => ?_)
    · have zc115 := c115
      replace zc115 := zc_le (iv114) (nI_toInt (by omega)) zc115
      refine lv_lconst (v := 0) hx hb dX12_isWord_34 (by decide) ?_
      refine lv_lstore (lv' := [(5, .long 0), (4, .int (nI c112)), (3, .int r101), (0, .ref (τ.1 30)), (1, .long wd)]) hx hb dX12_isWord_35 hl (by decide) rfl (fun ls hl => ?_)
      refine lv_aload_n hx hb dX12_isWord_37 rfl (lv_at hl 3 rfl) ?_
      refine zGetI (D := D) (ci := 12) (C := RX12) (T := TX12) (N := 71) hx hb hts hiX12 hown hH (zk_30 hF) rfl 23 (by decide) rfl hw1 (fun _ h9 => h9) dX12_isWord_38 q106 ?_
      refine lv_istore (lv' := [(7, .int (nI c103)), (5, .long 0), (4, .int (nI c112)), (3, .int r101), (0, .ref (τ.1 30)), (1, .long wd)]) hx hb dX12_isWord_41 hl (by decide) rfl (fun ls hl => ?_)
      refine zLp (σ := Nat × Int64) (fun x9 k9 H locs ls => (fun (i : Nat) (ww : Int64) => k9 = c112 - i ∧ (c103 ≤ i ∧ i ≤ c112) ∧ zH D A τ f102 fr ol s H ∧ va_S A s.heap H locs ∧ lv_has ls 8 [(0, .ref (τ.1 30)), (1, .long wd), (4, .int (nI c112)), (5, .long ww), (7, .int (nI i))]) x9.1 x9.2) (c103, 0) (c112 - c103) (show c112 - c103 = c112 - c103 ∧ (c103 ≤ c103 ∧ c103 ≤ c112) ∧ zH D A τ f102 fr ol s _ ∧ va_S A s.heap _ _ ∧ lv_has _ 8 [(0, .ref (τ.1 30)), (1, .long wd), (4, .int (nI c112)), (5, .long 0), (7, .int (nI c103))] from ⟨rfl, ⟨Nat.le_refl _, by omega⟩, hH, hS, lv_sub hl [4, 5, 2, 1, 0] rfl⟩) (fun k9 ih x9 H locs ls hv9 => ?_)
      obtain ⟨i, ww⟩ := x9
      have hv9 : k9 = c112 - i ∧ (c103 ≤ i ∧ i ≤ c112) ∧ zH D A τ f102 fr ol s H ∧ va_S A s.heap H locs ∧ lv_has ls 8 [(0, .ref (τ.1 30)), (1, .long wd), (4, .int (nI c112)), (5, .long ww), (7, .int (nI i))] := hv9
      obtain ⟨hkih116, hv9, hH, hS, hl⟩ := hv9
      obtain ⟨h1, h2⟩ := hv9
      have ih116 := ih
      clear ih
      refine lv_iload hx hb dX12_isWord_43 (lv_at hl 4 rfl) ?_
      refine lv_iload hx hb dX12_isWord_45 (lv_at hl 2 rfl) ?_
      refine lv_icmp_ge (tgt := 72) hx hb dX12_isWord_47 (by decide) (fun c117 => ?_) (fun c117 => ?_)
      · have zc117 := c117
        replace zc117 := zc_le (nI_toInt (by omega)) (nI_toInt (by omega)) zc117
        refine lv_lload hx hb dX12_isWord_72 (lv_at hl 3 rfl) ?_
        refine lv_lload_n hx hb dX12_isWord_74 rfl (lv_at hl 1 rfl) ?_
        refine W.lcmp hx hb dX12_isWord_75 ?_
        refine lv_topi (fun v118 ev118 => ?_)
        refine lv_if_ne (tgt := 83) hx hb dX12_isWord_76 (by decide) (fun c119 => ?_) (fun c119 => ?_)
        · have zc119 := c119
          replace zc119 := zc_neq (rfl) ((by decide : (0 : Int32).toInt = 0)) zc119
          refine lv_iconst (v := nI 0) hx hb dX12_isWord_83 (by decide) ?_
          refine W.widen (k := 0) (n := 0) (by decide) (by decide) ?_
          exact W.zret (v := nI 0) hx hb hr (by decide) (fun t9 ht9 hW9 => ⟨⟨nI 0, f102, rfl, ⟨Or.inl rfl, ⟨c103, by omega, by omega, q106, trivial⟩, fun a b h => by rw [hf108 a b (by omega)]⟩, zEnd1 hH ht9 hW9⟩, hS.F ht9⟩) hS.2.2 dX12_isWord_84
        · have zc119 := c119
          replace zc119 := zc_eq (rfl) ((by decide : (0 : Int32).toInt = 0)) zc119
          refine lv_iconst (v := nI 1) hx hb dX12_isWord_79 (by decide) ?_
          refine lv_goto (tgt := 84) hx hb dX12_isWord_80 (by decide) ?_
          refine W.widen (k := 0) (n := 0) (by decide) (by decide) ?_
          exact W.zret (v := nI 1) hx hb hr (by decide) (fun t9 ht9 hW9 => ⟨⟨nI 1, f102, rfl, ⟨Or.inr rfl, ⟨c103, by omega, by omega, q106, trivial⟩, fun a b h => by rw [hf108 a b (by omega)]⟩, zEnd1 hH ht9 hW9⟩, hS.F ht9⟩) hS.2.2 dX12_isWord_84
      · have zc117 := c117
        replace zc117 := zc_nle (nI_toInt (by omega)) (nI_toInt (by omega)) zc117
        refine lv_lload hx hb dX12_isWord_50 (lv_at hl 3 rfl) ?_
        refine lv_bipush (v := nI 8) hx hb dX12_isWord_52 (by decide) ?_
        refine lv_lshl hx hb dX12_isWord_54 rfl ?_
        refine lv_topl (fun v120 ev120 => ?_)
        refine lv_aload_n hx hb dX12_isWord_55 rfl (lv_at hl 0 rfl) ?_
        refine zGetR (D := D) (ci := 12) (C := RX12) (T := TX12) (N := 71) hx hb hts hiX12 hown hH (zk_30 hF) rfl 20 (by decide) rfl hw2 (fun _ h9 => h9) dX12_isWord_56 (zr_30_20 hF) ?_
        refine lv_iload hx hb dX12_isWord_59 (lv_at hl 4 rfl) ?_
        refine zIaldN (D := D) hx hb hH (zk_47 hF) (zn_47 hF) (by omega) (by omega) rfl dX12_isWord_61 ?_
        refine lv_i2l hx hb dX12_isWord_62 rfl ?_
        refine lv_topl (fun v121 ev121 => ?_)
        refine lv_lor hx hb dX12_isWord_63 ?_
        refine lv_topl (fun v122 ev122 => ?_)
        refine lv_lstore (lv' := [(5, .long v122), (0, .ref (τ.1 30)), (1, .long wd), (4, .int (nI c112)), (7, .int (nI i))]) hx hb dX12_isWord_64 hl (by decide) rfl (fun ls hl => ?_)
        refine lv_iinc (v := nI (i + 1)) (lv' := [(7, .int (nI (i + 1))), (5, .long v122), (0, .ref (τ.1 30)), (1, .long wd), (4, .int (nI c112))]) hx hb dX12_isWord_66 hl (k := 4) rfl (by rw [show (Int32.ofInt 1 : Int32) = nI 1 from by decide, nI_add]) (by decide) rfl (fun ls hl => ?_)
        refine lv_goto (tgt := 43) hx hb dX12_isWord_69 (by decide) ?_
        exact ih116 (c112 - (i + 1)) (by omega) (i + 1, _) _ _ _ (show c112 - (i + 1) = c112 - (i + 1) ∧ (c103 ≤ (i + 1) ∧ (i + 1) ≤ c112) ∧ zH D A τ f102 fr ol s _ ∧ va_S A s.heap _ _ ∧ lv_has _ 8 [(0, .ref (τ.1 30)), (1, .long wd), (4, .int (nI c112)), (5, .long _), (7, .int (nI (i + 1)))] from ⟨rfl, ⟨by omega, by omega⟩, hH, hS, lv_sub hl [2, 3, 4, 1, 0] rfl⟩)
    · have zc115 := c115
      replace zc115 := zc_nle (iv114) (nI_toInt (by omega)) zc115
      refine lv_iconst (v := nI 0) hx hb dX12_isWord_32 (by decide) ?_
      refine W.widen (k := 0) (n := 0) (by decide) (by decide) ?_
      exact W.zret (v := nI 0) hx hb hr (by decide) (fun t9 ht9 hW9 => ⟨⟨nI 0, f102, rfl, ⟨Or.inl rfl, ⟨c103, by omega, by omega, q106, trivial⟩, fun a b h => by rw [hf108 a b (by omega)]⟩, zEnd1 hH ht9 hW9⟩, hS.F ht9⟩) hS.2.2 dX12_isWord_33
set_option maxHeartbeats 4000000 in
set_option maxRecDepth 100000 in
/-- passes -/
theorem m_passes (l : Launch) (hl0 : l.stackTraces = false) (D : va_G) (A : Nat → Prop) (sad : Nat → Nat) (τ : zTy) (fi : zFi) (fr : zFr) (ol : Int64) (L a : Nat) (hF : zFix τ fr) (he : fi 30 22 = nI L) (ha : fi 30 23 = nI a) (hL4 : L ≤ 400) (haL : a ≤ L) (wd : Int64) : Met l yX12_passes wsX12_passes ({ frames := 2, cells := 0, slots := 0, locals := 48 }) (va_Pc [.ref (τ.1 30), .long wd] (zQc D A sad τ fi fr ol)) (va_Qi (fun (r : Int32) (u : zFi) => (r = 0 ∨ r = 1) ∧ (∃ c, a ≤ c ∧ c ≤ L ∧ u 30 23 = nI c ∧ True) ∧ ∀ a b, ¬ (a = 30 ∧ (b = 23 ∨ b = 24)) → u a b = fi a b) (fun (u : zFi) (t : State) => zH D A τ u fr ol t t.heap) A) 0 0 A := by
  refine Met.ofW (cc := cX12_passes) (maxL := 3) (ret := (some .boolean)) (by decide) rfl ?_
  intro p9 e9 s m args below meth c9 s₁ B hml hv
  obtain ⟨rfl, hz, hH, hA⟩ := hv
  have hx := B.exec
  have hb := B.bytes
  have hr := B.returns
  have hts := atoms_spec (ws := wsX12_passes) B.pre
  have hown : s.vm.findClass RX12 = some m.cls := findClass_of_methodNamed B.named
  have hlocks := B.notSynchronized
  have hS : va_S A s.heap s.heap [] := va_S.rf
  have hl := lv_entry ([.ref (τ.1 30), .long wd]) (n := 3) (Nat.le_of_ble_eq_true rfl)
  rw [lg_entry_eq]
  generalize (lg_sl ([.ref (τ.1 30), .long wd]) ++ List.replicate (3 - (lg_sl ([.ref (τ.1 30), .long wd])).length) Slot.unset).toArray = ls at hl ⊢
  have hl : lv_has ls 3 [(0, .ref (τ.1 30)), (1, .long wd)] := hl
  have hw0 := hts (.fieldLink RX12 206 "PostHouseModel" "at" "I") (by decide +kernel)
  have hiX12 : ∀ w ∈ u_ws RX12 TX12 71, w ∈ wsX12_passes := fun _ h => List.mem_cons_of_mem _ (List.mem_append_right _ h)
  refine lv_aload_n hx hb dX12_passes_0 rfl (lv_at hl 0 rfl) ?_
  refine lv_lload_n hx hb dX12_passes_1 rfl (lv_at hl 1 rfl) ?_
  refine va_calli (va_runV (As := [.long wd]) (rest := []) ⟨hx, hb, hml, hown, hts⟩ (m_isWord l hl0 D A sad τ fi fr ol L a hF he ha (by omega) (by omega) wd) (cwV 1 hts gX12_passes_X12_isWord rfl rfl rfl (by decide +kernel) ⟨Nat.le_of_ble_eq_true rfl, Nat.le_of_ble_eq_true rfl⟩) ⟨zQc_bl, zRecv hH (zk_30 hF) rfl, zQc_at hz hS hA hH⟩ rfl rfl hl.1 rfl (lv_room (Nat.le_of_ble_eq_true rfl)) dX12_passes_2 ⟨Nat.le_of_ble_eq_true rfl, Nat.le_of_ble_eq_true rfl⟩) hS (fun q _ h => h) (fun q h => h) (fun r101 u9 t9 H1 locs ht9 hvm9 hw hB hz1 hk1 hS => ?_)
  have hH := zMv ht9 hvm9 hB
  clear hB
  generalize u9 = f102 at hw hH
  generalize H1 = H at hH hS ⊢
  obtain ⟨hr109, ⟨c103, hc104, hc105, q106, hx107⟩, hf108⟩ := hw
  have q110 : f102 30 22 = nI L := by rw [hf108 30 22 (by omega)]; exact he
  refine lv_if_ne (tgt := 17) hx hb dX12_passes_5 (by decide) (fun c111 => ?_) (fun c111 => ?_)
  · have zc111 := c111
    replace zc111 := zc_neq (rfl) ((by decide : (0 : Int32).toInt = 0)) zc111
    refine lv_aload_n hx hb dX12_passes_17 rfl (lv_at hl 0 rfl) ?_
    refine lv_aload_n hx hb dX12_passes_18 rfl (lv_at hl 0 rfl) ?_
    refine va_calli (va_runV (As := []) (rest := [.ref (τ.1 30)]) ⟨hx, hb, hml, hown, hts⟩ (m_wordEnd l hl0 D A sad τ f102 fr ol L c103 hF q110 q106 (by omega) (by omega)) (cwV 0 hts gX12_passes_X12_wordEnd rfl rfl rfl (by decide +kernel) ⟨Nat.le_of_ble_eq_true rfl, Nat.le_of_ble_eq_true rfl⟩) ⟨zQc_bl, zRecv hH (zk_30 hF) rfl, zQc_at hz hS hA hH⟩ rfl rfl hl.1 rfl (lv_room (Nat.le_of_ble_eq_true rfl)) dX12_passes_19 ⟨Nat.le_of_ble_eq_true rfl, Nat.le_of_ble_eq_true rfl⟩) hS (fun q _ h => h) (fun q h => h) (fun r112 u9 t9 H1 locs ht9 hvm9 hw hB hz1 hk1 hS => ?_)
    have hH := zMv ht9 hvm9 hB
    generalize H1 = H at hH hS ⊢
    obtain ⟨c113, h1c113, h2c113, rfl⟩ := hw
    refine zPutI (D := D) (ci := 12) (ty := .int) (C := RX12) (T := TX12) (N := 71) hx hb hts hiX12 tyX12 tyX12_ok nmX12 hown hH hS (zk_30 hF) rfl 23 (by decide) rfl hw0 (fun _ h9 => h9) rfl (by decide +kernel) rfl rfl dX12_passes_22 (fun H locs hH hS => ?_)
    obtain ⟨f114, ef114⟩ : ∃ f9 : zFi, f9 = zu f102 30 23 (nI c113) := ⟨_, rfl⟩
    rw [← ef114] at hH
    have q115 : f114 30 22 = nI L := by rw [ef114, zu_n (fun h9 => absurd h9.2 (by decide))]; exact q110
    have q116 : f114 30 23 = nI c113 := by rw [ef114]; exact zu_s
    refine lv_iconst (v := nI 1) hx hb dX12_passes_25 (by decide) ?_
    refine W.widen (k := 0) (n := 0) (by decide) (by decide) ?_
    exact W.zret (v := nI 1) hx hb hr (by decide) (fun t9 ht9 hW9 => ⟨⟨nI 1, f114, rfl, ⟨Or.inr rfl, ⟨c113, by omega, by omega, q116, trivial⟩, fun a b h => by rw [ef114, zu_n (by omega), hf108 a b (by omega)]⟩, zEnd1 hH ht9 hW9⟩, hS.F ht9⟩) hS.2.2 dX12_passes_26
  · have zc111 := c111
    replace zc111 := zc_eq (rfl) ((by decide : (0 : Int32).toInt = 0)) zc111
    refine lv_aload_n hx hb dX12_passes_8 rfl (lv_at hl 0 rfl) ?_
    refine lv_aload_n hx hb dX12_passes_9 rfl (lv_at hl 0 rfl) ?_
    refine zGetI (D := D) (ci := 12) (C := RX12) (T := TX12) (N := 71) hx hb hts hiX12 hown hH (zk_30 hF) rfl 23 (by decide) rfl hw0 (fun _ h9 => h9) dX12_passes_10 q106 ?_
    refine va_calli (va_runV (As := [.int (nI c103)]) (rest := []) ⟨hx, hb, hml, hown, hts⟩ (m_wrong l hl0 D A sad τ f102 fr ol (nI c103) hF) (cwV 1 hts gX12_passes_X12_wrong rfl rfl rfl (by decide +kernel) ⟨Nat.le_of_ble_eq_true rfl, Nat.le_of_ble_eq_true rfl⟩) ⟨zQc_bl, zRecv hH (zk_30 hF) rfl, zQc_at hz hS hA hH⟩ rfl rfl hl.1 rfl (lv_room (Nat.le_of_ble_eq_true rfl)) dX12_passes_13 ⟨Nat.le_of_ble_eq_true rfl, Nat.le_of_ble_eq_true rfl⟩) hS (fun q _ h => h) (fun q h => h) (fun r117 u9 t9 H1 locs ht9 hvm9 hw hB hz1 hk1 hS => ?_)
    have hH := zMv ht9 hvm9 hB
    clear hB
    generalize u9 = f118 at hw hH
    generalize H1 = H at hH hS ⊢
    obtain ⟨rfl, hf119⟩ := hw
    have q120 : f118 30 22 = nI L := by rw [hf119 30 22 (by omega)]; exact q110
    have q121 : f118 30 23 = nI c103 := by rw [hf119 30 23 (by omega)]; exact q106
    refine W.widen (k := 0) (n := 0) (by decide) (by decide) ?_
    exact W.zret (v := 0) hx hb hr (by decide) (fun t9 ht9 hW9 => ⟨⟨0, f118, rfl, ⟨Or.inl rfl, ⟨c103, by omega, by omega, q121, trivial⟩, fun a b h => by rw [hf119 a b (by omega), hf108 a b (by omega)]⟩, zEnd1 hH ht9 hW9⟩, hS.F ht9⟩) hS.2.2 dX12_passes_16
set_option maxHeartbeats 4000000 in
set_option maxRecDepth 100000 in
/-- digits -/
theorem m_digits (l : Launch) (hl0 : l.stackTraces = false) (D : va_G) (A : Nat → Prop) (sad : Nat → Nat) (τ : zTy) (fi : zFi) (fr : zFr) (ol : Int64) (L a : Nat) (hF : zFix τ fr) (he : fi 30 22 = nI L) (ha : fi 30 23 = nI a) (hL4 : L ≤ 400) (haL : a ≤ L) (x1 x2 x3 x4 : Int32) : Met l yX12_digits wsX12_digits ({ frames := 1, cells := 0, slots := 0, locals := 21 }) (va_Pc [.ref (τ.1 30), .int x1, .int x2, .int x3, .int x4] (zQc D A sad τ fi fr ol)) (va_Qi (fun (r : Int32) (u : zFi) => (r = 0 ∨ (r = 1 ∧ x3.toInt ≤ (u 30 25).toInt ∧ (u 30 25).toInt ≤ x4.toInt)) ∧ (∃ c, a ≤ c ∧ c ≤ L ∧ u 30 23 = nI c ∧ True) ∧ ∀ a b, ¬ (a = 30 ∧ 23 ≤ b ∧ b ≤ 25) → u a b = fi a b) (fun (u : zFi) (t : State) => zH D A τ u fr ol t t.heap) A) 0 0 A := by
  refine Met.ofW (cc := cX12_digits) (maxL := 8) (ret := (some .boolean)) (by decide) rfl ?_
  intro p9 e9 s m args below meth c9 s₁ B hml hv
  obtain ⟨rfl, hz, hH, hA⟩ := hv
  have hx := B.exec
  have hb := B.bytes
  have hr := B.returns
  have hts := atoms_spec (ws := wsX12_digits) B.pre
  have hown : s.vm.findClass RX12 = some m.cls := findClass_of_methodNamed B.named
  have hlocks := B.notSynchronized
  have hS : va_S A s.heap s.heap [] := va_S.rf
  have hl := lv_entry ([.ref (τ.1 30), .int x1, .int x2, .int x3, .int x4]) (n := 8) (Nat.le_of_ble_eq_true rfl)
  rw [lg_entry_eq]
  generalize (lg_sl ([.ref (τ.1 30), .int x1, .int x2, .int x3, .int x4]) ++ List.replicate (8 - (lg_sl ([.ref (τ.1 30), .int x1, .int x2, .int x3, .int x4])).length) Slot.unset).toArray = ls at hl ⊢
  have hl : lv_has ls 8 [(0, .ref (τ.1 30)), (1, .int x1), (2, .int x2), (3, .int x3), (4, .int x4)] := hl
  have hiX12 : ∀ w ∈ u_ws RX12 TX12 71, w ∈ wsX12_digits := fun _ h => List.mem_cons_of_mem _ (List.mem_append_right _ h)
  have hw1 := hts (.fieldLink RX12 206 "PostHouseModel" "at" "I") (by decide +kernel)
  have hw2 := hts (.fieldLink RX12 209 "PostHouseModel" "end" "I") (by decide +kernel)
  have hw3 := hts (.fieldLink RX12 229 "PostHouseModel" "number" "I") (by decide +kernel)
  have hw4 := hts (.fieldLink RX12 58 "PostHouseModel" "tape" "[I") (by decide +kernel)
  refine lv_aload_n hx hb dX12_digits_0 rfl (lv_at hl 0 rfl) ?_
  refine va_calli (va_runV (As := []) (rest := []) ⟨hx, hb, hml, hown, hts⟩ (m_sign l hl0 D A sad τ fi fr ol L a hF he ha (by omega) (by omega)) (cwV 0 hts gX12_digits_X12_sign rfl rfl rfl (by decide +kernel) ⟨Nat.le_of_ble_eq_true rfl, Nat.le_of_ble_eq_true rfl⟩) ⟨zQc_bl, zRecv hH (zk_30 hF) rfl, zQc_at hz hS hA hH⟩ rfl rfl hl.1 rfl (lv_room (Nat.le_of_ble_eq_true rfl)) dX12_digits_1 ⟨Nat.le_of_ble_eq_true rfl, Nat.le_of_ble_eq_true rfl⟩) hS (fun q _ h => h) (fun q h => h) (fun r101 u9 t9 H1 locs ht9 hvm9 hw hB hz1 hk1 hS => ?_)
  have hH := zMv ht9 hvm9 hB
  clear hB
  generalize u9 = f102 at hw hH
  generalize H1 = H at hH hS ⊢
  obtain ⟨hr109, ⟨c103, hc104, hc105, q106, hx107⟩, hf108⟩ := hw
  have q110 : f102 30 22 = nI L := by rw [hf108 30 22 (by omega)]; exact he
  refine lv_istore (lv' := [(5, .int r101), (0, .ref (τ.1 30)), (1, .int x1), (2, .int x2), (3, .int x3), (4, .int x4)]) hx hb dX12_digits_4 hl (by decide) rfl (fun ls hl => ?_)
  refine lv_aload_n hx hb dX12_digits_6 rfl (lv_at hl 1 rfl) ?_
  refine zGetI (D := D) (ci := 12) (C := RX12) (T := TX12) (N := 71) hx hb hts hiX12 hown hH (zk_30 hF) rfl 23 (by decide) rfl hw1 (fun _ h9 => h9) dX12_digits_7 q106 ?_
  refine lv_istore (lv' := [(6, .int (nI c103)), (5, .int r101), (0, .ref (τ.1 30)), (1, .int x1), (2, .int x2), (3, .int x3), (4, .int x4)]) hx hb dX12_digits_10 hl (by decide) rfl (fun ls hl => ?_)
  refine lv_iconst (v := nI 0) hx hb dX12_digits_12 (by decide) ?_
  refine lv_istore (lv' := [(7, .int (nI 0)), (6, .int (nI c103)), (5, .int r101), (0, .ref (τ.1 30)), (1, .int x1), (2, .int x2), (3, .int x3), (4, .int x4)]) hx hb dX12_digits_13 hl (by decide) rfl (fun ls hl => ?_)
  refine zLp (σ := Nat × zFi × Int32) (fun x9 k9 H locs ls => (fun (c : Nat) (f : zFi) (vv : Int32) => k9 = L - c ∧ (c103 ≤ c ∧ c ≤ L ∧ f 30 23 = nI c ∧ ∀ a b, ¬ (a = 30 ∧ b = 23) → f a b = fi a b) ∧ zH D A τ f fr ol s H ∧ va_S A s.heap H locs ∧ lv_has ls 8 [(0, .ref (τ.1 30)), (1, .int x1), (2, .int x2), (3, .int x3), (4, .int x4), (6, .int (nI c103)), (7, .int vv)]) x9.1 x9.2.1 x9.2.2) (c103, f102, nI 0) (L - c103) (show L - c103 = L - c103 ∧ (c103 ≤ c103 ∧ c103 ≤ L ∧ f102 30 23 = nI c103 ∧ ∀ a b, ¬ (a = 30 ∧ b = 23) → f102 a b = fi a b) ∧ zH D A τ f102 fr ol s _ ∧ va_S A s.heap _ _ ∧ lv_has _ 8 [(0, .ref (τ.1 30)), (1, .int x1), (2, .int x2), (3, .int x3), (4, .int x4), (6, .int (nI c103)), (7, .int (nI 0))] from ⟨rfl, ⟨Nat.le_refl _, by omega, q106, fun a b h => by rw [hf108 a b (by omega)]⟩, hH, hS, lv_sub hl [3, 4, 5, 6, 7, 1, 0] rfl⟩) (fun k9 ih x9 H locs ls hv9 => ?_)
  obtain ⟨c, f, vv⟩ := x9
  have hv9 : k9 = L - c ∧ (c103 ≤ c ∧ c ≤ L ∧ f 30 23 = nI c ∧ ∀ a b, ¬ (a = 30 ∧ b = 23) → f a b = fi a b) ∧ zH D A τ f fr ol s H ∧ va_S A s.heap H locs ∧ lv_has ls 8 [(0, .ref (τ.1 30)), (1, .int x1), (2, .int x2), (3, .int x3), (4, .int x4), (6, .int (nI c103)), (7, .int vv)] := hv9
  obtain ⟨hkih111, hv9, hH, hS, hl⟩ := hv9
  obtain ⟨h1, h2, hc, hfr⟩ := hv9
  have ih111 := ih
  clear ih
  have q22 : f 30 22 = nI L := by rw [hfr 30 22 (by omega)]; exact he
  refine lv_aload_n hx hb dX12_digits_15 rfl (lv_at hl 0 rfl) ?_
  refine zGetI (D := D) (ci := 12) (C := RX12) (T := TX12) (N := 71) hx hb hts hiX12 hown hH (zk_30 hF) rfl 23 (by decide) rfl hw1 (fun _ h9 => h9) dX12_digits_16 hc ?_
  refine lv_aload_n hx hb dX12_digits_19 rfl (lv_at hl 0 rfl) ?_
  refine zGetI (D := D) (ci := 12) (C := RX12) (T := TX12) (N := 71) hx hb hts hiX12 hown hH (zk_30 hF) rfl 22 (by decide) rfl hw2 (fun _ h9 => h9) dX12_digits_20 q22 ?_
  refine lv_icmp_ge (tgt := 85) hx hb dX12_digits_23 (by decide) (fun c112 => ?_) (fun c112 => ?_)
  · have zc112 := c112
    replace zc112 := zc_le (nI_toInt (by omega)) (nI_toInt (by omega)) zc112
    refine lv_aload_n hx hb dX12_digits_85 rfl (lv_at hl 0 rfl) ?_
    refine zGetI (D := D) (ci := 12) (C := RX12) (T := TX12) (N := 71) hx hb hts hiX12 hown hH (zk_30 hF) rfl 23 (by decide) rfl hw1 (fun _ h9 => h9) dX12_digits_86 hc ?_
    refine lv_iload hx hb dX12_digits_89 (lv_at hl 5 rfl) ?_
    refine lv_isub hx hb dX12_digits_91 ?_
    refine lv_topi (fun v113 ev113 => ?_)
    have iv113 : v113.toInt = ((c : Nat) : Int) - ((c103 : Nat) : Int) := by rw [ev113]; exact pk_sub_toInt (by omega) (by omega)
    refine lv_iload_n hx hb dX12_digits_92 rfl (lv_at hl 1 rfl) ?_
    refine lv_icmp_lt (tgt := 120) hx hb dX12_digits_93 (by decide) (fun c114 => ?_) (fun c114 => ?_)
    · have zc114 := c114
      replace zc114 := zc_lt (iv113) (rfl) zc114
      refine lv_aload_n hx hb dX12_digits_120 rfl (lv_at hl 0 rfl) ?_
      refine lv_iload hx hb dX12_digits_121 (lv_at hl 5 rfl) ?_
      refine va_calli (va_runV (As := [.int (nI c103)]) (rest := []) ⟨hx, hb, hml, hown, hts⟩ (m_wrong l hl0 D A sad τ f fr ol (nI c103) hF) (cwV 1 hts gX12_digits_X12_wrong rfl rfl rfl (by decide +kernel) ⟨Nat.le_of_ble_eq_true rfl, Nat.le_of_ble_eq_true rfl⟩) ⟨zQc_bl, zRecv hH (zk_30 hF) rfl, zQc_at hz hS hA hH⟩ rfl rfl hl.1 rfl (lv_room (Nat.le_of_ble_eq_true rfl)) dX12_digits_123 ⟨Nat.le_of_ble_eq_true rfl, Nat.le_of_ble_eq_true rfl⟩) hS (fun q _ h => h) (fun q h => h) (fun r115 u9 t9 H1 locs ht9 hvm9 hw hB hz1 hk1 hS => ?_)
      have hH := zMv ht9 hvm9 hB
      clear hB
      generalize u9 = f116 at hw hH
      generalize H1 = H at hH hS ⊢
      obtain ⟨rfl, hf117⟩ := hw
      have q118 : f116 30 22 = nI L := by rw [hf117 30 22 (by omega)]; exact q22
      have q119 : f116 30 23 = nI c := by rw [hf117 30 23 (by omega)]; exact hc
      refine W.widen (k := 0) (n := 0) (by decide) (by decide) ?_
      exact W.zret (v := 0) hx hb hr (by decide) (fun t9 ht9 hW9 => ⟨⟨0, f116, rfl, ⟨Or.inl rfl, ⟨c, by omega, by omega, q119, trivial⟩, fun a b h => by rw [hf117 a b (by omega)]; exact hfr a b (by omega)⟩, zEnd1 hH ht9 hW9⟩, hS.F ht9⟩) hS.2.2 dX12_digits_126
    · have zc114 := c114
      replace zc114 := zc_nlt (iv113) (rfl) zc114
      refine lv_aload_n hx hb dX12_digits_96 rfl (lv_at hl 0 rfl) ?_
      refine zGetI (D := D) (ci := 12) (C := RX12) (T := TX12) (N := 71) hx hb hts hiX12 hown hH (zk_30 hF) rfl 23 (by decide) rfl hw1 (fun _ h9 => h9) dX12_digits_97 hc ?_
      refine lv_iload hx hb dX12_digits_100 (lv_at hl 5 rfl) ?_
      refine lv_isub hx hb dX12_digits_102 ?_
      refine lv_topi (fun v120 ev120 => ?_)
      have iv120 : v120.toInt = ((c : Nat) : Int) - ((c103 : Nat) : Int) := by rw [ev120]; exact pk_sub_toInt (by omega) (by omega)
      refine lv_iload_n hx hb dX12_digits_103 rfl (lv_at hl 2 rfl) ?_
      refine lv_icmp_gt (tgt := 120) hx hb dX12_digits_104 (by decide) (fun c121 => ?_) (fun c121 => ?_)
      · have zc121 := c121
        replace zc121 := zc_lt (rfl) (iv120) zc121
        refine lv_aload_n hx hb dX12_digits_120 rfl (lv_at hl 0 rfl) ?_
        refine lv_iload hx hb dX12_digits_121 (lv_at hl 5 rfl) ?_
        refine va_calli (va_runV (As := [.int (nI c103)]) (rest := []) ⟨hx, hb, hml, hown, hts⟩ (m_wrong l hl0 D A sad τ f fr ol (nI c103) hF) (cwV 1 hts gX12_digits_X12_wrong rfl rfl rfl (by decide +kernel) ⟨Nat.le_of_ble_eq_true rfl, Nat.le_of_ble_eq_true rfl⟩) ⟨zQc_bl, zRecv hH (zk_30 hF) rfl, zQc_at hz hS hA hH⟩ rfl rfl hl.1 rfl (lv_room (Nat.le_of_ble_eq_true rfl)) dX12_digits_123 ⟨Nat.le_of_ble_eq_true rfl, Nat.le_of_ble_eq_true rfl⟩) hS (fun q _ h => h) (fun q h => h) (fun r122 u9 t9 H1 locs ht9 hvm9 hw hB hz1 hk1 hS => ?_)
        have hH := zMv ht9 hvm9 hB
        clear hB
        generalize u9 = f123 at hw hH
        generalize H1 = H at hH hS ⊢
        obtain ⟨rfl, hf124⟩ := hw
        have q125 : f123 30 22 = nI L := by rw [hf124 30 22 (by omega)]; exact q22
        have q126 : f123 30 23 = nI c := by rw [hf124 30 23 (by omega)]; exact hc
        refine W.widen (k := 0) (n := 0) (by decide) (by decide) ?_
        exact W.zret (v := 0) hx hb hr (by decide) (fun t9 ht9 hW9 => ⟨⟨0, f123, rfl, ⟨Or.inl rfl, ⟨c, by omega, by omega, q126, trivial⟩, fun a b h => by rw [hf124 a b (by omega)]; exact hfr a b (by omega)⟩, zEnd1 hH ht9 hW9⟩, hS.F ht9⟩) hS.2.2 dX12_digits_126
      · have zc121 := c121
        replace zc121 := zc_nlt (rfl) (iv120) zc121
        refine lv_iload hx hb dX12_digits_107 (lv_at hl 6 rfl) ?_
        refine lv_iload_n hx hb dX12_digits_109 rfl (lv_at hl 3 rfl) ?_
        refine lv_icmp_lt (tgt := 120) hx hb dX12_digits_110 (by decide) (fun c127 => ?_) (fun c127 => ?_)
        · have zc127 := c127
          replace zc127 := zc_lt (rfl) (rfl) zc127
          refine lv_aload_n hx hb dX12_digits_120 rfl (lv_at hl 0 rfl) ?_
          refine lv_iload hx hb dX12_digits_121 (lv_at hl 5 rfl) ?_
          refine va_calli (va_runV (As := [.int (nI c103)]) (rest := []) ⟨hx, hb, hml, hown, hts⟩ (m_wrong l hl0 D A sad τ f fr ol (nI c103) hF) (cwV 1 hts gX12_digits_X12_wrong rfl rfl rfl (by decide +kernel) ⟨Nat.le_of_ble_eq_true rfl, Nat.le_of_ble_eq_true rfl⟩) ⟨zQc_bl, zRecv hH (zk_30 hF) rfl, zQc_at hz hS hA hH⟩ rfl rfl hl.1 rfl (lv_room (Nat.le_of_ble_eq_true rfl)) dX12_digits_123 ⟨Nat.le_of_ble_eq_true rfl, Nat.le_of_ble_eq_true rfl⟩) hS (fun q _ h => h) (fun q h => h) (fun r128 u9 t9 H1 locs ht9 hvm9 hw hB hz1 hk1 hS => ?_)
          have hH := zMv ht9 hvm9 hB
          clear hB
          generalize u9 = f129 at hw hH
          generalize H1 = H at hH hS ⊢
          obtain ⟨rfl, hf130⟩ := hw
          have q131 : f129 30 22 = nI L := by rw [hf130 30 22 (by omega)]; exact q22
          have q132 : f129 30 23 = nI c := by rw [hf130 30 23 (by omega)]; exact hc
          refine W.widen (k := 0) (n := 0) (by decide) (by decide) ?_
          exact W.zret (v := 0) hx hb hr (by decide) (fun t9 ht9 hW9 => ⟨⟨0, f129, rfl, ⟨Or.inl rfl, ⟨c, by omega, by omega, q132, trivial⟩, fun a b h => by rw [hf130 a b (by omega)]; exact hfr a b (by omega)⟩, zEnd1 hH ht9 hW9⟩, hS.F ht9⟩) hS.2.2 dX12_digits_126
        · have zc127 := c127
          replace zc127 := zc_nlt (rfl) (rfl) zc127
          refine lv_iload hx hb dX12_digits_113 (lv_at hl 6 rfl) ?_
          refine lv_iload hx hb dX12_digits_115 (lv_at hl 4 rfl) ?_
          refine lv_icmp_le (tgt := 127) hx hb dX12_digits_117 (by decide) (fun c133 => ?_) (fun c133 => ?_)
          · have zc133 := c133
            replace zc133 := zc_le (rfl) (rfl) zc133
            refine lv_aload_n hx hb dX12_digits_127 rfl (lv_at hl 0 rfl) ?_
            refine lv_iload hx hb dX12_digits_128 (lv_at hl 6 rfl) ?_
            refine zPutI (D := D) (ci := 12) (ty := .int) (C := RX12) (T := TX12) (N := 71) hx hb hts hiX12 tyX12 tyX12_ok nmX12 hown hH hS (zk_30 hF) rfl 25 (by decide) rfl hw3 (fun _ h9 => h9) rfl (by decide +kernel) rfl rfl dX12_digits_130 (fun H locs hH hS => ?_)
            obtain ⟨f134, ef134⟩ : ∃ f9 : zFi, f9 = zu f 30 25 vv := ⟨_, rfl⟩
            rw [← ef134] at hH
            have q135 : f134 30 22 = nI L := by rw [ef134, zu_n (fun h9 => absurd h9.2 (by decide))]; exact q22
            have q136 : f134 30 23 = nI c := by rw [ef134, zu_n (fun h9 => absurd h9.2 (by decide))]; exact hc
            have q137 : f134 30 25 = vv := by rw [ef134]; exact zu_s
            refine lv_iconst (v := nI 1) hx hb dX12_digits_133 (by decide) ?_
            refine W.widen (k := 0) (n := 0) (by decide) (by decide) ?_
            exact W.zret (v := nI 1) hx hb hr (by decide) (fun t9 ht9 hW9 => ⟨⟨nI 1, f134, rfl, ⟨Or.inr ⟨rfl, by rw [q137]; omega, by rw [q137]; omega⟩, ⟨c, by omega, by omega, q136, trivial⟩, fun a b h => by rw [ef134, zu_n (by omega)]; exact hfr a b (by omega)⟩, zEnd1 hH ht9 hW9⟩, hS.F ht9⟩) hS.2.2 dX12_digits_134
          · have zc133 := c133
            replace zc133 := zc_nle (rfl) (rfl) zc133
            refine lv_aload_n hx hb dX12_digits_120 rfl (lv_at hl 0 rfl) ?_
            refine lv_iload hx hb dX12_digits_121 (lv_at hl 5 rfl) ?_
            refine va_calli (va_runV (As := [.int (nI c103)]) (rest := []) ⟨hx, hb, hml, hown, hts⟩ (m_wrong l hl0 D A sad τ f fr ol (nI c103) hF) (cwV 1 hts gX12_digits_X12_wrong rfl rfl rfl (by decide +kernel) ⟨Nat.le_of_ble_eq_true rfl, Nat.le_of_ble_eq_true rfl⟩) ⟨zQc_bl, zRecv hH (zk_30 hF) rfl, zQc_at hz hS hA hH⟩ rfl rfl hl.1 rfl (lv_room (Nat.le_of_ble_eq_true rfl)) dX12_digits_123 ⟨Nat.le_of_ble_eq_true rfl, Nat.le_of_ble_eq_true rfl⟩) hS (fun q _ h => h) (fun q h => h) (fun r138 u9 t9 H1 locs ht9 hvm9 hw hB hz1 hk1 hS => ?_)
            have hH := zMv ht9 hvm9 hB
            clear hB
            generalize u9 = f139 at hw hH
            generalize H1 = H at hH hS ⊢
            obtain ⟨rfl, hf140⟩ := hw
            have q141 : f139 30 22 = nI L := by rw [hf140 30 22 (by omega)]; exact q22
            have q142 : f139 30 23 = nI c := by rw [hf140 30 23 (by omega)]; exact hc
            refine W.widen (k := 0) (n := 0) (by decide) (by decide) ?_
            exact W.zret (v := 0) hx hb hr (by decide) (fun t9 ht9 hW9 => ⟨⟨0, f139, rfl, ⟨Or.inl rfl, ⟨c, by omega, by omega, q142, trivial⟩, fun a b h => by rw [hf140 a b (by omega)]; exact hfr a b (by omega)⟩, zEnd1 hH ht9 hW9⟩, hS.F ht9⟩) hS.2.2 dX12_digits_126
  · have zc112 := c112
    replace zc112 := zc_nle (nI_toInt (by omega)) (nI_toInt (by omega)) zc112
    refine lv_aload_n hx hb dX12_digits_26 rfl (lv_at hl 0 rfl) ?_
    refine zGetR (D := D) (ci := 12) (C := RX12) (T := TX12) (N := 71) hx hb hts hiX12 hown hH (zk_30 hF) rfl 20 (by decide) rfl hw4 (fun _ h9 => h9) dX12_digits_27 (zr_30_20 hF) ?_
    refine lv_aload_n hx hb dX12_digits_30 rfl (lv_at hl 0 rfl) ?_
    refine zGetI (D := D) (ci := 12) (C := RX12) (T := TX12) (N := 71) hx hb hts hiX12 hown hH (zk_30 hF) rfl 23 (by decide) rfl hw1 (fun _ h9 => h9) dX12_digits_31 hc ?_
    refine zIaldN (D := D) hx hb hH (zk_47 hF) (zn_47 hF) (by omega) (by omega) rfl dX12_digits_34 ?_
    refine va_calli (va_runS (As := [.int (f 47 c)]) (rest := []) ⟨hx, hb, hml, hown, hts⟩ (m_isDigit l hl0 D A sad τ f fr ol (f 47 c)) (cwS 1 hts gX12_digits_X12_isDigit rfl rfl rfl (by decide +kernel) ⟨Nat.le_of_ble_eq_true rfl, Nat.le_of_ble_eq_true rfl⟩) ⟨zQc_bl, zQc_at hz hS hA hH⟩ rfl rfl hl.1 rfl (lv_room (Nat.le_of_ble_eq_true rfl)) dX12_digits_35 ⟨Nat.le_of_ble_eq_true rfl, Nat.le_of_ble_eq_true rfl⟩) hS (fun q _ h => h) (fun q h => h) (fun r143 u9 t9 H1 locs ht9 hvm9 hw hB hz1 hk1 hS => ?_)
    have hH := zMv ht9 hvm9 hB
    generalize H1 = H at hH hS ⊢
    refine lv_if_eq (tgt := 85) hx hb dX12_digits_38 (by decide) (fun c144 => ?_) (fun c144 => ?_)
    · have zc144 := c144
      replace zc144 := zc_eq (rfl) ((by decide : (0 : Int32).toInt = 0)) zc144
      refine lv_aload_n hx hb dX12_digits_85 rfl (lv_at hl 0 rfl) ?_
      refine zGetI (D := D) (ci := 12) (C := RX12) (T := TX12) (N := 71) hx hb hts hiX12 hown hH (zk_30 hF) rfl 23 (by decide) rfl hw1 (fun _ h9 => h9) dX12_digits_86 hc ?_
      refine lv_iload hx hb dX12_digits_89 (lv_at hl 5 rfl) ?_
      refine lv_isub hx hb dX12_digits_91 ?_
      refine lv_topi (fun v145 ev145 => ?_)
      have iv145 : v145.toInt = ((c : Nat) : Int) - ((c103 : Nat) : Int) := by rw [ev145]; exact pk_sub_toInt (by omega) (by omega)
      refine lv_iload_n hx hb dX12_digits_92 rfl (lv_at hl 1 rfl) ?_
      refine lv_icmp_lt (tgt := 120) hx hb dX12_digits_93 (by decide) (fun c146 => ?_) (fun c146 => ?_)
      · have zc146 := c146
        replace zc146 := zc_lt (iv145) (rfl) zc146
        refine lv_aload_n hx hb dX12_digits_120 rfl (lv_at hl 0 rfl) ?_
        refine lv_iload hx hb dX12_digits_121 (lv_at hl 5 rfl) ?_
        refine va_calli (va_runV (As := [.int (nI c103)]) (rest := []) ⟨hx, hb, hml, hown, hts⟩ (m_wrong l hl0 D A sad τ f fr ol (nI c103) hF) (cwV 1 hts gX12_digits_X12_wrong rfl rfl rfl (by decide +kernel) ⟨Nat.le_of_ble_eq_true rfl, Nat.le_of_ble_eq_true rfl⟩) ⟨zQc_bl, zRecv hH (zk_30 hF) rfl, zQc_at hz hS hA hH⟩ rfl rfl hl.1 rfl (lv_room (Nat.le_of_ble_eq_true rfl)) dX12_digits_123 ⟨Nat.le_of_ble_eq_true rfl, Nat.le_of_ble_eq_true rfl⟩) hS (fun q _ h => h) (fun q h => h) (fun r147 u9 t9 H1 locs ht9 hvm9 hw hB hz1 hk1 hS => ?_)
        have hH := zMv ht9 hvm9 hB
        clear hB
        generalize u9 = f148 at hw hH
        generalize H1 = H at hH hS ⊢
        obtain ⟨rfl, hf149⟩ := hw
        have q150 : f148 30 22 = nI L := by rw [hf149 30 22 (by omega)]; exact q22
        have q151 : f148 30 23 = nI c := by rw [hf149 30 23 (by omega)]; exact hc
        refine W.widen (k := 0) (n := 0) (by decide) (by decide) ?_
        exact W.zret (v := 0) hx hb hr (by decide) (fun t9 ht9 hW9 => ⟨⟨0, f148, rfl, ⟨Or.inl rfl, ⟨c, by omega, by omega, q151, trivial⟩, fun a b h => by rw [hf149 a b (by omega)]; exact hfr a b (by omega)⟩, zEnd1 hH ht9 hW9⟩, hS.F ht9⟩) hS.2.2 dX12_digits_126
      · have zc146 := c146
        replace zc146 := zc_nlt (iv145) (rfl) zc146
        refine lv_aload_n hx hb dX12_digits_96 rfl (lv_at hl 0 rfl) ?_
        refine zGetI (D := D) (ci := 12) (C := RX12) (T := TX12) (N := 71) hx hb hts hiX12 hown hH (zk_30 hF) rfl 23 (by decide) rfl hw1 (fun _ h9 => h9) dX12_digits_97 hc ?_
        refine lv_iload hx hb dX12_digits_100 (lv_at hl 5 rfl) ?_
        refine lv_isub hx hb dX12_digits_102 ?_
        refine lv_topi (fun v152 ev152 => ?_)
        have iv152 : v152.toInt = ((c : Nat) : Int) - ((c103 : Nat) : Int) := by rw [ev152]; exact pk_sub_toInt (by omega) (by omega)
        refine lv_iload_n hx hb dX12_digits_103 rfl (lv_at hl 2 rfl) ?_
        refine lv_icmp_gt (tgt := 120) hx hb dX12_digits_104 (by decide) (fun c153 => ?_) (fun c153 => ?_)
        · have zc153 := c153
          replace zc153 := zc_lt (rfl) (iv152) zc153
          refine lv_aload_n hx hb dX12_digits_120 rfl (lv_at hl 0 rfl) ?_
          refine lv_iload hx hb dX12_digits_121 (lv_at hl 5 rfl) ?_
          refine va_calli (va_runV (As := [.int (nI c103)]) (rest := []) ⟨hx, hb, hml, hown, hts⟩ (m_wrong l hl0 D A sad τ f fr ol (nI c103) hF) (cwV 1 hts gX12_digits_X12_wrong rfl rfl rfl (by decide +kernel) ⟨Nat.le_of_ble_eq_true rfl, Nat.le_of_ble_eq_true rfl⟩) ⟨zQc_bl, zRecv hH (zk_30 hF) rfl, zQc_at hz hS hA hH⟩ rfl rfl hl.1 rfl (lv_room (Nat.le_of_ble_eq_true rfl)) dX12_digits_123 ⟨Nat.le_of_ble_eq_true rfl, Nat.le_of_ble_eq_true rfl⟩) hS (fun q _ h => h) (fun q h => h) (fun r154 u9 t9 H1 locs ht9 hvm9 hw hB hz1 hk1 hS => ?_)
          have hH := zMv ht9 hvm9 hB
          clear hB
          generalize u9 = f155 at hw hH
          generalize H1 = H at hH hS ⊢
          obtain ⟨rfl, hf156⟩ := hw
          have q157 : f155 30 22 = nI L := by rw [hf156 30 22 (by omega)]; exact q22
          have q158 : f155 30 23 = nI c := by rw [hf156 30 23 (by omega)]; exact hc
          refine W.widen (k := 0) (n := 0) (by decide) (by decide) ?_
          exact W.zret (v := 0) hx hb hr (by decide) (fun t9 ht9 hW9 => ⟨⟨0, f155, rfl, ⟨Or.inl rfl, ⟨c, by omega, by omega, q158, trivial⟩, fun a b h => by rw [hf156 a b (by omega)]; exact hfr a b (by omega)⟩, zEnd1 hH ht9 hW9⟩, hS.F ht9⟩) hS.2.2 dX12_digits_126
        · have zc153 := c153
          replace zc153 := zc_nlt (rfl) (iv152) zc153
          refine lv_iload hx hb dX12_digits_107 (lv_at hl 6 rfl) ?_
          refine lv_iload_n hx hb dX12_digits_109 rfl (lv_at hl 3 rfl) ?_
          refine lv_icmp_lt (tgt := 120) hx hb dX12_digits_110 (by decide) (fun c159 => ?_) (fun c159 => ?_)
          · have zc159 := c159
            replace zc159 := zc_lt (rfl) (rfl) zc159
            refine lv_aload_n hx hb dX12_digits_120 rfl (lv_at hl 0 rfl) ?_
            refine lv_iload hx hb dX12_digits_121 (lv_at hl 5 rfl) ?_
            refine va_calli (va_runV (As := [.int (nI c103)]) (rest := []) ⟨hx, hb, hml, hown, hts⟩ (m_wrong l hl0 D A sad τ f fr ol (nI c103) hF) (cwV 1 hts gX12_digits_X12_wrong rfl rfl rfl (by decide +kernel) ⟨Nat.le_of_ble_eq_true rfl, Nat.le_of_ble_eq_true rfl⟩) ⟨zQc_bl, zRecv hH (zk_30 hF) rfl, zQc_at hz hS hA hH⟩ rfl rfl hl.1 rfl (lv_room (Nat.le_of_ble_eq_true rfl)) dX12_digits_123 ⟨Nat.le_of_ble_eq_true rfl, Nat.le_of_ble_eq_true rfl⟩) hS (fun q _ h => h) (fun q h => h) (fun r160 u9 t9 H1 locs ht9 hvm9 hw hB hz1 hk1 hS => ?_)
            have hH := zMv ht9 hvm9 hB
            clear hB
            generalize u9 = f161 at hw hH
            generalize H1 = H at hH hS ⊢
            obtain ⟨rfl, hf162⟩ := hw
            have q163 : f161 30 22 = nI L := by rw [hf162 30 22 (by omega)]; exact q22
            have q164 : f161 30 23 = nI c := by rw [hf162 30 23 (by omega)]; exact hc
            refine W.widen (k := 0) (n := 0) (by decide) (by decide) ?_
            exact W.zret (v := 0) hx hb hr (by decide) (fun t9 ht9 hW9 => ⟨⟨0, f161, rfl, ⟨Or.inl rfl, ⟨c, by omega, by omega, q164, trivial⟩, fun a b h => by rw [hf162 a b (by omega)]; exact hfr a b (by omega)⟩, zEnd1 hH ht9 hW9⟩, hS.F ht9⟩) hS.2.2 dX12_digits_126
          · have zc159 := c159
            replace zc159 := zc_nlt (rfl) (rfl) zc159
            refine lv_iload hx hb dX12_digits_113 (lv_at hl 6 rfl) ?_
            refine lv_iload hx hb dX12_digits_115 (lv_at hl 4 rfl) ?_
            refine lv_icmp_le (tgt := 127) hx hb dX12_digits_117 (by decide) (fun c165 => ?_) (fun c165 => ?_)
            · have zc165 := c165
              replace zc165 := zc_le (rfl) (rfl) zc165
              refine lv_aload_n hx hb dX12_digits_127 rfl (lv_at hl 0 rfl) ?_
              refine lv_iload hx hb dX12_digits_128 (lv_at hl 6 rfl) ?_
              refine zPutI (D := D) (ci := 12) (ty := .int) (C := RX12) (T := TX12) (N := 71) hx hb hts hiX12 tyX12 tyX12_ok nmX12 hown hH hS (zk_30 hF) rfl 25 (by decide) rfl hw3 (fun _ h9 => h9) rfl (by decide +kernel) rfl rfl dX12_digits_130 (fun H locs hH hS => ?_)
              obtain ⟨f166, ef166⟩ : ∃ f9 : zFi, f9 = zu f 30 25 vv := ⟨_, rfl⟩
              rw [← ef166] at hH
              have q167 : f166 30 22 = nI L := by rw [ef166, zu_n (fun h9 => absurd h9.2 (by decide))]; exact q22
              have q168 : f166 30 23 = nI c := by rw [ef166, zu_n (fun h9 => absurd h9.2 (by decide))]; exact hc
              have q169 : f166 30 25 = vv := by rw [ef166]; exact zu_s
              refine lv_iconst (v := nI 1) hx hb dX12_digits_133 (by decide) ?_
              refine W.widen (k := 0) (n := 0) (by decide) (by decide) ?_
              exact W.zret (v := nI 1) hx hb hr (by decide) (fun t9 ht9 hW9 => ⟨⟨nI 1, f166, rfl, ⟨Or.inr ⟨rfl, by rw [q169]; omega, by rw [q169]; omega⟩, ⟨c, by omega, by omega, q168, trivial⟩, fun a b h => by rw [ef166, zu_n (by omega)]; exact hfr a b (by omega)⟩, zEnd1 hH ht9 hW9⟩, hS.F ht9⟩) hS.2.2 dX12_digits_134
            · have zc165 := c165
              replace zc165 := zc_nle (rfl) (rfl) zc165
              refine lv_aload_n hx hb dX12_digits_120 rfl (lv_at hl 0 rfl) ?_
              refine lv_iload hx hb dX12_digits_121 (lv_at hl 5 rfl) ?_
              refine va_calli (va_runV (As := [.int (nI c103)]) (rest := []) ⟨hx, hb, hml, hown, hts⟩ (m_wrong l hl0 D A sad τ f fr ol (nI c103) hF) (cwV 1 hts gX12_digits_X12_wrong rfl rfl rfl (by decide +kernel) ⟨Nat.le_of_ble_eq_true rfl, Nat.le_of_ble_eq_true rfl⟩) ⟨zQc_bl, zRecv hH (zk_30 hF) rfl, zQc_at hz hS hA hH⟩ rfl rfl hl.1 rfl (lv_room (Nat.le_of_ble_eq_true rfl)) dX12_digits_123 ⟨Nat.le_of_ble_eq_true rfl, Nat.le_of_ble_eq_true rfl⟩) hS (fun q _ h => h) (fun q h => h) (fun r170 u9 t9 H1 locs ht9 hvm9 hw hB hz1 hk1 hS => ?_)
              have hH := zMv ht9 hvm9 hB
              clear hB
              generalize u9 = f171 at hw hH
              generalize H1 = H at hH hS ⊢
              obtain ⟨rfl, hf172⟩ := hw
              have q173 : f171 30 22 = nI L := by rw [hf172 30 22 (by omega)]; exact q22
              have q174 : f171 30 23 = nI c := by rw [hf172 30 23 (by omega)]; exact hc
              refine W.widen (k := 0) (n := 0) (by decide) (by decide) ?_
              exact W.zret (v := 0) hx hb hr (by decide) (fun t9 ht9 hW9 => ⟨⟨0, f171, rfl, ⟨Or.inl rfl, ⟨c, by omega, by omega, q174, trivial⟩, fun a b h => by rw [hf172 a b (by omega)]; exact hfr a b (by omega)⟩, zEnd1 hH ht9 hW9⟩, hS.F ht9⟩) hS.2.2 dX12_digits_126
    · have zc144 := c144
      replace zc144 := zc_neq (rfl) ((by decide : (0 : Int32).toInt = 0)) zc144
      refine lv_aload_n hx hb dX12_digits_41 rfl (lv_at hl 0 rfl) ?_
      refine zGetI (D := D) (ci := 12) (C := RX12) (T := TX12) (N := 71) hx hb hts hiX12 hown hH (zk_30 hF) rfl 23 (by decide) rfl hw1 (fun _ h9 => h9) dX12_digits_42 hc ?_
      refine lv_iload hx hb dX12_digits_45 (lv_at hl 5 rfl) ?_
      refine lv_isub hx hb dX12_digits_47 ?_
      refine lv_topi (fun v175 ev175 => ?_)
      have iv175 : v175.toInt = ((c : Nat) : Int) - ((c103 : Nat) : Int) := by rw [ev175]; exact pk_sub_toInt (by omega) (by omega)
      refine lv_iload_n hx hb dX12_digits_48 rfl (lv_at hl 2 rfl) ?_
      refine lv_icmp_gt (tgt := 85) hx hb dX12_digits_49 (by decide) (fun c176 => ?_) (fun c176 => ?_)
      · have zc176 := c176
        replace zc176 := zc_lt (rfl) (iv175) zc176
        refine lv_aload_n hx hb dX12_digits_85 rfl (lv_at hl 0 rfl) ?_
        refine zGetI (D := D) (ci := 12) (C := RX12) (T := TX12) (N := 71) hx hb hts hiX12 hown hH (zk_30 hF) rfl 23 (by decide) rfl hw1 (fun _ h9 => h9) dX12_digits_86 hc ?_
        refine lv_iload hx hb dX12_digits_89 (lv_at hl 5 rfl) ?_
        refine lv_isub hx hb dX12_digits_91 ?_
        refine lv_topi (fun v177 ev177 => ?_)
        have iv177 : v177.toInt = ((c : Nat) : Int) - ((c103 : Nat) : Int) := by rw [ev177]; exact pk_sub_toInt (by omega) (by omega)
        refine lv_iload_n hx hb dX12_digits_92 rfl (lv_at hl 1 rfl) ?_
        refine lv_icmp_lt (tgt := 120) hx hb dX12_digits_93 (by decide) (fun c178 => ?_) (fun c178 => ?_)
        · have zc178 := c178
          replace zc178 := zc_lt (iv177) (rfl) zc178
          refine lv_aload_n hx hb dX12_digits_120 rfl (lv_at hl 0 rfl) ?_
          refine lv_iload hx hb dX12_digits_121 (lv_at hl 5 rfl) ?_
          refine va_calli (va_runV (As := [.int (nI c103)]) (rest := []) ⟨hx, hb, hml, hown, hts⟩ (m_wrong l hl0 D A sad τ f fr ol (nI c103) hF) (cwV 1 hts gX12_digits_X12_wrong rfl rfl rfl (by decide +kernel) ⟨Nat.le_of_ble_eq_true rfl, Nat.le_of_ble_eq_true rfl⟩) ⟨zQc_bl, zRecv hH (zk_30 hF) rfl, zQc_at hz hS hA hH⟩ rfl rfl hl.1 rfl (lv_room (Nat.le_of_ble_eq_true rfl)) dX12_digits_123 ⟨Nat.le_of_ble_eq_true rfl, Nat.le_of_ble_eq_true rfl⟩) hS (fun q _ h => h) (fun q h => h) (fun r179 u9 t9 H1 locs ht9 hvm9 hw hB hz1 hk1 hS => ?_)
          have hH := zMv ht9 hvm9 hB
          clear hB
          generalize u9 = f180 at hw hH
          generalize H1 = H at hH hS ⊢
          obtain ⟨rfl, hf181⟩ := hw
          have q182 : f180 30 22 = nI L := by rw [hf181 30 22 (by omega)]; exact q22
          have q183 : f180 30 23 = nI c := by rw [hf181 30 23 (by omega)]; exact hc
          refine W.widen (k := 0) (n := 0) (by decide) (by decide) ?_
          exact W.zret (v := 0) hx hb hr (by decide) (fun t9 ht9 hW9 => ⟨⟨0, f180, rfl, ⟨Or.inl rfl, ⟨c, by omega, by omega, q183, trivial⟩, fun a b h => by rw [hf181 a b (by omega)]; exact hfr a b (by omega)⟩, zEnd1 hH ht9 hW9⟩, hS.F ht9⟩) hS.2.2 dX12_digits_126
        · have zc178 := c178
          replace zc178 := zc_nlt (iv177) (rfl) zc178
          refine lv_aload_n hx hb dX12_digits_96 rfl (lv_at hl 0 rfl) ?_
          refine zGetI (D := D) (ci := 12) (C := RX12) (T := TX12) (N := 71) hx hb hts hiX12 hown hH (zk_30 hF) rfl 23 (by decide) rfl hw1 (fun _ h9 => h9) dX12_digits_97 hc ?_
          refine lv_iload hx hb dX12_digits_100 (lv_at hl 5 rfl) ?_
          refine lv_isub hx hb dX12_digits_102 ?_
          refine lv_topi (fun v184 ev184 => ?_)
          have iv184 : v184.toInt = ((c : Nat) : Int) - ((c103 : Nat) : Int) := by rw [ev184]; exact pk_sub_toInt (by omega) (by omega)
          refine lv_iload_n hx hb dX12_digits_103 rfl (lv_at hl 2 rfl) ?_
          refine lv_icmp_gt (tgt := 120) hx hb dX12_digits_104 (by decide) (fun c185 => ?_) (fun c185 => ?_)
          · have zc185 := c185
            replace zc185 := zc_lt (rfl) (iv184) zc185
            refine lv_aload_n hx hb dX12_digits_120 rfl (lv_at hl 0 rfl) ?_
            refine lv_iload hx hb dX12_digits_121 (lv_at hl 5 rfl) ?_
            refine va_calli (va_runV (As := [.int (nI c103)]) (rest := []) ⟨hx, hb, hml, hown, hts⟩ (m_wrong l hl0 D A sad τ f fr ol (nI c103) hF) (cwV 1 hts gX12_digits_X12_wrong rfl rfl rfl (by decide +kernel) ⟨Nat.le_of_ble_eq_true rfl, Nat.le_of_ble_eq_true rfl⟩) ⟨zQc_bl, zRecv hH (zk_30 hF) rfl, zQc_at hz hS hA hH⟩ rfl rfl hl.1 rfl (lv_room (Nat.le_of_ble_eq_true rfl)) dX12_digits_123 ⟨Nat.le_of_ble_eq_true rfl, Nat.le_of_ble_eq_true rfl⟩) hS (fun q _ h => h) (fun q h => h) (fun r186 u9 t9 H1 locs ht9 hvm9 hw hB hz1 hk1 hS => ?_)
            have hH := zMv ht9 hvm9 hB
            clear hB
            generalize u9 = f187 at hw hH
            generalize H1 = H at hH hS ⊢
            obtain ⟨rfl, hf188⟩ := hw
            have q189 : f187 30 22 = nI L := by rw [hf188 30 22 (by omega)]; exact q22
            have q190 : f187 30 23 = nI c := by rw [hf188 30 23 (by omega)]; exact hc
            refine W.widen (k := 0) (n := 0) (by decide) (by decide) ?_
            exact W.zret (v := 0) hx hb hr (by decide) (fun t9 ht9 hW9 => ⟨⟨0, f187, rfl, ⟨Or.inl rfl, ⟨c, by omega, by omega, q190, trivial⟩, fun a b h => by rw [hf188 a b (by omega)]; exact hfr a b (by omega)⟩, zEnd1 hH ht9 hW9⟩, hS.F ht9⟩) hS.2.2 dX12_digits_126
          · have zc185 := c185
            replace zc185 := zc_nlt (rfl) (iv184) zc185
            refine lv_iload hx hb dX12_digits_107 (lv_at hl 6 rfl) ?_
            refine lv_iload_n hx hb dX12_digits_109 rfl (lv_at hl 3 rfl) ?_
            refine lv_icmp_lt (tgt := 120) hx hb dX12_digits_110 (by decide) (fun c191 => ?_) (fun c191 => ?_)
            · have zc191 := c191
              replace zc191 := zc_lt (rfl) (rfl) zc191
              refine lv_aload_n hx hb dX12_digits_120 rfl (lv_at hl 0 rfl) ?_
              refine lv_iload hx hb dX12_digits_121 (lv_at hl 5 rfl) ?_
              refine va_calli (va_runV (As := [.int (nI c103)]) (rest := []) ⟨hx, hb, hml, hown, hts⟩ (m_wrong l hl0 D A sad τ f fr ol (nI c103) hF) (cwV 1 hts gX12_digits_X12_wrong rfl rfl rfl (by decide +kernel) ⟨Nat.le_of_ble_eq_true rfl, Nat.le_of_ble_eq_true rfl⟩) ⟨zQc_bl, zRecv hH (zk_30 hF) rfl, zQc_at hz hS hA hH⟩ rfl rfl hl.1 rfl (lv_room (Nat.le_of_ble_eq_true rfl)) dX12_digits_123 ⟨Nat.le_of_ble_eq_true rfl, Nat.le_of_ble_eq_true rfl⟩) hS (fun q _ h => h) (fun q h => h) (fun r192 u9 t9 H1 locs ht9 hvm9 hw hB hz1 hk1 hS => ?_)
              have hH := zMv ht9 hvm9 hB
              clear hB
              generalize u9 = f193 at hw hH
              generalize H1 = H at hH hS ⊢
              obtain ⟨rfl, hf194⟩ := hw
              have q195 : f193 30 22 = nI L := by rw [hf194 30 22 (by omega)]; exact q22
              have q196 : f193 30 23 = nI c := by rw [hf194 30 23 (by omega)]; exact hc
              refine W.widen (k := 0) (n := 0) (by decide) (by decide) ?_
              exact W.zret (v := 0) hx hb hr (by decide) (fun t9 ht9 hW9 => ⟨⟨0, f193, rfl, ⟨Or.inl rfl, ⟨c, by omega, by omega, q196, trivial⟩, fun a b h => by rw [hf194 a b (by omega)]; exact hfr a b (by omega)⟩, zEnd1 hH ht9 hW9⟩, hS.F ht9⟩) hS.2.2 dX12_digits_126
            · have zc191 := c191
              replace zc191 := zc_nlt (rfl) (rfl) zc191
              refine lv_iload hx hb dX12_digits_113 (lv_at hl 6 rfl) ?_
              refine lv_iload hx hb dX12_digits_115 (lv_at hl 4 rfl) ?_
              refine lv_icmp_le (tgt := 127) hx hb dX12_digits_117 (by decide) (fun c197 => ?_) (fun c197 => ?_)
              · have zc197 := c197
                replace zc197 := zc_le (rfl) (rfl) zc197
                refine lv_aload_n hx hb dX12_digits_127 rfl (lv_at hl 0 rfl) ?_
                refine lv_iload hx hb dX12_digits_128 (lv_at hl 6 rfl) ?_
                refine zPutI (D := D) (ci := 12) (ty := .int) (C := RX12) (T := TX12) (N := 71) hx hb hts hiX12 tyX12 tyX12_ok nmX12 hown hH hS (zk_30 hF) rfl 25 (by decide) rfl hw3 (fun _ h9 => h9) rfl (by decide +kernel) rfl rfl dX12_digits_130 (fun H locs hH hS => ?_)
                obtain ⟨f198, ef198⟩ : ∃ f9 : zFi, f9 = zu f 30 25 vv := ⟨_, rfl⟩
                rw [← ef198] at hH
                have q199 : f198 30 22 = nI L := by rw [ef198, zu_n (fun h9 => absurd h9.2 (by decide))]; exact q22
                have q200 : f198 30 23 = nI c := by rw [ef198, zu_n (fun h9 => absurd h9.2 (by decide))]; exact hc
                have q201 : f198 30 25 = vv := by rw [ef198]; exact zu_s
                refine lv_iconst (v := nI 1) hx hb dX12_digits_133 (by decide) ?_
                refine W.widen (k := 0) (n := 0) (by decide) (by decide) ?_
                exact W.zret (v := nI 1) hx hb hr (by decide) (fun t9 ht9 hW9 => ⟨⟨nI 1, f198, rfl, ⟨Or.inr ⟨rfl, by rw [q201]; omega, by rw [q201]; omega⟩, ⟨c, by omega, by omega, q200, trivial⟩, fun a b h => by rw [ef198, zu_n (by omega)]; exact hfr a b (by omega)⟩, zEnd1 hH ht9 hW9⟩, hS.F ht9⟩) hS.2.2 dX12_digits_134
              · have zc197 := c197
                replace zc197 := zc_nle (rfl) (rfl) zc197
                refine lv_aload_n hx hb dX12_digits_120 rfl (lv_at hl 0 rfl) ?_
                refine lv_iload hx hb dX12_digits_121 (lv_at hl 5 rfl) ?_
                refine va_calli (va_runV (As := [.int (nI c103)]) (rest := []) ⟨hx, hb, hml, hown, hts⟩ (m_wrong l hl0 D A sad τ f fr ol (nI c103) hF) (cwV 1 hts gX12_digits_X12_wrong rfl rfl rfl (by decide +kernel) ⟨Nat.le_of_ble_eq_true rfl, Nat.le_of_ble_eq_true rfl⟩) ⟨zQc_bl, zRecv hH (zk_30 hF) rfl, zQc_at hz hS hA hH⟩ rfl rfl hl.1 rfl (lv_room (Nat.le_of_ble_eq_true rfl)) dX12_digits_123 ⟨Nat.le_of_ble_eq_true rfl, Nat.le_of_ble_eq_true rfl⟩) hS (fun q _ h => h) (fun q h => h) (fun r202 u9 t9 H1 locs ht9 hvm9 hw hB hz1 hk1 hS => ?_)
                have hH := zMv ht9 hvm9 hB
                clear hB
                generalize u9 = f203 at hw hH
                generalize H1 = H at hH hS ⊢
                obtain ⟨rfl, hf204⟩ := hw
                have q205 : f203 30 22 = nI L := by rw [hf204 30 22 (by omega)]; exact q22
                have q206 : f203 30 23 = nI c := by rw [hf204 30 23 (by omega)]; exact hc
                refine W.widen (k := 0) (n := 0) (by decide) (by decide) ?_
                exact W.zret (v := 0) hx hb hr (by decide) (fun t9 ht9 hW9 => ⟨⟨0, f203, rfl, ⟨Or.inl rfl, ⟨c, by omega, by omega, q206, trivial⟩, fun a b h => by rw [hf204 a b (by omega)]; exact hfr a b (by omega)⟩, zEnd1 hH ht9 hW9⟩, hS.F ht9⟩) hS.2.2 dX12_digits_126
      · have zc176 := c176
        replace zc176 := zc_nlt (rfl) (iv175) zc176
        refine lv_bipush (v := nI 10) hx hb dX12_digits_52 (by decide) ?_
        refine lv_iload hx hb dX12_digits_54 (lv_at hl 6 rfl) ?_
        refine lv_imul hx hb dX12_digits_56 ?_
        refine lv_topi (fun v207 ev207 => ?_)
        refine lv_aload_n hx hb dX12_digits_57 rfl (lv_at hl 0 rfl) ?_
        refine zGetR (D := D) (ci := 12) (C := RX12) (T := TX12) (N := 71) hx hb hts hiX12 hown hH (zk_30 hF) rfl 20 (by decide) rfl hw4 (fun _ h9 => h9) dX12_digits_58 (zr_30_20 hF) ?_
        refine lv_aload_n hx hb dX12_digits_61 rfl (lv_at hl 0 rfl) ?_
        refine zGetI (D := D) (ci := 12) (C := RX12) (T := TX12) (N := 71) hx hb hts hiX12 hown hH (zk_30 hF) rfl 23 (by decide) rfl hw1 (fun _ h9 => h9) dX12_digits_62 hc ?_
        refine zIaldN (D := D) hx hb hH (zk_47 hF) (zn_47 hF) (by omega) (by omega) rfl dX12_digits_65 ?_
        refine lv_iadd hx hb dX12_digits_66 ?_
        refine lv_topi (fun v208 ev208 => ?_)
        refine lv_bipush (v := nI 48) hx hb dX12_digits_67 (by decide) ?_
        refine lv_isub hx hb dX12_digits_69 ?_
        refine lv_topi (fun v209 ev209 => ?_)
        refine lv_istore (lv' := [(7, .int v209), (0, .ref (τ.1 30)), (1, .int x1), (2, .int x2), (3, .int x3), (4, .int x4), (6, .int (nI c103))]) hx hb dX12_digits_70 hl (by decide) rfl (fun ls hl => ?_)
        refine lv_aload_n hx hb dX12_digits_72 rfl (lv_at hl 1 rfl) ?_
        refine lv_dup hx hb dX12_digits_73 rfl ?_
        refine zGetI (D := D) (ci := 12) (C := RX12) (T := TX12) (N := 71) hx hb hts hiX12 hown hH (zk_30 hF) rfl 23 (by decide) rfl hw1 (fun _ h9 => h9) dX12_digits_74 hc ?_
        refine lv_iconst (v := nI 1) hx hb dX12_digits_77 (by decide) ?_
        refine lv_iadd hx hb dX12_digits_78 ?_
        refine lv_topi (fun v210 ev210 => ?_)
        obtain rfl : v210 = nI (c + 1) := ev210.trans (nI_add _ _)
        refine zPutI (D := D) (ci := 12) (ty := .int) (C := RX12) (T := TX12) (N := 71) hx hb hts hiX12 tyX12 tyX12_ok nmX12 hown hH hS (zk_30 hF) rfl 23 (by decide) rfl hw1 (fun _ h9 => h9) rfl (by decide +kernel) rfl rfl dX12_digits_79 (fun H locs hH hS => ?_)
        obtain ⟨f211, ef211⟩ : ∃ f9 : zFi, f9 = zu f 30 23 (nI (c + 1)) := ⟨_, rfl⟩
        rw [← ef211] at hH
        have q212 : f211 30 22 = nI L := by rw [ef211, zu_n (fun h9 => absurd h9.2 (by decide))]; exact q22
        have q213 : f211 30 23 = nI (c + 1) := by rw [ef211]; exact zu_s
        refine lv_goto (tgt := 15) hx hb dX12_digits_82 (by decide) ?_
        exact ih111 (L - (c + 1)) (by omega) (c + 1, f211, _) _ _ _ (show L - (c + 1) = L - (c + 1) ∧ (c103 ≤ (c + 1) ∧ (c + 1) ≤ L ∧ f211 30 23 = nI (c + 1) ∧ ∀ a b, ¬ (a = 30 ∧ b = 23) → f211 a b = fi a b) ∧ zH D A τ f211 fr ol s _ ∧ va_S A s.heap _ _ ∧ lv_has _ 8 [(0, .ref (τ.1 30)), (1, .int x1), (2, .int x2), (3, .int x3), (4, .int x4), (6, .int (nI c103)), (7, .int _)] from ⟨rfl, ⟨by omega, by omega, q213, fun a b h => by rw [ef211, zu_n (by omega)]; exact hfr a b h⟩, hH, hS, lv_sub hl [1, 2, 3, 4, 5, 6, 0] rfl⟩)
