set_option maxHeartbeats 4000000 in
set_option maxRecDepth 100000 in
/-- foretold -/
theorem m_foretold (l : Launch) (hl0 : l.stackTraces = false) (D : va_G) (A : Nat → Prop) (sad : Nat → Nat) (τ : zTy) (fi : zFi) (fr : zFr) (ol : Int64) (x y z w v : Int32) (hF : zFix τ fr) (n : Nat) (hMt : zMt fi n) (o : Nat) (hMo : zMo fi n o) (c : Nat) (hMc : zMc fi n c) : Met l yX12_foretold wsX12_foretold ({ frames := 1, cells := 0, slots := 0, locals := 22 }) (va_Pc [.ref (τ.1 30), .int x, .int y, .int z, .int w, .int v] (zQc D A sad τ fi fr ol)) (va_Qi (fun (r : Int32) (u : zFi) => ∀ a b, ¬ (a = 30 ∧ b = 0) → u a b = fi a b) (fun (u : zFi) (t : State) => zH D A τ u fr ol t t.heap) A) 0 0 A := by
  refine Met.ofW (cc := cX12_foretold) (maxL := 11) (ret := (some .int)) (by decide) rfl ?_
  intro p9 e9 s m args below meth c9 s₁ B hml hv
  obtain ⟨rfl, hz, hH, hA⟩ := hv
  have hx := B.exec
  have hb := B.bytes
  have hr := B.returns
  have hts := atoms_spec (ws := wsX12_foretold) B.pre
  have hown : s.vm.findClass RX12 = some m.cls := findClass_of_methodNamed B.named
  have hlocks := B.notSynchronized
  have hS : va_S A s.heap s.heap [] := va_S.rf
  have hl := lv_entry ([.ref (τ.1 30), .int x, .int y, .int z, .int w, .int v]) (n := 11) (Nat.le_of_ble_eq_true rfl)
  rw [lg_entry_eq]
  generalize (lg_sl ([.ref (τ.1 30), .int x, .int y, .int z, .int w, .int v]) ++ List.replicate (11 - (lg_sl ([.ref (τ.1 30), .int x, .int y, .int z, .int w, .int v])).length) Slot.unset).toArray = ls at hl ⊢
  have hl : lv_has ls 11 [(0, .ref (τ.1 30)), (1, .int x), (2, .int y), (3, .int z), (4, .int w), (5, .int v)] := hl
  have hm30 := hMt.1
  have ho60 := hMo.1
  have hc60 := hMc.1
  have hw0 := hts (.fieldLink RX12 165 "PostHouseModel" "thrown" "I") (by decide +kernel)
  have hiX12 : ∀ w ∈ u_ws RX12 TX12 71, w ∈ wsX12_foretold := fun _ h => List.mem_cons_of_mem _ (List.mem_append_right _ h)
  have hw2 := hts (.fieldLink RX12 171 "PostHouseModel" "orders" "I") (by decide +kernel)
  have hw3 := hts (.fieldLink RX12 22 "PostHouseModel" "stock" "[I") (by decide +kernel)
  have hw4 := hts (.fieldLink RX12 203 "PostHouseModel" "comings" "I") (by decide +kernel)
  have hw5 := hts (.fieldLink RX12 40 "PostHouseModel" "comingThing" "[I") (by decide +kernel)
  have hw6 := hts (.fieldLink RX12 46 "PostHouseModel" "comingMany" "[I") (by decide +kernel)
  have hw7 := hts (.fieldLink RX12 108 "PostHouseModel" "wants" "[I") (by decide +kernel)
  have hw8 := hts (.fieldLink RX12 111 "PostHouseModel" "wantThing" "[I") (by decide +kernel)
  have hw9 := hts (.fieldLink RX12 96 "PostHouseModel" "orderDay" "[I") (by decide +kernel)
  have hw10 := hts (.fieldLink RX12 114 "PostHouseModel" "wantMany" "[I") (by decide +kernel)
  refine lv_iload_n hx hb dX12_foretold_0 rfl (lv_at hl 2 rfl) ?_
  refine lv_iconst (v := nI 0) hx hb dX12_foretold_1 (by decide) ?_
  refine lv_sipush (v := nI 999) hx hb dX12_foretold_2 (by decide) ?_
  refine va_calli (va_runS (As := [.int y, .int (nI 0), .int (nI 999)]) (rest := []) ⟨hx, hb, hml, hown, hts⟩ (m_isIn l hl0 D A sad τ fi fr ol y (nI 0) (nI 999)) (cwS 3 hts gX12_foretold_X12_isIn rfl rfl rfl (by decide +kernel) ⟨Nat.le_of_ble_eq_true rfl, Nat.le_of_ble_eq_true rfl⟩) ⟨zQc_bl, zQc_at hz hS hA hH⟩ rfl rfl hl.1 rfl (lv_room (Nat.le_of_ble_eq_true rfl)) dX12_foretold_5 ⟨Nat.le_of_ble_eq_true rfl, Nat.le_of_ble_eq_true rfl⟩) hS (fun q _ h => h) (fun q h => h) (fun r101 u9 t9 H1 locs ht9 hvm9 hw hB hz1 hk1 hS => ?_)
  have hH := zMv ht9 hvm9 hB
  generalize H1 = H at hH hS ⊢
  rcases hw with ⟨rfl, hy102⟩ | ⟨rfl, hn103⟩
  · skip
    replace hy102 := zWi1 (rfl) (nI_toInt (by omega)) (nI_toInt (by omega)) hy102
    refine lv_if_eq (tgt := 38) hx hb dX12_foretold_8 (by decide) (fun c104 => absurd c104 (by decide)) (fun c104 => ?_)
    refine lv_iload_n hx hb dX12_foretold_11 rfl (lv_at hl 3 rfl) ?_
    refine lv_iconst (v := nI 1) hx hb dX12_foretold_12 (by decide) ?_
    refine lv_sipush (v := nI 1000) hx hb dX12_foretold_13 (by decide) ?_
    refine va_calli (va_runS (As := [.int z, .int (nI 1), .int (nI 1000)]) (rest := []) ⟨hx, hb, hml, hown, hts⟩ (m_isIn l hl0 D A sad τ fi fr ol z (nI 1) (nI 1000)) (cwS 3 hts gX12_foretold_X12_isIn rfl rfl rfl (by decide +kernel) ⟨Nat.le_of_ble_eq_true rfl, Nat.le_of_ble_eq_true rfl⟩) ⟨zQc_bl, zQc_at hz hS hA hH⟩ rfl rfl hl.1 rfl (lv_room (Nat.le_of_ble_eq_true rfl)) dX12_foretold_16 ⟨Nat.le_of_ble_eq_true rfl, Nat.le_of_ble_eq_true rfl⟩) hS (fun q _ h => h) (fun q h => h) (fun r105 u9 t9 H1 locs ht9 hvm9 hw hB hz1 hk1 hS => ?_)
    have hH := zMv ht9 hvm9 hB
    generalize H1 = H at hH hS ⊢
    rcases hw with ⟨rfl, hy106⟩ | ⟨rfl, hn107⟩
    · skip
      replace hy106 := zWi1 (rfl) (nI_toInt (by omega)) (nI_toInt (by omega)) hy106
      refine lv_if_eq (tgt := 38) hx hb dX12_foretold_19 (by decide) (fun c108 => absurd c108 (by decide)) (fun c108 => ?_)
      refine lv_iload hx hb dX12_foretold_22 (lv_at hl 4 rfl) ?_
      refine lv_iconst (v := nI 1) hx hb dX12_foretold_24 (by decide) ?_
      refine lv_sipush (v := nI 1000) hx hb dX12_foretold_25 (by decide) ?_
      refine va_calli (va_runS (As := [.int w, .int (nI 1), .int (nI 1000)]) (rest := []) ⟨hx, hb, hml, hown, hts⟩ (m_isIn l hl0 D A sad τ fi fr ol w (nI 1) (nI 1000)) (cwS 3 hts gX12_foretold_X12_isIn rfl rfl rfl (by decide +kernel) ⟨Nat.le_of_ble_eq_true rfl, Nat.le_of_ble_eq_true rfl⟩) ⟨zQc_bl, zQc_at hz hS hA hH⟩ rfl rfl hl.1 rfl (lv_room (Nat.le_of_ble_eq_true rfl)) dX12_foretold_28 ⟨Nat.le_of_ble_eq_true rfl, Nat.le_of_ble_eq_true rfl⟩) hS (fun q _ h => h) (fun q h => h) (fun r109 u9 t9 H1 locs ht9 hvm9 hw hB hz1 hk1 hS => ?_)
      have hH := zMv ht9 hvm9 hB
      generalize H1 = H at hH hS ⊢
      rcases hw with ⟨rfl, hy110⟩ | ⟨rfl, hn111⟩
      · skip
        replace hy110 := zWi1 (rfl) (nI_toInt (by omega)) (nI_toInt (by omega)) hy110
        refine lv_if_eq (tgt := 38) hx hb dX12_foretold_31 (by decide) (fun c112 => absurd c112 (by decide)) (fun c112 => ?_)
        refine lv_iconst (v := nI 1) hx hb dX12_foretold_34 (by decide) ?_
        refine lv_goto (tgt := 39) hx hb dX12_foretold_35 (by decide) ?_
        refine lv_istore (lv' := [(6, .int (nI 1)), (0, .ref (τ.1 30)), (1, .int x), (2, .int y), (3, .int z), (4, .int w), (5, .int v)]) hx hb dX12_foretold_39 hl (by decide) rfl (fun ls hl => ?_)
        refine lv_aload_n hx hb dX12_foretold_41 rfl (lv_at hl 1 rfl) ?_
        refine lv_aload_n hx hb dX12_foretold_42 rfl (lv_at hl 1 rfl) ?_
        refine lv_iload_n hx hb dX12_foretold_43 rfl (lv_at hl 2 rfl) ?_
        refine va_calli (va_runV (As := [.int x]) (rest := [.ref (τ.1 30)]) ⟨hx, hb, hml, hown, hts⟩ (m_isThing l hl0 D A sad τ fi fr ol x n hF hMt.2.1 (by omega)) (cwV 1 hts gX12_foretold_X12_isThing rfl rfl rfl (by decide +kernel) ⟨Nat.le_of_ble_eq_true rfl, Nat.le_of_ble_eq_true rfl⟩) ⟨zQc_bl, zRecv hH (zk_30 hF) rfl, zQc_at hz hS hA hH⟩ rfl rfl hl.1 rfl (lv_room (Nat.le_of_ble_eq_true rfl)) dX12_foretold_44 ⟨Nat.le_of_ble_eq_true rfl, Nat.le_of_ble_eq_true rfl⟩) hS (fun q _ h => h) (fun q h => h) (fun r113 u9 t9 H1 locs ht9 hvm9 hw hB hz1 hk1 hS => ?_)
        have hH := zMv ht9 hvm9 hB
        generalize H1 = H at hH hS ⊢
        rcases hw with ⟨t, ht, rfl, rfl⟩ | ⟨hno, rfl⟩
        · skip
          refine lv_if_ne (tgt := 54) hx hb dX12_foretold_47 (by decide) (fun c114 => ?_) (fun c114 => absurd c114 (by decide))
          refine lv_iload hx hb dX12_foretold_54 (lv_at hl 0 rfl) ?_
          refine lv_if_ne (tgt := 63) hx hb dX12_foretold_56 (by decide) (fun c115 => ?_) (fun c115 => absurd c115 (by decide))
          refine lv_iload hx hb dX12_foretold_63 (lv_at hl 6 rfl) ?_
          refine lv_iconst (v := nI 0) hx hb dX12_foretold_65 (by decide) ?_
          refine lv_iconst (v := nI 2) hx hb dX12_foretold_66 (by decide) ?_
          refine va_calli (va_runS (As := [.int v, .int (nI 0), .int (nI 2)]) (rest := [.ref (τ.1 30)]) ⟨hx, hb, hml, hown, hts⟩ (m_isIn l hl0 D A sad τ fi fr ol v (nI 0) (nI 2)) (cwS 3 hts gX12_foretold_X12_isIn rfl rfl rfl (by decide +kernel) ⟨Nat.le_of_ble_eq_true rfl, Nat.le_of_ble_eq_true rfl⟩) ⟨zQc_bl, zQc_at hz hS hA hH⟩ rfl rfl hl.1 rfl (lv_room (Nat.le_of_ble_eq_true rfl)) dX12_foretold_67 ⟨Nat.le_of_ble_eq_true rfl, Nat.le_of_ble_eq_true rfl⟩) hS (fun q _ h => h) (fun q h => h) (fun r116 u9 t9 H1 locs ht9 hvm9 hw hB hz1 hk1 hS => ?_)
          have hH := zMv ht9 hvm9 hB
          generalize H1 = H at hH hS ⊢
          rcases hw with ⟨rfl, hy117⟩ | ⟨rfl, hn118⟩
          · skip
            replace hy117 := zWi1 (rfl) (nI_toInt (by omega)) (nI_toInt (by omega)) hy117
            refine lv_if_ne (tgt := 77) hx hb dX12_foretold_70 (by decide) (fun c119 => ?_) (fun c119 => absurd c119 (by decide))
            refine lv_iconst (v := nI 0) hx hb dX12_foretold_77 (by decide) ?_
            refine zPutI (D := D) (ci := 12) (ty := .int) (C := RX12) (T := TX12) (N := 71) hx hb hts hiX12 tyX12 tyX12_ok nmX12 hown hH hS (zk_30 hF) rfl 0 (by decide) rfl hw0 (fun _ h9 => h9) rfl (by decide +kernel) rfl rfl dX12_foretold_78 (fun H locs hH hS => ?_)
            obtain ⟨f120, ef120⟩ : ∃ f9 : zFi, f9 = zu fi 30 0 (nI 0) := ⟨_, rfl⟩
            rw [← ef120] at hH
            have q121 : f120 30 2 = nI n := by rw [ef120, zu_n (fun h9 => absurd h9.2 (by decide))]; exact hMt.2.1
            have q122 : f120 30 45 = nI o := by rw [ef120, zu_n (fun h9 => absurd h9.2 (by decide))]; exact hMo.2.1
            have q123 : f120 30 13 = nI c := by rw [ef120, zu_n (fun h9 => absurd h9.2 (by decide))]; exact hMc.2.1
            have q124 : f120 30 0 = nI 0 := by rw [ef120]; exact zu_s
            have hMo := zMo.ci (fi' := f120) hMo (fun i9 k9 h9 => by rw [ef120]; exact zu_n (by omega))
            refine lv_aload_n hx hb dX12_foretold_81 rfl (lv_at hl 1 rfl) ?_
            refine zGetI (D := D) (ci := 12) (C := RX12) (T := TX12) (N := 71) hx hb hts hiX12 hown hH (zk_30 hF) rfl 0 (by decide) rfl hw0 (fun _ h9 => h9) dX12_foretold_82 q124 ?_
            refine lv_if_le (tgt := 90) hx hb dX12_foretold_85 (by decide) (fun c125 => ?_) (fun c125 => absurd (by decide) c125)
            refine lv_iconst (v := nI 0) hx hb dX12_foretold_90 (by decide) ?_
            refine lv_istore (lv' := [(7, .int (nI 0)), (6, .int (nI 1)), (0, .ref (τ.1 30)), (1, .int (nI t)), (2, .int y), (3, .int z), (4, .int w), (5, .int v)]) hx hb dX12_foretold_91 hl (by decide) rfl (fun ls hl => ?_)
            refine lv_iconst (v := nI 0) hx hb dX12_foretold_93 (by decide) ?_
            refine lv_istore (lv' := [(8, .int (nI 0)), (7, .int (nI 0)), (6, .int (nI 1)), (0, .ref (τ.1 30)), (1, .int (nI t)), (2, .int y), (3, .int z), (4, .int w), (5, .int v)]) hx hb dX12_foretold_94 hl (by decide) rfl (fun ls hl => ?_)
            refine zLp (σ := Nat × Int32) (fun x9 k9 H locs ls => (fun (i : Nat) (yy : Int32) => k9 = o - i ∧ (i ≤ o) ∧ zH D A τ f120 fr ol s H ∧ va_S A s.heap H locs ∧ lv_has ls 11 [(0, .ref (τ.1 30)), (1, .int (nI t)), (2, .int y), (3, .int z), (4, .int w), (5, .int v), (7, .int yy), (8, .int (nI i))]) x9.1 x9.2) (0, nI 0) (o - 0) (show o - 0 = o - 0 ∧ (0 ≤ o) ∧ zH D A τ f120 fr ol s _ ∧ va_S A s.heap _ _ ∧ lv_has _ 11 [(0, .ref (τ.1 30)), (1, .int (nI t)), (2, .int y), (3, .int z), (4, .int w), (5, .int v), (7, .int (nI 0)), (8, .int (nI 0))] from ⟨rfl, Nat.zero_le _, hH, hS, lv_sub hl [3, 4, 5, 6, 7, 8, 1, 0] rfl⟩) (fun k9 ih x9 H locs ls hv9 => ?_)
            obtain ⟨i, yy⟩ := x9
            have hv9 : k9 = o - i ∧ (i ≤ o) ∧ zH D A τ f120 fr ol s H ∧ va_S A s.heap H locs ∧ lv_has ls 11 [(0, .ref (τ.1 30)), (1, .int (nI t)), (2, .int y), (3, .int z), (4, .int w), (5, .int v), (7, .int yy), (8, .int (nI i))] := hv9
            obtain ⟨hkih126, hv9, hH, hS, hl⟩ := hv9
            obtain h1 := hv9
            have ih126 := ih
            clear ih
            refine lv_iload hx hb dX12_foretold_96 (lv_at hl 7 rfl) ?_
            refine lv_aload_n hx hb dX12_foretold_98 rfl (lv_at hl 0 rfl) ?_
            refine zGetI (D := D) (ci := 12) (C := RX12) (T := TX12) (N := 71) hx hb hts hiX12 hown hH (zk_30 hF) rfl 45 (by decide) rfl hw2 (fun _ h9 => h9) dX12_foretold_99 q122 ?_
            refine lv_icmp_ge (tgt := 190) hx hb dX12_foretold_102 (by decide) (fun c127 => ?_) (fun c127 => ?_)
            · have zc127 := c127
              replace zc127 := zc_le (nI_toInt (by omega)) (nI_toInt (by omega)) zc127
              refine lv_sipush (v := nI 1000) hx hb dX12_foretold_190 (by decide) ?_
              refine lv_iload hx hb dX12_foretold_193 (lv_at hl 6 rfl) ?_
              refine lv_imul hx hb dX12_foretold_195 ?_
              refine lv_topi (fun v128 ev128 => ?_)
              refine lv_iload_n hx hb dX12_foretold_196 rfl (lv_at hl 3 rfl) ?_
              refine lv_iadd hx hb dX12_foretold_197 ?_
              refine lv_topi (fun v129 ev129 => ?_)
              refine lv_iconst (v := nI 1) hx hb dX12_foretold_198 (by decide) ?_
              refine lv_isub hx hb dX12_foretold_199 ?_
              refine lv_topi (fun v130 ev130 => ?_)
              refine lv_iload_n hx hb dX12_foretold_200 rfl (lv_at hl 3 rfl) ?_
              refine lv_idiv hx hb dX12_foretold_201 (fun h9 => by have h8 := hy106; rw [h9] at h8; exact absurd h8.1 (by decide)) ?_
              refine lv_topi (fun v131 ev131 => ?_)
              refine lv_istore (lv' := [(8, .int v131), (0, .ref (τ.1 30)), (1, .int (nI t)), (2, .int y), (3, .int z), (4, .int w), (5, .int v), (7, .int yy)]) hx hb dX12_foretold_202 hl (by decide) rfl (fun ls hl => ?_)
              refine lv_iload hx hb dX12_foretold_204 (lv_at hl 0 rfl) ?_
              refine lv_iload hx hb dX12_foretold_206 (lv_at hl 7 rfl) ?_
              refine lv_isub hx hb dX12_foretold_208 ?_
              refine lv_topi (fun v132 ev132 => ?_)
              refine lv_aload_n hx hb dX12_foretold_209 rfl (lv_at hl 1 rfl) ?_
              refine zGetR (D := D) (ci := 12) (C := RX12) (T := TX12) (N := 71) hx hb hts hiX12 hown hH (zk_30 hF) rfl 7 (by decide) rfl hw3 (fun _ h9 => h9) dX12_foretold_210 (zr_30_7 hF) ?_
              refine lv_iload_n hx hb dX12_foretold_213 rfl (lv_at hl 2 rfl) ?_
              refine zIaldN (D := D) hx hb hH (zk_35 hF) (zn_35 hF) (by omega) (by omega) rfl dX12_foretold_214 ?_
              refine lv_isub hx hb dX12_foretold_215 ?_
              refine lv_topi (fun v133 ev133 => ?_)
              refine lv_istore (lv' := [(9, .int v133), (8, .int v131), (0, .ref (τ.1 30)), (1, .int (nI t)), (2, .int y), (3, .int z), (4, .int w), (5, .int v), (7, .int yy)]) hx hb dX12_foretold_216 hl (by decide) rfl (fun ls hl => ?_)
              refine lv_iconst (v := nI 0) hx hb dX12_foretold_218 (by decide) ?_
              refine lv_istore (lv' := [(10, .int (nI 0)), (9, .int v133), (8, .int v131), (0, .ref (τ.1 30)), (1, .int (nI t)), (2, .int y), (3, .int z), (4, .int w), (5, .int v), (7, .int yy)]) hx hb dX12_foretold_219 hl (by decide) rfl (fun ls hl => ?_)
              refine zLp (σ := Nat × Int32) (fun x9 k9 H locs ls => (fun (i3 : Nat) (y3 : Int32) => k9 = c - i3 ∧ (i3 ≤ c) ∧ zH D A τ f120 fr ol s H ∧ va_S A s.heap H locs ∧ lv_has ls 11 [(0, .ref (τ.1 30)), (1, .int (nI t)), (2, .int y), (3, .int z), (4, .int w), (5, .int v), (7, .int yy), (8, .int v131), (9, .int y3), (10, .int (nI i3))]) x9.1 x9.2) (0, v133) (c - 0) (show c - 0 = c - 0 ∧ (0 ≤ c) ∧ zH D A τ f120 fr ol s _ ∧ va_S A s.heap _ _ ∧ lv_has _ 11 [(0, .ref (τ.1 30)), (1, .int (nI t)), (2, .int y), (3, .int z), (4, .int w), (5, .int v), (7, .int yy), (8, .int v131), (9, .int v133), (10, .int (nI 0))] from ⟨rfl, Nat.zero_le _, hH, hS, lv_sub hl [3, 4, 5, 6, 7, 8, 9, 2, 1, 0] rfl⟩) (fun k9 ih x9 H locs ls hv9 => ?_)
              obtain ⟨i3, y3⟩ := x9
              have hv9 : k9 = c - i3 ∧ (i3 ≤ c) ∧ zH D A τ f120 fr ol s H ∧ va_S A s.heap H locs ∧ lv_has ls 11 [(0, .ref (τ.1 30)), (1, .int (nI t)), (2, .int y), (3, .int z), (4, .int w), (5, .int v), (7, .int yy), (8, .int v131), (9, .int y3), (10, .int (nI i3))] := hv9
              obtain ⟨hkih134, hv9, hH, hS, hl⟩ := hv9
              obtain h4 := hv9
              have ih134 := ih
              clear ih
              refine lv_iload hx hb dX12_foretold_221 (lv_at hl 9 rfl) ?_
              refine lv_aload_n hx hb dX12_foretold_223 rfl (lv_at hl 0 rfl) ?_
              refine zGetI (D := D) (ci := 12) (C := RX12) (T := TX12) (N := 71) hx hb hts hiX12 hown hH (zk_30 hF) rfl 13 (by decide) rfl hw4 (fun _ h9 => h9) dX12_foretold_224 q123 ?_
              refine lv_icmp_ge (tgt := 263) hx hb dX12_foretold_227 (by decide) (fun c135 => ?_) (fun c135 => ?_)
              · have zc135 := c135
                replace zc135 := zc_le (nI_toInt (by omega)) (nI_toInt (by omega)) zc135
                refine lv_iload hx hb dX12_foretold_263 (lv_at hl 8 rfl) ?_
                refine lv_if_ge (tgt := 271) hx hb dX12_foretold_265 (by decide) (fun c136 => ?_) (fun c136 => ?_)
                · have zc136 := c136
                  replace zc136 := zc_le ((by decide : (0 : Int32).toInt = 0)) (rfl) zc136
                  refine lv_iload hx hb dX12_foretold_271 (lv_at hl 5 rfl) ?_
                  refine lv_if_ne (tgt := 281) hx hb dX12_foretold_273 (by decide) (fun c137 => ?_) (fun c137 => ?_)
                  · have zc137 := c137
                    replace zc137 := zc_neq (rfl) ((by decide : (0 : Int32).toInt = 0)) zc137
                    refine lv_iload hx hb dX12_foretold_281 (lv_at hl 5 rfl) ?_
                    refine lv_iconst (v := nI 1) hx hb dX12_foretold_283 (by decide) ?_
                    refine lv_icmp_ne (tgt := 292) hx hb dX12_foretold_284 (by decide) (fun c138 => ?_) (fun c138 => ?_)
                    · have zc138 := c138
                      replace zc138 := zc_neq (rfl) (nI_toInt (by omega)) zc138
                      refine lv_iload hx hb dX12_foretold_292 (lv_at hl 8 rfl) ?_
                      refine lv_iload hx hb dX12_foretold_294 (lv_at hl 4 rfl) ?_
                      refine lv_iadd hx hb dX12_foretold_296 ?_
                      refine lv_topi (fun v139 ev139 => ?_)
                      refine lv_iconst (v := nI 1) hx hb dX12_foretold_297 (by decide) ?_
                      refine lv_isub hx hb dX12_foretold_298 ?_
                      refine lv_topi (fun v140 ev140 => ?_)
                      refine lv_iload hx hb dX12_foretold_299 (lv_at hl 4 rfl) ?_
                      refine lv_idiv hx hb dX12_foretold_301 (fun h9 => by have h8 := hy110; rw [h9] at h8; exact absurd h8.1 (by decide)) ?_
                      refine lv_topi (fun v141 ev141 => ?_)
                      refine lv_iload hx hb dX12_foretold_302 (lv_at hl 4 rfl) ?_
                      refine lv_imul hx hb dX12_foretold_304 ?_
                      refine lv_topi (fun v142 ev142 => ?_)
                      refine W.widen (k := 0) (n := 0) (by decide) (by decide) ?_
                      exact W.iret (v := v142) hx hb hr (fun t9 ht9 hW9 => ⟨⟨v142, f120, rfl, fun a b h => by rw [ef120, zu_n (by omega)], zEnd1 hH ht9 hW9⟩, hS.F ht9⟩) hS.2.2 dX12_foretold_305
                    · have zc138 := c138
                      replace zc138 := zc_eq (rfl) (nI_toInt (by omega)) zc138
                      refine lv_iload hx hb dX12_foretold_287 (lv_at hl 7 rfl) ?_
                      refine lv_goto (tgt := 305) hx hb dX12_foretold_289 (by decide) ?_
                      refine W.widen (k := 0) (n := 0) (by decide) (by decide) ?_
                      exact W.iret (v := v131) hx hb hr (fun t9 ht9 hW9 => ⟨⟨v131, f120, rfl, fun a b h => by rw [ef120, zu_n (by omega)], zEnd1 hH ht9 hW9⟩, hS.F ht9⟩) hS.2.2 dX12_foretold_305
                  · have zc137 := c137
                    replace zc137 := zc_eq (rfl) ((by decide : (0 : Int32).toInt = 0)) zc137
                    refine lv_iload hx hb dX12_foretold_276 (lv_at hl 6 rfl) ?_
                    refine lv_goto (tgt := 305) hx hb dX12_foretold_278 (by decide) ?_
                    refine W.widen (k := 0) (n := 0) (by decide) (by decide) ?_
                    exact W.iret (v := yy) hx hb hr (fun t9 ht9 hW9 => ⟨⟨yy, f120, rfl, fun a b h => by rw [ef120, zu_n (by omega)], zEnd1 hH ht9 hW9⟩, hS.F ht9⟩) hS.2.2 dX12_foretold_305
                · have zc136 := c136
                  replace zc136 := zc_nle ((by decide : (0 : Int32).toInt = 0)) (rfl) zc136
                  refine lv_iconst (v := nI 0) hx hb dX12_foretold_268 (by decide) ?_
                  refine lv_istore (lv' := [(9, .int (nI 0)), (0, .ref (τ.1 30)), (1, .int (nI t)), (2, .int y), (3, .int z), (4, .int w), (5, .int v), (7, .int yy), (8, .int v131), (10, .int (nI i3))]) hx hb dX12_foretold_269 hl (by decide) rfl (fun ls hl => ?_)
                  refine lv_iload hx hb dX12_foretold_271 (lv_at hl 6 rfl) ?_
                  refine lv_if_ne (tgt := 281) hx hb dX12_foretold_273 (by decide) (fun c143 => ?_) (fun c143 => ?_)
                  · have zc143 := c143
                    replace zc143 := zc_neq (rfl) ((by decide : (0 : Int32).toInt = 0)) zc143
                    refine lv_iload hx hb dX12_foretold_281 (lv_at hl 6 rfl) ?_
                    refine lv_iconst (v := nI 1) hx hb dX12_foretold_283 (by decide) ?_
                    refine lv_icmp_ne (tgt := 292) hx hb dX12_foretold_284 (by decide) (fun c144 => ?_) (fun c144 => ?_)
                    · have zc144 := c144
                      replace zc144 := zc_neq (rfl) (nI_toInt (by omega)) zc144
                      refine lv_iload hx hb dX12_foretold_292 (lv_at hl 0 rfl) ?_
                      refine lv_iload hx hb dX12_foretold_294 (lv_at hl 5 rfl) ?_
                      refine lv_iadd hx hb dX12_foretold_296 ?_
                      refine lv_topi (fun v145 ev145 => ?_)
                      refine lv_iconst (v := nI 1) hx hb dX12_foretold_297 (by decide) ?_
                      refine lv_isub hx hb dX12_foretold_298 ?_
                      refine lv_topi (fun v146 ev146 => ?_)
                      refine lv_iload hx hb dX12_foretold_299 (lv_at hl 5 rfl) ?_
                      refine lv_idiv hx hb dX12_foretold_301 (fun h9 => by have h8 := hy110; rw [h9] at h8; exact absurd h8.1 (by decide)) ?_
                      refine lv_topi (fun v147 ev147 => ?_)
                      refine lv_iload hx hb dX12_foretold_302 (lv_at hl 5 rfl) ?_
                      refine lv_imul hx hb dX12_foretold_304 ?_
                      refine lv_topi (fun v148 ev148 => ?_)
                      refine W.widen (k := 0) (n := 0) (by decide) (by decide) ?_
                      exact W.iret (v := v148) hx hb hr (fun t9 ht9 hW9 => ⟨⟨v148, f120, rfl, fun a b h => by rw [ef120, zu_n (by omega)], zEnd1 hH ht9 hW9⟩, hS.F ht9⟩) hS.2.2 dX12_foretold_305
                    · have zc144 := c144
                      replace zc144 := zc_eq (rfl) (nI_toInt (by omega)) zc144
                      refine lv_iload hx hb dX12_foretold_287 (lv_at hl 8 rfl) ?_
                      refine lv_goto (tgt := 305) hx hb dX12_foretold_289 (by decide) ?_
                      refine W.widen (k := 0) (n := 0) (by decide) (by decide) ?_
                      exact W.iret (v := v131) hx hb hr (fun t9 ht9 hW9 => ⟨⟨v131, f120, rfl, fun a b h => by rw [ef120, zu_n (by omega)], zEnd1 hH ht9 hW9⟩, hS.F ht9⟩) hS.2.2 dX12_foretold_305
                  · have zc143 := c143
                    replace zc143 := zc_eq (rfl) ((by decide : (0 : Int32).toInt = 0)) zc143
                    refine lv_iload hx hb dX12_foretold_276 (lv_at hl 7 rfl) ?_
                    refine lv_goto (tgt := 305) hx hb dX12_foretold_278 (by decide) ?_
                    refine W.widen (k := 0) (n := 0) (by decide) (by decide) ?_
                    exact W.iret (v := yy) hx hb hr (fun t9 ht9 hW9 => ⟨⟨yy, f120, rfl, fun a b h => by rw [ef120, zu_n (by omega)], zEnd1 hH ht9 hW9⟩, hS.F ht9⟩) hS.2.2 dX12_foretold_305
              · have zc135 := c135
                replace zc135 := zc_nle (nI_toInt (by omega)) (nI_toInt (by omega)) zc135
                refine lv_iload hx hb dX12_foretold_230 (lv_at hl 8 rfl) ?_
                refine lv_aload_n hx hb dX12_foretold_232 rfl (lv_at hl 0 rfl) ?_
                refine zGetR (D := D) (ci := 12) (C := RX12) (T := TX12) (N := 71) hx hb hts hiX12 hown hH (zk_30 hF) rfl 14 (by decide) rfl hw5 (fun _ h9 => h9) dX12_foretold_233 (zr_30_14 hF) ?_
                refine lv_iload hx hb dX12_foretold_236 (lv_at hl 9 rfl) ?_
                refine zIaldN (D := D) hx hb hH (zk_41 hF) (zn_41 hF) (by omega) (by omega) rfl dX12_foretold_238 ?_
                refine lv_iload_n hx hb dX12_foretold_239 rfl (lv_at hl 1 rfl) ?_
                refine lv_icmp_ne (tgt := 253) hx hb dX12_foretold_240 (by decide) (fun c149 => ?_) (fun c149 => ?_)
                · have zc149 := c149
                  replace zc149 := zc_neq (rfl) (nI_toInt (by omega)) zc149
                  refine lv_iconst (v := nI 0) hx hb dX12_foretold_253 (by decide) ?_
                  refine lv_isub hx hb dX12_foretold_254 ?_
                  refine lv_topi (fun v150 ev150 => ?_)
                  refine lv_istore (lv' := [(9, .int v150), (0, .ref (τ.1 30)), (1, .int (nI t)), (2, .int y), (3, .int z), (4, .int w), (5, .int v), (7, .int yy), (8, .int v131), (10, .int (nI i3))]) hx hb dX12_foretold_255 hl (by decide) rfl (fun ls hl => ?_)
                  refine lv_iinc (v := nI (i3 + 1)) (lv' := [(10, .int (nI (i3 + 1))), (9, .int v150), (0, .ref (τ.1 30)), (1, .int (nI t)), (2, .int y), (3, .int z), (4, .int w), (5, .int v), (7, .int yy), (8, .int v131)]) hx hb dX12_foretold_257 hl (k := 9) rfl (by rw [show (Int32.ofInt 1 : Int32) = nI 1 from by decide, nI_add]) (by decide) rfl (fun ls hl => ?_)
                  refine lv_goto (tgt := 221) hx hb dX12_foretold_260 (by decide) ?_
                  exact ih134 (c - (i3 + 1)) (by omega) (i3 + 1, _) _ _ _ (show c - (i3 + 1) = c - (i3 + 1) ∧ ((i3 + 1) ≤ c) ∧ zH D A τ f120 fr ol s _ ∧ va_S A s.heap _ _ ∧ lv_has _ 11 [(0, .ref (τ.1 30)), (1, .int (nI t)), (2, .int y), (3, .int z), (4, .int w), (5, .int v), (7, .int yy), (8, .int v131), (9, .int _), (10, .int (nI (i3 + 1)))] from ⟨rfl, (by omega), hH, hS, lv_sub hl [2, 3, 4, 5, 6, 7, 8, 9, 1, 0] rfl⟩)
                · have zc149 := c149
                  replace zc149 := zc_eq (rfl) (nI_toInt (by omega)) zc149
                  refine lv_aload_n hx hb dX12_foretold_243 rfl (lv_at hl 0 rfl) ?_
                  refine zGetR (D := D) (ci := 12) (C := RX12) (T := TX12) (N := 71) hx hb hts hiX12 hown hH (zk_30 hF) rfl 16 (by decide) rfl hw6 (fun _ h9 => h9) dX12_foretold_244 (zr_30_16 hF) ?_
                  refine lv_iload hx hb dX12_foretold_247 (lv_at hl 9 rfl) ?_
                  refine zIaldN (D := D) hx hb hH (zk_43 hF) (zn_43 hF) (by omega) (by omega) rfl dX12_foretold_249 ?_
                  refine lv_goto (tgt := 254) hx hb dX12_foretold_250 (by decide) ?_
                  refine lv_isub hx hb dX12_foretold_254 ?_
                  refine lv_topi (fun v151 ev151 => ?_)
                  refine lv_istore (lv' := [(9, .int v151), (0, .ref (τ.1 30)), (1, .int (nI t)), (2, .int y), (3, .int z), (4, .int w), (5, .int v), (7, .int yy), (8, .int v131), (10, .int (nI i3))]) hx hb dX12_foretold_255 hl (by decide) rfl (fun ls hl => ?_)
                  refine lv_iinc (v := nI (i3 + 1)) (lv' := [(10, .int (nI (i3 + 1))), (9, .int v151), (0, .ref (τ.1 30)), (1, .int (nI t)), (2, .int y), (3, .int z), (4, .int w), (5, .int v), (7, .int yy), (8, .int v131)]) hx hb dX12_foretold_257 hl (k := 9) rfl (by rw [show (Int32.ofInt 1 : Int32) = nI 1 from by decide, nI_add]) (by decide) rfl (fun ls hl => ?_)
                  refine lv_goto (tgt := 221) hx hb dX12_foretold_260 (by decide) ?_
                  exact ih134 (c - (i3 + 1)) (by omega) (i3 + 1, _) _ _ _ (show c - (i3 + 1) = c - (i3 + 1) ∧ ((i3 + 1) ≤ c) ∧ zH D A τ f120 fr ol s _ ∧ va_S A s.heap _ _ ∧ lv_has _ 11 [(0, .ref (τ.1 30)), (1, .int (nI t)), (2, .int y), (3, .int z), (4, .int w), (5, .int v), (7, .int yy), (8, .int v131), (9, .int _), (10, .int (nI (i3 + 1)))] from ⟨rfl, (by omega), hH, hS, lv_sub hl [2, 3, 4, 5, 6, 7, 8, 9, 1, 0] rfl⟩)
            · have zc127 := c127
              replace zc127 := zc_nle (nI_toInt (by omega)) (nI_toInt (by omega)) zc127
              obtain ⟨wn, hvn8, hvn54, -⟩ := hMo.2.2 i (by omega)
              refine lv_bipush (v := nI 8) hx hb dX12_foretold_105 (by decide) ?_
              refine lv_iload hx hb dX12_foretold_107 (lv_at hl 7 rfl) ?_
              refine lv_imul hx hb dX12_foretold_109 ?_
              refine lv_topi (fun v152 ev152 => ?_)
              obtain rfl : v152 = nI (8 * i) := ev152.trans (pk_mul _ _)
              refine lv_istore (lv' := [(9, .int (nI (8 * i))), (0, .ref (τ.1 30)), (1, .int (nI t)), (2, .int y), (3, .int z), (4, .int w), (5, .int v), (7, .int yy), (8, .int (nI i))]) hx hb dX12_foretold_110 hl (by decide) rfl (fun ls hl => ?_)
              refine zLp (σ := Nat × Int32) (fun x9 k9 H locs ls => (fun (i2 : Nat) (y2 : Int32) => k9 = 8 * i + wn - i2 ∧ (8 * i ≤ i2 ∧ i2 ≤ 8 * i + wn) ∧ zH D A τ f120 fr ol s H ∧ va_S A s.heap H locs ∧ lv_has ls 11 [(0, .ref (τ.1 30)), (1, .int (nI t)), (2, .int y), (3, .int z), (4, .int w), (5, .int v), (7, .int y2), (8, .int (nI i)), (9, .int (nI i2))]) x9.1 x9.2) (8 * i, yy) (8 * i + wn - (8 * i)) (show 8 * i + wn - (8 * i) = 8 * i + wn - (8 * i) ∧ (8 * i ≤ (8 * i) ∧ (8 * i) ≤ 8 * i + wn) ∧ zH D A τ f120 fr ol s _ ∧ va_S A s.heap _ _ ∧ lv_has _ 11 [(0, .ref (τ.1 30)), (1, .int (nI t)), (2, .int y), (3, .int z), (4, .int w), (5, .int v), (7, .int yy), (8, .int (nI i)), (9, .int (nI (8 * i)))] from ⟨rfl, ⟨Nat.le_refl _, by omega⟩, hH, hS, lv_sub hl [1, 2, 3, 4, 5, 6, 7, 8, 0] rfl⟩) (fun k9 ih x9 H locs ls hv9 => ?_)
              obtain ⟨i2, y2⟩ := x9
              have hv9 : k9 = 8 * i + wn - i2 ∧ (8 * i ≤ i2 ∧ i2 ≤ 8 * i + wn) ∧ zH D A τ f120 fr ol s H ∧ va_S A s.heap H locs ∧ lv_has ls 11 [(0, .ref (τ.1 30)), (1, .int (nI t)), (2, .int y), (3, .int z), (4, .int w), (5, .int v), (7, .int y2), (8, .int (nI i)), (9, .int (nI i2))] := hv9
              obtain ⟨hkih153, hv9, hH, hS, hl⟩ := hv9
              obtain ⟨h2, h3⟩ := hv9
              have ih153 := ih
              clear ih
              refine lv_iload hx hb dX12_foretold_112 (lv_at hl 8 rfl) ?_
              refine lv_bipush (v := nI 8) hx hb dX12_foretold_114 (by decide) ?_
              refine lv_iload hx hb dX12_foretold_116 (lv_at hl 7 rfl) ?_
              refine lv_imul hx hb dX12_foretold_118 ?_
              refine lv_topi (fun v154 ev154 => ?_)
              obtain rfl : v154 = nI (8 * i) := ev154.trans (pk_mul _ _)
              refine lv_aload_n hx hb dX12_foretold_119 rfl (lv_at hl 0 rfl) ?_
              refine zGetR (D := D) (ci := 12) (C := RX12) (T := TX12) (N := 71) hx hb hts hiX12 hown hH (zk_30 hF) rfl 50 (by decide) rfl hw7 (fun _ h9 => h9) dX12_foretold_120 (zr_30_50 hF) ?_
              refine lv_iload hx hb dX12_foretold_123 (lv_at hl 7 rfl) ?_
              refine zIaldN (D := D) hx hb hH (zk_54 hF) (zn_54 hF) (by omega) (by omega) hvn54 dX12_foretold_125 ?_
              refine lv_iadd hx hb dX12_foretold_126 ?_
              refine lv_topi (fun v155 ev155 => ?_)
              obtain rfl : v155 = nI (8 * i + wn) := ev155.trans (nI_add _ _)
              refine lv_icmp_ge (tgt := 184) hx hb dX12_foretold_127 (by decide) (fun c156 => ?_) (fun c156 => ?_)
              · have zc156 := c156
                replace zc156 := zc_le (nI_toInt (by omega)) (nI_toInt (by omega)) zc156
                refine lv_iinc (v := nI (i + 1)) (lv' := [(8, .int (nI (i + 1))), (0, .ref (τ.1 30)), (1, .int (nI t)), (2, .int y), (3, .int z), (4, .int w), (5, .int v), (7, .int y2), (9, .int (nI i2))]) hx hb dX12_foretold_184 hl (k := 7) rfl (by rw [show (Int32.ofInt 1 : Int32) = nI 1 from by decide, nI_add]) (by decide) rfl (fun ls hl => ?_)
                refine lv_goto (tgt := 96) hx hb dX12_foretold_187 (by decide) ?_
                exact ih126 (o - (i + 1)) (by omega) (i + 1, _) _ _ _ (show o - (i + 1) = o - (i + 1) ∧ ((i + 1) ≤ o) ∧ zH D A τ f120 fr ol s _ ∧ va_S A s.heap _ _ ∧ lv_has _ 11 [(0, .ref (τ.1 30)), (1, .int (nI t)), (2, .int y), (3, .int z), (4, .int w), (5, .int v), (7, .int _), (8, .int (nI (i + 1)))] from ⟨rfl, (by omega), hH, hS, lv_sub hl [1, 2, 3, 4, 5, 6, 7, 0] rfl⟩)
              · have zc156 := c156
                replace zc156 := zc_nle (nI_toInt (by omega)) (nI_toInt (by omega)) zc156
                refine lv_aload_n hx hb dX12_foretold_130 rfl (lv_at hl 0 rfl) ?_
                refine zGetR (D := D) (ci := 12) (C := RX12) (T := TX12) (N := 71) hx hb hts hiX12 hown hH (zk_30 hF) rfl 51 (by decide) rfl hw8 (fun _ h9 => h9) dX12_foretold_131 (zr_30_51 hF) ?_
                refine lv_iload hx hb dX12_foretold_134 (lv_at hl 8 rfl) ?_
                refine zIaldN (D := D) hx hb hH (zk_55 hF) (zn_55 hF) (by omega) (by omega) rfl dX12_foretold_136 ?_
                refine lv_iload_n hx hb dX12_foretold_137 rfl (lv_at hl 1 rfl) ?_
                refine lv_icmp_ne (tgt := 178) hx hb dX12_foretold_138 (by decide) (fun c157 => ?_) (fun c157 => ?_)
                · have zc157 := c157
                  replace zc157 := zc_neq (rfl) (nI_toInt (by omega)) zc157
                  refine lv_iinc (v := nI (i2 + 1)) (lv' := [(9, .int (nI (i2 + 1))), (0, .ref (τ.1 30)), (1, .int (nI t)), (2, .int y), (3, .int z), (4, .int w), (5, .int v), (7, .int y2), (8, .int (nI i))]) hx hb dX12_foretold_178 hl (k := 8) rfl (by rw [show (Int32.ofInt 1 : Int32) = nI 1 from by decide, nI_add]) (by decide) rfl (fun ls hl => ?_)
                  refine lv_goto (tgt := 112) hx hb dX12_foretold_181 (by decide) ?_
                  exact ih153 (8 * i + wn - (i2 + 1)) (by omega) (i2 + 1, _) _ _ _ (show 8 * i + wn - (i2 + 1) = 8 * i + wn - (i2 + 1) ∧ (8 * i ≤ (i2 + 1) ∧ (i2 + 1) ≤ 8 * i + wn) ∧ zH D A τ f120 fr ol s _ ∧ va_S A s.heap _ _ ∧ lv_has _ 11 [(0, .ref (τ.1 30)), (1, .int (nI t)), (2, .int y), (3, .int z), (4, .int w), (5, .int v), (7, .int _), (8, .int (nI i)), (9, .int (nI (i2 + 1)))] from ⟨rfl, ⟨by omega, by omega⟩, hH, hS, lv_sub hl [1, 2, 3, 4, 5, 6, 7, 8, 0] rfl⟩)
                · have zc157 := c157
                  replace zc157 := zc_eq (rfl) (nI_toInt (by omega)) zc157
                  refine lv_aload_n hx hb dX12_foretold_141 rfl (lv_at hl 0 rfl) ?_
                  refine zGetR (D := D) (ci := 12) (C := RX12) (T := TX12) (N := 71) hx hb hts hiX12 hown hH (zk_30 hF) rfl 46 (by decide) rfl hw9 (fun _ h9 => h9) dX12_foretold_142 (zr_30_46 hF) ?_
                  refine lv_iload hx hb dX12_foretold_145 (lv_at hl 7 rfl) ?_
                  refine zIaldN (D := D) hx hb hH (zk_50 hF) (zn_50 hF) (by omega) (by omega) rfl dX12_foretold_147 ?_
                  refine lv_iload_n hx hb dX12_foretold_148 rfl (lv_at hl 2 rfl) ?_
                  refine lv_icmp_lt (tgt := 178) hx hb dX12_foretold_149 (by decide) (fun c158 => ?_) (fun c158 => ?_)
                  · have zc158 := c158
                    replace zc158 := zc_lt (rfl) (rfl) zc158
                    refine lv_iinc (v := nI (i2 + 1)) (lv' := [(9, .int (nI (i2 + 1))), (0, .ref (τ.1 30)), (1, .int (nI t)), (2, .int y), (3, .int z), (4, .int w), (5, .int v), (7, .int y2), (8, .int (nI i))]) hx hb dX12_foretold_178 hl (k := 8) rfl (by rw [show (Int32.ofInt 1 : Int32) = nI 1 from by decide, nI_add]) (by decide) rfl (fun ls hl => ?_)
                    refine lv_goto (tgt := 112) hx hb dX12_foretold_181 (by decide) ?_
                    exact ih153 (8 * i + wn - (i2 + 1)) (by omega) (i2 + 1, _) _ _ _ (show 8 * i + wn - (i2 + 1) = 8 * i + wn - (i2 + 1) ∧ (8 * i ≤ (i2 + 1) ∧ (i2 + 1) ≤ 8 * i + wn) ∧ zH D A τ f120 fr ol s _ ∧ va_S A s.heap _ _ ∧ lv_has _ 11 [(0, .ref (τ.1 30)), (1, .int (nI t)), (2, .int y), (3, .int z), (4, .int w), (5, .int v), (7, .int _), (8, .int (nI i)), (9, .int (nI (i2 + 1)))] from ⟨rfl, ⟨by omega, by omega⟩, hH, hS, lv_sub hl [1, 2, 3, 4, 5, 6, 7, 8, 0] rfl⟩)
                  · have zc158 := c158
                    replace zc158 := zc_nlt (rfl) (rfl) zc158
                    refine lv_aload_n hx hb dX12_foretold_152 rfl (lv_at hl 0 rfl) ?_
                    refine zGetR (D := D) (ci := 12) (C := RX12) (T := TX12) (N := 71) hx hb hts hiX12 hown hH (zk_30 hF) rfl 46 (by decide) rfl hw9 (fun _ h9 => h9) dX12_foretold_153 (zr_30_46 hF) ?_
                    refine lv_iload hx hb dX12_foretold_156 (lv_at hl 7 rfl) ?_
                    refine zIaldN (D := D) hx hb hH (zk_50 hF) (zn_50 hF) (by omega) (by omega) rfl dX12_foretold_158 ?_
                    refine lv_iload_n hx hb dX12_foretold_159 rfl (lv_at hl 2 rfl) ?_
                    refine lv_bipush (v := nI 13) hx hb dX12_foretold_160 (by decide) ?_
                    refine lv_iadd hx hb dX12_foretold_162 ?_
                    refine lv_topi (fun v159 ev159 => ?_)
                    refine lv_icmp_gt (tgt := 178) hx hb dX12_foretold_163 (by decide) (fun c160 => ?_) (fun c160 => ?_)
                    · have zc160 := c160
                      replace zc160 := zc_lt (rfl) (rfl) zc160
                      refine lv_iinc (v := nI (i2 + 1)) (lv' := [(9, .int (nI (i2 + 1))), (0, .ref (τ.1 30)), (1, .int (nI t)), (2, .int y), (3, .int z), (4, .int w), (5, .int v), (7, .int y2), (8, .int (nI i))]) hx hb dX12_foretold_178 hl (k := 8) rfl (by rw [show (Int32.ofInt 1 : Int32) = nI 1 from by decide, nI_add]) (by decide) rfl (fun ls hl => ?_)
                      refine lv_goto (tgt := 112) hx hb dX12_foretold_181 (by decide) ?_
                      exact ih153 (8 * i + wn - (i2 + 1)) (by omega) (i2 + 1, _) _ _ _ (show 8 * i + wn - (i2 + 1) = 8 * i + wn - (i2 + 1) ∧ (8 * i ≤ (i2 + 1) ∧ (i2 + 1) ≤ 8 * i + wn) ∧ zH D A τ f120 fr ol s _ ∧ va_S A s.heap _ _ ∧ lv_has _ 11 [(0, .ref (τ.1 30)), (1, .int (nI t)), (2, .int y), (3, .int z), (4, .int w), (5, .int v), (7, .int _), (8, .int (nI i)), (9, .int (nI (i2 + 1)))] from ⟨rfl, ⟨by omega, by omega⟩, hH, hS, lv_sub hl [1, 2, 3, 4, 5, 6, 7, 8, 0] rfl⟩)
                    · have zc160 := c160
                      replace zc160 := zc_nlt (rfl) (rfl) zc160
                      refine lv_iload hx hb dX12_foretold_166 (lv_at hl 6 rfl) ?_
                      refine lv_aload_n hx hb dX12_foretold_168 rfl (lv_at hl 0 rfl) ?_
                      refine zGetR (D := D) (ci := 12) (C := RX12) (T := TX12) (N := 71) hx hb hts hiX12 hown hH (zk_30 hF) rfl 52 (by decide) rfl hw10 (fun _ h9 => h9) dX12_foretold_169 (zr_30_52 hF) ?_
                      refine lv_iload hx hb dX12_foretold_172 (lv_at hl 8 rfl) ?_
                      refine zIaldN (D := D) hx hb hH (zk_56 hF) (zn_56 hF) (by omega) (by omega) rfl dX12_foretold_174 ?_
                      refine lv_iadd hx hb dX12_foretold_175 ?_
                      refine lv_topi (fun v161 ev161 => ?_)
                      refine lv_istore (lv' := [(7, .int v161), (0, .ref (τ.1 30)), (1, .int (nI t)), (2, .int y), (3, .int z), (4, .int w), (5, .int v), (8, .int (nI i)), (9, .int (nI i2))]) hx hb dX12_foretold_176 hl (by decide) rfl (fun ls hl => ?_)
                      refine lv_iinc (v := nI (i2 + 1)) (lv' := [(9, .int (nI (i2 + 1))), (7, .int v161), (0, .ref (τ.1 30)), (1, .int (nI t)), (2, .int y), (3, .int z), (4, .int w), (5, .int v), (8, .int (nI i))]) hx hb dX12_foretold_178 hl (k := 8) rfl (by rw [show (Int32.ofInt 1 : Int32) = nI 1 from by decide, nI_add]) (by decide) rfl (fun ls hl => ?_)
                      refine lv_goto (tgt := 112) hx hb dX12_foretold_181 (by decide) ?_
                      exact ih153 (8 * i + wn - (i2 + 1)) (by omega) (i2 + 1, _) _ _ _ (show 8 * i + wn - (i2 + 1) = 8 * i + wn - (i2 + 1) ∧ (8 * i ≤ (i2 + 1) ∧ (i2 + 1) ≤ 8 * i + wn) ∧ zH D A τ f120 fr ol s _ ∧ va_S A s.heap _ _ ∧ lv_has _ 11 [(0, .ref (τ.1 30)), (1, .int (nI t)), (2, .int y), (3, .int z), (4, .int w), (5, .int v), (7, .int _), (8, .int (nI i)), (9, .int (nI (i2 + 1)))] from ⟨rfl, ⟨by omega, by omega⟩, hH, hS, lv_sub hl [2, 3, 4, 5, 6, 7, 1, 8, 0] rfl⟩)
          · skip
            replace hn118 := zWi0 (rfl) (nI_toInt (by omega)) (nI_toInt (by omega)) hn118
            refine lv_if_ne (tgt := 77) hx hb dX12_foretold_70 (by decide) (fun c162 => absurd (by decide) c162) (fun c162 => ?_)
            refine lv_iconst (v := nI 3) hx hb dX12_foretold_73 (by decide) ?_
            refine lv_goto (tgt := 78) hx hb dX12_foretold_74 (by decide) ?_
            refine zPutI (D := D) (ci := 12) (ty := .int) (C := RX12) (T := TX12) (N := 71) hx hb hts hiX12 tyX12 tyX12_ok nmX12 hown hH hS (zk_30 hF) rfl 0 (by decide) rfl hw0 (fun _ h9 => h9) rfl (by decide +kernel) rfl rfl dX12_foretold_78 (fun H locs hH hS => ?_)
            obtain ⟨f163, ef163⟩ : ∃ f9 : zFi, f9 = zu fi 30 0 (nI 3) := ⟨_, rfl⟩
            rw [← ef163] at hH
            have q164 : f163 30 2 = nI n := by rw [ef163, zu_n (fun h9 => absurd h9.2 (by decide))]; exact hMt.2.1
            have q165 : f163 30 45 = nI o := by rw [ef163, zu_n (fun h9 => absurd h9.2 (by decide))]; exact hMo.2.1
            have q166 : f163 30 13 = nI c := by rw [ef163, zu_n (fun h9 => absurd h9.2 (by decide))]; exact hMc.2.1
            have q167 : f163 30 0 = nI 3 := by rw [ef163]; exact zu_s
            have hMo := zMo.ci (fi' := f163) hMo (fun i9 k9 h9 => by rw [ef163]; exact zu_n (by omega))
            refine lv_aload_n hx hb dX12_foretold_81 rfl (lv_at hl 1 rfl) ?_
            refine zGetI (D := D) (ci := 12) (C := RX12) (T := TX12) (N := 71) hx hb hts hiX12 hown hH (zk_30 hF) rfl 0 (by decide) rfl hw0 (fun _ h9 => h9) dX12_foretold_82 q167 ?_
            refine lv_if_le (tgt := 90) hx hb dX12_foretold_85 (by decide) (fun c168 => absurd c168 (by decide)) (fun c168 => ?_)
            refine lv_iconst (v := nI 0) hx hb dX12_foretold_88 (by decide) ?_
            refine W.widen (k := 0) (n := 0) (by decide) (by decide) ?_
            exact W.iret (v := nI 0) hx hb hr (fun t9 ht9 hW9 => ⟨⟨nI 0, f163, rfl, fun a b h => by rw [ef163, zu_n (by omega)], zEnd1 hH ht9 hW9⟩, hS.F ht9⟩) hS.2.2 dX12_foretold_89
        · skip
          refine lv_if_ne (tgt := 54) hx hb dX12_foretold_47 (by decide) (fun c169 => absurd (by decide) c169) (fun c169 => ?_)
          refine lv_iconst (v := nI 1) hx hb dX12_foretold_50 (by decide) ?_
          refine lv_goto (tgt := 78) hx hb dX12_foretold_51 (by decide) ?_
          refine zPutI (D := D) (ci := 12) (ty := .int) (C := RX12) (T := TX12) (N := 71) hx hb hts hiX12 tyX12 tyX12_ok nmX12 hown hH hS (zk_30 hF) rfl 0 (by decide) rfl hw0 (fun _ h9 => h9) rfl (by decide +kernel) rfl rfl dX12_foretold_78 (fun H locs hH hS => ?_)
          obtain ⟨f170, ef170⟩ : ∃ f9 : zFi, f9 = zu fi 30 0 (nI 1) := ⟨_, rfl⟩
          rw [← ef170] at hH
          have q171 : f170 30 2 = nI n := by rw [ef170, zu_n (fun h9 => absurd h9.2 (by decide))]; exact hMt.2.1
          have q172 : f170 30 45 = nI o := by rw [ef170, zu_n (fun h9 => absurd h9.2 (by decide))]; exact hMo.2.1
          have q173 : f170 30 13 = nI c := by rw [ef170, zu_n (fun h9 => absurd h9.2 (by decide))]; exact hMc.2.1
          have q174 : f170 30 0 = nI 1 := by rw [ef170]; exact zu_s
          have hMo := zMo.ci (fi' := f170) hMo (fun i9 k9 h9 => by rw [ef170]; exact zu_n (by omega))
          refine lv_aload_n hx hb dX12_foretold_81 rfl (lv_at hl 1 rfl) ?_
          refine zGetI (D := D) (ci := 12) (C := RX12) (T := TX12) (N := 71) hx hb hts hiX12 hown hH (zk_30 hF) rfl 0 (by decide) rfl hw0 (fun _ h9 => h9) dX12_foretold_82 q174 ?_
          refine lv_if_le (tgt := 90) hx hb dX12_foretold_85 (by decide) (fun c175 => absurd c175 (by decide)) (fun c175 => ?_)
          refine lv_iconst (v := nI 0) hx hb dX12_foretold_88 (by decide) ?_
          refine W.widen (k := 0) (n := 0) (by decide) (by decide) ?_
          exact W.iret (v := nI 0) hx hb hr (fun t9 ht9 hW9 => ⟨⟨nI 0, f170, rfl, fun a b h => by rw [ef170, zu_n (by omega)], zEnd1 hH ht9 hW9⟩, hS.F ht9⟩) hS.2.2 dX12_foretold_89
      · skip
        replace hn111 := zWi0 (rfl) (nI_toInt (by omega)) (nI_toInt (by omega)) hn111
        refine lv_if_eq (tgt := 38) hx hb dX12_foretold_31 (by decide) (fun c176 => ?_) (fun c176 => absurd (by decide) c176)
        refine lv_iconst (v := nI 0) hx hb dX12_foretold_38 (by decide) ?_
        refine lv_istore (lv' := [(6, .int (nI 0)), (0, .ref (τ.1 30)), (1, .int x), (2, .int y), (3, .int z), (4, .int w), (5, .int v)]) hx hb dX12_foretold_39 hl (by decide) rfl (fun ls hl => ?_)
        refine lv_aload_n hx hb dX12_foretold_41 rfl (lv_at hl 1 rfl) ?_
        refine lv_aload_n hx hb dX12_foretold_42 rfl (lv_at hl 1 rfl) ?_
        refine lv_iload_n hx hb dX12_foretold_43 rfl (lv_at hl 2 rfl) ?_
        refine va_calli (va_runV (As := [.int x]) (rest := [.ref (τ.1 30)]) ⟨hx, hb, hml, hown, hts⟩ (m_isThing l hl0 D A sad τ fi fr ol x n hF hMt.2.1 (by omega)) (cwV 1 hts gX12_foretold_X12_isThing rfl rfl rfl (by decide +kernel) ⟨Nat.le_of_ble_eq_true rfl, Nat.le_of_ble_eq_true rfl⟩) ⟨zQc_bl, zRecv hH (zk_30 hF) rfl, zQc_at hz hS hA hH⟩ rfl rfl hl.1 rfl (lv_room (Nat.le_of_ble_eq_true rfl)) dX12_foretold_44 ⟨Nat.le_of_ble_eq_true rfl, Nat.le_of_ble_eq_true rfl⟩) hS (fun q _ h => h) (fun q h => h) (fun r177 u9 t9 H1 locs ht9 hvm9 hw hB hz1 hk1 hS => ?_)
        have hH := zMv ht9 hvm9 hB
        generalize H1 = H at hH hS ⊢
        rcases hw with ⟨t, ht, rfl, rfl⟩ | ⟨hno, rfl⟩
        · skip
          refine lv_if_ne (tgt := 54) hx hb dX12_foretold_47 (by decide) (fun c178 => ?_) (fun c178 => absurd c178 (by decide))
          refine lv_iload hx hb dX12_foretold_54 (lv_at hl 0 rfl) ?_
          refine lv_if_ne (tgt := 63) hx hb dX12_foretold_56 (by decide) (fun c179 => absurd (by decide) c179) (fun c179 => ?_)
          refine lv_iconst (v := nI 2) hx hb dX12_foretold_59 (by decide) ?_
          refine lv_goto (tgt := 78) hx hb dX12_foretold_60 (by decide) ?_
          refine zPutI (D := D) (ci := 12) (ty := .int) (C := RX12) (T := TX12) (N := 71) hx hb hts hiX12 tyX12 tyX12_ok nmX12 hown hH hS (zk_30 hF) rfl 0 (by decide) rfl hw0 (fun _ h9 => h9) rfl (by decide +kernel) rfl rfl dX12_foretold_78 (fun H locs hH hS => ?_)
          obtain ⟨f180, ef180⟩ : ∃ f9 : zFi, f9 = zu fi 30 0 (nI 2) := ⟨_, rfl⟩
          rw [← ef180] at hH
          have q181 : f180 30 2 = nI n := by rw [ef180, zu_n (fun h9 => absurd h9.2 (by decide))]; exact hMt.2.1
          have q182 : f180 30 45 = nI o := by rw [ef180, zu_n (fun h9 => absurd h9.2 (by decide))]; exact hMo.2.1
          have q183 : f180 30 13 = nI c := by rw [ef180, zu_n (fun h9 => absurd h9.2 (by decide))]; exact hMc.2.1
          have q184 : f180 30 0 = nI 2 := by rw [ef180]; exact zu_s
          have hMo := zMo.ci (fi' := f180) hMo (fun i9 k9 h9 => by rw [ef180]; exact zu_n (by omega))
          refine lv_aload_n hx hb dX12_foretold_81 rfl (lv_at hl 1 rfl) ?_
          refine zGetI (D := D) (ci := 12) (C := RX12) (T := TX12) (N := 71) hx hb hts hiX12 hown hH (zk_30 hF) rfl 0 (by decide) rfl hw0 (fun _ h9 => h9) dX12_foretold_82 q184 ?_
          refine lv_if_le (tgt := 90) hx hb dX12_foretold_85 (by decide) (fun c185 => absurd c185 (by decide)) (fun c185 => ?_)
          refine lv_iconst (v := nI 0) hx hb dX12_foretold_88 (by decide) ?_
          refine W.widen (k := 0) (n := 0) (by decide) (by decide) ?_
          exact W.iret (v := nI 0) hx hb hr (fun t9 ht9 hW9 => ⟨⟨nI 0, f180, rfl, fun a b h => by rw [ef180, zu_n (by omega)], zEnd1 hH ht9 hW9⟩, hS.F ht9⟩) hS.2.2 dX12_foretold_89
        · skip
          refine lv_if_ne (tgt := 54) hx hb dX12_foretold_47 (by decide) (fun c186 => absurd (by decide) c186) (fun c186 => ?_)
          refine lv_iconst (v := nI 1) hx hb dX12_foretold_50 (by decide) ?_
          refine lv_goto (tgt := 78) hx hb dX12_foretold_51 (by decide) ?_
          refine zPutI (D := D) (ci := 12) (ty := .int) (C := RX12) (T := TX12) (N := 71) hx hb hts hiX12 tyX12 tyX12_ok nmX12 hown hH hS (zk_30 hF) rfl 0 (by decide) rfl hw0 (fun _ h9 => h9) rfl (by decide +kernel) rfl rfl dX12_foretold_78 (fun H locs hH hS => ?_)
          obtain ⟨f187, ef187⟩ : ∃ f9 : zFi, f9 = zu fi 30 0 (nI 1) := ⟨_, rfl⟩
          rw [← ef187] at hH
          have q188 : f187 30 2 = nI n := by rw [ef187, zu_n (fun h9 => absurd h9.2 (by decide))]; exact hMt.2.1
          have q189 : f187 30 45 = nI o := by rw [ef187, zu_n (fun h9 => absurd h9.2 (by decide))]; exact hMo.2.1
          have q190 : f187 30 13 = nI c := by rw [ef187, zu_n (fun h9 => absurd h9.2 (by decide))]; exact hMc.2.1
          have q191 : f187 30 0 = nI 1 := by rw [ef187]; exact zu_s
          have hMo := zMo.ci (fi' := f187) hMo (fun i9 k9 h9 => by rw [ef187]; exact zu_n (by omega))
          refine lv_aload_n hx hb dX12_foretold_81 rfl (lv_at hl 1 rfl) ?_
          refine zGetI (D := D) (ci := 12) (C := RX12) (T := TX12) (N := 71) hx hb hts hiX12 hown hH (zk_30 hF) rfl 0 (by decide) rfl hw0 (fun _ h9 => h9) dX12_foretold_82 q191 ?_
          refine lv_if_le (tgt := 90) hx hb dX12_foretold_85 (by decide) (fun c192 => absurd c192 (by decide)) (fun c192 => ?_)
          refine lv_iconst (v := nI 0) hx hb dX12_foretold_88 (by decide) ?_
          refine W.widen (k := 0) (n := 0) (by decide) (by decide) ?_
          exact W.iret (v := nI 0) hx hb hr (fun t9 ht9 hW9 => ⟨⟨nI 0, f187, rfl, fun a b h => by rw [ef187, zu_n (by omega)], zEnd1 hH ht9 hW9⟩, hS.F ht9⟩) hS.2.2 dX12_foretold_89
    · skip
      replace hn107 := zWi0 (rfl) (nI_toInt (by omega)) (nI_toInt (by omega)) hn107
      refine lv_if_eq (tgt := 38) hx hb dX12_foretold_19 (by decide) (fun c193 => ?_) (fun c193 => absurd (by decide) c193)
      refine lv_iconst (v := nI 0) hx hb dX12_foretold_38 (by decide) ?_
      refine lv_istore (lv' := [(6, .int (nI 0)), (0, .ref (τ.1 30)), (1, .int x), (2, .int y), (3, .int z), (4, .int w), (5, .int v)]) hx hb dX12_foretold_39 hl (by decide) rfl (fun ls hl => ?_)
      refine lv_aload_n hx hb dX12_foretold_41 rfl (lv_at hl 1 rfl) ?_
      refine lv_aload_n hx hb dX12_foretold_42 rfl (lv_at hl 1 rfl) ?_
      refine lv_iload_n hx hb dX12_foretold_43 rfl (lv_at hl 2 rfl) ?_
      refine va_calli (va_runV (As := [.int x]) (rest := [.ref (τ.1 30)]) ⟨hx, hb, hml, hown, hts⟩ (m_isThing l hl0 D A sad τ fi fr ol x n hF hMt.2.1 (by omega)) (cwV 1 hts gX12_foretold_X12_isThing rfl rfl rfl (by decide +kernel) ⟨Nat.le_of_ble_eq_true rfl, Nat.le_of_ble_eq_true rfl⟩) ⟨zQc_bl, zRecv hH (zk_30 hF) rfl, zQc_at hz hS hA hH⟩ rfl rfl hl.1 rfl (lv_room (Nat.le_of_ble_eq_true rfl)) dX12_foretold_44 ⟨Nat.le_of_ble_eq_true rfl, Nat.le_of_ble_eq_true rfl⟩) hS (fun q _ h => h) (fun q h => h) (fun r194 u9 t9 H1 locs ht9 hvm9 hw hB hz1 hk1 hS => ?_)
      have hH := zMv ht9 hvm9 hB
      generalize H1 = H at hH hS ⊢
      rcases hw with ⟨t, ht, rfl, rfl⟩ | ⟨hno, rfl⟩
      · skip
        refine lv_if_ne (tgt := 54) hx hb dX12_foretold_47 (by decide) (fun c195 => ?_) (fun c195 => absurd c195 (by decide))
        refine lv_iload hx hb dX12_foretold_54 (lv_at hl 0 rfl) ?_
        refine lv_if_ne (tgt := 63) hx hb dX12_foretold_56 (by decide) (fun c196 => absurd (by decide) c196) (fun c196 => ?_)
        refine lv_iconst (v := nI 2) hx hb dX12_foretold_59 (by decide) ?_
        refine lv_goto (tgt := 78) hx hb dX12_foretold_60 (by decide) ?_
        refine zPutI (D := D) (ci := 12) (ty := .int) (C := RX12) (T := TX12) (N := 71) hx hb hts hiX12 tyX12 tyX12_ok nmX12 hown hH hS (zk_30 hF) rfl 0 (by decide) rfl hw0 (fun _ h9 => h9) rfl (by decide +kernel) rfl rfl dX12_foretold_78 (fun H locs hH hS => ?_)
        obtain ⟨f197, ef197⟩ : ∃ f9 : zFi, f9 = zu fi 30 0 (nI 2) := ⟨_, rfl⟩
        rw [← ef197] at hH
        have q198 : f197 30 2 = nI n := by rw [ef197, zu_n (fun h9 => absurd h9.2 (by decide))]; exact hMt.2.1
        have q199 : f197 30 45 = nI o := by rw [ef197, zu_n (fun h9 => absurd h9.2 (by decide))]; exact hMo.2.1
        have q200 : f197 30 13 = nI c := by rw [ef197, zu_n (fun h9 => absurd h9.2 (by decide))]; exact hMc.2.1
        have q201 : f197 30 0 = nI 2 := by rw [ef197]; exact zu_s
        have hMo := zMo.ci (fi' := f197) hMo (fun i9 k9 h9 => by rw [ef197]; exact zu_n (by omega))
        refine lv_aload_n hx hb dX12_foretold_81 rfl (lv_at hl 1 rfl) ?_
        refine zGetI (D := D) (ci := 12) (C := RX12) (T := TX12) (N := 71) hx hb hts hiX12 hown hH (zk_30 hF) rfl 0 (by decide) rfl hw0 (fun _ h9 => h9) dX12_foretold_82 q201 ?_
        refine lv_if_le (tgt := 90) hx hb dX12_foretold_85 (by decide) (fun c202 => absurd c202 (by decide)) (fun c202 => ?_)
        refine lv_iconst (v := nI 0) hx hb dX12_foretold_88 (by decide) ?_
        refine W.widen (k := 0) (n := 0) (by decide) (by decide) ?_
        exact W.iret (v := nI 0) hx hb hr (fun t9 ht9 hW9 => ⟨⟨nI 0, f197, rfl, fun a b h => by rw [ef197, zu_n (by omega)], zEnd1 hH ht9 hW9⟩, hS.F ht9⟩) hS.2.2 dX12_foretold_89
      · skip
        refine lv_if_ne (tgt := 54) hx hb dX12_foretold_47 (by decide) (fun c203 => absurd (by decide) c203) (fun c203 => ?_)
        refine lv_iconst (v := nI 1) hx hb dX12_foretold_50 (by decide) ?_
        refine lv_goto (tgt := 78) hx hb dX12_foretold_51 (by decide) ?_
        refine zPutI (D := D) (ci := 12) (ty := .int) (C := RX12) (T := TX12) (N := 71) hx hb hts hiX12 tyX12 tyX12_ok nmX12 hown hH hS (zk_30 hF) rfl 0 (by decide) rfl hw0 (fun _ h9 => h9) rfl (by decide +kernel) rfl rfl dX12_foretold_78 (fun H locs hH hS => ?_)
        obtain ⟨f204, ef204⟩ : ∃ f9 : zFi, f9 = zu fi 30 0 (nI 1) := ⟨_, rfl⟩
        rw [← ef204] at hH
        have q205 : f204 30 2 = nI n := by rw [ef204, zu_n (fun h9 => absurd h9.2 (by decide))]; exact hMt.2.1
        have q206 : f204 30 45 = nI o := by rw [ef204, zu_n (fun h9 => absurd h9.2 (by decide))]; exact hMo.2.1
        have q207 : f204 30 13 = nI c := by rw [ef204, zu_n (fun h9 => absurd h9.2 (by decide))]; exact hMc.2.1
        have q208 : f204 30 0 = nI 1 := by rw [ef204]; exact zu_s
        have hMo := zMo.ci (fi' := f204) hMo (fun i9 k9 h9 => by rw [ef204]; exact zu_n (by omega))
        refine lv_aload_n hx hb dX12_foretold_81 rfl (lv_at hl 1 rfl) ?_
        refine zGetI (D := D) (ci := 12) (C := RX12) (T := TX12) (N := 71) hx hb hts hiX12 hown hH (zk_30 hF) rfl 0 (by decide) rfl hw0 (fun _ h9 => h9) dX12_foretold_82 q208 ?_
        refine lv_if_le (tgt := 90) hx hb dX12_foretold_85 (by decide) (fun c209 => absurd c209 (by decide)) (fun c209 => ?_)
        refine lv_iconst (v := nI 0) hx hb dX12_foretold_88 (by decide) ?_
        refine W.widen (k := 0) (n := 0) (by decide) (by decide) ?_
        exact W.iret (v := nI 0) hx hb hr (fun t9 ht9 hW9 => ⟨⟨nI 0, f204, rfl, fun a b h => by rw [ef204, zu_n (by omega)], zEnd1 hH ht9 hW9⟩, hS.F ht9⟩) hS.2.2 dX12_foretold_89
  · skip
    replace hn103 := zWi0 (rfl) (nI_toInt (by omega)) (nI_toInt (by omega)) hn103
    refine lv_if_eq (tgt := 38) hx hb dX12_foretold_8 (by decide) (fun c210 => ?_) (fun c210 => absurd (by decide) c210)
    refine lv_iconst (v := nI 0) hx hb dX12_foretold_38 (by decide) ?_
    refine lv_istore (lv' := [(6, .int (nI 0)), (0, .ref (τ.1 30)), (1, .int x), (2, .int y), (3, .int z), (4, .int w), (5, .int v)]) hx hb dX12_foretold_39 hl (by decide) rfl (fun ls hl => ?_)
    refine lv_aload_n hx hb dX12_foretold_41 rfl (lv_at hl 1 rfl) ?_
    refine lv_aload_n hx hb dX12_foretold_42 rfl (lv_at hl 1 rfl) ?_
    refine lv_iload_n hx hb dX12_foretold_43 rfl (lv_at hl 2 rfl) ?_
    refine va_calli (va_runV (As := [.int x]) (rest := [.ref (τ.1 30)]) ⟨hx, hb, hml, hown, hts⟩ (m_isThing l hl0 D A sad τ fi fr ol x n hF hMt.2.1 (by omega)) (cwV 1 hts gX12_foretold_X12_isThing rfl rfl rfl (by decide +kernel) ⟨Nat.le_of_ble_eq_true rfl, Nat.le_of_ble_eq_true rfl⟩) ⟨zQc_bl, zRecv hH (zk_30 hF) rfl, zQc_at hz hS hA hH⟩ rfl rfl hl.1 rfl (lv_room (Nat.le_of_ble_eq_true rfl)) dX12_foretold_44 ⟨Nat.le_of_ble_eq_true rfl, Nat.le_of_ble_eq_true rfl⟩) hS (fun q _ h => h) (fun q h => h) (fun r211 u9 t9 H1 locs ht9 hvm9 hw hB hz1 hk1 hS => ?_)
    have hH := zMv ht9 hvm9 hB
    generalize H1 = H at hH hS ⊢
    rcases hw with ⟨t, ht, rfl, rfl⟩ | ⟨hno, rfl⟩
    · skip
      refine lv_if_ne (tgt := 54) hx hb dX12_foretold_47 (by decide) (fun c212 => ?_) (fun c212 => absurd c212 (by decide))
      refine lv_iload hx hb dX12_foretold_54 (lv_at hl 0 rfl) ?_
      refine lv_if_ne (tgt := 63) hx hb dX12_foretold_56 (by decide) (fun c213 => absurd (by decide) c213) (fun c213 => ?_)
      refine lv_iconst (v := nI 2) hx hb dX12_foretold_59 (by decide) ?_
      refine lv_goto (tgt := 78) hx hb dX12_foretold_60 (by decide) ?_
      refine zPutI (D := D) (ci := 12) (ty := .int) (C := RX12) (T := TX12) (N := 71) hx hb hts hiX12 tyX12 tyX12_ok nmX12 hown hH hS (zk_30 hF) rfl 0 (by decide) rfl hw0 (fun _ h9 => h9) rfl (by decide +kernel) rfl rfl dX12_foretold_78 (fun H locs hH hS => ?_)
      obtain ⟨f214, ef214⟩ : ∃ f9 : zFi, f9 = zu fi 30 0 (nI 2) := ⟨_, rfl⟩
      rw [← ef214] at hH
      have q215 : f214 30 2 = nI n := by rw [ef214, zu_n (fun h9 => absurd h9.2 (by decide))]; exact hMt.2.1
      have q216 : f214 30 45 = nI o := by rw [ef214, zu_n (fun h9 => absurd h9.2 (by decide))]; exact hMo.2.1
      have q217 : f214 30 13 = nI c := by rw [ef214, zu_n (fun h9 => absurd h9.2 (by decide))]; exact hMc.2.1
      have q218 : f214 30 0 = nI 2 := by rw [ef214]; exact zu_s
      have hMo := zMo.ci (fi' := f214) hMo (fun i9 k9 h9 => by rw [ef214]; exact zu_n (by omega))
      refine lv_aload_n hx hb dX12_foretold_81 rfl (lv_at hl 1 rfl) ?_
      refine zGetI (D := D) (ci := 12) (C := RX12) (T := TX12) (N := 71) hx hb hts hiX12 hown hH (zk_30 hF) rfl 0 (by decide) rfl hw0 (fun _ h9 => h9) dX12_foretold_82 q218 ?_
      refine lv_if_le (tgt := 90) hx hb dX12_foretold_85 (by decide) (fun c219 => absurd c219 (by decide)) (fun c219 => ?_)
      refine lv_iconst (v := nI 0) hx hb dX12_foretold_88 (by decide) ?_
      refine W.widen (k := 0) (n := 0) (by decide) (by decide) ?_
      exact W.iret (v := nI 0) hx hb hr (fun t9 ht9 hW9 => ⟨⟨nI 0, f214, rfl, fun a b h => by rw [ef214, zu_n (by omega)], zEnd1 hH ht9 hW9⟩, hS.F ht9⟩) hS.2.2 dX12_foretold_89
    · skip
      refine lv_if_ne (tgt := 54) hx hb dX12_foretold_47 (by decide) (fun c220 => absurd (by decide) c220) (fun c220 => ?_)
      refine lv_iconst (v := nI 1) hx hb dX12_foretold_50 (by decide) ?_
      refine lv_goto (tgt := 78) hx hb dX12_foretold_51 (by decide) ?_
      refine zPutI (D := D) (ci := 12) (ty := .int) (C := RX12) (T := TX12) (N := 71) hx hb hts hiX12 tyX12 tyX12_ok nmX12 hown hH hS (zk_30 hF) rfl 0 (by decide) rfl hw0 (fun _ h9 => h9) rfl (by decide +kernel) rfl rfl dX12_foretold_78 (fun H locs hH hS => ?_)
      obtain ⟨f221, ef221⟩ : ∃ f9 : zFi, f9 = zu fi 30 0 (nI 1) := ⟨_, rfl⟩
      rw [← ef221] at hH
      have q222 : f221 30 2 = nI n := by rw [ef221, zu_n (fun h9 => absurd h9.2 (by decide))]; exact hMt.2.1
      have q223 : f221 30 45 = nI o := by rw [ef221, zu_n (fun h9 => absurd h9.2 (by decide))]; exact hMo.2.1
      have q224 : f221 30 13 = nI c := by rw [ef221, zu_n (fun h9 => absurd h9.2 (by decide))]; exact hMc.2.1
      have q225 : f221 30 0 = nI 1 := by rw [ef221]; exact zu_s
      have hMo := zMo.ci (fi' := f221) hMo (fun i9 k9 h9 => by rw [ef221]; exact zu_n (by omega))
      refine lv_aload_n hx hb dX12_foretold_81 rfl (lv_at hl 1 rfl) ?_
      refine zGetI (D := D) (ci := 12) (C := RX12) (T := TX12) (N := 71) hx hb hts hiX12 hown hH (zk_30 hF) rfl 0 (by decide) rfl hw0 (fun _ h9 => h9) dX12_foretold_82 q225 ?_
      refine lv_if_le (tgt := 90) hx hb dX12_foretold_85 (by decide) (fun c226 => absurd c226 (by decide)) (fun c226 => ?_)
      refine lv_iconst (v := nI 0) hx hb dX12_foretold_88 (by decide) ?_
      refine W.widen (k := 0) (n := 0) (by decide) (by decide) ?_
      exact W.iret (v := nI 0) hx hb hr (fun t9 ht9 hW9 => ⟨⟨nI 0, f221, rfl, fun a b h => by rw [ef221, zu_n (by omega)], zEnd1 hH ht9 hW9⟩, hS.F ht9⟩) hS.2.2 dX12_foretold_89
