set_option maxHeartbeats 4000000 in
set_option maxRecDepth 100000 in
/-- Walk.fits -/
theorem c_fits (l : Launch) (hl0 : l.stackTraces = false) (D : va_G) (A : Nat → Prop) (sad : Nat → Nat) (τ : zTy) (fi : zFi) (fr : zFr) (ol : Int64) (x y z : Nat) (hx6 : x < 6) (hy6 : y < 6) (hz6 : z < 6) : Met l yX9_fits wsX9_fits ({ frames := 0, cells := 0, slots := 0, locals := 0 }) (va_Pc [.int (nI x), .int (nI y), .int (nI z)] (zQc D A sad τ fi fr ol)) (va_Qi (fun (r : Int32) (u : Unit) => True) (fun (u : Unit) (t : State) => zH D A τ fi fr ol t t.heap) A) 0 0 A := by
  refine Met.ofW (cc := cX9_fits) (maxL := 9) (ret := (some .boolean)) (by decide) rfl ?_
  intro p9 e9 s m args below meth c9 s₁ B hml hv
  obtain ⟨rfl, hz, hH, hA⟩ := hv
  have hx := B.exec
  have hb := B.bytes
  have hr := B.returns
  have hts := atoms_spec (ws := wsX9_fits) B.pre
  have hown : s.vm.findClass RX9 = some m.cls := findClass_of_methodNamed B.named
  have hlocks := B.notSynchronized
  have hS : va_S A s.heap s.heap [] := va_S.rf
  have hl := lv_entry ([.int (nI x), .int (nI y), .int (nI z)]) (n := 9) (Nat.le_of_ble_eq_true rfl)
  rw [lg_entry_eq]
  generalize (lg_sl ([.int (nI x), .int (nI y), .int (nI z)]) ++ List.replicate (9 - (lg_sl ([.int (nI x), .int (nI y), .int (nI z)])).length) Slot.unset).toArray = ls at hl ⊢
  have hl : lv_has ls 9 [(0, .int (nI x)), (1, .int (nI y)), (2, .int (nI z))] := hl
  have hw0 := hts (.fieldLink RX9 70 "PostHouse$Walk" "LANE_FRONT" "[I") (by decide +kernel)
  have hw1 := hts (.fieldLink RX9 85 "PostHouse$Walk" "WAY_FRONT" "[I") (by decide +kernel)
  have hw2 := hts (.fieldLink RX9 73 "PostHouse$Walk" "LANE_BACK" "[I") (by decide +kernel)
  have hw3 := hts (.fieldLink RX9 88 "PostHouse$Walk" "WAY_BACK" "[I") (by decide +kernel)
  refine va_gets hx hb (hz.2.2 1 _ rfl).1 hS hown hw0 (fun _ h9 => h9) dX9_fits_0 ?_
  refine lv_iload_n hx hb dX9_fits_3 rfl (lv_at hl 0 rfl) ?_
  refine zSti (i := 1) hx hb hz hS rfl (show x < _ by simp only [List.length_cons, List.length_nil]; omega) (by decide) dX9_fits_4 ?_
  refine lv_topi (fun v101 ev101 => ?_)
  refine va_gets hx hb (hz.2.2 3 _ rfl).1 hS hown hw1 (fun _ h9 => h9) dX9_fits_5 ?_
  refine lv_iload_n hx hb dX9_fits_8 rfl (lv_at hl 1 rfl) ?_
  refine zSti (i := 3) hx hb hz hS rfl (show y < _ by simp only [List.length_cons, List.length_nil]; omega) (by decide) dX9_fits_9 ?_
  refine lv_topi (fun v102 ev102 => ?_)
  refine lv_iadd hx hb dX9_fits_10 ?_
  refine lv_topi (fun v103 ev103 => ?_)
  refine lv_istore_n (lv' := [(3, .int v103), (0, .int (nI x)), (1, .int (nI y)), (2, .int (nI z))]) hx hb dX9_fits_11 rfl hl (by decide) rfl (fun ls hl => ?_)
  refine va_gets hx hb (hz.2.2 2 _ rfl).1 hS hown hw2 (fun _ h9 => h9) dX9_fits_12 ?_
  refine lv_iload_n hx hb dX9_fits_15 rfl (lv_at hl 1 rfl) ?_
  refine zSti (i := 2) hx hb hz hS rfl (show x < _ by simp only [List.length_cons, List.length_nil]; omega) (by decide) dX9_fits_16 ?_
  refine lv_topi (fun v104 ev104 => ?_)
  refine va_gets hx hb (hz.2.2 4 _ rfl).1 hS hown hw3 (fun _ h9 => h9) dX9_fits_17 ?_
  refine lv_iload_n hx hb dX9_fits_20 rfl (lv_at hl 2 rfl) ?_
  refine zSti (i := 4) hx hb hz hS rfl (show y < _ by simp only [List.length_cons, List.length_nil]; omega) (by decide) dX9_fits_21 ?_
  refine lv_topi (fun v105 ev105 => ?_)
  refine lv_iadd hx hb dX9_fits_22 ?_
  refine lv_topi (fun v106 ev106 => ?_)
  refine lv_istore (lv' := [(4, .int v106), (3, .int v103), (0, .int (nI x)), (1, .int (nI y)), (2, .int (nI z))]) hx hb dX9_fits_23 hl (by decide) rfl (fun ls hl => ?_)
  refine lv_iload_n hx hb dX9_fits_25 rfl (lv_at hl 1 rfl) ?_
  refine va_gets hx hb (hz.2.2 1 _ rfl).1 hS hown hw0 (fun _ h9 => h9) dX9_fits_26 ?_
  refine lv_iload_n hx hb dX9_fits_29 rfl (lv_at hl 4 rfl) ?_
  refine zSti (i := 1) hx hb hz hS rfl (show z < _ by simp only [List.length_cons, List.length_nil]; omega) (by decide) dX9_fits_30 ?_
  refine lv_topi (fun v107 ev107 => ?_)
  refine lv_iadd hx hb dX9_fits_31 ?_
  refine lv_topi (fun v108 ev108 => ?_)
  refine lv_iconst (v := nI 2) hx hb dX9_fits_32 (by decide) ?_
  refine lv_irem hx hb dX9_fits_33 (by decide) ?_
  refine lv_topi (fun v109 ev109 => ?_)
  refine lv_if_ne (tgt := 50) hx hb dX9_fits_34 (by decide) (fun c110 => ?_) (fun c110 => ?_)
  · have zc110 := c110
    replace zc110 := zc_neq (rfl) ((by decide : (0 : Int32).toInt = 0)) zc110
    refine lv_iconst (v := nI 0) hx hb dX9_fits_50 (by decide) ?_
    refine W.widen (k := 0) (n := 0) (by decide) (by decide) ?_
    exact W.zret (v := nI 0) hx hb hr (by decide) (fun t9 ht9 hW9 => ⟨⟨nI 0, (), rfl, trivial, zEnd1 hH ht9 hW9⟩, hS.F ht9⟩) hS.2.2 dX9_fits_51
  · have zc110 := c110
    replace zc110 := zc_eq (rfl) ((by decide : (0 : Int32).toInt = 0)) zc110
    refine lv_iload hx hb dX9_fits_37 (lv_at hl 0 rfl) ?_
    refine va_gets hx hb (hz.2.2 2 _ rfl).1 hS hown hw2 (fun _ h9 => h9) dX9_fits_39 ?_
    refine lv_iload_n hx hb dX9_fits_42 rfl (lv_at hl 4 rfl) ?_
    refine zSti (i := 2) hx hb hz hS rfl (show z < _ by simp only [List.length_cons, List.length_nil]; omega) (by decide) dX9_fits_43 ?_
    refine lv_topi (fun v111 ev111 => ?_)
    refine lv_iadd hx hb dX9_fits_44 ?_
    refine lv_topi (fun v112 ev112 => ?_)
    refine lv_iconst (v := nI 2) hx hb dX9_fits_45 (by decide) ?_
    refine lv_irem hx hb dX9_fits_46 (by decide) ?_
    refine lv_topi (fun v113 ev113 => ?_)
    refine lv_if_eq (tgt := 52) hx hb dX9_fits_47 (by decide) (fun c114 => ?_) (fun c114 => ?_)
    · have zc114 := c114
      replace zc114 := zc_eq (rfl) ((by decide : (0 : Int32).toInt = 0)) zc114
      refine zCut (σ := Int32) 66 (fun x9 => (fun (b1 : Int32) => [.int b1]) x9) (fun x9 H locs ls => (fun (b1 : Int32) => (b1 = 0 ∨ b1 = 1) ∧ zH D A τ fi fr ol s H ∧ va_S A s.heap H locs ∧ lv_has ls 9 [(0, .int (nI x)), (1, .int (nI y)), (2, .int (nI z)), (3, .int v103), (4, .int v106)]) x9) (fun x9 H locs ls hv9 => ?_) (fun hJ115 => ?_)
      · skip
        generalize x9 = b1 at hv9 ⊢
        have hv9 : (b1 = 0 ∨ b1 = 1) ∧ zH D A τ fi fr ol s H ∧ va_S A s.heap H locs ∧ lv_has ls 9 [(0, .int (nI x)), (1, .int (nI y)), (2, .int (nI z)), (3, .int v103), (4, .int v106)] := hv9
        obtain ⟨hv9, hH, hS, hl⟩ := hv9
        obtain hb1 := hv9
        show W _ _ _ _ _ _ _ _ _ _ _ _ _ _ _ (F0 m 66 ls [.int b1])
        refine lv_istore (lv' := [(5, .int b1), (0, .int (nI x)), (1, .int (nI y)), (2, .int (nI z)), (3, .int v103), (4, .int v106)]) hx hb dX9_fits_66 hl (by decide) rfl (fun ls hl => ?_)
        refine zCut (σ := Int32) 78 (fun x9 => (fun (b2 : Int32) => [.int b2]) x9) (fun x9 H locs ls => (fun (b2 : Int32) => (b2 = 0 ∨ b2 = 1) ∧ zH D A τ fi fr ol s H ∧ va_S A s.heap H locs ∧ lv_has ls 9 [(0, .int (nI x)), (1, .int (nI y)), (2, .int (nI z)), (3, .int v103), (4, .int v106), (5, .int b1)]) x9) (fun x9 H locs ls hv9 => ?_) (fun hJ116 => ?_)
        · skip
          generalize x9 = b2 at hv9 ⊢
          have hv9 : (b2 = 0 ∨ b2 = 1) ∧ zH D A τ fi fr ol s H ∧ va_S A s.heap H locs ∧ lv_has ls 9 [(0, .int (nI x)), (1, .int (nI y)), (2, .int (nI z)), (3, .int v103), (4, .int v106), (5, .int b1)] := hv9
          obtain ⟨hv9, hH, hS, hl⟩ := hv9
          obtain hb2 := hv9
          show W _ _ _ _ _ _ _ _ _ _ _ _ _ _ _ (F0 m 78 ls [.int b2])
          refine lv_istore (lv' := [(6, .int b2), (0, .int (nI x)), (1, .int (nI y)), (2, .int (nI z)), (3, .int v103), (4, .int v106), (5, .int b1)]) hx hb dX9_fits_78 hl (by decide) rfl (fun ls hl => ?_)
          refine zCut (σ := Unit) 108 (fun x9 => ([])) (fun x9 H locs ls => ((True) ∧ zH D A τ fi fr ol s H ∧ va_S A s.heap H locs ∧ lv_has ls 9 [(0, .int (nI x)), (1, .int (nI y)), (2, .int (nI z)), (5, .int b1), (6, .int b2)])) (fun x9 H locs ls hv9 => ?_) (fun hJ117 => ?_)
          · skip
            have hv9 : (True) ∧ zH D A τ fi fr ol s H ∧ va_S A s.heap H locs ∧ lv_has ls 9 [(0, .int (nI x)), (1, .int (nI y)), (2, .int (nI z)), (5, .int b1), (6, .int b2)] := hv9
            obtain ⟨hv9, hH, hS, hl⟩ := hv9
            show W _ _ _ _ _ _ _ _ _ _ _ _ _ _ _ (F0 m 108 ls [])
            refine zCut (σ := Int32) 131 (fun x9 => (fun (b3 : Int32) => [.int b3]) x9) (fun x9 H locs ls => (fun (b3 : Int32) => (b3 = 0 ∨ b3 = 1) ∧ zH D A τ fi fr ol s H ∧ va_S A s.heap H locs ∧ lv_has ls 9 [(0, .int (nI x)), (1, .int (nI y)), (2, .int (nI z)), (5, .int b1), (6, .int b2)]) x9) (fun x9 H locs ls hv9 => ?_) (fun hJ118 => ?_)
            · skip
              generalize x9 = b3 at hv9 ⊢
              have hv9 : (b3 = 0 ∨ b3 = 1) ∧ zH D A τ fi fr ol s H ∧ va_S A s.heap H locs ∧ lv_has ls 9 [(0, .int (nI x)), (1, .int (nI y)), (2, .int (nI z)), (5, .int b1), (6, .int b2)] := hv9
              obtain ⟨hv9, hH, hS, hl⟩ := hv9
              obtain hb3 := hv9
              show W _ _ _ _ _ _ _ _ _ _ _ _ _ _ _ (F0 m 131 ls [.int b3])
              refine lv_istore (lv' := [(7, .int b3), (0, .int (nI x)), (1, .int (nI y)), (2, .int (nI z)), (5, .int b1), (6, .int b2)]) hx hb dX9_fits_131 hl (by decide) rfl (fun ls hl => ?_)
              refine zCut (σ := Int32) 153 (fun x9 => (fun (b4 : Int32) => [.int b4]) x9) (fun x9 H locs ls => (fun (b4 : Int32) => (b4 = 0 ∨ b4 = 1) ∧ zH D A τ fi fr ol s H ∧ va_S A s.heap H locs ∧ lv_has ls 9 [(0, .int (nI x)), (1, .int (nI y)), (2, .int (nI z)), (5, .int b1), (6, .int b2), (7, .int b3)]) x9) (fun x9 H locs ls hv9 => ?_) (fun hJ119 => ?_)
              · skip
                generalize x9 = b4 at hv9 ⊢
                have hv9 : (b4 = 0 ∨ b4 = 1) ∧ zH D A τ fi fr ol s H ∧ va_S A s.heap H locs ∧ lv_has ls 9 [(0, .int (nI x)), (1, .int (nI y)), (2, .int (nI z)), (5, .int b1), (6, .int b2), (7, .int b3)] := hv9
                obtain ⟨hv9, hH, hS, hl⟩ := hv9
                obtain hb4 := hv9
                show W _ _ _ _ _ _ _ _ _ _ _ _ _ _ _ (F0 m 153 ls [.int b4])
                refine lv_istore (lv' := [(8, .int b4), (0, .int (nI x)), (1, .int (nI y)), (2, .int (nI z)), (5, .int b1), (6, .int b2), (7, .int b3)]) hx hb dX9_fits_153 hl (by decide) rfl (fun ls hl => ?_)
                refine lv_iload hx hb dX9_fits_155 (lv_at hl 0 rfl) ?_
                refine lv_iload_n hx hb dX9_fits_157 rfl (lv_at hl 3 rfl) ?_
                refine lv_iconst (v := nI 4) hx hb dX9_fits_158 (by decide) ?_
                refine lv_icmp_ne (tgt := 166) hx hb dX9_fits_159 (by decide) (fun c120 => ?_) (fun c120 => ?_)
                · have zc120 := c120
                  replace zc120 := zc_neq (nI_toInt (by omega)) (nI_toInt (by omega)) zc120
                  refine lv_iconst (v := nI 0) hx hb dX9_fits_166 (by decide) ?_
                  refine lv_icmp_ne (tgt := 174) hx hb dX9_fits_167 (by decide) (fun c121 => ?_) (fun c121 => ?_)
                  · have zc121 := c121
                    replace zc121 := zc_neq (rfl) (nI_toInt (by omega)) zc121
                    refine lv_iconst (v := nI 0) hx hb dX9_fits_174 (by decide) ?_
                    refine W.widen (k := 0) (n := 0) (by decide) (by decide) ?_
                    exact W.zret (v := nI 0) hx hb hr (by decide) (fun t9 ht9 hW9 => ⟨⟨nI 0, (), rfl, trivial, zEnd1 hH ht9 hW9⟩, hS.F ht9⟩) hS.2.2 dX9_fits_175
                  · have zc121 := c121
                    replace zc121 := zc_eq (rfl) (nI_toInt (by omega)) zc121
                    refine lv_iconst (v := nI 1) hx hb dX9_fits_170 (by decide) ?_
                    refine lv_goto (tgt := 175) hx hb dX9_fits_171 (by decide) ?_
                    refine W.widen (k := 0) (n := 0) (by decide) (by decide) ?_
                    exact W.zret (v := nI 1) hx hb hr (by decide) (fun t9 ht9 hW9 => ⟨⟨nI 1, (), rfl, trivial, zEnd1 hH ht9 hW9⟩, hS.F ht9⟩) hS.2.2 dX9_fits_175
                · have zc120 := c120
                  replace zc120 := zc_eq (nI_toInt (by omega)) (nI_toInt (by omega)) zc120
                  refine lv_iconst (v := nI 1) hx hb dX9_fits_162 (by decide) ?_
                  refine lv_goto (tgt := 167) hx hb dX9_fits_163 (by decide) ?_
                  refine lv_icmp_ne (tgt := 174) hx hb dX9_fits_167 (by decide) (fun c122 => ?_) (fun c122 => ?_)
                  · have zc122 := c122
                    replace zc122 := zc_neq (rfl) (nI_toInt (by omega)) zc122
                    refine lv_iconst (v := nI 0) hx hb dX9_fits_174 (by decide) ?_
                    refine W.widen (k := 0) (n := 0) (by decide) (by decide) ?_
                    exact W.zret (v := nI 0) hx hb hr (by decide) (fun t9 ht9 hW9 => ⟨⟨nI 0, (), rfl, trivial, zEnd1 hH ht9 hW9⟩, hS.F ht9⟩) hS.2.2 dX9_fits_175
                  · have zc122 := c122
                    replace zc122 := zc_eq (rfl) (nI_toInt (by omega)) zc122
                    refine lv_iconst (v := nI 1) hx hb dX9_fits_170 (by decide) ?_
                    refine lv_goto (tgt := 175) hx hb dX9_fits_171 (by decide) ?_
                    refine W.widen (k := 0) (n := 0) (by decide) (by decide) ?_
                    exact W.zret (v := nI 1) hx hb hr (by decide) (fun t9 ht9 hW9 => ⟨⟨nI 1, (), rfl, trivial, zEnd1 hH ht9 hW9⟩, hS.F ht9⟩) hS.2.2 dX9_fits_175
              · skip
                refine lv_iload hx hb dX9_fits_133 (lv_at hl 4 rfl) ?_
                refine lv_if_eq (tgt := 152) hx hb dX9_fits_135 (by decide) (fun c123 => ?_) (fun c123 => ?_)
                · have zc123 := c123
                  replace zc123 := zc_eq (rfl) ((by decide : (0 : Int32).toInt = 0)) zc123
                  refine lv_iconst (v := nI 0) hx hb dX9_fits_152 (by decide) ?_
                  exact hJ119 (nI 0) _ _ _ (show ((nI 0) = 0 ∨ (nI 0) = 1) ∧ zH D A τ fi fr ol s _ ∧ va_S A s.heap _ _ ∧ lv_has _ 9 [(0, .int (nI x)), (1, .int (nI y)), (2, .int (nI z)), (5, .int b1), (6, .int b2), (7, .int b3)] from ⟨(by first | exact Or.inl rfl | exact Or.inr rfl), hH, hS, lv_sub hl [1, 2, 3, 4, 5, 0] rfl⟩)
                · have zc123 := c123
                  replace zc123 := zc_neq (rfl) ((by decide : (0 : Int32).toInt = 0)) zc123
                  refine lv_iload hx hb dX9_fits_138 (lv_at hl 5 rfl) ?_
                  refine lv_if_eq (tgt := 152) hx hb dX9_fits_140 (by decide) (fun c124 => ?_) (fun c124 => ?_)
                  · have zc124 := c124
                    replace zc124 := zc_eq (rfl) ((by decide : (0 : Int32).toInt = 0)) zc124
                    refine lv_iconst (v := nI 0) hx hb dX9_fits_152 (by decide) ?_
                    exact hJ119 (nI 0) _ _ _ (show ((nI 0) = 0 ∨ (nI 0) = 1) ∧ zH D A τ fi fr ol s _ ∧ va_S A s.heap _ _ ∧ lv_has _ 9 [(0, .int (nI x)), (1, .int (nI y)), (2, .int (nI z)), (5, .int b1), (6, .int b2), (7, .int b3)] from ⟨(by first | exact Or.inl rfl | exact Or.inr rfl), hH, hS, lv_sub hl [1, 2, 3, 4, 5, 0] rfl⟩)
                  · have zc124 := c124
                    replace zc124 := zc_neq (rfl) ((by decide : (0 : Int32).toInt = 0)) zc124
                    refine lv_iload hx hb dX9_fits_143 (lv_at hl 0 rfl) ?_
                    refine lv_if_ne (tgt := 152) hx hb dX9_fits_145 (by decide) (fun c125 => ?_) (fun c125 => ?_)
                    · have zc125 := c125
                      replace zc125 := zc_neq (rfl) ((by decide : (0 : Int32).toInt = 0)) zc125
                      refine lv_iconst (v := nI 0) hx hb dX9_fits_152 (by decide) ?_
                      exact hJ119 (nI 0) _ _ _ (show ((nI 0) = 0 ∨ (nI 0) = 1) ∧ zH D A τ fi fr ol s _ ∧ va_S A s.heap _ _ ∧ lv_has _ 9 [(0, .int (nI x)), (1, .int (nI y)), (2, .int (nI z)), (5, .int b1), (6, .int b2), (7, .int b3)] from ⟨(by first | exact Or.inl rfl | exact Or.inr rfl), hH, hS, lv_sub hl [1, 2, 3, 4, 5, 0] rfl⟩)
                    · have zc125 := c125
                      replace zc125 := zc_eq (rfl) ((by decide : (0 : Int32).toInt = 0)) zc125
                      refine lv_iconst (v := nI 1) hx hb dX9_fits_148 (by decide) ?_
                      refine lv_goto (tgt := 153) hx hb dX9_fits_149 (by decide) ?_
                      exact hJ119 (nI 1) _ _ _ (show ((nI 1) = 0 ∨ (nI 1) = 1) ∧ zH D A τ fi fr ol s _ ∧ va_S A s.heap _ _ ∧ lv_has _ 9 [(0, .int (nI x)), (1, .int (nI y)), (2, .int (nI z)), (5, .int b1), (6, .int b2), (7, .int b3)] from ⟨(by first | exact Or.inl rfl | exact Or.inr rfl), hH, hS, lv_sub hl [1, 2, 3, 4, 5, 0] rfl⟩)
            · skip
              refine lv_iload_n hx hb dX9_fits_108 rfl (lv_at hl 0 rfl) ?_
              refine lv_if_eq (tgt := 126) hx hb dX9_fits_109 (by decide) (fun c126 => ?_) (fun c126 => ?_)
              · have zc126 := c126
                replace zc126 := zc_eq (nI_toInt (by omega)) ((by decide : (0 : Int32).toInt = 0)) zc126
                refine lv_iconst (v := nI 1) hx hb dX9_fits_126 (by decide) ?_
                refine lv_goto (tgt := 131) hx hb dX9_fits_127 (by decide) ?_
                exact hJ118 (nI 1) _ _ _ (show ((nI 1) = 0 ∨ (nI 1) = 1) ∧ zH D A τ fi fr ol s _ ∧ va_S A s.heap _ _ ∧ lv_has _ 9 [(0, .int (nI x)), (1, .int (nI y)), (2, .int (nI z)), (5, .int b1), (6, .int b2)] from ⟨(by first | exact Or.inl rfl | exact Or.inr rfl), hH, hS, lv_sub hl [0, 1, 2, 3, 4] rfl⟩)
              · have zc126 := c126
                replace zc126 := zc_neq (nI_toInt (by omega)) ((by decide : (0 : Int32).toInt = 0)) zc126
                refine lv_iload_n hx hb dX9_fits_112 rfl (lv_at hl 0 rfl) ?_
                refine lv_iconst (v := nI 3) hx hb dX9_fits_113 (by decide) ?_
                refine lv_icmp_eq (tgt := 126) hx hb dX9_fits_114 (by decide) (fun c127 => ?_) (fun c127 => ?_)
                · have zc127 := c127
                  replace zc127 := zc_eq (nI_toInt (by omega)) (nI_toInt (by omega)) zc127
                  refine lv_iconst (v := nI 1) hx hb dX9_fits_126 (by decide) ?_
                  refine lv_goto (tgt := 131) hx hb dX9_fits_127 (by decide) ?_
                  exact hJ118 (nI 1) _ _ _ (show ((nI 1) = 0 ∨ (nI 1) = 1) ∧ zH D A τ fi fr ol s _ ∧ va_S A s.heap _ _ ∧ lv_has _ 9 [(0, .int (nI x)), (1, .int (nI y)), (2, .int (nI z)), (5, .int b1), (6, .int b2)] from ⟨(by first | exact Or.inl rfl | exact Or.inr rfl), hH, hS, lv_sub hl [0, 1, 2, 3, 4] rfl⟩)
                · have zc127 := c127
                  replace zc127 := zc_neq (nI_toInt (by omega)) (nI_toInt (by omega)) zc127
                  refine lv_iload_n hx hb dX9_fits_117 rfl (lv_at hl 1 rfl) ?_
                  refine lv_if_eq (tgt := 126) hx hb dX9_fits_118 (by decide) (fun c128 => ?_) (fun c128 => ?_)
                  · have zc128 := c128
                    replace zc128 := zc_eq (nI_toInt (by omega)) ((by decide : (0 : Int32).toInt = 0)) zc128
                    refine lv_iconst (v := nI 1) hx hb dX9_fits_126 (by decide) ?_
                    refine lv_goto (tgt := 131) hx hb dX9_fits_127 (by decide) ?_
                    exact hJ118 (nI 1) _ _ _ (show ((nI 1) = 0 ∨ (nI 1) = 1) ∧ zH D A τ fi fr ol s _ ∧ va_S A s.heap _ _ ∧ lv_has _ 9 [(0, .int (nI x)), (1, .int (nI y)), (2, .int (nI z)), (5, .int b1), (6, .int b2)] from ⟨(by first | exact Or.inl rfl | exact Or.inr rfl), hH, hS, lv_sub hl [0, 1, 2, 3, 4] rfl⟩)
                  · have zc128 := c128
                    replace zc128 := zc_neq (nI_toInt (by omega)) ((by decide : (0 : Int32).toInt = 0)) zc128
                    refine lv_iload_n hx hb dX9_fits_121 rfl (lv_at hl 1 rfl) ?_
                    refine lv_iconst (v := nI 1) hx hb dX9_fits_122 (by decide) ?_
                    refine lv_icmp_ne (tgt := 130) hx hb dX9_fits_123 (by decide) (fun c129 => ?_) (fun c129 => ?_)
                    · have zc129 := c129
                      replace zc129 := zc_neq (nI_toInt (by omega)) (nI_toInt (by omega)) zc129
                      refine lv_iconst (v := nI 0) hx hb dX9_fits_130 (by decide) ?_
                      exact hJ118 (nI 0) _ _ _ (show ((nI 0) = 0 ∨ (nI 0) = 1) ∧ zH D A τ fi fr ol s _ ∧ va_S A s.heap _ _ ∧ lv_has _ 9 [(0, .int (nI x)), (1, .int (nI y)), (2, .int (nI z)), (5, .int b1), (6, .int b2)] from ⟨(by first | exact Or.inl rfl | exact Or.inr rfl), hH, hS, lv_sub hl [0, 1, 2, 3, 4] rfl⟩)
                    · have zc129 := c129
                      replace zc129 := zc_eq (nI_toInt (by omega)) (nI_toInt (by omega)) zc129
                      refine lv_iconst (v := nI 1) hx hb dX9_fits_126 (by decide) ?_
                      refine lv_goto (tgt := 131) hx hb dX9_fits_127 (by decide) ?_
                      exact hJ118 (nI 1) _ _ _ (show ((nI 1) = 0 ∨ (nI 1) = 1) ∧ zH D A τ fi fr ol s _ ∧ va_S A s.heap _ _ ∧ lv_has _ 9 [(0, .int (nI x)), (1, .int (nI y)), (2, .int (nI z)), (5, .int b1), (6, .int b2)] from ⟨(by first | exact Or.inl rfl | exact Or.inr rfl), hH, hS, lv_sub hl [0, 1, 2, 3, 4] rfl⟩)
          · skip
            refine va_gets hx hb (hz.2.2 1 _ rfl).1 hS hown hw0 (fun _ h9 => h9) dX9_fits_80 ?_
            refine lv_iload_n hx hb dX9_fits_83 rfl (lv_at hl 3 rfl) ?_
            refine zSti (i := 1) hx hb hz hS rfl (show z < _ by simp only [List.length_cons, List.length_nil]; omega) (by decide) dX9_fits_84 ?_
            refine lv_topi (fun v130 ev130 => ?_)
            refine lv_if_le (tgt := 93) hx hb dX9_fits_85 (by decide) (fun c131 => ?_) (fun c131 => ?_)
            · have zc131 := c131
              replace zc131 := zc_le (rfl) ((by decide : (0 : Int32).toInt = 0)) zc131
              refine va_gets hx hb (hz.2.2 2 _ rfl).1 hS hown hw2 (fun _ h9 => h9) dX9_fits_93 ?_
              refine lv_iload_n hx hb dX9_fits_96 rfl (lv_at hl 3 rfl) ?_
              refine zSti (i := 2) hx hb hz hS rfl (show z < _ by simp only [List.length_cons, List.length_nil]; omega) (by decide) dX9_fits_97 ?_
              refine lv_topi (fun v132 ev132 => ?_)
              refine lv_if_le (tgt := 108) hx hb dX9_fits_98 (by decide) (fun c133 => ?_) (fun c133 => ?_)
              · have zc133 := c133
                replace zc133 := zc_le (rfl) ((by decide : (0 : Int32).toInt = 0)) zc133
                exact hJ117 () _ _ _ (show (True) ∧ zH D A τ fi fr ol s _ ∧ va_S A s.heap _ _ ∧ lv_has _ 9 [(0, .int (nI x)), (1, .int (nI y)), (2, .int (nI z)), (5, .int b1), (6, .int b2)] from ⟨trivial, hH, hS, lv_sub hl [1, 2, 3, 6, 0] rfl⟩)
              · have zc133 := c133
                replace zc133 := zc_nle (rfl) ((by decide : (0 : Int32).toInt = 0)) zc133
                refine lv_iload hx hb dX9_fits_101 (lv_at hl 0 rfl) ?_
                refine lv_if_ne (tgt := 108) hx hb dX9_fits_103 (by decide) (fun c134 => ?_) (fun c134 => ?_)
                · have zc134 := c134
                  replace zc134 := zc_neq (rfl) ((by decide : (0 : Int32).toInt = 0)) zc134
                  exact hJ117 () _ _ _ (show (True) ∧ zH D A τ fi fr ol s _ ∧ va_S A s.heap _ _ ∧ lv_has _ 9 [(0, .int (nI x)), (1, .int (nI y)), (2, .int (nI z)), (5, .int b1), (6, .int b2)] from ⟨trivial, hH, hS, lv_sub hl [1, 2, 3, 6, 0] rfl⟩)
                · have zc134 := c134
                  replace zc134 := zc_eq (rfl) ((by decide : (0 : Int32).toInt = 0)) zc134
                  refine lv_iconst (v := nI 0) hx hb dX9_fits_106 (by decide) ?_
                  refine W.widen (k := 0) (n := 0) (by decide) (by decide) ?_
                  exact W.zret (v := nI 0) hx hb hr (by decide) (fun t9 ht9 hW9 => ⟨⟨nI 0, (), rfl, trivial, zEnd1 hH ht9 hW9⟩, hS.F ht9⟩) hS.2.2 dX9_fits_107
            · have zc131 := c131
              replace zc131 := zc_nle (rfl) ((by decide : (0 : Int32).toInt = 0)) zc131
              refine lv_iload hx hb dX9_fits_88 (lv_at hl 6 rfl) ?_
              refine lv_if_eq (tgt := 106) hx hb dX9_fits_90 (by decide) (fun c135 => ?_) (fun c135 => ?_)
              · have zc135 := c135
                replace zc135 := zc_eq (rfl) ((by decide : (0 : Int32).toInt = 0)) zc135
                refine lv_iconst (v := nI 0) hx hb dX9_fits_106 (by decide) ?_
                refine W.widen (k := 0) (n := 0) (by decide) (by decide) ?_
                exact W.zret (v := nI 0) hx hb hr (by decide) (fun t9 ht9 hW9 => ⟨⟨nI 0, (), rfl, trivial, zEnd1 hH ht9 hW9⟩, hS.F ht9⟩) hS.2.2 dX9_fits_107
              · have zc135 := c135
                replace zc135 := zc_neq (rfl) ((by decide : (0 : Int32).toInt = 0)) zc135
                refine va_gets hx hb (hz.2.2 2 _ rfl).1 hS hown hw2 (fun _ h9 => h9) dX9_fits_93 ?_
                refine lv_iload_n hx hb dX9_fits_96 rfl (lv_at hl 3 rfl) ?_
                refine zSti (i := 2) hx hb hz hS rfl (show z < _ by simp only [List.length_cons, List.length_nil]; omega) (by decide) dX9_fits_97 ?_
                refine lv_topi (fun v136 ev136 => ?_)
                refine lv_if_le (tgt := 108) hx hb dX9_fits_98 (by decide) (fun c137 => ?_) (fun c137 => ?_)
                · have zc137 := c137
                  replace zc137 := zc_le (rfl) ((by decide : (0 : Int32).toInt = 0)) zc137
                  exact hJ117 () _ _ _ (show (True) ∧ zH D A τ fi fr ol s _ ∧ va_S A s.heap _ _ ∧ lv_has _ 9 [(0, .int (nI x)), (1, .int (nI y)), (2, .int (nI z)), (5, .int b1), (6, .int b2)] from ⟨trivial, hH, hS, lv_sub hl [1, 2, 3, 6, 0] rfl⟩)
                · have zc137 := c137
                  replace zc137 := zc_nle (rfl) ((by decide : (0 : Int32).toInt = 0)) zc137
                  refine lv_iload hx hb dX9_fits_101 (lv_at hl 0 rfl) ?_
                  refine lv_if_ne (tgt := 108) hx hb dX9_fits_103 (by decide) (fun c138 => ?_) (fun c138 => ?_)
                  · have zc138 := c138
                    replace zc138 := zc_neq (rfl) ((by decide : (0 : Int32).toInt = 0)) zc138
                    exact hJ117 () _ _ _ (show (True) ∧ zH D A τ fi fr ol s _ ∧ va_S A s.heap _ _ ∧ lv_has _ 9 [(0, .int (nI x)), (1, .int (nI y)), (2, .int (nI z)), (5, .int b1), (6, .int b2)] from ⟨trivial, hH, hS, lv_sub hl [1, 2, 3, 6, 0] rfl⟩)
                  · have zc138 := c138
                    replace zc138 := zc_eq (rfl) ((by decide : (0 : Int32).toInt = 0)) zc138
                    refine lv_iconst (v := nI 0) hx hb dX9_fits_106 (by decide) ?_
                    refine W.widen (k := 0) (n := 0) (by decide) (by decide) ?_
                    exact W.zret (v := nI 0) hx hb hr (by decide) (fun t9 ht9 hW9 => ⟨⟨nI 0, (), rfl, trivial, zEnd1 hH ht9 hW9⟩, hS.F ht9⟩) hS.2.2 dX9_fits_107
        · skip
          refine lv_iload hx hb dX9_fits_68 (lv_at hl 5 rfl) ?_
          refine lv_if_le (tgt := 77) hx hb dX9_fits_70 (by decide) (fun c139 => ?_) (fun c139 => ?_)
          · have zc139 := c139
            replace zc139 := zc_le (rfl) ((by decide : (0 : Int32).toInt = 0)) zc139
            refine lv_iconst (v := nI 0) hx hb dX9_fits_77 (by decide) ?_
            exact hJ116 (nI 0) _ _ _ (show ((nI 0) = 0 ∨ (nI 0) = 1) ∧ zH D A τ fi fr ol s _ ∧ va_S A s.heap _ _ ∧ lv_has _ 9 [(0, .int (nI x)), (1, .int (nI y)), (2, .int (nI z)), (3, .int v103), (4, .int v106), (5, .int b1)] from ⟨(by first | exact Or.inl rfl | exact Or.inr rfl), hH, hS, lv_sub hl [1, 2, 3, 4, 5, 0] rfl⟩)
          · have zc139 := c139
            replace zc139 := zc_nle (rfl) ((by decide : (0 : Int32).toInt = 0)) zc139
            refine lv_iconst (v := nI 1) hx hb dX9_fits_73 (by decide) ?_
            refine lv_goto (tgt := 78) hx hb dX9_fits_74 (by decide) ?_
            exact hJ116 (nI 1) _ _ _ (show ((nI 1) = 0 ∨ (nI 1) = 1) ∧ zH D A τ fi fr ol s _ ∧ va_S A s.heap _ _ ∧ lv_has _ 9 [(0, .int (nI x)), (1, .int (nI y)), (2, .int (nI z)), (3, .int v103), (4, .int v106), (5, .int b1)] from ⟨(by first | exact Or.inl rfl | exact Or.inr rfl), hH, hS, lv_sub hl [1, 2, 3, 4, 5, 0] rfl⟩)
      · skip
        refine lv_iload_n hx hb dX9_fits_52 rfl (lv_at hl 1 rfl) ?_
        refine lv_if_gt (tgt := 61) hx hb dX9_fits_53 (by decide) (fun c140 => ?_) (fun c140 => ?_)
        · have zc140 := c140
          replace zc140 := zc_lt ((by decide : (0 : Int32).toInt = 0)) (rfl) zc140
          refine lv_iconst (v := nI 1) hx hb dX9_fits_61 (by decide) ?_
          refine lv_goto (tgt := 66) hx hb dX9_fits_62 (by decide) ?_
          exact hJ115 (nI 1) _ _ _ (show ((nI 1) = 0 ∨ (nI 1) = 1) ∧ zH D A τ fi fr ol s _ ∧ va_S A s.heap _ _ ∧ lv_has _ 9 [(0, .int (nI x)), (1, .int (nI y)), (2, .int (nI z)), (3, .int v103), (4, .int v106)] from ⟨(by first | exact Or.inl rfl | exact Or.inr rfl), hH, hS, lv_sub hl [2, 3, 4, 1, 0] rfl⟩)
        · have zc140 := c140
          replace zc140 := zc_nlt ((by decide : (0 : Int32).toInt = 0)) (rfl) zc140
          refine lv_iload_n hx hb dX9_fits_56 rfl (lv_at hl 2 rfl) ?_
          refine lv_iconst (v := nI 5) hx hb dX9_fits_57 (by decide) ?_
          refine lv_icmp_ne (tgt := 65) hx hb dX9_fits_58 (by decide) (fun c141 => ?_) (fun c141 => ?_)
          · have zc141 := c141
            replace zc141 := zc_neq (nI_toInt (by omega)) (nI_toInt (by omega)) zc141
            refine lv_iconst (v := nI 0) hx hb dX9_fits_65 (by decide) ?_
            exact hJ115 (nI 0) _ _ _ (show ((nI 0) = 0 ∨ (nI 0) = 1) ∧ zH D A τ fi fr ol s _ ∧ va_S A s.heap _ _ ∧ lv_has _ 9 [(0, .int (nI x)), (1, .int (nI y)), (2, .int (nI z)), (3, .int v103), (4, .int v106)] from ⟨(by first | exact Or.inl rfl | exact Or.inr rfl), hH, hS, lv_sub hl [2, 3, 4, 1, 0] rfl⟩)
          · have zc141 := c141
            replace zc141 := zc_eq (nI_toInt (by omega)) (nI_toInt (by omega)) zc141
            refine lv_iconst (v := nI 1) hx hb dX9_fits_61 (by decide) ?_
            refine lv_goto (tgt := 66) hx hb dX9_fits_62 (by decide) ?_
            exact hJ115 (nI 1) _ _ _ (show ((nI 1) = 0 ∨ (nI 1) = 1) ∧ zH D A τ fi fr ol s _ ∧ va_S A s.heap _ _ ∧ lv_has _ 9 [(0, .int (nI x)), (1, .int (nI y)), (2, .int (nI z)), (3, .int v103), (4, .int v106)] from ⟨(by first | exact Or.inl rfl | exact Or.inr rfl), hH, hS, lv_sub hl [2, 3, 4, 1, 0] rfl⟩)
    · have zc114 := c114
      replace zc114 := zc_neq (rfl) ((by decide : (0 : Int32).toInt = 0)) zc114
      refine lv_iconst (v := nI 0) hx hb dX9_fits_50 (by decide) ?_
      refine W.widen (k := 0) (n := 0) (by decide) (by decide) ?_
      exact W.zret (v := nI 0) hx hb hr (by decide) (fun t9 ht9 hW9 => ⟨⟨nI 0, (), rfl, trivial, zEnd1 hH ht9 hW9⟩, hS.F ht9⟩) hS.2.2 dX9_fits_51
set_option maxHeartbeats 4000000 in
set_option maxRecDepth 100000 in
/-- Walk.leastInto -/
theorem c_leastInto (l : Launch) (hl0 : l.stackTraces = false) (D : va_G) (A : Nat → Prop) (sad : Nat → Nat) (τ : zTy) (fi : zFi) (fr : zFr) (ol : Int64) (hF : zFix τ fr) (z : Nat) (hz6 : z < 6) : Met l yX9_leastInto wsX9_leastInto ({ frames := 1, cells := 0, slots := 0, locals := 28 }) (va_Pc [.ref (τ.1 22), .int (nI z)] (zQc D A sad τ fi fr ol)) (va_Qi (fun (r : Int32) (u : Unit) => True) (fun (u : Unit) (t : State) => zH D A τ fi fr ol t t.heap) A) 0 0 A := by
  refine Met.ofW (cc := cX9_leastInto) (maxL := 5) (ret := (some .int)) (by decide) rfl ?_
  intro p9 e9 s m args below meth c9 s₁ B hml hv
  obtain ⟨rfl, hz, hH, hA⟩ := hv
  have hx := B.exec
  have hb := B.bytes
  have hr := B.returns
  have hts := atoms_spec (ws := wsX9_leastInto) B.pre
  have hown : s.vm.findClass RX9 = some m.cls := findClass_of_methodNamed B.named
  have hlocks := B.notSynchronized
  have hS : va_S A s.heap s.heap [] := va_S.rf
  have hl := lv_entry ([.ref (τ.1 22), .int (nI z)]) (n := 5) (Nat.le_of_ble_eq_true rfl)
  rw [lg_entry_eq]
  generalize (lg_sl ([.ref (τ.1 22), .int (nI z)]) ++ List.replicate (5 - (lg_sl ([.ref (τ.1 22), .int (nI z)])).length) Slot.unset).toArray = ls at hl ⊢
  have hl : lv_has ls 5 [(0, .ref (τ.1 22)), (1, .int (nI z))] := hl
  have hw0 := hts (.constant RX9 35 1000000) (by decide +kernel)
  have hiX9 : ∀ w ∈ u_ws RX9 TX9 6, w ∈ wsX9_leastInto := fun _ h => List.mem_cons_of_mem _ (List.mem_append_right _ h)
  have hw2 := hts (.fieldLink RX9 25 "PostHouse$Walk" "best" "[I") (by decide +kernel)
  have hw3 := hts (.fieldLink RX9 21 "PostHouse$Walk" "waySteps" "[I") (by decide +kernel)
  have hw4 := hts (.methodLink RX9 67 Lib.Math.min.name) (by decide +kernel)
  have hw5 := hts (.static Lib.Math.min.name) (by decide +kernel)
  have hw6 := hts (.initialized "java/lang/Math") (by decide +kernel)
  have hw7 := hts (.code Lib.Math.min.name Lib.Math.min.code 2 (some .int)) (by decide +kernel)
  refine lv_ldc (v := nI 1000000) hx hb hown hw0 dX9_leastInto_0 ?_
  refine lv_istore_n (lv' := [(2, .int (nI 1000000)), (0, .ref (τ.1 22)), (1, .int (nI z))]) hx hb dX9_leastInto_2 rfl hl (by decide) rfl (fun ls hl => ?_)
  refine lv_iconst (v := nI 0) hx hb dX9_leastInto_3 (by decide) ?_
  refine lv_istore_n (lv' := [(3, .int (nI 0)), (2, .int (nI 1000000)), (0, .ref (τ.1 22)), (1, .int (nI z))]) hx hb dX9_leastInto_4 rfl hl (by decide) rfl (fun ls hl => ?_)
  refine zLp (σ := Nat × Int32) (fun x9 k9 H locs ls => (fun (i : Nat) (y : Int32) => k9 = 6 - i ∧ (i ≤ 6) ∧ zH D A τ fi fr ol s H ∧ va_S A s.heap H locs ∧ lv_has ls 5 [(0, .ref (τ.1 22)), (1, .int (nI z)), (2, .int y), (3, .int (nI i))]) x9.1 x9.2) (0, nI 1000000) (6 - 0) (show 6 - 0 = 6 - 0 ∧ (0 ≤ 6) ∧ zH D A τ fi fr ol s _ ∧ va_S A s.heap _ _ ∧ lv_has _ 5 [(0, .ref (τ.1 22)), (1, .int (nI z)), (2, .int (nI 1000000)), (3, .int (nI 0))] from ⟨rfl, Nat.zero_le _, hH, hS, lv_sub hl [2, 3, 1, 0] rfl⟩) (fun k9 ih x9 H locs ls hv9 => ?_)
  obtain ⟨i, y⟩ := x9
  have hv9 : k9 = 6 - i ∧ (i ≤ 6) ∧ zH D A τ fi fr ol s H ∧ va_S A s.heap H locs ∧ lv_has ls 5 [(0, .ref (τ.1 22)), (1, .int (nI z)), (2, .int y), (3, .int (nI i))] := hv9
  obtain ⟨hkih101, hv9, hH, hS, hl⟩ := hv9
  obtain h1 := hv9
  have ih101 := ih
  clear ih
  refine lv_iload_n hx hb dX9_leastInto_5 rfl (lv_at hl 3 rfl) ?_
  refine lv_bipush (v := nI 6) hx hb dX9_leastInto_6 (by decide) ?_
  refine lv_icmp_ge (tgt := 62) hx hb dX9_leastInto_8 (by decide) (fun c102 => ?_) (fun c102 => ?_)
  · have zc102 := c102
    replace zc102 := zc_le (nI_toInt (by omega)) (nI_toInt (by omega)) zc102
    refine lv_iload_n hx hb dX9_leastInto_62 rfl (lv_at hl 2 rfl) ?_
    refine W.widen (k := 0) (n := 0) (by decide) (by decide) ?_
    exact W.iret (v := y) hx hb hr (fun t9 ht9 hW9 => ⟨⟨y, (), rfl, trivial, zEnd1 hH ht9 hW9⟩, hS.F ht9⟩) hS.2.2 dX9_leastInto_63
  · have zc102 := c102
    replace zc102 := zc_nle (nI_toInt (by omega)) (nI_toInt (by omega)) zc102
    refine lv_iconst (v := nI 0) hx hb dX9_leastInto_11 (by decide) ?_
    refine lv_istore (lv' := [(4, .int (nI 0)), (0, .ref (τ.1 22)), (1, .int (nI z)), (2, .int y), (3, .int (nI i))]) hx hb dX9_leastInto_12 hl (by decide) rfl (fun ls hl => ?_)
    refine zLp (σ := Nat × Int32) (fun x9 k9 H locs ls => (fun (j : Nat) (y2 : Int32) => k9 = 6 - j ∧ (j ≤ 6) ∧ zH D A τ fi fr ol s H ∧ va_S A s.heap H locs ∧ lv_has ls 5 [(0, .ref (τ.1 22)), (1, .int (nI z)), (2, .int y2), (3, .int (nI i)), (4, .int (nI j))]) x9.1 x9.2) (0, _) (6 - 0) (show 6 - 0 = 6 - 0 ∧ (0 ≤ 6) ∧ zH D A τ fi fr ol s _ ∧ va_S A s.heap _ _ ∧ lv_has _ 5 [(0, .ref (τ.1 22)), (1, .int (nI z)), (2, .int _), (3, .int (nI i)), (4, .int (nI 0))] from ⟨rfl, Nat.zero_le _, hH, hS, lv_sub hl [1, 2, 3, 4, 0] rfl⟩) (fun k9 ih x9 H locs ls hv9 => ?_)
    obtain ⟨j, y2⟩ := x9
    have hv9 : k9 = 6 - j ∧ (j ≤ 6) ∧ zH D A τ fi fr ol s H ∧ va_S A s.heap H locs ∧ lv_has ls 5 [(0, .ref (τ.1 22)), (1, .int (nI z)), (2, .int y2), (3, .int (nI i)), (4, .int (nI j))] := hv9
    obtain ⟨hkih103, hv9, hH, hS, hl⟩ := hv9
    obtain h2 := hv9
    have ih103 := ih
    clear ih
    refine lv_iload hx hb dX9_leastInto_14 (lv_at hl 4 rfl) ?_
    refine lv_bipush (v := nI 6) hx hb dX9_leastInto_16 (by decide) ?_
    refine lv_icmp_ge (tgt := 56) hx hb dX9_leastInto_18 (by decide) (fun c104 => ?_) (fun c104 => ?_)
    · have zc104 := c104
      replace zc104 := zc_le (nI_toInt (by omega)) (nI_toInt (by omega)) zc104
      refine lv_iinc (v := nI (i + 1)) (lv' := [(3, .int (nI (i + 1))), (0, .ref (τ.1 22)), (1, .int (nI z)), (2, .int y2), (4, .int (nI j))]) hx hb dX9_leastInto_56 hl (k := 3) rfl (by rw [show (Int32.ofInt 1 : Int32) = nI 1 from by decide, nI_add]) (by decide) rfl (fun ls hl => ?_)
      refine lv_goto (tgt := 5) hx hb dX9_leastInto_59 (by decide) ?_
      exact ih101 (6 - (i + 1)) (by omega) (i + 1, _) _ _ _ (show 6 - (i + 1) = 6 - (i + 1) ∧ ((i + 1) ≤ 6) ∧ zH D A τ fi fr ol s _ ∧ va_S A s.heap _ _ ∧ lv_has _ 5 [(0, .ref (τ.1 22)), (1, .int (nI z)), (2, .int _), (3, .int (nI (i + 1)))] from ⟨rfl, (by omega), hH, hS, lv_sub hl [1, 2, 3, 0] rfl⟩)
    · have zc104 := c104
      replace zc104 := zc_nle (nI_toInt (by omega)) (nI_toInt (by omega)) zc104
      refine lv_iload_n hx hb dX9_leastInto_21 rfl (lv_at hl 3 rfl) ?_
      refine lv_iload hx hb dX9_leastInto_22 (lv_at hl 4 rfl) ?_
      refine lv_iload_n hx hb dX9_leastInto_24 rfl (lv_at hl 1 rfl) ?_
      refine va_calli (va_runS (As := [.int (nI i), .int (nI j), .int (nI z)]) (rest := []) ⟨hx, hb, hml, hown, hts⟩ (c_fits l hl0 D A sad τ fi fr ol i j z (by omega) (by omega) (by omega)) (cwS 3 hts gX9_leastInto_X9_fits rfl rfl rfl (by decide +kernel) ⟨Nat.le_of_ble_eq_true rfl, Nat.le_of_ble_eq_true rfl⟩) ⟨zQc_bl, zQc_at hz hS hA hH⟩ rfl rfl hl.1 rfl (lv_room (Nat.le_of_ble_eq_true rfl)) dX9_leastInto_25 ⟨Nat.le_of_ble_eq_true rfl, Nat.le_of_ble_eq_true rfl⟩) hS (fun q _ h => h) (fun q h => h) (fun r105 u9 t9 H1 locs ht9 hvm9 hw hB hz1 hk1 hS => ?_)
      have hH := zMv ht9 hvm9 hB
      generalize H1 = H at hH hS ⊢
      refine lv_if_eq (tgt := 50) hx hb dX9_leastInto_28 (by decide) (fun c106 => ?_) (fun c106 => ?_)
      · have zc106 := c106
        replace zc106 := zc_eq (rfl) ((by decide : (0 : Int32).toInt = 0)) zc106
        refine lv_iinc (v := nI (j + 1)) (lv' := [(4, .int (nI (j + 1))), (0, .ref (τ.1 22)), (1, .int (nI z)), (2, .int y2), (3, .int (nI i))]) hx hb dX9_leastInto_50 hl (k := 4) rfl (by rw [show (Int32.ofInt 1 : Int32) = nI 1 from by decide, nI_add]) (by decide) rfl (fun ls hl => ?_)
        refine lv_goto (tgt := 14) hx hb dX9_leastInto_53 (by decide) ?_
        exact ih103 (6 - (j + 1)) (by omega) (j + 1, _) _ _ _ (show 6 - (j + 1) = 6 - (j + 1) ∧ ((j + 1) ≤ 6) ∧ zH D A τ fi fr ol s _ ∧ va_S A s.heap _ _ ∧ lv_has _ 5 [(0, .ref (τ.1 22)), (1, .int (nI z)), (2, .int _), (3, .int (nI i)), (4, .int (nI (j + 1)))] from ⟨rfl, (by omega), hH, hS, lv_sub hl [1, 2, 3, 4, 0] rfl⟩)
      · have zc106 := c106
        replace zc106 := zc_neq (rfl) ((by decide : (0 : Int32).toInt = 0)) zc106
        refine lv_iload_n hx hb dX9_leastInto_31 rfl (lv_at hl 2 rfl) ?_
        refine lv_aload_n hx hb dX9_leastInto_32 rfl (lv_at hl 0 rfl) ?_
        refine zGetR (D := D) (ci := 9) (C := RX9) (T := TX9) (N := 6) hx hb hts hiX9 hown hH (zk_22 hF) rfl 4 (by decide) rfl hw2 (fun _ h9 => h9) dX9_leastInto_33 (zr_22_4 hF) ?_
        refine lv_iload_n hx hb dX9_leastInto_36 rfl (lv_at hl 3 rfl) ?_
        refine zIaldN (D := D) hx hb hH (zk_26 hF) (zn_26 hF) (by omega) (by omega) rfl dX9_leastInto_37 ?_
        refine lv_aload_n hx hb dX9_leastInto_38 rfl (lv_at hl 0 rfl) ?_
        refine zGetR (D := D) (ci := 9) (C := RX9) (T := TX9) (N := 6) hx hb hts hiX9 hown hH (zk_22 hF) rfl 3 (by decide) rfl hw3 (fun _ h9 => h9) dX9_leastInto_39 (zr_22_3 hF) ?_
        refine lv_iload hx hb dX9_leastInto_42 (lv_at hl 4 rfl) ?_
        refine zIaldN (D := D) hx hb hH (zk_25 hF) (zn_25 hF) (by omega) (by omega) rfl dX9_leastInto_44 ?_
        refine lv_iadd hx hb dX9_leastInto_45 ?_
        refine lv_topi (fun v107 ev107 => ?_)
        refine va_mmin hx hb (by rw [hml]; exact hl.1.symm) hown hw4 hw5 hw6 hw7 (Nat.le_of_ble_eq_true rfl) (Nat.le_of_ble_eq_true rfl) (Nat.le_of_ble_eq_true rfl) (Nat.le_of_ble_eq_true rfl) dX9_leastInto_46 ?_
        refine lv_topi (fun v108 ev108 => ?_)
        refine lv_istore_n (lv' := [(2, .int v108), (0, .ref (τ.1 22)), (1, .int (nI z)), (3, .int (nI i)), (4, .int (nI j))]) hx hb dX9_leastInto_49 rfl hl (by decide) rfl (fun ls hl => ?_)
        refine lv_iinc (v := nI (j + 1)) (lv' := [(4, .int (nI (j + 1))), (2, .int v108), (0, .ref (τ.1 22)), (1, .int (nI z)), (3, .int (nI i))]) hx hb dX9_leastInto_50 hl (k := 4) rfl (by rw [show (Int32.ofInt 1 : Int32) = nI 1 from by decide, nI_add]) (by decide) rfl (fun ls hl => ?_)
        refine lv_goto (tgt := 14) hx hb dX9_leastInto_53 (by decide) ?_
        exact ih103 (6 - (j + 1)) (by omega) (j + 1, _) _ _ _ (show 6 - (j + 1) = 6 - (j + 1) ∧ ((j + 1) ≤ 6) ∧ zH D A τ fi fr ol s _ ∧ va_S A s.heap _ _ ∧ lv_has _ 5 [(0, .ref (τ.1 22)), (1, .int (nI z)), (2, .int _), (3, .int (nI i)), (4, .int (nI (j + 1)))] from ⟨rfl, (by omega), hH, hS, lv_sub hl [2, 3, 1, 4, 0] rfl⟩)
set_option maxHeartbeats 4000000 in
set_option maxRecDepth 100000 in
/-- Walk.measure -/
theorem c_measure (l : Launch) (hl0 : l.stackTraces = false) (D : va_G) (A : Nat → Prop) (sad : Nat → Nat) (τ : zTy) (fi : zFi) (fr : zFr) (ol : Int64) (x : Int32) (hF : zFix τ fr) (n : Nat) (hT : zTh τ fi fr n) (p : Nat) (hP : zPk fi fr n p) : Met l yX9_measure wsX9_measure ({ frames := 1, cells := 0, slots := 0, locals := 22 }) (va_Pc [.ref (τ.1 22), .int x] (zQc D A sad τ fi fr ol)) (va_Qv (fun (u : zFi) => ∀ i k, ¬ (i = 24 ∨ i = 25) → u i k = fi i k) (fun (u : zFi) (t : State) => zH D A τ u fr ol t t.heap) A) 0 0 A := by
  refine Met.ofW (cc := cX9_measure) (maxL := 6) (ret := none) (by decide) rfl ?_
  intro p9 e9 s m args below meth c9 s₁ B hml hv
  obtain ⟨rfl, hz, hH, hA⟩ := hv
  have hx := B.exec
  have hb := B.bytes
  have hr := B.returns
  have hts := atoms_spec (ws := wsX9_measure) B.pre
  have hown : s.vm.findClass RX9 = some m.cls := findClass_of_methodNamed B.named
  have hlocks := B.notSynchronized
  have hS : va_S A s.heap s.heap [] := va_S.rf
  have hl := lv_entry ([.ref (τ.1 22), .int x]) (n := 6) (Nat.le_of_ble_eq_true rfl)
  rw [lg_entry_eq]
  generalize (lg_sl ([.ref (τ.1 22), .int x]) ++ List.replicate (6 - (lg_sl ([.ref (τ.1 22), .int x])).length) Slot.unset).toArray = ls at hl ⊢
  have hl : lv_has ls 6 [(0, .ref (τ.1 22)), (1, .int x)] := hl
  have hn30 := hT.1
  have hp10 := hP.1
  have hiX9 : ∀ w ∈ u_ws RX9 TX9 6, w ∈ wsX9_measure := fun _ h => List.mem_cons_of_mem _ (List.mem_append_left _ (List.mem_append_right _ h))
  have hw1 := hts (.fieldLink RX9 31 "PostHouse$Walk" "size" "I") (by decide +kernel)
  have hw2 := hts (.fieldLink RX9 21 "PostHouse$Walk" "waySteps" "[I") (by decide +kernel)
  have hw3 := hts (.constant RX9 35 1000000) (by decide +kernel)
  have hw4 := hts (.fieldLink RX9 17 "PostHouse$Walk" "marked" "[Z") (by decide +kernel)
  have hw5 := hts (.methodLink RX9 54 Lib.Math.max.name) (by decide +kernel)
  have hw6 := hts (.static Lib.Math.max.name) (by decide +kernel)
  have hw7 := hts (.initialized "java/lang/Math") (by decide +kernel)
  have hw8 := hts (.code Lib.Math.max.name Lib.Math.max.code 2 (some .int)) (by decide +kernel)
  have hw9 := hts (.methodLink RX9 67 Lib.Math.min.name) (by decide +kernel)
  have hw10 := hts (.static Lib.Math.min.name) (by decide +kernel)
  have hw11 := hts (.code Lib.Math.min.name Lib.Math.min.code 2 (some .int)) (by decide +kernel)
  have hw12 := hts (.fieldLink RX9 11 "PostHouse$Walk" "picks" "[LPostHouse$Thing;") (by decide +kernel)
  have hiX8 : ∀ w ∈ u_ws RX8 TX8 10, w ∈ wsX9_measure := fun _ h => List.mem_cons_of_mem _ (List.mem_append_right _ h)
  have hw14 := hts (.fieldLink RX9 51 "PostHouse$Thing" "street" "I") (by decide +kernel)
  have hw15 := hts (.fieldLink RX9 60 "PostHouse$Thing" "place" "I") (by decide +kernel)
  have hw16 := hts (.initialized RX11) (by decide +kernel)
  have hw17 := hts (.static yX11_within) (by decide +kernel)
  refine lv_iconst (v := nI 0) hx hb dX9_measure_0 (by decide) ?_
  refine lv_istore_n (lv' := [(2, .int (nI 0)), (0, .ref (τ.1 22)), (1, .int x)]) hx hb dX9_measure_1 rfl hl (by decide) rfl (fun ls hl => ?_)
  refine zLp (σ := Nat × zFi) (fun x9 k9 H locs ls => (fun (i : Nat) (f : zFi) => k9 = 21 - i ∧ (i ≤ 21 ∧ ∀ a b, ¬ (a = 24 ∨ a = 25) → f a b = fi a b) ∧ zH D A τ f fr ol s H ∧ va_S A s.heap H locs ∧ lv_has ls 6 [(0, .ref (τ.1 22)), (1, .int x), (2, .int (nI i))]) x9.1 x9.2) (0, fi) (21 - 0) (show 21 - 0 = 21 - 0 ∧ (0 ≤ 21 ∧ ∀ a b, ¬ (a = 24 ∨ a = 25) → fi a b = fi a b) ∧ zH D A τ fi fr ol s _ ∧ va_S A s.heap _ _ ∧ lv_has _ 6 [(0, .ref (τ.1 22)), (1, .int x), (2, .int (nI 0))] from ⟨rfl, ⟨Nat.zero_le _, fun _ _ _ => rfl⟩, hH, hS, lv_sub hl [1, 2, 0] rfl⟩) (fun k9 ih x9 H locs ls hv9 => ?_)
  obtain ⟨i, f⟩ := x9
  have hv9 : k9 = 21 - i ∧ (i ≤ 21 ∧ ∀ a b, ¬ (a = 24 ∨ a = 25) → f a b = fi a b) ∧ zH D A τ f fr ol s H ∧ va_S A s.heap H locs ∧ lv_has ls 6 [(0, .ref (τ.1 22)), (1, .int x), (2, .int (nI i))] := hv9
  obtain ⟨hkih101, hv9, hH, hS, hl⟩ := hv9
  obtain ⟨h1, hfr⟩ := hv9
  have ih101 := ih
  clear ih
  have q1 : f 22 1 = nI p := by rw [hfr 22 1 (by omega)]; exact hP.2.1
  refine lv_iload_n hx hb dX9_measure_2 rfl (lv_at hl 2 rfl) ?_
  refine lv_bipush (v := nI 21) hx hb dX9_measure_3 (by decide) ?_
  refine lv_icmp_ge (tgt := 21) hx hb dX9_measure_5 (by decide) (fun c102 => ?_) (fun c102 => ?_)
  · have zc102 := c102
    replace zc102 := zc_le (nI_toInt (by omega)) (nI_toInt (by omega)) zc102
    refine lv_iconst (v := nI 0) hx hb dX9_measure_21 (by decide) ?_
    refine lv_istore_n (lv' := [(2, .int (nI 0)), (0, .ref (τ.1 22)), (1, .int x)]) hx hb dX9_measure_22 rfl hl (by decide) rfl (fun ls hl => ?_)
    refine zLp (σ := Nat × zFi) (fun x9 k9 H locs ls => (fun (i2 : Nat) (f2 : zFi) => k9 = p - i2 ∧ (i2 ≤ p ∧ ∀ a b, ¬ (a = 24 ∨ a = 25) → f2 a b = fi a b) ∧ zH D A τ f2 fr ol s H ∧ va_S A s.heap H locs ∧ lv_has ls 6 [(0, .ref (τ.1 22)), (1, .int x), (2, .int (nI i2))]) x9.1 x9.2) (0, f) (p - 0) (show p - 0 = p - 0 ∧ (0 ≤ p ∧ ∀ a b, ¬ (a = 24 ∨ a = 25) → f a b = fi a b) ∧ zH D A τ f fr ol s _ ∧ va_S A s.heap _ _ ∧ lv_has _ 6 [(0, .ref (τ.1 22)), (1, .int x), (2, .int (nI 0))] from ⟨rfl, ⟨Nat.zero_le _, hfr⟩, hH, hS, lv_sub hl [1, 2, 0] rfl⟩) (fun k9 ih x9 H locs ls hv9 => ?_)
    obtain ⟨i2, f2⟩ := x9
    have hv9 : k9 = p - i2 ∧ (i2 ≤ p ∧ ∀ a b, ¬ (a = 24 ∨ a = 25) → f2 a b = fi a b) ∧ zH D A τ f2 fr ol s H ∧ va_S A s.heap H locs ∧ lv_has ls 6 [(0, .ref (τ.1 22)), (1, .int x), (2, .int (nI i2))] := hv9
    obtain ⟨hkih103, hv9, hH, hS, hl⟩ := hv9
    obtain ⟨h2, hfr2⟩ := hv9
    have ih103 := ih
    clear ih
    have q1 : f2 22 1 = nI p := by rw [hfr2 22 1 (by omega)]; exact hP.2.1
    refine lv_iload_n hx hb dX9_measure_23 rfl (lv_at hl 2 rfl) ?_
    refine lv_aload_n hx hb dX9_measure_24 rfl (lv_at hl 0 rfl) ?_
    refine zGetI (D := D) (ci := 9) (C := RX9) (T := TX9) (N := 6) hx hb hts hiX9 hown hH (zk_22 hF) rfl 1 (by decide) rfl hw1 (fun _ h9 => h9) dX9_measure_25 q1 ?_
    refine lv_icmp_ge (tgt := 83) hx hb dX9_measure_28 (by decide) (fun c104 => ?_) (fun c104 => ?_)
    · have zc104 := c104
      replace zc104 := zc_le (nI_toInt (by omega)) (nI_toInt (by omega)) zc104
      refine lv_bipush (v := nI 21) hx hb dX9_measure_83 (by decide) ?_
      refine lv_istore_n (lv' := [(2, .int (nI 21)), (0, .ref (τ.1 22)), (1, .int x)]) hx hb dX9_measure_85 rfl hl (by decide) rfl (fun ls hl => ?_)
      refine lv_iconst (v := nI 0) hx hb dX9_measure_86 (by decide) ?_
      refine lv_istore_n (lv' := [(3, .int (nI 0)), (2, .int (nI 21)), (0, .ref (τ.1 22)), (1, .int x)]) hx hb dX9_measure_87 rfl hl (by decide) rfl (fun ls hl => ?_)
      refine lv_iconst (v := nI 0) hx hb dX9_measure_88 (by decide) ?_
      refine lv_istore (lv' := [(4, .int (nI 0)), (3, .int (nI 0)), (2, .int (nI 21)), (0, .ref (τ.1 22)), (1, .int x)]) hx hb dX9_measure_89 hl (by decide) rfl (fun ls hl => ?_)
      refine lv_iconst (v := nI 1) hx hb dX9_measure_91 (by decide) ?_
      refine lv_istore (lv' := [(5, .int (nI 1)), (4, .int (nI 0)), (3, .int (nI 0)), (2, .int (nI 21)), (0, .ref (τ.1 22)), (1, .int x)]) hx hb dX9_measure_92 hl (by decide) rfl (fun ls hl => ?_)
      refine zLp (σ := Nat × Int32 × Int32 × Int32) (fun x9 k9 H locs ls => (fun (i3 : Nat) (lo : Int32) (hi : Int32) (wd : Int32) => k9 = 21 - i3 ∧ (1 ≤ i3 ∧ i3 ≤ 21) ∧ zH D A τ f2 fr ol s H ∧ va_S A s.heap H locs ∧ lv_has ls 6 [(0, .ref (τ.1 22)), (1, .int x), (2, .int lo), (3, .int hi), (4, .int wd), (5, .int (nI i3))]) x9.1 x9.2.1 x9.2.2.1 x9.2.2.2) (1, nI 21, nI 0, nI 0) (21 - 1) (show 21 - 1 = 21 - 1 ∧ (1 ≤ 1 ∧ 1 ≤ 21) ∧ zH D A τ f2 fr ol s _ ∧ va_S A s.heap _ _ ∧ lv_has _ 6 [(0, .ref (τ.1 22)), (1, .int x), (2, .int (nI 21)), (3, .int (nI 0)), (4, .int (nI 0)), (5, .int (nI 1))] from ⟨rfl, ⟨Nat.le_refl _, by omega⟩, hH, hS, lv_sub hl [4, 5, 3, 2, 1, 0] rfl⟩) (fun k9 ih x9 H locs ls hv9 => ?_)
      obtain ⟨i3, lo, hi, wd⟩ := x9
      have hv9 : k9 = 21 - i3 ∧ (1 ≤ i3 ∧ i3 ≤ 21) ∧ zH D A τ f2 fr ol s H ∧ va_S A s.heap H locs ∧ lv_has ls 6 [(0, .ref (τ.1 22)), (1, .int x), (2, .int lo), (3, .int hi), (4, .int wd), (5, .int (nI i3))] := hv9
      obtain ⟨hkih105, hv9, hH, hS, hl⟩ := hv9
      obtain ⟨h3, h4⟩ := hv9
      have ih105 := ih
      clear ih
      refine lv_iload hx hb dX9_measure_94 (lv_at hl 5 rfl) ?_
      refine lv_bipush (v := nI 21) hx hb dX9_measure_96 (by decide) ?_
      refine lv_icmp_ge (tgt := 146) hx hb dX9_measure_98 (by decide) (fun c106 => ?_) (fun c106 => ?_)
      · have zc106 := c106
        replace zc106 := zc_le (nI_toInt (by omega)) (nI_toInt (by omega)) zc106
        refine lv_aload_n hx hb dX9_measure_146 rfl (lv_at hl 0 rfl) ?_
        refine zGetR (D := D) (ci := 9) (C := RX9) (T := TX9) (N := 6) hx hb hts hiX9 hown hH (zk_22 hF) rfl 3 (by decide) rfl hw2 (fun _ h9 => h9) dX9_measure_147 (zr_22_3 hF) ?_
        refine lv_iconst (v := nI 0) hx hb dX9_measure_150 (by decide) ?_
        refine lv_bipush (v := nI 21) hx hb dX9_measure_151 (by decide) ?_
        refine zIastN (D := D) hx hb hH hS (zk_25 hF) (zn_25 hF) (by omega) (by omega) dX9_measure_153 (fun H locs hH hS => ?_)
        obtain ⟨f107, ef107⟩ : ∃ f9 : zFi, f9 = zu f2 25 0 (nI 21) := ⟨_, rfl⟩
        rw [← ef107] at hH
        have q108 : f107 22 1 = nI p := by rw [ef107, zu_n (fun h9 => absurd h9.1 (by decide))]; exact q1
        have q109 : f107 25 0 = nI 21 := by rw [ef107]; exact zu_s
        refine lv_aload_n hx hb dX9_measure_154 rfl (lv_at hl 0 rfl) ?_
        refine zGetR (D := D) (ci := 9) (C := RX9) (T := TX9) (N := 6) hx hb hts hiX9 hown hH (zk_22 hF) rfl 3 (by decide) rfl hw2 (fun _ h9 => h9) dX9_measure_155 (zr_22_3 hF) ?_
        refine lv_iconst (v := nI 1) hx hb dX9_measure_158 (by decide) ?_
        refine lv_bipush (v := nI 42) hx hb dX9_measure_159 (by decide) ?_
        refine zIastN (D := D) hx hb hH hS (zk_25 hF) (zn_25 hF) (by omega) (by omega) dX9_measure_161 (fun H locs hH hS => ?_)
        obtain ⟨f110, ef110⟩ : ∃ f9 : zFi, f9 = zu f107 25 1 (nI 42) := ⟨_, rfl⟩
        rw [← ef110] at hH
        have q111 : f110 22 1 = nI p := by rw [ef110, zu_n (fun h9 => absurd h9.1 (by decide))]; exact q108
        have q112 : f110 25 0 = nI 21 := by rw [ef110, zu_n (fun h9 => absurd h9.2 (by decide))]; exact q109
        have q113 : f110 25 1 = nI 42 := by rw [ef110]; exact zu_s
        refine lv_aload_n hx hb dX9_measure_162 rfl (lv_at hl 0 rfl) ?_
        refine zGetR (D := D) (ci := 9) (C := RX9) (T := TX9) (N := 6) hx hb hts hiX9 hown hH (zk_22 hF) rfl 3 (by decide) rfl hw2 (fun _ h9 => h9) dX9_measure_163 (zr_22_3 hF) ?_
        refine lv_iconst (v := nI 2) hx hb dX9_measure_166 (by decide) ?_
        refine lv_iconst (v := nI 2) hx hb dX9_measure_167 (by decide) ?_
        refine lv_iload_n hx hb dX9_measure_168 rfl (lv_at hl 3 rfl) ?_
        refine lv_imul hx hb dX9_measure_169 ?_
        refine lv_topi (fun v114 ev114 => ?_)
        refine zIastN (D := D) hx hb hH hS (zk_25 hF) (zn_25 hF) (by omega) (by omega) dX9_measure_170 (fun H locs hH hS => ?_)
        obtain ⟨f115, ef115⟩ : ∃ f9 : zFi, f9 = zu f110 25 2 v114 := ⟨_, rfl⟩
        rw [← ef115] at hH
        have q116 : f115 22 1 = nI p := by rw [ef115, zu_n (fun h9 => absurd h9.1 (by decide))]; exact q111
        have q117 : f115 25 0 = nI 21 := by rw [ef115, zu_n (fun h9 => absurd h9.2 (by decide))]; exact q112
        have q118 : f115 25 1 = nI 42 := by rw [ef115, zu_n (fun h9 => absurd h9.2 (by decide))]; exact q113
        have q119 : f115 25 2 = v114 := by rw [ef115]; exact zu_s
        refine lv_aload_n hx hb dX9_measure_171 rfl (lv_at hl 0 rfl) ?_
        refine zGetR (D := D) (ci := 9) (C := RX9) (T := TX9) (N := 6) hx hb hts hiX9 hown hH (zk_22 hF) rfl 3 (by decide) rfl hw2 (fun _ h9 => h9) dX9_measure_172 (zr_22_3 hF) ?_
        refine lv_iconst (v := nI 3) hx hb dX9_measure_175 (by decide) ?_
        refine lv_iconst (v := nI 2) hx hb dX9_measure_176 (by decide) ?_
        refine lv_bipush (v := nI 21) hx hb dX9_measure_177 (by decide) ?_
        refine lv_iload_n hx hb dX9_measure_179 rfl (lv_at hl 2 rfl) ?_
        refine lv_isub hx hb dX9_measure_180 ?_
        refine lv_topi (fun v120 ev120 => ?_)
        refine lv_imul hx hb dX9_measure_181 ?_
        refine lv_topi (fun v121 ev121 => ?_)
        refine zIastN (D := D) hx hb hH hS (zk_25 hF) (zn_25 hF) (by omega) (by omega) dX9_measure_182 (fun H locs hH hS => ?_)
        obtain ⟨f122, ef122⟩ : ∃ f9 : zFi, f9 = zu f115 25 3 v121 := ⟨_, rfl⟩
        rw [← ef122] at hH
        have q123 : f122 22 1 = nI p := by rw [ef122, zu_n (fun h9 => absurd h9.1 (by decide))]; exact q116
        have q124 : f122 25 0 = nI 21 := by rw [ef122, zu_n (fun h9 => absurd h9.2 (by decide))]; exact q117
        have q125 : f122 25 1 = nI 42 := by rw [ef122, zu_n (fun h9 => absurd h9.2 (by decide))]; exact q118
        have q126 : f122 25 2 = v114 := by rw [ef122, zu_n (fun h9 => absurd h9.2 (by decide))]; exact q119
        have q127 : f122 25 3 = v121 := by rw [ef122]; exact zu_s
        refine lv_aload_n hx hb dX9_measure_183 rfl (lv_at hl 0 rfl) ?_
        refine zGetR (D := D) (ci := 9) (C := RX9) (T := TX9) (N := 6) hx hb hts hiX9 hown hH (zk_22 hF) rfl 3 (by decide) rfl hw2 (fun _ h9 => h9) dX9_measure_184 (zr_22_3 hF) ?_
        refine lv_iconst (v := nI 4) hx hb dX9_measure_187 (by decide) ?_
        refine lv_iconst (v := nI 2) hx hb dX9_measure_188 (by decide) ?_
        refine lv_bipush (v := nI 21) hx hb dX9_measure_189 (by decide) ?_
        refine lv_iload hx hb dX9_measure_191 (lv_at hl 4 rfl) ?_
        refine lv_isub hx hb dX9_measure_193 ?_
        refine lv_topi (fun v128 ev128 => ?_)
        refine lv_imul hx hb dX9_measure_194 ?_
        refine lv_topi (fun v129 ev129 => ?_)
        refine zIastN (D := D) hx hb hH hS (zk_25 hF) (zn_25 hF) (by omega) (by omega) dX9_measure_195 (fun H locs hH hS => ?_)
        obtain ⟨f130, ef130⟩ : ∃ f9 : zFi, f9 = zu f122 25 4 v129 := ⟨_, rfl⟩
        rw [← ef130] at hH
        have q131 : f130 22 1 = nI p := by rw [ef130, zu_n (fun h9 => absurd h9.1 (by decide))]; exact q123
        have q132 : f130 25 0 = nI 21 := by rw [ef130, zu_n (fun h9 => absurd h9.2 (by decide))]; exact q124
        have q133 : f130 25 1 = nI 42 := by rw [ef130, zu_n (fun h9 => absurd h9.2 (by decide))]; exact q125
        have q134 : f130 25 2 = v114 := by rw [ef130, zu_n (fun h9 => absurd h9.2 (by decide))]; exact q126
        have q135 : f130 25 3 = v121 := by rw [ef130, zu_n (fun h9 => absurd h9.2 (by decide))]; exact q127
        have q136 : f130 25 4 = v129 := by rw [ef130]; exact zu_s
        refine lv_aload_n hx hb dX9_measure_196 rfl (lv_at hl 0 rfl) ?_
        refine zGetR (D := D) (ci := 9) (C := RX9) (T := TX9) (N := 6) hx hb hts hiX9 hown hH (zk_22 hF) rfl 3 (by decide) rfl hw2 (fun _ h9 => h9) dX9_measure_197 (zr_22_3 hF) ?_
        refine lv_iconst (v := nI 5) hx hb dX9_measure_200 (by decide) ?_
        refine lv_iload_n hx hb dX9_measure_201 rfl (lv_at hl 3 rfl) ?_
        refine lv_if_ne (tgt := 209) hx hb dX9_measure_202 (by decide) (fun c137 => ?_) (fun c137 => ?_)
        · have zc137 := c137
          replace zc137 := zc_neq (rfl) ((by decide : (0 : Int32).toInt = 0)) zc137
          refine lv_ldc (v := nI 1000000) hx hb hown hw3 dX9_measure_209 ?_
          refine zIastN (D := D) hx hb hH hS (zk_25 hF) (zn_25 hF) (by omega) (by omega) dX9_measure_211 (fun H locs hH hS => ?_)
          obtain ⟨f138, ef138⟩ : ∃ f9 : zFi, f9 = zu f130 25 5 (nI 1000000) := ⟨_, rfl⟩
          rw [← ef138] at hH
          have q139 : f138 22 1 = nI p := by rw [ef138, zu_n (fun h9 => absurd h9.1 (by decide))]; exact q131
          have q140 : f138 25 0 = nI 21 := by rw [ef138, zu_n (fun h9 => absurd h9.2 (by decide))]; exact q132
          have q141 : f138 25 1 = nI 42 := by rw [ef138, zu_n (fun h9 => absurd h9.2 (by decide))]; exact q133
          have q142 : f138 25 2 = v114 := by rw [ef138, zu_n (fun h9 => absurd h9.2 (by decide))]; exact q134
          have q143 : f138 25 3 = v121 := by rw [ef138, zu_n (fun h9 => absurd h9.2 (by decide))]; exact q135
          have q144 : f138 25 4 = v129 := by rw [ef138, zu_n (fun h9 => absurd h9.2 (by decide))]; exact q136
          have q145 : f138 25 5 = nI 1000000 := by rw [ef138]; exact zu_s
          refine W.widen (k := 0) (n := 0) (by decide) (by decide) ?_
          exact W.vret hx hb hr (fun t9 ht9 hW9 => ⟨⟨f138, rfl, fun a b h => by rw [ef138, zu_n (by omega), ef130, zu_n (by omega), ef122, zu_n (by omega), ef115, zu_n (by omega), ef110, zu_n (by omega), ef107, zu_n (by omega)]; exact hfr2 a b h, zEnd1 hH ht9 hW9⟩, hS.F ht9⟩) hS.2.2 dX9_measure_212
        · have zc137 := c137
          replace zc137 := zc_eq (rfl) ((by decide : (0 : Int32).toInt = 0)) zc137
          refine lv_iconst (v := nI 0) hx hb dX9_measure_205 (by decide) ?_
          refine lv_goto (tgt := 211) hx hb dX9_measure_206 (by decide) ?_
          refine zIastN (D := D) hx hb hH hS (zk_25 hF) (zn_25 hF) (by omega) (by omega) dX9_measure_211 (fun H locs hH hS => ?_)
          obtain ⟨f146, ef146⟩ : ∃ f9 : zFi, f9 = zu f130 25 5 (nI 0) := ⟨_, rfl⟩
          rw [← ef146] at hH
          have q147 : f146 22 1 = nI p := by rw [ef146, zu_n (fun h9 => absurd h9.1 (by decide))]; exact q131
          have q148 : f146 25 0 = nI 21 := by rw [ef146, zu_n (fun h9 => absurd h9.2 (by decide))]; exact q132
          have q149 : f146 25 1 = nI 42 := by rw [ef146, zu_n (fun h9 => absurd h9.2 (by decide))]; exact q133
          have q150 : f146 25 2 = v114 := by rw [ef146, zu_n (fun h9 => absurd h9.2 (by decide))]; exact q134
          have q151 : f146 25 3 = v121 := by rw [ef146, zu_n (fun h9 => absurd h9.2 (by decide))]; exact q135
          have q152 : f146 25 4 = v129 := by rw [ef146, zu_n (fun h9 => absurd h9.2 (by decide))]; exact q136
          have q153 : f146 25 5 = nI 0 := by rw [ef146]; exact zu_s
          refine W.widen (k := 0) (n := 0) (by decide) (by decide) ?_
          exact W.vret hx hb hr (fun t9 ht9 hW9 => ⟨⟨f146, rfl, fun a b h => by rw [ef146, zu_n (by omega), ef130, zu_n (by omega), ef122, zu_n (by omega), ef115, zu_n (by omega), ef110, zu_n (by omega), ef107, zu_n (by omega)]; exact hfr2 a b h, zEnd1 hH ht9 hW9⟩, hS.F ht9⟩) hS.2.2 dX9_measure_212
      · have zc106 := c106
        replace zc106 := zc_nle (nI_toInt (by omega)) (nI_toInt (by omega)) zc106
        refine lv_aload_n hx hb dX9_measure_101 rfl (lv_at hl 0 rfl) ?_
        refine zGetR (D := D) (ci := 9) (C := RX9) (T := TX9) (N := 6) hx hb hts hiX9 hown hH (zk_22 hF) rfl 2 (by decide) rfl hw4 (fun _ h9 => h9) dX9_measure_102 (zr_22_2 hF) ?_
        refine lv_iload hx hb dX9_measure_105 (lv_at hl 5 rfl) ?_
        refine zZaldN (D := D) hx hb hH (zk_24 hF) (zn_24 hF) (by omega) (by omega) rfl dX9_measure_107 ?_
        refine lv_if_eq (tgt := 140) hx hb dX9_measure_108 (by decide) (fun c154 => ?_) (fun c154 => ?_)
        · have zc154 := c154
          replace zc154 := zc_eq (rfl) ((by decide : (0 : Int32).toInt = 0)) zc154
          refine lv_iinc (v := nI (i3 + 1)) (lv' := [(5, .int (nI (i3 + 1))), (0, .ref (τ.1 22)), (1, .int x), (2, .int lo), (3, .int hi), (4, .int wd)]) hx hb dX9_measure_140 hl (k := 5) rfl (by rw [show (Int32.ofInt 1 : Int32) = nI 1 from by decide, nI_add]) (by decide) rfl (fun ls hl => ?_)
          refine lv_goto (tgt := 94) hx hb dX9_measure_143 (by decide) ?_
          exact ih105 (21 - (i3 + 1)) (by omega) (i3 + 1, _, _, _) _ _ _ (show 21 - (i3 + 1) = 21 - (i3 + 1) ∧ (1 ≤ (i3 + 1) ∧ (i3 + 1) ≤ 21) ∧ zH D A τ f2 fr ol s _ ∧ va_S A s.heap _ _ ∧ lv_has _ 6 [(0, .ref (τ.1 22)), (1, .int x), (2, .int _), (3, .int _), (4, .int _), (5, .int (nI (i3 + 1)))] from ⟨rfl, ⟨by omega, by omega⟩, hH, hS, lv_sub hl [1, 2, 3, 4, 5, 0] rfl⟩)
        · have zc154 := c154
          replace zc154 := zc_neq (rfl) ((by decide : (0 : Int32).toInt = 0)) zc154
          refine lv_iload_n hx hb dX9_measure_111 rfl (lv_at hl 3 rfl) ?_
          refine lv_if_ne (tgt := 119) hx hb dX9_measure_112 (by decide) (fun c155 => ?_) (fun c155 => ?_)
          · have zc155 := c155
            replace zc155 := zc_neq (rfl) ((by decide : (0 : Int32).toInt = 0)) zc155
            refine lv_iload hx hb dX9_measure_119 (lv_at hl 4 rfl) ?_
            refine lv_iload hx hb dX9_measure_121 (lv_at hl 5 rfl) ?_
            refine lv_iload_n hx hb dX9_measure_123 rfl (lv_at hl 3 rfl) ?_
            refine lv_isub hx hb dX9_measure_124 ?_
            refine lv_topi (fun v156 ev156 => ?_)
            refine va_mmax hx hb (by rw [hml]; exact hl.1.symm) hown hw5 hw6 hw7 hw8 (Nat.le_of_ble_eq_true rfl) (Nat.le_of_ble_eq_true rfl) (Nat.le_of_ble_eq_true rfl) (Nat.le_of_ble_eq_true rfl) dX9_measure_125 ?_
            refine lv_topi (fun v157 ev157 => ?_)
            refine lv_istore (lv' := [(4, .int v157), (0, .ref (τ.1 22)), (1, .int x), (2, .int lo), (3, .int hi), (5, .int (nI i3))]) hx hb dX9_measure_128 hl (by decide) rfl (fun ls hl => ?_)
            refine lv_iload_n hx hb dX9_measure_130 rfl (lv_at hl 3 rfl) ?_
            refine lv_iload hx hb dX9_measure_131 (lv_at hl 5 rfl) ?_
            refine va_mmin hx hb (by rw [hml]; exact hl.1.symm) hown hw9 hw10 hw7 hw11 (Nat.le_of_ble_eq_true rfl) (Nat.le_of_ble_eq_true rfl) (Nat.le_of_ble_eq_true rfl) (Nat.le_of_ble_eq_true rfl) dX9_measure_133 ?_
            refine lv_topi (fun v158 ev158 => ?_)
            refine lv_istore_n (lv' := [(2, .int v158), (4, .int v157), (0, .ref (τ.1 22)), (1, .int x), (3, .int hi), (5, .int (nI i3))]) hx hb dX9_measure_136 rfl hl (by decide) rfl (fun ls hl => ?_)
            refine lv_iload hx hb dX9_measure_137 (lv_at hl 5 rfl) ?_
            refine lv_istore_n (lv' := [(3, .int (nI i3)), (2, .int v158), (4, .int v157), (0, .ref (τ.1 22)), (1, .int x), (5, .int (nI i3))]) hx hb dX9_measure_139 rfl hl (by decide) rfl (fun ls hl => ?_)
            refine lv_iinc (v := nI (i3 + 1)) (lv' := [(5, .int (nI (i3 + 1))), (3, .int (nI i3)), (2, .int v158), (4, .int v157), (0, .ref (τ.1 22)), (1, .int x)]) hx hb dX9_measure_140 hl (k := 5) rfl (by rw [show (Int32.ofInt 1 : Int32) = nI 1 from by decide, nI_add]) (by decide) rfl (fun ls hl => ?_)
            refine lv_goto (tgt := 94) hx hb dX9_measure_143 (by decide) ?_
            exact ih105 (21 - (i3 + 1)) (by omega) (i3 + 1, _, _, _) _ _ _ (show 21 - (i3 + 1) = 21 - (i3 + 1) ∧ (1 ≤ (i3 + 1) ∧ (i3 + 1) ≤ 21) ∧ zH D A τ f2 fr ol s _ ∧ va_S A s.heap _ _ ∧ lv_has _ 6 [(0, .ref (τ.1 22)), (1, .int x), (2, .int _), (3, .int _), (4, .int _), (5, .int (nI (i3 + 1)))] from ⟨rfl, ⟨by omega, by omega⟩, hH, hS, lv_sub hl [4, 5, 2, 1, 3, 0] rfl⟩)
          · have zc155 := c155
            replace zc155 := zc_eq (rfl) ((by decide : (0 : Int32).toInt = 0)) zc155
            refine lv_iconst (v := nI 0) hx hb dX9_measure_115 (by decide) ?_
            refine lv_goto (tgt := 128) hx hb dX9_measure_116 (by decide) ?_
            refine lv_istore (lv' := [(4, .int (nI 0)), (0, .ref (τ.1 22)), (1, .int x), (2, .int lo), (3, .int hi), (5, .int (nI i3))]) hx hb dX9_measure_128 hl (by decide) rfl (fun ls hl => ?_)
            refine lv_iload_n hx hb dX9_measure_130 rfl (lv_at hl 3 rfl) ?_
            refine lv_iload hx hb dX9_measure_131 (lv_at hl 5 rfl) ?_
            refine va_mmin hx hb (by rw [hml]; exact hl.1.symm) hown hw9 hw10 hw7 hw11 (Nat.le_of_ble_eq_true rfl) (Nat.le_of_ble_eq_true rfl) (Nat.le_of_ble_eq_true rfl) (Nat.le_of_ble_eq_true rfl) dX9_measure_133 ?_
            refine lv_topi (fun v159 ev159 => ?_)
            refine lv_istore_n (lv' := [(2, .int v159), (4, .int (nI 0)), (0, .ref (τ.1 22)), (1, .int x), (3, .int hi), (5, .int (nI i3))]) hx hb dX9_measure_136 rfl hl (by decide) rfl (fun ls hl => ?_)
            refine lv_iload hx hb dX9_measure_137 (lv_at hl 5 rfl) ?_
            refine lv_istore_n (lv' := [(3, .int (nI i3)), (2, .int v159), (4, .int (nI 0)), (0, .ref (τ.1 22)), (1, .int x), (5, .int (nI i3))]) hx hb dX9_measure_139 rfl hl (by decide) rfl (fun ls hl => ?_)
            refine lv_iinc (v := nI (i3 + 1)) (lv' := [(5, .int (nI (i3 + 1))), (3, .int (nI i3)), (2, .int v159), (4, .int (nI 0)), (0, .ref (τ.1 22)), (1, .int x)]) hx hb dX9_measure_140 hl (k := 5) rfl (by rw [show (Int32.ofInt 1 : Int32) = nI 1 from by decide, nI_add]) (by decide) rfl (fun ls hl => ?_)
            refine lv_goto (tgt := 94) hx hb dX9_measure_143 (by decide) ?_
            exact ih105 (21 - (i3 + 1)) (by omega) (i3 + 1, _, _, _) _ _ _ (show 21 - (i3 + 1) = 21 - (i3 + 1) ∧ (1 ≤ (i3 + 1) ∧ (i3 + 1) ≤ 21) ∧ zH D A τ f2 fr ol s _ ∧ va_S A s.heap _ _ ∧ lv_has _ 6 [(0, .ref (τ.1 22)), (1, .int x), (2, .int _), (3, .int _), (4, .int _), (5, .int (nI (i3 + 1)))] from ⟨rfl, ⟨by omega, by omega⟩, hH, hS, lv_sub hl [4, 5, 2, 1, 3, 0] rfl⟩)
    · have zc104 := c104
      replace zc104 := zc_nle (nI_toInt (by omega)) (nI_toInt (by omega)) zc104
      refine lv_aload_n hx hb dX9_measure_31 rfl (lv_at hl 0 rfl) ?_
      refine zGetR (D := D) (ci := 9) (C := RX9) (T := TX9) (N := 6) hx hb hts hiX9 hown hH (zk_22 hF) rfl 0 (by decide) rfl hw12 (fun _ h9 => h9) dX9_measure_32 (zr_22_0 hF) ?_
      refine lv_iload_n hx hb dX9_measure_35 rfl (lv_at hl 2 rfl) ?_
      obtain ⟨t160, ht160, gt160⟩ := hP.2.2 i2 (by omega)
      refine zAaldS (D := D) hx hb hH (zk_23 hF) (by decide) (by decide) rfl (zn_23 hF) (by omega) (by omega) gt160 dX9_measure_36 ?_
      refine zGetI (D := D) (ci := 8) (C := RX8) (T := TX8) (N := 10) hx hb hts hiX8 hown hH (hT.2.2.1 t160 (by omega)).1.1 rfl 3 (by decide) rfl hw14 (fun _ h9 => h9) dX9_measure_37 rfl ?_
      refine lv_iload_n hx hb dX9_measure_40 rfl (lv_at hl 1 rfl) ?_
      refine lv_icmp_ne (tgt := 77) hx hb dX9_measure_41 (by decide) (fun c161 => ?_) (fun c161 => ?_)
      · have zc161 := c161
        replace zc161 := zc_neq (rfl) (rfl) zc161
        refine lv_iinc (v := nI (i2 + 1)) (lv' := [(2, .int (nI (i2 + 1))), (0, .ref (τ.1 22)), (1, .int x)]) hx hb dX9_measure_77 hl (k := 2) rfl (by rw [show (Int32.ofInt 1 : Int32) = nI 1 from by decide, nI_add]) (by decide) rfl (fun ls hl => ?_)
        refine lv_goto (tgt := 23) hx hb dX9_measure_80 (by decide) ?_
        exact ih103 (p - (i2 + 1)) (by omega) (i2 + 1, f2) _ _ _ (show p - (i2 + 1) = p - (i2 + 1) ∧ ((i2 + 1) ≤ p ∧ ∀ a b, ¬ (a = 24 ∨ a = 25) → f2 a b = fi a b) ∧ zH D A τ f2 fr ol s _ ∧ va_S A s.heap _ _ ∧ lv_has _ 6 [(0, .ref (τ.1 22)), (1, .int x), (2, .int (nI (i2 + 1)))] from ⟨rfl, ⟨by omega, fun a b h => hfr2 a b h⟩, hH, hS, lv_sub hl [1, 2, 0] rfl⟩)
      · have zc161 := c161
        replace zc161 := zc_eq (rfl) (rfl) zc161
        refine lv_aload_n hx hb dX9_measure_44 rfl (lv_at hl 0 rfl) ?_
        refine zGetR (D := D) (ci := 9) (C := RX9) (T := TX9) (N := 6) hx hb hts hiX9 hown hH (zk_22 hF) rfl 0 (by decide) rfl hw12 (fun _ h9 => h9) dX9_measure_45 (zr_22_0 hF) ?_
        refine lv_iload_n hx hb dX9_measure_48 rfl (lv_at hl 2 rfl) ?_
        refine zAaldS (D := D) hx hb hH (zk_23 hF) (by decide) (by decide) rfl (zn_23 hF) (by omega) (by omega) gt160 dX9_measure_49 ?_
        refine zGetI (D := D) (ci := 8) (C := RX8) (T := TX8) (N := 10) hx hb hts hiX8 hown hH (hT.2.2.1 t160 (by omega)).1.1 rfl 4 (by decide) rfl hw15 (fun _ h9 => h9) dX9_measure_50 rfl ?_
        refine lv_iconst (v := nI 1) hx hb dX9_measure_53 (by decide) ?_
        refine lv_bipush (v := nI 20) hx hb dX9_measure_54 (by decide) ?_
        have hznn := hz.1.2.2.2.2.2.1 _ (List.mem_of_getElem? (i := 8) rfl)
        refine va_calli (va_runSN (host := RX11) (As := [.int (f2 (300 + t160) 4), .int (nI 1), .int (nI 20)]) (rest := []) ⟨hx, hb, hml, hown, hts⟩ (c_within l hl0 D A sad τ f2 fr ol (f2 (300 + t160) 4) (nI 1) (nI 20)) ⟨va_cnB (host := RX11) (y := yX11_within) 3 hts gX9_measure_X11_within_n63 rfl rfl rfl hznn hw16 (by decide +kernel) ⟨Nat.le_of_ble_eq_true rfl, Nat.le_of_ble_eq_true rfl⟩, hw17, trivial⟩ ⟨zQc_bl, zQc_at hz hS hA hH⟩ rfl rfl hl.1 rfl (lv_room (Nat.le_of_ble_eq_true rfl)) dX9_measure_56 ⟨Nat.le_of_ble_eq_true rfl, Nat.le_of_ble_eq_true rfl⟩) hS (fun q _ h => h) (fun q h => h) (fun r162 u9 t9 H1 locs ht9 hvm9 hw hB hz1 hk1 hS => ?_)
        have hH := zMv ht9 hvm9 hB
        generalize H1 = H at hH hS ⊢
        rcases hw with ⟨rfl, hy163⟩ | ⟨rfl, hn164⟩
        · skip
          replace hy163 := zWi1 (rfl) (nI_toInt (by omega)) (nI_toInt (by omega)) hy163
          refine lv_if_eq (tgt := 77) hx hb dX9_measure_59 (by decide) (fun c165 => absurd c165 (by decide)) (fun c165 => ?_)
          refine lv_aload_n hx hb dX9_measure_62 rfl (lv_at hl 0 rfl) ?_
          refine zGetR (D := D) (ci := 9) (C := RX9) (T := TX9) (N := 6) hx hb hts hiX9 hown hH (zk_22 hF) rfl 2 (by decide) rfl hw4 (fun _ h9 => h9) dX9_measure_63 (zr_22_2 hF) ?_
          refine lv_aload_n hx hb dX9_measure_66 rfl (lv_at hl 0 rfl) ?_
          refine zGetR (D := D) (ci := 9) (C := RX9) (T := TX9) (N := 6) hx hb hts hiX9 hown hH (zk_22 hF) rfl 0 (by decide) rfl hw12 (fun _ h9 => h9) dX9_measure_67 (zr_22_0 hF) ?_
          refine lv_iload_n hx hb dX9_measure_70 rfl (lv_at hl 2 rfl) ?_
          refine zAaldS (D := D) hx hb hH (zk_23 hF) (by decide) (by decide) rfl (zn_23 hF) (by omega) (by omega) gt160 dX9_measure_71 ?_
          refine zGetI (D := D) (ci := 8) (C := RX8) (T := TX8) (N := 10) hx hb hts hiX8 hown hH (hT.2.2.1 t160 (by omega)).1.1 rfl 4 (by decide) rfl hw15 (fun _ h9 => h9) dX9_measure_72 rfl ?_
          refine lv_iconst (v := nI 1) hx hb dX9_measure_75 (by decide) ?_
          obtain ⟨k166, hk166, ek166⟩ := zNatB (x := f2 (300 + t160) 4) (n := 21) (by omega) (by omega)
          rw [ek166]
          refine zZastN (D := D) hx hb hH hS (zk_24 hF) (zn_24 hF) (by omega) (by omega) dX9_measure_76 (fun H locs hH hS => ?_)
          obtain ⟨f167, ef167⟩ : ∃ f9 : zFi, f9 = zu f2 24 k166 (vp_nar .boolean (nI 1)) := ⟨_, rfl⟩
          rw [← ef167] at hH
          have q168 : f167 22 1 = nI p := by rw [ef167, zu_n (fun h9 => absurd h9.1 (by decide))]; exact q1
          have q169 : f167 24 k166 = (vp_nar .boolean (nI 1)) := by rw [ef167]; exact zu_s
          refine lv_iinc (v := nI (i2 + 1)) (lv' := [(2, .int (nI (i2 + 1))), (0, .ref (τ.1 22)), (1, .int x)]) hx hb dX9_measure_77 hl (k := 2) rfl (by rw [show (Int32.ofInt 1 : Int32) = nI 1 from by decide, nI_add]) (by decide) rfl (fun ls hl => ?_)
          refine lv_goto (tgt := 23) hx hb dX9_measure_80 (by decide) ?_
          exact ih103 (p - (i2 + 1)) (by omega) (i2 + 1, f167) _ _ _ (show p - (i2 + 1) = p - (i2 + 1) ∧ ((i2 + 1) ≤ p ∧ ∀ a b, ¬ (a = 24 ∨ a = 25) → f167 a b = fi a b) ∧ zH D A τ f167 fr ol s _ ∧ va_S A s.heap _ _ ∧ lv_has _ 6 [(0, .ref (τ.1 22)), (1, .int x), (2, .int (nI (i2 + 1)))] from ⟨rfl, ⟨by omega, fun a b h => by rw [ef167, zu_n (by omega)]; exact hfr2 a b h⟩, hH, hS, lv_sub hl [1, 2, 0] rfl⟩)
        · skip
          replace hn164 := zWi0 (rfl) (nI_toInt (by omega)) (nI_toInt (by omega)) hn164
          refine lv_if_eq (tgt := 77) hx hb dX9_measure_59 (by decide) (fun c170 => ?_) (fun c170 => absurd (by decide) c170)
          refine lv_iinc (v := nI (i2 + 1)) (lv' := [(2, .int (nI (i2 + 1))), (0, .ref (τ.1 22)), (1, .int x)]) hx hb dX9_measure_77 hl (k := 2) rfl (by rw [show (Int32.ofInt 1 : Int32) = nI 1 from by decide, nI_add]) (by decide) rfl (fun ls hl => ?_)
          refine lv_goto (tgt := 23) hx hb dX9_measure_80 (by decide) ?_
          exact ih103 (p - (i2 + 1)) (by omega) (i2 + 1, f2) _ _ _ (show p - (i2 + 1) = p - (i2 + 1) ∧ ((i2 + 1) ≤ p ∧ ∀ a b, ¬ (a = 24 ∨ a = 25) → f2 a b = fi a b) ∧ zH D A τ f2 fr ol s _ ∧ va_S A s.heap _ _ ∧ lv_has _ 6 [(0, .ref (τ.1 22)), (1, .int x), (2, .int (nI (i2 + 1)))] from ⟨rfl, ⟨by omega, fun a b h => hfr2 a b h⟩, hH, hS, lv_sub hl [1, 2, 0] rfl⟩)
  · have zc102 := c102
    replace zc102 := zc_nle (nI_toInt (by omega)) (nI_toInt (by omega)) zc102
    refine lv_aload_n hx hb dX9_measure_8 rfl (lv_at hl 0 rfl) ?_
    refine zGetR (D := D) (ci := 9) (C := RX9) (T := TX9) (N := 6) hx hb hts hiX9 hown hH (zk_22 hF) rfl 2 (by decide) rfl hw4 (fun _ h9 => h9) dX9_measure_9 (zr_22_2 hF) ?_
    refine lv_iload_n hx hb dX9_measure_12 rfl (lv_at hl 2 rfl) ?_
    refine lv_iconst (v := nI 0) hx hb dX9_measure_13 (by decide) ?_
    refine zZastN (D := D) hx hb hH hS (zk_24 hF) (zn_24 hF) (by omega) (by omega) dX9_measure_14 (fun H locs hH hS => ?_)
    obtain ⟨f171, ef171⟩ : ∃ f9 : zFi, f9 = zu f 24 i (vp_nar .boolean (nI 0)) := ⟨_, rfl⟩
    rw [← ef171] at hH
    have q172 : f171 22 1 = nI p := by rw [ef171, zu_n (fun h9 => absurd h9.1 (by decide))]; exact q1
    have q173 : f171 24 i = (vp_nar .boolean (nI 0)) := by rw [ef171]; exact zu_s
    refine lv_iinc (v := nI (i + 1)) (lv' := [(2, .int (nI (i + 1))), (0, .ref (τ.1 22)), (1, .int x)]) hx hb dX9_measure_15 hl (k := 2) rfl (by rw [show (Int32.ofInt 1 : Int32) = nI 1 from by decide, nI_add]) (by decide) rfl (fun ls hl => ?_)
    refine lv_goto (tgt := 2) hx hb dX9_measure_18 (by decide) ?_
    exact ih101 (21 - (i + 1)) (by omega) (i + 1, f171) _ _ _ (show 21 - (i + 1) = 21 - (i + 1) ∧ ((i + 1) ≤ 21 ∧ ∀ a b, ¬ (a = 24 ∨ a = 25) → f171 a b = fi a b) ∧ zH D A τ f171 fr ol s _ ∧ va_S A s.heap _ _ ∧ lv_has _ 6 [(0, .ref (τ.1 22)), (1, .int x), (2, .int (nI (i + 1)))] from ⟨rfl, ⟨by omega, fun a b h => by rw [ef171, zu_n (by omega)]; exact hfr a b h⟩, hH, hS, lv_sub hl [1, 2, 0] rfl⟩)
set_option maxHeartbeats 4000000 in
set_option maxRecDepth 100000 in
/-- Walk.goToNextStreet -/
theorem c_goNext (l : Launch) (hl0 : l.stackTraces = false) (D : va_G) (A : Nat → Prop) (sad : Nat → Nat) (τ : zTy) (fi : zFi) (fr : zFr) (ol : Int64) (hF : zFix τ fr) : Met l yX9_goToNextStreet wsX9_goToNextStreet ({ frames := 2, cells := 0, slots := 0, locals := 52 }) (va_Pc [.ref (τ.1 22)] (zQc D A sad τ fi fr ol)) (va_Qv (fun (u : zFi) => ∀ i k, ¬ (i = 26 ∨ i = 27) → u i k = fi i k) (fun (u : zFi) (t : State) => zH D A τ u fr ol t t.heap) A) 0 0 A := by
  refine Met.ofW (cc := cX9_goToNextStreet) (maxL := 2) (ret := none) (by decide) rfl ?_
  intro p9 e9 s m args below meth c9 s₁ B hml hv
  obtain ⟨rfl, hz, hH, hA⟩ := hv
  have hx := B.exec
  have hb := B.bytes
  have hr := B.returns
  have hts := atoms_spec (ws := wsX9_goToNextStreet) B.pre
  have hown : s.vm.findClass RX9 = some m.cls := findClass_of_methodNamed B.named
  have hlocks := B.notSynchronized
  have hS : va_S A s.heap s.heap [] := va_S.rf
  have hl := lv_entry ([.ref (τ.1 22)]) (n := 2) (Nat.le_of_ble_eq_true rfl)
  rw [lg_entry_eq]
  generalize (lg_sl ([.ref (τ.1 22)]) ++ List.replicate (2 - (lg_sl ([.ref (τ.1 22)])).length) Slot.unset).toArray = ls at hl ⊢
  have hl : lv_has ls 2 [(0, .ref (τ.1 22))] := hl
  have hiX9 : ∀ w ∈ u_ws RX9 TX9 6, w ∈ wsX9_goToNextStreet := fun _ h => List.mem_cons_of_mem _ (List.mem_append_right _ h)
  have hw1 := hts (.fieldLink RX9 28 "PostHouse$Walk" "nextBest" "[I") (by decide +kernel)
  have hw2 := hts (.constant RX9 35 1000000) (by decide +kernel)
  have hw3 := hts (.fieldLink RX9 25 "PostHouse$Walk" "best" "[I") (by decide +kernel)
  have hw4 := hts (.methodLink RX9 76 arraycopyName) (by decide +kernel)
  have hw5 := hts (.native arraycopyName) (by decide +kernel)
  have hw6 := hts (.static arraycopyName) (by decide +kernel)
  have hw7 := hts (.initialized "java/lang/System") (by decide +kernel)
  have hw8 := hts (.fieldLink RX9 70 "PostHouse$Walk" "LANE_FRONT" "[I") (by decide +kernel)
  have hw9 := hts (.fieldLink RX9 73 "PostHouse$Walk" "LANE_BACK" "[I") (by decide +kernel)
  refine lv_iconst (v := nI 0) hx hb dX9_goToNextStreet_0 (by decide) ?_
  refine lv_istore_n (lv' := [(1, .int (nI 0)), (0, .ref (τ.1 22))]) hx hb dX9_goToNextStreet_1 rfl hl (by decide) rfl (fun ls hl => ?_)
  refine zLp (σ := Nat × zFi) (fun x9 k9 H locs ls => (fun (i : Nat) (f : zFi) => k9 = 5 - i ∧ (i ≤ 5 ∧ ∀ a b, ¬ (a = 26 ∨ a = 27) → f a b = fi a b) ∧ zH D A τ f fr ol s H ∧ va_S A s.heap H locs ∧ lv_has ls 2 [(0, .ref (τ.1 22)), (1, .int (nI i))]) x9.1 x9.2) (0, fi) (5 - 0) (show 5 - 0 = 5 - 0 ∧ (0 ≤ 5 ∧ ∀ a b, ¬ (a = 26 ∨ a = 27) → fi a b = fi a b) ∧ zH D A τ fi fr ol s _ ∧ va_S A s.heap _ _ ∧ lv_has _ 2 [(0, .ref (τ.1 22)), (1, .int (nI 0))] from ⟨rfl, ⟨Nat.zero_le _, fun _ _ _ => rfl⟩, hH, hS, lv_sub hl [1, 0] rfl⟩) (fun k9 ih x9 H locs ls hv9 => ?_)
  obtain ⟨i, f⟩ := x9
  have hv9 : k9 = 5 - i ∧ (i ≤ 5 ∧ ∀ a b, ¬ (a = 26 ∨ a = 27) → f a b = fi a b) ∧ zH D A τ f fr ol s H ∧ va_S A s.heap H locs ∧ lv_has ls 2 [(0, .ref (τ.1 22)), (1, .int (nI i))] := hv9
  obtain ⟨hkih101, hv9, hH, hS, hl⟩ := hv9
  obtain ⟨h1, hfr⟩ := hv9
  have ih101 := ih
  clear ih
  refine lv_iload_n hx hb dX9_goToNextStreet_2 rfl (lv_at hl 1 rfl) ?_
  refine lv_iconst (v := nI 5) hx hb dX9_goToNextStreet_3 (by decide) ?_
  refine lv_icmp_ge (tgt := 39) hx hb dX9_goToNextStreet_4 (by decide) (fun c102 => ?_) (fun c102 => ?_)
  · have zc102 := c102
    replace zc102 := zc_le (nI_toInt (by omega)) (nI_toInt (by omega)) zc102
    refine lv_aload_n hx hb dX9_goToNextStreet_39 rfl (lv_at hl 0 rfl) ?_
    refine zGetR (D := D) (ci := 9) (C := RX9) (T := TX9) (N := 6) hx hb hts hiX9 hown hH (zk_22 hF) rfl 5 (by decide) rfl hw1 (fun _ h9 => h9) dX9_goToNextStreet_40 (zr_22_5 hF) ?_
    refine lv_iconst (v := nI 5) hx hb dX9_goToNextStreet_43 (by decide) ?_
    refine lv_ldc (v := nI 1000000) hx hb hown hw2 dX9_goToNextStreet_44 ?_
    refine zIastN (D := D) hx hb hH hS (zk_27 hF) (zn_27 hF) (by omega) (by omega) dX9_goToNextStreet_46 (fun H locs hH hS => ?_)
    obtain ⟨f103, ef103⟩ : ∃ f9 : zFi, f9 = zu f 27 5 (nI 1000000) := ⟨_, rfl⟩
    rw [← ef103] at hH
    have q104 : f103 27 5 = nI 1000000 := by rw [ef103]; exact zu_s
    refine lv_aload_n hx hb dX9_goToNextStreet_47 rfl (lv_at hl 0 rfl) ?_
    refine zGetR (D := D) (ci := 9) (C := RX9) (T := TX9) (N := 6) hx hb hts hiX9 hown hH (zk_22 hF) rfl 5 (by decide) rfl hw1 (fun _ h9 => h9) dX9_goToNextStreet_48 (zr_22_5 hF) ?_
    refine lv_iconst (v := nI 0) hx hb dX9_goToNextStreet_51 (by decide) ?_
    refine lv_aload_n hx hb dX9_goToNextStreet_52 rfl (lv_at hl 0 rfl) ?_
    refine zGetR (D := D) (ci := 9) (C := RX9) (T := TX9) (N := 6) hx hb hts hiX9 hown hH (zk_22 hF) rfl 4 (by decide) rfl hw3 (fun _ h9 => h9) dX9_goToNextStreet_53 (zr_22_4 hF) ?_
    refine lv_iconst (v := nI 0) hx hb dX9_goToNextStreet_56 (by decide) ?_
    refine lv_bipush (v := nI 6) hx hb dX9_goToNextStreet_57 (by decide) ?_
    refine zCopy (D := D) (i := 27) (j := 26) (N' := 6) hx hb (by rw [hml]; exact hl.1.symm) hown hw4 hw5 hw6 hw7 hH hS (by omega) (zk_27 hF) (zk_26 hF) (zn_27 hF) (zn_26 hF) rfl (by decide) (by decide) (by decide) (Nat.le_of_ble_eq_true rfl) (by decide +kernel) dX9_goToNextStreet_59 (fun H locs hH hS => ?_)
    obtain ⟨f105, ef105⟩ : ∃ f9 : zFi, f9 = fun a b => if a = 26 ∧ b < 6 then f103 27 b else f103 a b := ⟨_, rfl⟩
    rw [← ef105] at hH
    have q106 : f105 27 5 = nI 1000000 := by rw [ef105]; show (if _ then _ else _) = _; rw [if_neg (fun h9 => absurd h9.1 (by decide))]; exact q104
    refine W.widen (k := 0) (n := 0) (by decide) (by decide) ?_
    exact W.vret hx hb hr (fun t9 ht9 hW9 => ⟨⟨f105, rfl, fun a b h => by rw [ef105]; show (if _ then _ else _) = _; rw [if_neg (fun h8 => absurd h8.1 (by omega)), ef103, zu_n (by omega)]; exact hfr a b h, zEnd1 hH ht9 hW9⟩, hS.F ht9⟩) hS.2.2 dX9_goToNextStreet_62
  · have zc102 := c102
    replace zc102 := zc_nle (nI_toInt (by omega)) (nI_toInt (by omega)) zc102
    refine lv_aload_n hx hb dX9_goToNextStreet_7 rfl (lv_at hl 0 rfl) ?_
    refine zGetR (D := D) (ci := 9) (C := RX9) (T := TX9) (N := 6) hx hb hts hiX9 hown hH (zk_22 hF) rfl 5 (by decide) rfl hw1 (fun _ h9 => h9) dX9_goToNextStreet_8 (zr_22_5 hF) ?_
    refine lv_iload_n hx hb dX9_goToNextStreet_11 rfl (lv_at hl 1 rfl) ?_
    refine lv_aload_n hx hb dX9_goToNextStreet_12 rfl (lv_at hl 0 rfl) ?_
    refine lv_iload_n hx hb dX9_goToNextStreet_13 rfl (lv_at hl 1 rfl) ?_
    refine va_calli (va_runV (As := [.int (nI i)]) (rest := [.int (nI i), .ref (τ.1 27)]) ⟨hx, hb, hml, hown, hts⟩ (c_leastInto l hl0 D A sad τ f fr ol hF i (by omega)) (cwV 1 hts gX9_goToNextStreet_X9_leastInto rfl rfl rfl (by decide +kernel) ⟨Nat.le_of_ble_eq_true rfl, Nat.le_of_ble_eq_true rfl⟩) ⟨zQc_bl, zRecv hH (zk_22 hF) rfl, zQc_at hz hS hA hH⟩ rfl rfl hl.1 rfl (lv_room (Nat.le_of_ble_eq_true rfl)) dX9_goToNextStreet_14 ⟨Nat.le_of_ble_eq_true rfl, Nat.le_of_ble_eq_true rfl⟩) hS (fun q _ h => h) (fun q h => h) (fun r107 u9 t9 H1 locs ht9 hvm9 hw hB hz1 hk1 hS => ?_)
    have hH := zMv ht9 hvm9 hB
    generalize H1 = H at hH hS ⊢
    refine lv_bipush (v := nI 6) hx hb dX9_goToNextStreet_17 (by decide) ?_
    refine va_gets hx hb (hz.2.2 1 _ rfl).1 hS hown hw8 (fun _ h9 => h9) dX9_goToNextStreet_19 ?_
    refine lv_iload_n hx hb dX9_goToNextStreet_22 rfl (lv_at hl 1 rfl) ?_
    refine zSti (i := 1) hx hb hz hS rfl (show i < _ by simp only [List.length_cons, List.length_nil]; omega) (by decide) dX9_goToNextStreet_23 ?_
    refine lv_topi (fun v108 ev108 => ?_)
    refine va_gets hx hb (hz.2.2 2 _ rfl).1 hS hown hw9 (fun _ h9 => h9) dX9_goToNextStreet_24 ?_
    refine lv_iload_n hx hb dX9_goToNextStreet_27 rfl (lv_at hl 1 rfl) ?_
    refine zSti (i := 2) hx hb hz hS rfl (show i < _ by simp only [List.length_cons, List.length_nil]; omega) (by decide) dX9_goToNextStreet_28 ?_
    refine lv_topi (fun v109 ev109 => ?_)
    refine lv_iadd hx hb dX9_goToNextStreet_29 ?_
    refine lv_topi (fun v110 ev110 => ?_)
    refine lv_imul hx hb dX9_goToNextStreet_30 ?_
    refine lv_topi (fun v111 ev111 => ?_)
    refine lv_iadd hx hb dX9_goToNextStreet_31 ?_
    refine lv_topi (fun v112 ev112 => ?_)
    refine zIastN (D := D) hx hb hH hS (zk_27 hF) (zn_27 hF) (by omega) (by omega) dX9_goToNextStreet_32 (fun H locs hH hS => ?_)
    obtain ⟨f113, ef113⟩ : ∃ f9 : zFi, f9 = zu f 27 i v112 := ⟨_, rfl⟩
    rw [← ef113] at hH
    have q114 : f113 27 i = v112 := by rw [ef113]; exact zu_s
    refine lv_iinc (v := nI (i + 1)) (lv' := [(1, .int (nI (i + 1))), (0, .ref (τ.1 22))]) hx hb dX9_goToNextStreet_33 hl (k := 1) rfl (by rw [show (Int32.ofInt 1 : Int32) = nI 1 from by decide, nI_add]) (by decide) rfl (fun ls hl => ?_)
    refine lv_goto (tgt := 2) hx hb dX9_goToNextStreet_36 (by decide) ?_
    exact ih101 (5 - (i + 1)) (by omega) (i + 1, f113) _ _ _ (show 5 - (i + 1) = 5 - (i + 1) ∧ ((i + 1) ≤ 5 ∧ ∀ a b, ¬ (a = 26 ∨ a = 27) → f113 a b = fi a b) ∧ zH D A τ f113 fr ol s _ ∧ va_S A s.heap _ _ ∧ lv_has _ 2 [(0, .ref (τ.1 22)), (1, .int (nI (i + 1)))] from ⟨rfl, ⟨by omega, fun a b h => by rw [ef113, zu_n (by omega)]; exact hfr a b h⟩, hH, hS, lv_sub hl [1, 0] rfl⟩)
set_option maxHeartbeats 4000000 in
set_option maxRecDepth 100000 in
/-- Walk.leastSteps -/
theorem c_leastSteps (l : Launch) (hl0 : l.stackTraces = false) (D : va_G) (A : Nat → Prop) (sad : Nat → Nat) (τ : zTy) (fi : zFi) (fr : zFr) (ol : Int64) (hF : zFix τ fr) (n : Nat) (hT : zTh τ fi fr n) (p : Nat) (hP : zPk fi fr n p) : Met l yX9_leastSteps wsX9_leastSteps ({ frames := 3, cells := 0, slots := 0, locals := 73 }) (va_Pc [.ref (τ.1 22)] (zQc D A sad τ fi fr ol)) (va_Qi (fun (r : Int32) (u : zFi) => ∀ a b, ¬ (a = 24 ∨ a = 25 ∨ a = 26 ∨ a = 27) → u a b = fi a b) (fun (u : zFi) (t : State) => zH D A τ u fr ol t t.heap) A) 0 0 A := by
  refine Met.ofW (cc := cX9_leastSteps) (maxL := 3) (ret := (some .int)) (by decide) rfl ?_
  intro p9 e9 s m args below meth c9 s₁ B hml hv
  obtain ⟨rfl, hz, hH, hA⟩ := hv
  have hx := B.exec
  have hb := B.bytes
  have hr := B.returns
  have hts := atoms_spec (ws := wsX9_leastSteps) B.pre
  have hown : s.vm.findClass RX9 = some m.cls := findClass_of_methodNamed B.named
  have hlocks := B.notSynchronized
  have hS : va_S A s.heap s.heap [] := va_S.rf
  have hl := lv_entry ([.ref (τ.1 22)]) (n := 3) (Nat.le_of_ble_eq_true rfl)
  rw [lg_entry_eq]
  generalize (lg_sl ([.ref (τ.1 22)]) ++ List.replicate (3 - (lg_sl ([.ref (τ.1 22)])).length) Slot.unset).toArray = ls at hl ⊢
  have hl : lv_has ls 3 [(0, .ref (τ.1 22))] := hl
  have hn30 := hT.1
  have hp10 := hP.1
  have hT0 := hT
  have hP0 := hP
  have hiX9 : ∀ w ∈ u_ws RX9 TX9 6, w ∈ wsX9_leastSteps := fun _ h => List.mem_cons_of_mem _ (List.mem_append_left _ (List.mem_append_right _ h))
  have hw1 := hts (.fieldLink RX9 31 "PostHouse$Walk" "size" "I") (by decide +kernel)
  have hw2 := hts (.fieldLink RX9 25 "PostHouse$Walk" "best" "[I") (by decide +kernel)
  have hw3 := hts (.constant RX9 35 1000000) (by decide +kernel)
  refine lv_aload_n hx hb dX9_leastSteps_0 rfl (lv_at hl 0 rfl) ?_
  refine zGetI (D := D) (ci := 9) (C := RX9) (T := TX9) (N := 6) hx hb hts hiX9 hown hH (zk_22 hF) rfl 1 (by decide) rfl hw1 (fun _ h9 => h9) dX9_leastSteps_1 hP.2.1 ?_
  refine lv_if_ne (tgt := 9) hx hb dX9_leastSteps_4 (by decide) (fun c101 => ?_) (fun c101 => ?_)
  · have zc101 := c101
    replace zc101 := zc_neq (nI_toInt (by omega)) ((by decide : (0 : Int32).toInt = 0)) zc101
    refine lv_iconst (v := nI 0) hx hb dX9_leastSteps_9 (by decide) ?_
    refine lv_istore_n (lv' := [(1, .int (nI 0)), (0, .ref (τ.1 22))]) hx hb dX9_leastSteps_10 rfl hl (by decide) rfl (fun ls hl => ?_)
    refine zLp (σ := Nat × zFi) (fun x9 k9 H locs ls => (fun (i : Nat) (f : zFi) => k9 = 6 - i ∧ (i ≤ 6 ∧ ∀ a b, ¬ (a = 24 ∨ a = 25 ∨ a = 26 ∨ a = 27) → f a b = fi a b) ∧ zH D A τ f fr ol s H ∧ va_S A s.heap H locs ∧ lv_has ls 3 [(0, .ref (τ.1 22)), (1, .int (nI i))]) x9.1 x9.2) (0, fi) (6 - 0) (show 6 - 0 = 6 - 0 ∧ (0 ≤ 6 ∧ ∀ a b, ¬ (a = 24 ∨ a = 25 ∨ a = 26 ∨ a = 27) → fi a b = fi a b) ∧ zH D A τ fi fr ol s _ ∧ va_S A s.heap _ _ ∧ lv_has _ 3 [(0, .ref (τ.1 22)), (1, .int (nI 0))] from ⟨rfl, ⟨Nat.zero_le _, fun _ _ _ => rfl⟩, hH, hS, lv_sub hl [1, 0] rfl⟩) (fun k9 ih x9 H locs ls hv9 => ?_)
    obtain ⟨i, f⟩ := x9
    have hv9 : k9 = 6 - i ∧ (i ≤ 6 ∧ ∀ a b, ¬ (a = 24 ∨ a = 25 ∨ a = 26 ∨ a = 27) → f a b = fi a b) ∧ zH D A τ f fr ol s H ∧ va_S A s.heap H locs ∧ lv_has ls 3 [(0, .ref (τ.1 22)), (1, .int (nI i))] := hv9
    obtain ⟨hkih102, hv9, hH, hS, hl⟩ := hv9
    obtain ⟨h1, hfr⟩ := hv9
    have ih102 := ih
    clear ih
    have q1 : f 22 1 = nI p := by rw [hfr 22 1 (by omega)]; exact hP0.2.1
    have hT := zTh.ci (fi' := f) hT0 (fun i9 k9 h9 => hfr i9 k9 (by omega))
    have hP := zPk.ci (fi' := f) hP0 (fun i9 k9 h9 => hfr i9 k9 (by omega))
    refine lv_iload_n hx hb dX9_leastSteps_11 rfl (lv_at hl 1 rfl) ?_
    refine lv_bipush (v := nI 6) hx hb dX9_leastSteps_12 (by decide) ?_
    refine lv_icmp_ge (tgt := 40) hx hb dX9_leastSteps_14 (by decide) (fun c103 => ?_) (fun c103 => ?_)
    · have zc103 := c103
      replace zc103 := zc_le (nI_toInt (by omega)) (nI_toInt (by omega)) zc103
      refine lv_aload_n hx hb dX9_leastSteps_40 rfl (lv_at hl 0 rfl) ?_
      refine va_calli (va_runV (As := []) (rest := []) ⟨hx, hb, hml, hown, hts⟩ (c_lastStreet l hl0 D A sad τ f fr ol hF n hT p hP) (cwV 0 hts gX9_leastSteps_X9_lastStreet rfl rfl rfl (by decide +kernel) ⟨Nat.le_of_ble_eq_true rfl, Nat.le_of_ble_eq_true rfl⟩) ⟨zQc_bl, zRecv hH (zk_22 hF) rfl, zQc_at hz hS hA hH⟩ rfl rfl hl.1 rfl (lv_room (Nat.le_of_ble_eq_true rfl)) dX9_leastSteps_41 ⟨Nat.le_of_ble_eq_true rfl, Nat.le_of_ble_eq_true rfl⟩) hS (fun q _ h => h) (fun q h => h) (fun r104 u9 t9 H1 locs ht9 hvm9 hw hB hz1 hk1 hS => ?_)
      have hH := zMv ht9 hvm9 hB
      generalize H1 = H at hH hS ⊢
      refine lv_istore_n (lv' := [(1, .int r104), (0, .ref (τ.1 22))]) hx hb dX9_leastSteps_44 rfl hl (by decide) rfl (fun ls hl => ?_)
      refine lv_iconst (v := nI 0) hx hb dX9_leastSteps_45 (by decide) ?_
      refine lv_istore_n (lv' := [(2, .int (nI 0)), (1, .int r104), (0, .ref (τ.1 22))]) hx hb dX9_leastSteps_46 rfl hl (by decide) rfl (fun ls hl => ?_)
      refine zLp (σ := Nat × zFi) (fun x9 k9 H locs ls => (fun (j : Nat) (f2 : zFi) => k9 = (r104.toInt - (j : Int)).toNat ∧ ((j = 0 ∨ (j : Int) ≤ r104.toInt) ∧ ∀ a b, ¬ (a = 24 ∨ a = 25 ∨ a = 26 ∨ a = 27) → f2 a b = fi a b) ∧ zH D A τ f2 fr ol s H ∧ va_S A s.heap H locs ∧ lv_has ls 3 [(0, .ref (τ.1 22)), (1, .int r104), (2, .int (nI j))]) x9.1 x9.2) (0, f) ((r104.toInt - (0 : Int)).toNat) (show (r104.toInt - (0 : Int)).toNat = (r104.toInt - (0 : Int)).toNat ∧ ((0 = 0 ∨ (0 : Int) ≤ r104.toInt) ∧ ∀ a b, ¬ (a = 24 ∨ a = 25 ∨ a = 26 ∨ a = 27) → f a b = fi a b) ∧ zH D A τ f fr ol s _ ∧ va_S A s.heap _ _ ∧ lv_has _ 3 [(0, .ref (τ.1 22)), (1, .int r104), (2, .int (nI 0))] from ⟨rfl, ⟨Or.inl rfl, hfr⟩, hH, hS, lv_sub hl [2, 1, 0] rfl⟩) (fun k9 ih x9 H locs ls hv9 => ?_)
      obtain ⟨j, f2⟩ := x9
      have hv9 : k9 = (r104.toInt - (j : Int)).toNat ∧ ((j = 0 ∨ (j : Int) ≤ r104.toInt) ∧ ∀ a b, ¬ (a = 24 ∨ a = 25 ∨ a = 26 ∨ a = 27) → f2 a b = fi a b) ∧ zH D A τ f2 fr ol s H ∧ va_S A s.heap H locs ∧ lv_has ls 3 [(0, .ref (τ.1 22)), (1, .int r104), (2, .int (nI j))] := hv9
      obtain ⟨hkih105, hv9, hH, hS, hl⟩ := hv9
      obtain ⟨h2, hfr2⟩ := hv9
      have ih105 := ih
      clear ih
      have hy31 := r104.toInt_lt
      have q1 : f2 22 1 = nI p := by rw [hfr2 22 1 (by omega)]; exact hP0.2.1
      have hT := zTh.ci (fi' := f2) hT0 (fun i9 k9 h9 => hfr2 i9 k9 (by omega))
      have hP := zPk.ci (fi' := f2) hP0 (fun i9 k9 h9 => hfr2 i9 k9 (by omega))
      refine lv_iload_n hx hb dX9_leastSteps_47 rfl (lv_at hl 2 rfl) ?_
      refine lv_iload_n hx hb dX9_leastSteps_48 rfl (lv_at hl 1 rfl) ?_
      refine lv_icmp_ge (tgt := 67) hx hb dX9_leastSteps_49 (by decide) (fun c106 => ?_) (fun c106 => ?_)
      · have zc106 := c106
        replace zc106 := zc_le (rfl) (nI_toInt (by omega)) zc106
        refine lv_aload_n hx hb dX9_leastSteps_67 rfl (lv_at hl 0 rfl) ?_
        refine lv_iload_n hx hb dX9_leastSteps_68 rfl (lv_at hl 1 rfl) ?_
        refine va_callv (va_runV (As := [.int r104]) (rest := []) ⟨hx, hb, hml, hown, hts⟩ (c_measure l hl0 D A sad τ f2 fr ol r104 hF n hT p hP) (cwV 1 hts gX9_leastSteps_X9_measure rfl rfl rfl (by decide +kernel) ⟨Nat.le_of_ble_eq_true rfl, Nat.le_of_ble_eq_true rfl⟩) ⟨zQc_bl, zRecv hH (zk_22 hF) rfl, zQc_at hz hS hA hH⟩ rfl rfl hl.1 rfl (lv_room (Nat.le_of_ble_eq_true rfl)) dX9_leastSteps_69 ⟨Nat.le_of_ble_eq_true rfl, Nat.le_of_ble_eq_true rfl⟩) hS (fun q _ h => h) (fun q h => h) (fun u9 t9 H1 locs ht9 hvm9 hw hB hz1 hk1 hS => ?_)
        have hH := zMv ht9 hvm9 hB
        clear hB
        generalize u9 = f108 at hw hH
        generalize H1 = H at hH hS ⊢
        have hf109 := hw
        clear hw
        have q110 : f108 22 1 = nI p := by rw [hf109 22 1 (by omega)]; exact q1
        have hT := zTh.ci (fi' := f108) hT (fun i9 k9 h9 => hf109 i9 k9 (by omega))
        have hP := zPk.ci (fi' := f108) hP (fun i9 k9 h9 => hf109 i9 k9 (by omega))
        refine lv_aload_n hx hb dX9_leastSteps_72 rfl (lv_at hl 0 rfl) ?_
        refine lv_iconst (v := nI 5) hx hb dX9_leastSteps_73 (by decide) ?_
        refine va_calli (va_runV (As := [.int (nI 5)]) (rest := []) ⟨hx, hb, hml, hown, hts⟩ (c_leastInto l hl0 D A sad τ f108 fr ol hF 5 (by omega)) (cwV 1 hts gX9_leastSteps_X9_leastInto rfl rfl rfl (by decide +kernel) ⟨Nat.le_of_ble_eq_true rfl, Nat.le_of_ble_eq_true rfl⟩) ⟨zQc_bl, zRecv hH (zk_22 hF) rfl, zQc_at hz hS hA hH⟩ rfl rfl hl.1 rfl (lv_room (Nat.le_of_ble_eq_true rfl)) dX9_leastSteps_74 ⟨Nat.le_of_ble_eq_true rfl, Nat.le_of_ble_eq_true rfl⟩) hS (fun q _ h => h) (fun q h => h) (fun r111 u9 t9 H1 locs ht9 hvm9 hw hB hz1 hk1 hS => ?_)
        have hH := zMv ht9 hvm9 hB
        generalize H1 = H at hH hS ⊢
        refine W.widen (k := 0) (n := 0) (by decide) (by decide) ?_
        exact W.iret (v := r111) hx hb hr (fun t9 ht9 hW9 => ⟨⟨r111, f108, rfl, fun a b h => by rw [hf109 a b (by omega)]; exact hfr2 a b h, zEnd1 hH ht9 hW9⟩, hS.F ht9⟩) hS.2.2 dX9_leastSteps_77
      · have zc106 := c106
        replace zc106 := zc_nle (rfl) (nI_toInt (by omega)) zc106
        refine lv_aload_n hx hb dX9_leastSteps_52 rfl (lv_at hl 0 rfl) ?_
        refine lv_iload_n hx hb dX9_leastSteps_53 rfl (lv_at hl 2 rfl) ?_
        refine va_callv (va_runV (As := [.int (nI j)]) (rest := []) ⟨hx, hb, hml, hown, hts⟩ (c_measure l hl0 D A sad τ f2 fr ol (nI j) hF n hT p hP) (cwV 1 hts gX9_leastSteps_X9_measure rfl rfl rfl (by decide +kernel) ⟨Nat.le_of_ble_eq_true rfl, Nat.le_of_ble_eq_true rfl⟩) ⟨zQc_bl, zRecv hH (zk_22 hF) rfl, zQc_at hz hS hA hH⟩ rfl rfl hl.1 rfl (lv_room (Nat.le_of_ble_eq_true rfl)) dX9_leastSteps_54 ⟨Nat.le_of_ble_eq_true rfl, Nat.le_of_ble_eq_true rfl⟩) hS (fun q _ h => h) (fun q h => h) (fun u9 t9 H1 locs ht9 hvm9 hw hB hz1 hk1 hS => ?_)
        have hH := zMv ht9 hvm9 hB
        clear hB
        generalize u9 = f113 at hw hH
        generalize H1 = H at hH hS ⊢
        have hf114 := hw
        clear hw
        have q115 : f113 22 1 = nI p := by rw [hf114 22 1 (by omega)]; exact q1
        have hT := zTh.ci (fi' := f113) hT (fun i9 k9 h9 => hf114 i9 k9 (by omega))
        have hP := zPk.ci (fi' := f113) hP (fun i9 k9 h9 => hf114 i9 k9 (by omega))
        refine lv_aload_n hx hb dX9_leastSteps_57 rfl (lv_at hl 0 rfl) ?_
        refine va_callv (va_runV (As := []) (rest := []) ⟨hx, hb, hml, hown, hts⟩ (c_goNext l hl0 D A sad τ f113 fr ol hF) (cwV 0 hts gX9_leastSteps_X9_goToNextStreet rfl rfl rfl (by decide +kernel) ⟨Nat.le_of_ble_eq_true rfl, Nat.le_of_ble_eq_true rfl⟩) ⟨zQc_bl, zRecv hH (zk_22 hF) rfl, zQc_at hz hS hA hH⟩ rfl rfl hl.1 rfl (lv_room (Nat.le_of_ble_eq_true rfl)) dX9_leastSteps_58 ⟨Nat.le_of_ble_eq_true rfl, Nat.le_of_ble_eq_true rfl⟩) hS (fun q _ h => h) (fun q h => h) (fun u9 t9 H1 locs ht9 hvm9 hw hB hz1 hk1 hS => ?_)
        have hH := zMv ht9 hvm9 hB
        clear hB
        generalize u9 = f117 at hw hH
        generalize H1 = H at hH hS ⊢
        have hf118 := hw
        clear hw
        have q119 : f117 22 1 = nI p := by rw [hf118 22 1 (by omega)]; exact q115
        have hT := zTh.ci (fi' := f117) hT (fun i9 k9 h9 => hf118 i9 k9 (by omega))
        have hP := zPk.ci (fi' := f117) hP (fun i9 k9 h9 => hf118 i9 k9 (by omega))
        refine lv_iinc (v := nI (j + 1)) (lv' := [(2, .int (nI (j + 1))), (0, .ref (τ.1 22)), (1, .int r104)]) hx hb dX9_leastSteps_61 hl (k := 2) rfl (by rw [show (Int32.ofInt 1 : Int32) = nI 1 from by decide, nI_add]) (by decide) rfl (fun ls hl => ?_)
        refine lv_goto (tgt := 47) hx hb dX9_leastSteps_64 (by decide) ?_
        exact ih105 ((r104.toInt - ((j + 1) : Int)).toNat) (by omega) (j + 1, f117) _ _ _ (show (r104.toInt - ((j + 1) : Int)).toNat = (r104.toInt - ((j + 1) : Int)).toNat ∧ (((j + 1) = 0 ∨ ((j + 1) : Int) ≤ r104.toInt) ∧ ∀ a b, ¬ (a = 24 ∨ a = 25 ∨ a = 26 ∨ a = 27) → f117 a b = fi a b) ∧ zH D A τ f117 fr ol s _ ∧ va_S A s.heap _ _ ∧ lv_has _ 3 [(0, .ref (τ.1 22)), (1, .int r104), (2, .int (nI (j + 1)))] from ⟨rfl, ⟨Or.inr (by omega), fun a b h => by rw [hf118 a b (by omega), hf114 a b (by omega)]; exact hfr2 a b h⟩, hH, hS, lv_sub hl [1, 2, 0] rfl⟩)
    · have zc103 := c103
      replace zc103 := zc_nle (nI_toInt (by omega)) (nI_toInt (by omega)) zc103
      refine lv_aload_n hx hb dX9_leastSteps_17 rfl (lv_at hl 0 rfl) ?_
      refine zGetR (D := D) (ci := 9) (C := RX9) (T := TX9) (N := 6) hx hb hts hiX9 hown hH (zk_22 hF) rfl 4 (by decide) rfl hw2 (fun _ h9 => h9) dX9_leastSteps_18 (zr_22_4 hF) ?_
      refine lv_iload_n hx hb dX9_leastSteps_21 rfl (lv_at hl 1 rfl) ?_
      refine lv_iload_n hx hb dX9_leastSteps_22 rfl (lv_at hl 1 rfl) ?_
      refine lv_iconst (v := nI 5) hx hb dX9_leastSteps_23 (by decide) ?_
      refine lv_icmp_ne (tgt := 31) hx hb dX9_leastSteps_24 (by decide) (fun c120 => ?_) (fun c120 => ?_)
      · have zc120 := c120
        replace zc120 := zc_neq (nI_toInt (by omega)) (nI_toInt (by omega)) zc120
        refine lv_ldc (v := nI 1000000) hx hb hown hw3 dX9_leastSteps_31 ?_
        refine zIastN (D := D) hx hb hH hS (zk_26 hF) (zn_26 hF) (by omega) (by omega) dX9_leastSteps_33 (fun H locs hH hS => ?_)
        obtain ⟨f121, ef121⟩ : ∃ f9 : zFi, f9 = zu f 26 i (nI 1000000) := ⟨_, rfl⟩
        rw [← ef121] at hH
        have q122 : f121 22 1 = nI p := by rw [ef121, zu_n (fun h9 => absurd h9.1 (by decide))]; exact q1
        have q123 : f121 26 i = nI 1000000 := by rw [ef121]; exact zu_s
        have hT := zTh.ci (fi' := f121) hT (fun i9 k9 h9 => by rw [ef121]; exact zu_n (by omega))
        have hP := zPk.ci (fi' := f121) hP (fun i9 k9 h9 => by rw [ef121]; exact zu_n (by omega))
        refine lv_iinc (v := nI (i + 1)) (lv' := [(1, .int (nI (i + 1))), (0, .ref (τ.1 22))]) hx hb dX9_leastSteps_34 hl (k := 1) rfl (by rw [show (Int32.ofInt 1 : Int32) = nI 1 from by decide, nI_add]) (by decide) rfl (fun ls hl => ?_)
        refine lv_goto (tgt := 11) hx hb dX9_leastSteps_37 (by decide) ?_
        exact ih102 (6 - (i + 1)) (by omega) (i + 1, f121) _ _ _ (show 6 - (i + 1) = 6 - (i + 1) ∧ ((i + 1) ≤ 6 ∧ ∀ a b, ¬ (a = 24 ∨ a = 25 ∨ a = 26 ∨ a = 27) → f121 a b = fi a b) ∧ zH D A τ f121 fr ol s _ ∧ va_S A s.heap _ _ ∧ lv_has _ 3 [(0, .ref (τ.1 22)), (1, .int (nI (i + 1)))] from ⟨rfl, ⟨by omega, fun a b h => by rw [ef121, zu_n (by omega)]; exact hfr a b h⟩, hH, hS, lv_sub hl [1, 0] rfl⟩)
      · have zc120 := c120
        replace zc120 := zc_eq (nI_toInt (by omega)) (nI_toInt (by omega)) zc120
        refine lv_iconst (v := nI 0) hx hb dX9_leastSteps_27 (by decide) ?_
        refine lv_goto (tgt := 33) hx hb dX9_leastSteps_28 (by decide) ?_
        refine zIastN (D := D) hx hb hH hS (zk_26 hF) (zn_26 hF) (by omega) (by omega) dX9_leastSteps_33 (fun H locs hH hS => ?_)
        obtain ⟨f124, ef124⟩ : ∃ f9 : zFi, f9 = zu f 26 i (nI 0) := ⟨_, rfl⟩
        rw [← ef124] at hH
        have q125 : f124 22 1 = nI p := by rw [ef124, zu_n (fun h9 => absurd h9.1 (by decide))]; exact q1
        have q126 : f124 26 i = nI 0 := by rw [ef124]; exact zu_s
        have hT := zTh.ci (fi' := f124) hT (fun i9 k9 h9 => by rw [ef124]; exact zu_n (by omega))
        have hP := zPk.ci (fi' := f124) hP (fun i9 k9 h9 => by rw [ef124]; exact zu_n (by omega))
        refine lv_iinc (v := nI (i + 1)) (lv' := [(1, .int (nI (i + 1))), (0, .ref (τ.1 22))]) hx hb dX9_leastSteps_34 hl (k := 1) rfl (by rw [show (Int32.ofInt 1 : Int32) = nI 1 from by decide, nI_add]) (by decide) rfl (fun ls hl => ?_)
        refine lv_goto (tgt := 11) hx hb dX9_leastSteps_37 (by decide) ?_
        exact ih102 (6 - (i + 1)) (by omega) (i + 1, f124) _ _ _ (show 6 - (i + 1) = 6 - (i + 1) ∧ ((i + 1) ≤ 6 ∧ ∀ a b, ¬ (a = 24 ∨ a = 25 ∨ a = 26 ∨ a = 27) → f124 a b = fi a b) ∧ zH D A τ f124 fr ol s _ ∧ va_S A s.heap _ _ ∧ lv_has _ 3 [(0, .ref (τ.1 22)), (1, .int (nI (i + 1)))] from ⟨rfl, ⟨by omega, fun a b h => by rw [ef124, zu_n (by omega)]; exact hfr a b h⟩, hH, hS, lv_sub hl [1, 0] rfl⟩)
  · have zc101 := c101
    replace zc101 := zc_eq (nI_toInt (by omega)) ((by decide : (0 : Int32).toInt = 0)) zc101
    refine lv_iconst (v := nI 0) hx hb dX9_leastSteps_7 (by decide) ?_
    refine W.widen (k := 0) (n := 0) (by decide) (by decide) ?_
    exact W.iret (v := nI 0) hx hb hr (fun t9 ht9 hW9 => ⟨⟨nI 0, fi, rfl, fun _ _ _ => rfl, zEnd1 hH ht9 hW9⟩, hS.F ht9⟩) hS.2.2 dX9_leastSteps_8
