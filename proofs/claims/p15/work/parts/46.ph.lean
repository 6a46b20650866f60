set_option maxHeartbeats 4000000 in
set_option maxRecDepth 100000 in
/-- unlikeDigits -/
theorem c_unlike (l : Launch) (hl0 : l.stackTraces = false) (D : va_G) (A : Nat → Prop) (sad : Nat → Nat) (τ : zTy) (fi : zFi) (fr : zFr) (ol : Int64) (x y : Int32) : Met l yX11_unlikeDigits wsX11_unlikeDigits ({ frames := 0, cells := 0, slots := 0, locals := 0 }) (va_Pc [.int x, .int y] (zQc D A sad τ fi fr ol)) (va_Qi (fun (r : Int32) (u : Unit) => True) (fun (u : Unit) (t : State) => zH D A τ fi fr ol t t.heap) A) 0 0 A := by
  refine Met.ofW (cc := cX11_unlikeDigits) (maxL := 4) (ret := (some .int)) (by decide) rfl ?_
  intro p9 e9 s m args below meth c9 s₁ B hml hv
  obtain ⟨rfl, hz, hH, hA⟩ := hv
  have hx := B.exec
  have hb := B.bytes
  have hr := B.returns
  have hts := atoms_spec (ws := wsX11_unlikeDigits) B.pre
  have hown : s.vm.findClass RX11 = some m.cls := findClass_of_methodNamed B.named
  have hlocks := B.notSynchronized
  have hS : va_S A s.heap s.heap [] := va_S.rf
  have hl := lv_entry ([.int x, .int y]) (n := 4) (Nat.le_of_ble_eq_true rfl)
  rw [lg_entry_eq]
  generalize (lg_sl ([.int x, .int y]) ++ List.replicate (4 - (lg_sl ([.int x, .int y])).length) Slot.unset).toArray = ls at hl ⊢
  have hl : lv_has ls 4 [(0, .int x), (1, .int y)] := hl
  refine lv_iconst (v := nI 0) hx hb dX11_unlikeDigits_0 (by decide) ?_
  refine lv_istore_n (lv' := [(2, .int (nI 0)), (0, .int x), (1, .int y)]) hx hb dX11_unlikeDigits_1 rfl hl (by decide) rfl (fun ls hl => ?_)
  refine lv_iconst (v := nI 1) hx hb dX11_unlikeDigits_2 (by decide) ?_
  refine lv_istore_n (lv' := [(3, .int (nI 1)), (2, .int (nI 0)), (0, .int x), (1, .int y)]) hx hb dX11_unlikeDigits_3 rfl hl (by decide) rfl (fun ls hl => ?_)
  refine lv_iload_n hx hb dX11_unlikeDigits_4 rfl (lv_at hl 0 rfl) ?_
  refine lv_sipush (v := nI 9999) hx hb dX11_unlikeDigits_5 (by decide) ?_
  refine lv_icmp_gt (tgt := 37) hx hb dX11_unlikeDigits_8 (by decide) (fun c101 => absurd c101 (by decide)) (fun c101 => ?_)
  refine lv_iload_n hx hb dX11_unlikeDigits_11 rfl (lv_at hl 2 rfl) ?_
  refine lv_iload_n hx hb dX11_unlikeDigits_12 rfl (lv_at hl 0 rfl) ?_
  refine lv_idiv hx hb dX11_unlikeDigits_13 (by decide) ?_
  refine lv_topi (fun v102 ev102 => ?_)
  refine lv_bipush (v := nI 10) hx hb dX11_unlikeDigits_14 (by decide) ?_
  refine lv_irem hx hb dX11_unlikeDigits_16 (by decide) ?_
  refine lv_topi (fun v103 ev103 => ?_)
  refine lv_iload_n hx hb dX11_unlikeDigits_17 rfl (lv_at hl 3 rfl) ?_
  refine lv_iload_n hx hb dX11_unlikeDigits_18 rfl (lv_at hl 0 rfl) ?_
  refine lv_idiv hx hb dX11_unlikeDigits_19 (by decide) ?_
  refine lv_topi (fun v104 ev104 => ?_)
  refine lv_bipush (v := nI 10) hx hb dX11_unlikeDigits_20 (by decide) ?_
  refine lv_irem hx hb dX11_unlikeDigits_22 (by decide) ?_
  refine lv_topi (fun v105 ev105 => ?_)
  refine lv_icmp_eq (tgt := 29) hx hb dX11_unlikeDigits_23 (by decide) (fun c106 => ?_) (fun c106 => ?_)
  · have zc106 := c106
    replace zc106 := zc_eq (rfl) (rfl) zc106
    refine lv_iload_n hx hb dX11_unlikeDigits_29 rfl (lv_at hl 0 rfl) ?_
    refine lv_bipush (v := nI 10) hx hb dX11_unlikeDigits_30 (by decide) ?_
    refine lv_imul hx hb dX11_unlikeDigits_32 ?_
    refine lv_topi (fun v107 ev107 => ?_)
    obtain rfl : v107 = nI 10 := ev107.trans (by decide)
    refine lv_istore_n (lv' := [(3, .int (nI 10)), (2, .int (nI 0)), (0, .int x), (1, .int y)]) hx hb dX11_unlikeDigits_33 rfl hl (by decide) rfl (fun ls hl => ?_)
    refine lv_goto (tgt := 4) hx hb dX11_unlikeDigits_34 (by decide) ?_
    refine lv_iload_n hx hb dX11_unlikeDigits_4 rfl (lv_at hl 0 rfl) ?_
    refine lv_sipush (v := nI 9999) hx hb dX11_unlikeDigits_5 (by decide) ?_
    refine lv_icmp_gt (tgt := 37) hx hb dX11_unlikeDigits_8 (by decide) (fun c108 => absurd c108 (by decide)) (fun c108 => ?_)
    refine lv_iload_n hx hb dX11_unlikeDigits_11 rfl (lv_at hl 2 rfl) ?_
    refine lv_iload_n hx hb dX11_unlikeDigits_12 rfl (lv_at hl 0 rfl) ?_
    refine lv_idiv hx hb dX11_unlikeDigits_13 (by decide) ?_
    refine lv_topi (fun v109 ev109 => ?_)
    refine lv_bipush (v := nI 10) hx hb dX11_unlikeDigits_14 (by decide) ?_
    refine lv_irem hx hb dX11_unlikeDigits_16 (by decide) ?_
    refine lv_topi (fun v110 ev110 => ?_)
    refine lv_iload_n hx hb dX11_unlikeDigits_17 rfl (lv_at hl 3 rfl) ?_
    refine lv_iload_n hx hb dX11_unlikeDigits_18 rfl (lv_at hl 0 rfl) ?_
    refine lv_idiv hx hb dX11_unlikeDigits_19 (by decide) ?_
    refine lv_topi (fun v111 ev111 => ?_)
    refine lv_bipush (v := nI 10) hx hb dX11_unlikeDigits_20 (by decide) ?_
    refine lv_irem hx hb dX11_unlikeDigits_22 (by decide) ?_
    refine lv_topi (fun v112 ev112 => ?_)
    refine lv_icmp_eq (tgt := 29) hx hb dX11_unlikeDigits_23 (by decide) (fun c113 => ?_) (fun c113 => ?_)
    · have zc113 := c113
      replace zc113 := zc_eq (rfl) (rfl) zc113
      refine lv_iload_n hx hb dX11_unlikeDigits_29 rfl (lv_at hl 0 rfl) ?_
      refine lv_bipush (v := nI 10) hx hb dX11_unlikeDigits_30 (by decide) ?_
      refine lv_imul hx hb dX11_unlikeDigits_32 ?_
      refine lv_topi (fun v114 ev114 => ?_)
      obtain rfl : v114 = nI 100 := ev114.trans (by decide)
      refine lv_istore_n (lv' := [(3, .int (nI 100)), (2, .int (nI 0)), (0, .int x), (1, .int y)]) hx hb dX11_unlikeDigits_33 rfl hl (by decide) rfl (fun ls hl => ?_)
      refine lv_goto (tgt := 4) hx hb dX11_unlikeDigits_34 (by decide) ?_
      refine lv_iload_n hx hb dX11_unlikeDigits_4 rfl (lv_at hl 0 rfl) ?_
      refine lv_sipush (v := nI 9999) hx hb dX11_unlikeDigits_5 (by decide) ?_
      refine lv_icmp_gt (tgt := 37) hx hb dX11_unlikeDigits_8 (by decide) (fun c115 => absurd c115 (by decide)) (fun c115 => ?_)
      refine lv_iload_n hx hb dX11_unlikeDigits_11 rfl (lv_at hl 2 rfl) ?_
      refine lv_iload_n hx hb dX11_unlikeDigits_12 rfl (lv_at hl 0 rfl) ?_
      refine lv_idiv hx hb dX11_unlikeDigits_13 (by decide) ?_
      refine lv_topi (fun v116 ev116 => ?_)
      refine lv_bipush (v := nI 10) hx hb dX11_unlikeDigits_14 (by decide) ?_
      refine lv_irem hx hb dX11_unlikeDigits_16 (by decide) ?_
      refine lv_topi (fun v117 ev117 => ?_)
      refine lv_iload_n hx hb dX11_unlikeDigits_17 rfl (lv_at hl 3 rfl) ?_
      refine lv_iload_n hx hb dX11_unlikeDigits_18 rfl (lv_at hl 0 rfl) ?_
      refine lv_idiv hx hb dX11_unlikeDigits_19 (by decide) ?_
      refine lv_topi (fun v118 ev118 => ?_)
      refine lv_bipush (v := nI 10) hx hb dX11_unlikeDigits_20 (by decide) ?_
      refine lv_irem hx hb dX11_unlikeDigits_22 (by decide) ?_
      refine lv_topi (fun v119 ev119 => ?_)
      refine lv_icmp_eq (tgt := 29) hx hb dX11_unlikeDigits_23 (by decide) (fun c120 => ?_) (fun c120 => ?_)
      · have zc120 := c120
        replace zc120 := zc_eq (rfl) (rfl) zc120
        refine lv_iload_n hx hb dX11_unlikeDigits_29 rfl (lv_at hl 0 rfl) ?_
        refine lv_bipush (v := nI 10) hx hb dX11_unlikeDigits_30 (by decide) ?_
        refine lv_imul hx hb dX11_unlikeDigits_32 ?_
        refine lv_topi (fun v121 ev121 => ?_)
        obtain rfl : v121 = nI 1000 := ev121.trans (by decide)
        refine lv_istore_n (lv' := [(3, .int (nI 1000)), (2, .int (nI 0)), (0, .int x), (1, .int y)]) hx hb dX11_unlikeDigits_33 rfl hl (by decide) rfl (fun ls hl => ?_)
        refine lv_goto (tgt := 4) hx hb dX11_unlikeDigits_34 (by decide) ?_
        refine lv_iload_n hx hb dX11_unlikeDigits_4 rfl (lv_at hl 0 rfl) ?_
        refine lv_sipush (v := nI 9999) hx hb dX11_unlikeDigits_5 (by decide) ?_
        refine lv_icmp_gt (tgt := 37) hx hb dX11_unlikeDigits_8 (by decide) (fun c122 => absurd c122 (by decide)) (fun c122 => ?_)
        refine lv_iload_n hx hb dX11_unlikeDigits_11 rfl (lv_at hl 2 rfl) ?_
        refine lv_iload_n hx hb dX11_unlikeDigits_12 rfl (lv_at hl 0 rfl) ?_
        refine lv_idiv hx hb dX11_unlikeDigits_13 (by decide) ?_
        refine lv_topi (fun v123 ev123 => ?_)
        refine lv_bipush (v := nI 10) hx hb dX11_unlikeDigits_14 (by decide) ?_
        refine lv_irem hx hb dX11_unlikeDigits_16 (by decide) ?_
        refine lv_topi (fun v124 ev124 => ?_)
        refine lv_iload_n hx hb dX11_unlikeDigits_17 rfl (lv_at hl 3 rfl) ?_
        refine lv_iload_n hx hb dX11_unlikeDigits_18 rfl (lv_at hl 0 rfl) ?_
        refine lv_idiv hx hb dX11_unlikeDigits_19 (by decide) ?_
        refine lv_topi (fun v125 ev125 => ?_)
        refine lv_bipush (v := nI 10) hx hb dX11_unlikeDigits_20 (by decide) ?_
        refine lv_irem hx hb dX11_unlikeDigits_22 (by decide) ?_
        refine lv_topi (fun v126 ev126 => ?_)
        refine lv_icmp_eq (tgt := 29) hx hb dX11_unlikeDigits_23 (by decide) (fun c127 => ?_) (fun c127 => ?_)
        · have zc127 := c127
          replace zc127 := zc_eq (rfl) (rfl) zc127
          refine lv_iload_n hx hb dX11_unlikeDigits_29 rfl (lv_at hl 0 rfl) ?_
          refine lv_bipush (v := nI 10) hx hb dX11_unlikeDigits_30 (by decide) ?_
          refine lv_imul hx hb dX11_unlikeDigits_32 ?_
          refine lv_topi (fun v128 ev128 => ?_)
          obtain rfl : v128 = nI 10000 := ev128.trans (by decide)
          refine lv_istore_n (lv' := [(3, .int (nI 10000)), (2, .int (nI 0)), (0, .int x), (1, .int y)]) hx hb dX11_unlikeDigits_33 rfl hl (by decide) rfl (fun ls hl => ?_)
          refine lv_goto (tgt := 4) hx hb dX11_unlikeDigits_34 (by decide) ?_
          refine lv_iload_n hx hb dX11_unlikeDigits_4 rfl (lv_at hl 0 rfl) ?_
          refine lv_sipush (v := nI 9999) hx hb dX11_unlikeDigits_5 (by decide) ?_
          refine lv_icmp_gt (tgt := 37) hx hb dX11_unlikeDigits_8 (by decide) (fun c129 => ?_) (fun c129 => absurd (by decide) c129)
          refine lv_iload_n hx hb dX11_unlikeDigits_37 rfl (lv_at hl 1 rfl) ?_
          refine W.widen (k := 0) (n := 0) (by decide) (by decide) ?_
          exact W.iret (v := nI 0) hx hb hr (fun t9 ht9 hW9 => ⟨⟨nI 0, (), rfl, trivial, zEnd1 hH ht9 hW9⟩, hS.F ht9⟩) hS.2.2 dX11_unlikeDigits_38
        · have zc127 := c127
          replace zc127 := zc_neq (rfl) (rfl) zc127
          refine lv_iinc (v := nI 1) (lv' := [(2, .int (nI 1)), (3, .int (nI 1000)), (0, .int x), (1, .int y)]) hx hb dX11_unlikeDigits_26 hl (k := 1) rfl (by decide) (by decide) rfl (fun ls hl => ?_)
          refine lv_iload_n hx hb dX11_unlikeDigits_29 rfl (lv_at hl 1 rfl) ?_
          refine lv_bipush (v := nI 10) hx hb dX11_unlikeDigits_30 (by decide) ?_
          refine lv_imul hx hb dX11_unlikeDigits_32 ?_
          refine lv_topi (fun v130 ev130 => ?_)
          obtain rfl : v130 = nI 10000 := ev130.trans (by decide)
          refine lv_istore_n (lv' := [(3, .int (nI 10000)), (2, .int (nI 1)), (0, .int x), (1, .int y)]) hx hb dX11_unlikeDigits_33 rfl hl (by decide) rfl (fun ls hl => ?_)
          refine lv_goto (tgt := 4) hx hb dX11_unlikeDigits_34 (by decide) ?_
          refine lv_iload_n hx hb dX11_unlikeDigits_4 rfl (lv_at hl 0 rfl) ?_
          refine lv_sipush (v := nI 9999) hx hb dX11_unlikeDigits_5 (by decide) ?_
          refine lv_icmp_gt (tgt := 37) hx hb dX11_unlikeDigits_8 (by decide) (fun c131 => ?_) (fun c131 => absurd (by decide) c131)
          refine lv_iload_n hx hb dX11_unlikeDigits_37 rfl (lv_at hl 1 rfl) ?_
          refine W.widen (k := 0) (n := 0) (by decide) (by decide) ?_
          exact W.iret (v := nI 1) hx hb hr (fun t9 ht9 hW9 => ⟨⟨nI 1, (), rfl, trivial, zEnd1 hH ht9 hW9⟩, hS.F ht9⟩) hS.2.2 dX11_unlikeDigits_38
      · have zc120 := c120
        replace zc120 := zc_neq (rfl) (rfl) zc120
        refine lv_iinc (v := nI 1) (lv' := [(2, .int (nI 1)), (3, .int (nI 100)), (0, .int x), (1, .int y)]) hx hb dX11_unlikeDigits_26 hl (k := 1) rfl (by decide) (by decide) rfl (fun ls hl => ?_)
        refine lv_iload_n hx hb dX11_unlikeDigits_29 rfl (lv_at hl 1 rfl) ?_
        refine lv_bipush (v := nI 10) hx hb dX11_unlikeDigits_30 (by decide) ?_
        refine lv_imul hx hb dX11_unlikeDigits_32 ?_
        refine lv_topi (fun v132 ev132 => ?_)
        obtain rfl : v132 = nI 1000 := ev132.trans (by decide)
        refine lv_istore_n (lv' := [(3, .int (nI 1000)), (2, .int (nI 1)), (0, .int x), (1, .int y)]) hx hb dX11_unlikeDigits_33 rfl hl (by decide) rfl (fun ls hl => ?_)
        refine lv_goto (tgt := 4) hx hb dX11_unlikeDigits_34 (by decide) ?_
        refine lv_iload_n hx hb dX11_unlikeDigits_4 rfl (lv_at hl 0 rfl) ?_
        refine lv_sipush (v := nI 9999) hx hb dX11_unlikeDigits_5 (by decide) ?_
        refine lv_icmp_gt (tgt := 37) hx hb dX11_unlikeDigits_8 (by decide) (fun c133 => absurd c133 (by decide)) (fun c133 => ?_)
        refine lv_iload_n hx hb dX11_unlikeDigits_11 rfl (lv_at hl 2 rfl) ?_
        refine lv_iload_n hx hb dX11_unlikeDigits_12 rfl (lv_at hl 0 rfl) ?_
        refine lv_idiv hx hb dX11_unlikeDigits_13 (by decide) ?_
        refine lv_topi (fun v134 ev134 => ?_)
        refine lv_bipush (v := nI 10) hx hb dX11_unlikeDigits_14 (by decide) ?_
        refine lv_irem hx hb dX11_unlikeDigits_16 (by decide) ?_
        refine lv_topi (fun v135 ev135 => ?_)
        refine lv_iload_n hx hb dX11_unlikeDigits_17 rfl (lv_at hl 3 rfl) ?_
        refine lv_iload_n hx hb dX11_unlikeDigits_18 rfl (lv_at hl 0 rfl) ?_
        refine lv_idiv hx hb dX11_unlikeDigits_19 (by decide) ?_
        refine lv_topi (fun v136 ev136 => ?_)
        refine lv_bipush (v := nI 10) hx hb dX11_unlikeDigits_20 (by decide) ?_
        refine lv_irem hx hb dX11_unlikeDigits_22 (by decide) ?_
        refine lv_topi (fun v137 ev137 => ?_)
        refine lv_icmp_eq (tgt := 29) hx hb dX11_unlikeDigits_23 (by decide) (fun c138 => ?_) (fun c138 => ?_)
        · have zc138 := c138
          replace zc138 := zc_eq (rfl) (rfl) zc138
          refine lv_iload_n hx hb dX11_unlikeDigits_29 rfl (lv_at hl 0 rfl) ?_
          refine lv_bipush (v := nI 10) hx hb dX11_unlikeDigits_30 (by decide) ?_
          refine lv_imul hx hb dX11_unlikeDigits_32 ?_
          refine lv_topi (fun v139 ev139 => ?_)
          obtain rfl : v139 = nI 10000 := ev139.trans (by decide)
          refine lv_istore_n (lv' := [(3, .int (nI 10000)), (2, .int (nI 1)), (0, .int x), (1, .int y)]) hx hb dX11_unlikeDigits_33 rfl hl (by decide) rfl (fun ls hl => ?_)
          refine lv_goto (tgt := 4) hx hb dX11_unlikeDigits_34 (by decide) ?_
          refine lv_iload_n hx hb dX11_unlikeDigits_4 rfl (lv_at hl 0 rfl) ?_
          refine lv_sipush (v := nI 9999) hx hb dX11_unlikeDigits_5 (by decide) ?_
          refine lv_icmp_gt (tgt := 37) hx hb dX11_unlikeDigits_8 (by decide) (fun c140 => ?_) (fun c140 => absurd (by decide) c140)
          refine lv_iload_n hx hb dX11_unlikeDigits_37 rfl (lv_at hl 1 rfl) ?_
          refine W.widen (k := 0) (n := 0) (by decide) (by decide) ?_
          exact W.iret (v := nI 1) hx hb hr (fun t9 ht9 hW9 => ⟨⟨nI 1, (), rfl, trivial, zEnd1 hH ht9 hW9⟩, hS.F ht9⟩) hS.2.2 dX11_unlikeDigits_38
        · have zc138 := c138
          replace zc138 := zc_neq (rfl) (rfl) zc138
          refine lv_iinc (v := nI 2) (lv' := [(2, .int (nI 2)), (3, .int (nI 1000)), (0, .int x), (1, .int y)]) hx hb dX11_unlikeDigits_26 hl (k := 1) rfl (by decide) (by decide) rfl (fun ls hl => ?_)
          refine lv_iload_n hx hb dX11_unlikeDigits_29 rfl (lv_at hl 1 rfl) ?_
          refine lv_bipush (v := nI 10) hx hb dX11_unlikeDigits_30 (by decide) ?_
          refine lv_imul hx hb dX11_unlikeDigits_32 ?_
          refine lv_topi (fun v141 ev141 => ?_)
          obtain rfl : v141 = nI 10000 := ev141.trans (by decide)
          refine lv_istore_n (lv' := [(3, .int (nI 10000)), (2, .int (nI 2)), (0, .int x), (1, .int y)]) hx hb dX11_unlikeDigits_33 rfl hl (by decide) rfl (fun ls hl => ?_)
          refine lv_goto (tgt := 4) hx hb dX11_unlikeDigits_34 (by decide) ?_
          refine lv_iload_n hx hb dX11_unlikeDigits_4 rfl (lv_at hl 0 rfl) ?_
          refine lv_sipush (v := nI 9999) hx hb dX11_unlikeDigits_5 (by decide) ?_
          refine lv_icmp_gt (tgt := 37) hx hb dX11_unlikeDigits_8 (by decide) (fun c142 => ?_) (fun c142 => absurd (by decide) c142)
          refine lv_iload_n hx hb dX11_unlikeDigits_37 rfl (lv_at hl 1 rfl) ?_
          refine W.widen (k := 0) (n := 0) (by decide) (by decide) ?_
          exact W.iret (v := nI 2) hx hb hr (fun t9 ht9 hW9 => ⟨⟨nI 2, (), rfl, trivial, zEnd1 hH ht9 hW9⟩, hS.F ht9⟩) hS.2.2 dX11_unlikeDigits_38
    · have zc113 := c113
      replace zc113 := zc_neq (rfl) (rfl) zc113
      refine lv_iinc (v := nI 1) (lv' := [(2, .int (nI 1)), (3, .int (nI 10)), (0, .int x), (1, .int y)]) hx hb dX11_unlikeDigits_26 hl (k := 1) rfl (by decide) (by decide) rfl (fun ls hl => ?_)
      refine lv_iload_n hx hb dX11_unlikeDigits_29 rfl (lv_at hl 1 rfl) ?_
      refine lv_bipush (v := nI 10) hx hb dX11_unlikeDigits_30 (by decide) ?_
      refine lv_imul hx hb dX11_unlikeDigits_32 ?_
      refine lv_topi (fun v143 ev143 => ?_)
      obtain rfl : v143 = nI 100 := ev143.trans (by decide)
      refine lv_istore_n (lv' := [(3, .int (nI 100)), (2, .int (nI 1)), (0, .int x), (1, .int y)]) hx hb dX11_unlikeDigits_33 rfl hl (by decide) rfl (fun ls hl => ?_)
      refine lv_goto (tgt := 4) hx hb dX11_unlikeDigits_34 (by decide) ?_
      refine lv_iload_n hx hb dX11_unlikeDigits_4 rfl (lv_at hl 0 rfl) ?_
      refine lv_sipush (v := nI 9999) hx hb dX11_unlikeDigits_5 (by decide) ?_
      refine lv_icmp_gt (tgt := 37) hx hb dX11_unlikeDigits_8 (by decide) (fun c144 => absurd c144 (by decide)) (fun c144 => ?_)
      refine lv_iload_n hx hb dX11_unlikeDigits_11 rfl (lv_at hl 2 rfl) ?_
      refine lv_iload_n hx hb dX11_unlikeDigits_12 rfl (lv_at hl 0 rfl) ?_
      refine lv_idiv hx hb dX11_unlikeDigits_13 (by decide) ?_
      refine lv_topi (fun v145 ev145 => ?_)
      refine lv_bipush (v := nI 10) hx hb dX11_unlikeDigits_14 (by decide) ?_
      refine lv_irem hx hb dX11_unlikeDigits_16 (by decide) ?_
      refine lv_topi (fun v146 ev146 => ?_)
      refine lv_iload_n hx hb dX11_unlikeDigits_17 rfl (lv_at hl 3 rfl) ?_
      refine lv_iload_n hx hb dX11_unlikeDigits_18 rfl (lv_at hl 0 rfl) ?_
      refine lv_idiv hx hb dX11_unlikeDigits_19 (by decide) ?_
      refine lv_topi (fun v147 ev147 => ?_)
      refine lv_bipush (v := nI 10) hx hb dX11_unlikeDigits_20 (by decide) ?_
      refine lv_irem hx hb dX11_unlikeDigits_22 (by decide) ?_
      refine lv_topi (fun v148 ev148 => ?_)
      refine lv_icmp_eq (tgt := 29) hx hb dX11_unlikeDigits_23 (by decide) (fun c149 => ?_) (fun c149 => ?_)
      · have zc149 := c149
        replace zc149 := zc_eq (rfl) (rfl) zc149
        refine lv_iload_n hx hb dX11_unlikeDigits_29 rfl (lv_at hl 0 rfl) ?_
        refine lv_bipush (v := nI 10) hx hb dX11_unlikeDigits_30 (by decide) ?_
        refine lv_imul hx hb dX11_unlikeDigits_32 ?_
        refine lv_topi (fun v150 ev150 => ?_)
        obtain rfl : v150 = nI 1000 := ev150.trans (by decide)
        refine lv_istore_n (lv' := [(3, .int (nI 1000)), (2, .int (nI 1)), (0, .int x), (1, .int y)]) hx hb dX11_unlikeDigits_33 rfl hl (by decide) rfl (fun ls hl => ?_)
        refine lv_goto (tgt := 4) hx hb dX11_unlikeDigits_34 (by decide) ?_
        refine lv_iload_n hx hb dX11_unlikeDigits_4 rfl (lv_at hl 0 rfl) ?_
        refine lv_sipush (v := nI 9999) hx hb dX11_unlikeDigits_5 (by decide) ?_
        refine lv_icmp_gt (tgt := 37) hx hb dX11_unlikeDigits_8 (by decide) (fun c151 => absurd c151 (by decide)) (fun c151 => ?_)
        refine lv_iload_n hx hb dX11_unlikeDigits_11 rfl (lv_at hl 2 rfl) ?_
        refine lv_iload_n hx hb dX11_unlikeDigits_12 rfl (lv_at hl 0 rfl) ?_
        refine lv_idiv hx hb dX11_unlikeDigits_13 (by decide) ?_
        refine lv_topi (fun v152 ev152 => ?_)
        refine lv_bipush (v := nI 10) hx hb dX11_unlikeDigits_14 (by decide) ?_
        refine lv_irem hx hb dX11_unlikeDigits_16 (by decide) ?_
        refine lv_topi (fun v153 ev153 => ?_)
        refine lv_iload_n hx hb dX11_unlikeDigits_17 rfl (lv_at hl 3 rfl) ?_
        refine lv_iload_n hx hb dX11_unlikeDigits_18 rfl (lv_at hl 0 rfl) ?_
        refine lv_idiv hx hb dX11_unlikeDigits_19 (by decide) ?_
        refine lv_topi (fun v154 ev154 => ?_)
        refine lv_bipush (v := nI 10) hx hb dX11_unlikeDigits_20 (by decide) ?_
        refine lv_irem hx hb dX11_unlikeDigits_22 (by decide) ?_
        refine lv_topi (fun v155 ev155 => ?_)
        refine lv_icmp_eq (tgt := 29) hx hb dX11_unlikeDigits_23 (by decide) (fun c156 => ?_) (fun c156 => ?_)
        · have zc156 := c156
          replace zc156 := zc_eq (rfl) (rfl) zc156
          refine lv_iload_n hx hb dX11_unlikeDigits_29 rfl (lv_at hl 0 rfl) ?_
          refine lv_bipush (v := nI 10) hx hb dX11_unlikeDigits_30 (by decide) ?_
          refine lv_imul hx hb dX11_unlikeDigits_32 ?_
          refine lv_topi (fun v157 ev157 => ?_)
          obtain rfl : v157 = nI 10000 := ev157.trans (by decide)
          refine lv_istore_n (lv' := [(3, .int (nI 10000)), (2, .int (nI 1)), (0, .int x), (1, .int y)]) hx hb dX11_unlikeDigits_33 rfl hl (by decide) rfl (fun ls hl => ?_)
          refine lv_goto (tgt := 4) hx hb dX11_unlikeDigits_34 (by decide) ?_
          refine lv_iload_n hx hb dX11_unlikeDigits_4 rfl (lv_at hl 0 rfl) ?_
          refine lv_sipush (v := nI 9999) hx hb dX11_unlikeDigits_5 (by decide) ?_
          refine lv_icmp_gt (tgt := 37) hx hb dX11_unlikeDigits_8 (by decide) (fun c158 => ?_) (fun c158 => absurd (by decide) c158)
          refine lv_iload_n hx hb dX11_unlikeDigits_37 rfl (lv_at hl 1 rfl) ?_
          refine W.widen (k := 0) (n := 0) (by decide) (by decide) ?_
          exact W.iret (v := nI 1) hx hb hr (fun t9 ht9 hW9 => ⟨⟨nI 1, (), rfl, trivial, zEnd1 hH ht9 hW9⟩, hS.F ht9⟩) hS.2.2 dX11_unlikeDigits_38
        · have zc156 := c156
          replace zc156 := zc_neq (rfl) (rfl) zc156
          refine lv_iinc (v := nI 2) (lv' := [(2, .int (nI 2)), (3, .int (nI 1000)), (0, .int x), (1, .int y)]) hx hb dX11_unlikeDigits_26 hl (k := 1) rfl (by decide) (by decide) rfl (fun ls hl => ?_)
          refine lv_iload_n hx hb dX11_unlikeDigits_29 rfl (lv_at hl 1 rfl) ?_
          refine lv_bipush (v := nI 10) hx hb dX11_unlikeDigits_30 (by decide) ?_
          refine lv_imul hx hb dX11_unlikeDigits_32 ?_
          refine lv_topi (fun v159 ev159 => ?_)
          obtain rfl : v159 = nI 10000 := ev159.trans (by decide)
          refine lv_istore_n (lv' := [(3, .int (nI 10000)), (2, .int (nI 2)), (0, .int x), (1, .int y)]) hx hb dX11_unlikeDigits_33 rfl hl (by decide) rfl (fun ls hl => ?_)
          refine lv_goto (tgt := 4) hx hb dX11_unlikeDigits_34 (by decide) ?_
          refine lv_iload_n hx hb dX11_unlikeDigits_4 rfl (lv_at hl 0 rfl) ?_
          refine lv_sipush (v := nI 9999) hx hb dX11_unlikeDigits_5 (by decide) ?_
          refine lv_icmp_gt (tgt := 37) hx hb dX11_unlikeDigits_8 (by decide) (fun c160 => ?_) (fun c160 => absurd (by decide) c160)
          refine lv_iload_n hx hb dX11_unlikeDigits_37 rfl (lv_at hl 1 rfl) ?_
          refine W.widen (k := 0) (n := 0) (by decide) (by decide) ?_
          exact W.iret (v := nI 2) hx hb hr (fun t9 ht9 hW9 => ⟨⟨nI 2, (), rfl, trivial, zEnd1 hH ht9 hW9⟩, hS.F ht9⟩) hS.2.2 dX11_unlikeDigits_38
      · have zc149 := c149
        replace zc149 := zc_neq (rfl) (rfl) zc149
        refine lv_iinc (v := nI 2) (lv' := [(2, .int (nI 2)), (3, .int (nI 100)), (0, .int x), (1, .int y)]) hx hb dX11_unlikeDigits_26 hl (k := 1) rfl (by decide) (by decide) rfl (fun ls hl => ?_)
        refine lv_iload_n hx hb dX11_unlikeDigits_29 rfl (lv_at hl 1 rfl) ?_
        refine lv_bipush (v := nI 10) hx hb dX11_unlikeDigits_30 (by decide) ?_
        refine lv_imul hx hb dX11_unlikeDigits_32 ?_
        refine lv_topi (fun v161 ev161 => ?_)
        obtain rfl : v161 = nI 1000 := ev161.trans (by decide)
        refine lv_istore_n (lv' := [(3, .int (nI 1000)), (2, .int (nI 2)), (0, .int x), (1, .int y)]) hx hb dX11_unlikeDigits_33 rfl hl (by decide) rfl (fun ls hl => ?_)
        refine lv_goto (tgt := 4) hx hb dX11_unlikeDigits_34 (by decide) ?_
        refine lv_iload_n hx hb dX11_unlikeDigits_4 rfl (lv_at hl 0 rfl) ?_
        refine lv_sipush (v := nI 9999) hx hb dX11_unlikeDigits_5 (by decide) ?_
        refine lv_icmp_gt (tgt := 37) hx hb dX11_unlikeDigits_8 (by decide) (fun c162 => absurd c162 (by decide)) (fun c162 => ?_)
        refine lv_iload_n hx hb dX11_unlikeDigits_11 rfl (lv_at hl 2 rfl) ?_
        refine lv_iload_n hx hb dX11_unlikeDigits_12 rfl (lv_at hl 0 rfl) ?_
        refine lv_idiv hx hb dX11_unlikeDigits_13 (by decide) ?_
        refine lv_topi (fun v163 ev163 => ?_)
        refine lv_bipush (v := nI 10) hx hb dX11_unlikeDigits_14 (by decide) ?_
        refine lv_irem hx hb dX11_unlikeDigits_16 (by decide) ?_
        refine lv_topi (fun v164 ev164 => ?_)
        refine lv_iload_n hx hb dX11_unlikeDigits_17 rfl (lv_at hl 3 rfl) ?_
        refine lv_iload_n hx hb dX11_unlikeDigits_18 rfl (lv_at hl 0 rfl) ?_
        refine lv_idiv hx hb dX11_unlikeDigits_19 (by decide) ?_
        refine lv_topi (fun v165 ev165 => ?_)
        refine lv_bipush (v := nI 10) hx hb dX11_unlikeDigits_20 (by decide) ?_
        refine lv_irem hx hb dX11_unlikeDigits_22 (by decide) ?_
        refine lv_topi (fun v166 ev166 => ?_)
        refine lv_icmp_eq (tgt := 29) hx hb dX11_unlikeDigits_23 (by decide) (fun c167 => ?_) (fun c167 => ?_)
        · have zc167 := c167
          replace zc167 := zc_eq (rfl) (rfl) zc167
          refine lv_iload_n hx hb dX11_unlikeDigits_29 rfl (lv_at hl 0 rfl) ?_
          refine lv_bipush (v := nI 10) hx hb dX11_unlikeDigits_30 (by decide) ?_
          refine lv_imul hx hb dX11_unlikeDigits_32 ?_
          refine lv_topi (fun v168 ev168 => ?_)
          obtain rfl : v168 = nI 10000 := ev168.trans (by decide)
          refine lv_istore_n (lv' := [(3, .int (nI 10000)), (2, .int (nI 2)), (0, .int x), (1, .int y)]) hx hb dX11_unlikeDigits_33 rfl hl (by decide) rfl (fun ls hl => ?_)
          refine lv_goto (tgt := 4) hx hb dX11_unlikeDigits_34 (by decide) ?_
          refine lv_iload_n hx hb dX11_unlikeDigits_4 rfl (lv_at hl 0 rfl) ?_
          refine lv_sipush (v := nI 9999) hx hb dX11_unlikeDigits_5 (by decide) ?_
          refine lv_icmp_gt (tgt := 37) hx hb dX11_unlikeDigits_8 (by decide) (fun c169 => ?_) (fun c169 => absurd (by decide) c169)
          refine lv_iload_n hx hb dX11_unlikeDigits_37 rfl (lv_at hl 1 rfl) ?_
          refine W.widen (k := 0) (n := 0) (by decide) (by decide) ?_
          exact W.iret (v := nI 2) hx hb hr (fun t9 ht9 hW9 => ⟨⟨nI 2, (), rfl, trivial, zEnd1 hH ht9 hW9⟩, hS.F ht9⟩) hS.2.2 dX11_unlikeDigits_38
        · have zc167 := c167
          replace zc167 := zc_neq (rfl) (rfl) zc167
          refine lv_iinc (v := nI 3) (lv' := [(2, .int (nI 3)), (3, .int (nI 1000)), (0, .int x), (1, .int y)]) hx hb dX11_unlikeDigits_26 hl (k := 1) rfl (by decide) (by decide) rfl (fun ls hl => ?_)
          refine lv_iload_n hx hb dX11_unlikeDigits_29 rfl (lv_at hl 1 rfl) ?_
          refine lv_bipush (v := nI 10) hx hb dX11_unlikeDigits_30 (by decide) ?_
          refine lv_imul hx hb dX11_unlikeDigits_32 ?_
          refine lv_topi (fun v170 ev170 => ?_)
          obtain rfl : v170 = nI 10000 := ev170.trans (by decide)
          refine lv_istore_n (lv' := [(3, .int (nI 10000)), (2, .int (nI 3)), (0, .int x), (1, .int y)]) hx hb dX11_unlikeDigits_33 rfl hl (by decide) rfl (fun ls hl => ?_)
          refine lv_goto (tgt := 4) hx hb dX11_unlikeDigits_34 (by decide) ?_
          refine lv_iload_n hx hb dX11_unlikeDigits_4 rfl (lv_at hl 0 rfl) ?_
          refine lv_sipush (v := nI 9999) hx hb dX11_unlikeDigits_5 (by decide) ?_
          refine lv_icmp_gt (tgt := 37) hx hb dX11_unlikeDigits_8 (by decide) (fun c171 => ?_) (fun c171 => absurd (by decide) c171)
          refine lv_iload_n hx hb dX11_unlikeDigits_37 rfl (lv_at hl 1 rfl) ?_
          refine W.widen (k := 0) (n := 0) (by decide) (by decide) ?_
          exact W.iret (v := nI 3) hx hb hr (fun t9 ht9 hW9 => ⟨⟨nI 3, (), rfl, trivial, zEnd1 hH ht9 hW9⟩, hS.F ht9⟩) hS.2.2 dX11_unlikeDigits_38
  · have zc106 := c106
    replace zc106 := zc_neq (rfl) (rfl) zc106
    refine lv_iinc (v := nI 1) (lv' := [(2, .int (nI 1)), (3, .int (nI 1)), (0, .int x), (1, .int y)]) hx hb dX11_unlikeDigits_26 hl (k := 1) rfl (by decide) (by decide) rfl (fun ls hl => ?_)
    refine lv_iload_n hx hb dX11_unlikeDigits_29 rfl (lv_at hl 1 rfl) ?_
    refine lv_bipush (v := nI 10) hx hb dX11_unlikeDigits_30 (by decide) ?_
    refine lv_imul hx hb dX11_unlikeDigits_32 ?_
    refine lv_topi (fun v172 ev172 => ?_)
    obtain rfl : v172 = nI 10 := ev172.trans (by decide)
    refine lv_istore_n (lv' := [(3, .int (nI 10)), (2, .int (nI 1)), (0, .int x), (1, .int y)]) hx hb dX11_unlikeDigits_33 rfl hl (by decide) rfl (fun ls hl => ?_)
    refine lv_goto (tgt := 4) hx hb dX11_unlikeDigits_34 (by decide) ?_
    refine lv_iload_n hx hb dX11_unlikeDigits_4 rfl (lv_at hl 0 rfl) ?_
    refine lv_sipush (v := nI 9999) hx hb dX11_unlikeDigits_5 (by decide) ?_
    refine lv_icmp_gt (tgt := 37) hx hb dX11_unlikeDigits_8 (by decide) (fun c173 => absurd c173 (by decide)) (fun c173 => ?_)
    refine lv_iload_n hx hb dX11_unlikeDigits_11 rfl (lv_at hl 2 rfl) ?_
    refine lv_iload_n hx hb dX11_unlikeDigits_12 rfl (lv_at hl 0 rfl) ?_
    refine lv_idiv hx hb dX11_unlikeDigits_13 (by decide) ?_
    refine lv_topi (fun v174 ev174 => ?_)
    refine lv_bipush (v := nI 10) hx hb dX11_unlikeDigits_14 (by decide) ?_
    refine lv_irem hx hb dX11_unlikeDigits_16 (by decide) ?_
    refine lv_topi (fun v175 ev175 => ?_)
    refine lv_iload_n hx hb dX11_unlikeDigits_17 rfl (lv_at hl 3 rfl) ?_
    refine lv_iload_n hx hb dX11_unlikeDigits_18 rfl (lv_at hl 0 rfl) ?_
    refine lv_idiv hx hb dX11_unlikeDigits_19 (by decide) ?_
    refine lv_topi (fun v176 ev176 => ?_)
    refine lv_bipush (v := nI 10) hx hb dX11_unlikeDigits_20 (by decide) ?_
    refine lv_irem hx hb dX11_unlikeDigits_22 (by decide) ?_
    refine lv_topi (fun v177 ev177 => ?_)
    refine lv_icmp_eq (tgt := 29) hx hb dX11_unlikeDigits_23 (by decide) (fun c178 => ?_) (fun c178 => ?_)
    · have zc178 := c178
      replace zc178 := zc_eq (rfl) (rfl) zc178
      refine lv_iload_n hx hb dX11_unlikeDigits_29 rfl (lv_at hl 0 rfl) ?_
      refine lv_bipush (v := nI 10) hx hb dX11_unlikeDigits_30 (by decide) ?_
      refine lv_imul hx hb dX11_unlikeDigits_32 ?_
      refine lv_topi (fun v179 ev179 => ?_)
      obtain rfl : v179 = nI 100 := ev179.trans (by decide)
      refine lv_istore_n (lv' := [(3, .int (nI 100)), (2, .int (nI 1)), (0, .int x), (1, .int y)]) hx hb dX11_unlikeDigits_33 rfl hl (by decide) rfl (fun ls hl => ?_)
      refine lv_goto (tgt := 4) hx hb dX11_unlikeDigits_34 (by decide) ?_
      refine lv_iload_n hx hb dX11_unlikeDigits_4 rfl (lv_at hl 0 rfl) ?_
      refine lv_sipush (v := nI 9999) hx hb dX11_unlikeDigits_5 (by decide) ?_
      refine lv_icmp_gt (tgt := 37) hx hb dX11_unlikeDigits_8 (by decide) (fun c180 => absurd c180 (by decide)) (fun c180 => ?_)
      refine lv_iload_n hx hb dX11_unlikeDigits_11 rfl (lv_at hl 2 rfl) ?_
      refine lv_iload_n hx hb dX11_unlikeDigits_12 rfl (lv_at hl 0 rfl) ?_
      refine lv_idiv hx hb dX11_unlikeDigits_13 (by decide) ?_
      refine lv_topi (fun v181 ev181 => ?_)
      refine lv_bipush (v := nI 10) hx hb dX11_unlikeDigits_14 (by decide) ?_
      refine lv_irem hx hb dX11_unlikeDigits_16 (by decide) ?_
      refine lv_topi (fun v182 ev182 => ?_)
      refine lv_iload_n hx hb dX11_unlikeDigits_17 rfl (lv_at hl 3 rfl) ?_
      refine lv_iload_n hx hb dX11_unlikeDigits_18 rfl (lv_at hl 0 rfl) ?_
      refine lv_idiv hx hb dX11_unlikeDigits_19 (by decide) ?_
      refine lv_topi (fun v183 ev183 => ?_)
      refine lv_bipush (v := nI 10) hx hb dX11_unlikeDigits_20 (by decide) ?_
      refine lv_irem hx hb dX11_unlikeDigits_22 (by decide) ?_
      refine lv_topi (fun v184 ev184 => ?_)
      refine lv_icmp_eq (tgt := 29) hx hb dX11_unlikeDigits_23 (by decide) (fun c185 => ?_) (fun c185 => ?_)
      · have zc185 := c185
        replace zc185 := zc_eq (rfl) (rfl) zc185
        refine lv_iload_n hx hb dX11_unlikeDigits_29 rfl (lv_at hl 0 rfl) ?_
        refine lv_bipush (v := nI 10) hx hb dX11_unlikeDigits_30 (by decide) ?_
        refine lv_imul hx hb dX11_unlikeDigits_32 ?_
        refine lv_topi (fun v186 ev186 => ?_)
        obtain rfl : v186 = nI 1000 := ev186.trans (by decide)
        refine lv_istore_n (lv' := [(3, .int (nI 1000)), (2, .int (nI 1)), (0, .int x), (1, .int y)]) hx hb dX11_unlikeDigits_33 rfl hl (by decide) rfl (fun ls hl => ?_)
        refine lv_goto (tgt := 4) hx hb dX11_unlikeDigits_34 (by decide) ?_
        refine lv_iload_n hx hb dX11_unlikeDigits_4 rfl (lv_at hl 0 rfl) ?_
        refine lv_sipush (v := nI 9999) hx hb dX11_unlikeDigits_5 (by decide) ?_
        refine lv_icmp_gt (tgt := 37) hx hb dX11_unlikeDigits_8 (by decide) (fun c187 => absurd c187 (by decide)) (fun c187 => ?_)
        refine lv_iload_n hx hb dX11_unlikeDigits_11 rfl (lv_at hl 2 rfl) ?_
        refine lv_iload_n hx hb dX11_unlikeDigits_12 rfl (lv_at hl 0 rfl) ?_
        refine lv_idiv hx hb dX11_unlikeDigits_13 (by decide) ?_
        refine lv_topi (fun v188 ev188 => ?_)
        refine lv_bipush (v := nI 10) hx hb dX11_unlikeDigits_14 (by decide) ?_
        refine lv_irem hx hb dX11_unlikeDigits_16 (by decide) ?_
        refine lv_topi (fun v189 ev189 => ?_)
        refine lv_iload_n hx hb dX11_unlikeDigits_17 rfl (lv_at hl 3 rfl) ?_
        refine lv_iload_n hx hb dX11_unlikeDigits_18 rfl (lv_at hl 0 rfl) ?_
        refine lv_idiv hx hb dX11_unlikeDigits_19 (by decide) ?_
        refine lv_topi (fun v190 ev190 => ?_)
        refine lv_bipush (v := nI 10) hx hb dX11_unlikeDigits_20 (by decide) ?_
        refine lv_irem hx hb dX11_unlikeDigits_22 (by decide) ?_
        refine lv_topi (fun v191 ev191 => ?_)
        refine lv_icmp_eq (tgt := 29) hx hb dX11_unlikeDigits_23 (by decide) (fun c192 => ?_) (fun c192 => ?_)
        · have zc192 := c192
          replace zc192 := zc_eq (rfl) (rfl) zc192
          refine lv_iload_n hx hb dX11_unlikeDigits_29 rfl (lv_at hl 0 rfl) ?_
          refine lv_bipush (v := nI 10) hx hb dX11_unlikeDigits_30 (by decide) ?_
          refine lv_imul hx hb dX11_unlikeDigits_32 ?_
          refine lv_topi (fun v193 ev193 => ?_)
          obtain rfl : v193 = nI 10000 := ev193.trans (by decide)
          refine lv_istore_n (lv' := [(3, .int (nI 10000)), (2, .int (nI 1)), (0, .int x), (1, .int y)]) hx hb dX11_unlikeDigits_33 rfl hl (by decide) rfl (fun ls hl => ?_)
          refine lv_goto (tgt := 4) hx hb dX11_unlikeDigits_34 (by decide) ?_
          refine lv_iload_n hx hb dX11_unlikeDigits_4 rfl (lv_at hl 0 rfl) ?_
          refine lv_sipush (v := nI 9999) hx hb dX11_unlikeDigits_5 (by decide) ?_
          refine lv_icmp_gt (tgt := 37) hx hb dX11_unlikeDigits_8 (by decide) (fun c194 => ?_) (fun c194 => absurd (by decide) c194)
          refine lv_iload_n hx hb dX11_unlikeDigits_37 rfl (lv_at hl 1 rfl) ?_
          refine W.widen (k := 0) (n := 0) (by decide) (by decide) ?_
          exact W.iret (v := nI 1) hx hb hr (fun t9 ht9 hW9 => ⟨⟨nI 1, (), rfl, trivial, zEnd1 hH ht9 hW9⟩, hS.F ht9⟩) hS.2.2 dX11_unlikeDigits_38
        · have zc192 := c192
          replace zc192 := zc_neq (rfl) (rfl) zc192
          refine lv_iinc (v := nI 2) (lv' := [(2, .int (nI 2)), (3, .int (nI 1000)), (0, .int x), (1, .int y)]) hx hb dX11_unlikeDigits_26 hl (k := 1) rfl (by decide) (by decide) rfl (fun ls hl => ?_)
          refine lv_iload_n hx hb dX11_unlikeDigits_29 rfl (lv_at hl 1 rfl) ?_
          refine lv_bipush (v := nI 10) hx hb dX11_unlikeDigits_30 (by decide) ?_
          refine lv_imul hx hb dX11_unlikeDigits_32 ?_
          refine lv_topi (fun v195 ev195 => ?_)
          obtain rfl : v195 = nI 10000 := ev195.trans (by decide)
          refine lv_istore_n (lv' := [(3, .int (nI 10000)), (2, .int (nI 2)), (0, .int x), (1, .int y)]) hx hb dX11_unlikeDigits_33 rfl hl (by decide) rfl (fun ls hl => ?_)
          refine lv_goto (tgt := 4) hx hb dX11_unlikeDigits_34 (by decide) ?_
          refine lv_iload_n hx hb dX11_unlikeDigits_4 rfl (lv_at hl 0 rfl) ?_
          refine lv_sipush (v := nI 9999) hx hb dX11_unlikeDigits_5 (by decide) ?_
          refine lv_icmp_gt (tgt := 37) hx hb dX11_unlikeDigits_8 (by decide) (fun c196 => ?_) (fun c196 => absurd (by decide) c196)
          refine lv_iload_n hx hb dX11_unlikeDigits_37 rfl (lv_at hl 1 rfl) ?_
          refine W.widen (k := 0) (n := 0) (by decide) (by decide) ?_
          exact W.iret (v := nI 2) hx hb hr (fun t9 ht9 hW9 => ⟨⟨nI 2, (), rfl, trivial, zEnd1 hH ht9 hW9⟩, hS.F ht9⟩) hS.2.2 dX11_unlikeDigits_38
      · have zc185 := c185
        replace zc185 := zc_neq (rfl) (rfl) zc185
        refine lv_iinc (v := nI 2) (lv' := [(2, .int (nI 2)), (3, .int (nI 100)), (0, .int x), (1, .int y)]) hx hb dX11_unlikeDigits_26 hl (k := 1) rfl (by decide) (by decide) rfl (fun ls hl => ?_)
        refine lv_iload_n hx hb dX11_unlikeDigits_29 rfl (lv_at hl 1 rfl) ?_
        refine lv_bipush (v := nI 10) hx hb dX11_unlikeDigits_30 (by decide) ?_
        refine lv_imul hx hb dX11_unlikeDigits_32 ?_
        refine lv_topi (fun v197 ev197 => ?_)
        obtain rfl : v197 = nI 1000 := ev197.trans (by decide)
        refine lv_istore_n (lv' := [(3, .int (nI 1000)), (2, .int (nI 2)), (0, .int x), (1, .int y)]) hx hb dX11_unlikeDigits_33 rfl hl (by decide) rfl (fun ls hl => ?_)
        refine lv_goto (tgt := 4) hx hb dX11_unlikeDigits_34 (by decide) ?_
        refine lv_iload_n hx hb dX11_unlikeDigits_4 rfl (lv_at hl 0 rfl) ?_
        refine lv_sipush (v := nI 9999) hx hb dX11_unlikeDigits_5 (by decide) ?_
        refine lv_icmp_gt (tgt := 37) hx hb dX11_unlikeDigits_8 (by decide) (fun c198 => absurd c198 (by decide)) (fun c198 => ?_)
        refine lv_iload_n hx hb dX11_unlikeDigits_11 rfl (lv_at hl 2 rfl) ?_
        refine lv_iload_n hx hb dX11_unlikeDigits_12 rfl (lv_at hl 0 rfl) ?_
        refine lv_idiv hx hb dX11_unlikeDigits_13 (by decide) ?_
        refine lv_topi (fun v199 ev199 => ?_)
        refine lv_bipush (v := nI 10) hx hb dX11_unlikeDigits_14 (by decide) ?_
        refine lv_irem hx hb dX11_unlikeDigits_16 (by decide) ?_
        refine lv_topi (fun v200 ev200 => ?_)
        refine lv_iload_n hx hb dX11_unlikeDigits_17 rfl (lv_at hl 3 rfl) ?_
        refine lv_iload_n hx hb dX11_unlikeDigits_18 rfl (lv_at hl 0 rfl) ?_
        refine lv_idiv hx hb dX11_unlikeDigits_19 (by decide) ?_
        refine lv_topi (fun v201 ev201 => ?_)
        refine lv_bipush (v := nI 10) hx hb dX11_unlikeDigits_20 (by decide) ?_
        refine lv_irem hx hb dX11_unlikeDigits_22 (by decide) ?_
        refine lv_topi (fun v202 ev202 => ?_)
        refine lv_icmp_eq (tgt := 29) hx hb dX11_unlikeDigits_23 (by decide) (fun c203 => ?_) (fun c203 => ?_)
        · have zc203 := c203
          replace zc203 := zc_eq (rfl) (rfl) zc203
          refine lv_iload_n hx hb dX11_unlikeDigits_29 rfl (lv_at hl 0 rfl) ?_
          refine lv_bipush (v := nI 10) hx hb dX11_unlikeDigits_30 (by decide) ?_
          refine lv_imul hx hb dX11_unlikeDigits_32 ?_
          refine lv_topi (fun v204 ev204 => ?_)
          obtain rfl : v204 = nI 10000 := ev204.trans (by decide)
          refine lv_istore_n (lv' := [(3, .int (nI 10000)), (2, .int (nI 2)), (0, .int x), (1, .int y)]) hx hb dX11_unlikeDigits_33 rfl hl (by decide) rfl (fun ls hl => ?_)
          refine lv_goto (tgt := 4) hx hb dX11_unlikeDigits_34 (by decide) ?_
          refine lv_iload_n hx hb dX11_unlikeDigits_4 rfl (lv_at hl 0 rfl) ?_
          refine lv_sipush (v := nI 9999) hx hb dX11_unlikeDigits_5 (by decide) ?_
          refine lv_icmp_gt (tgt := 37) hx hb dX11_unlikeDigits_8 (by decide) (fun c205 => ?_) (fun c205 => absurd (by decide) c205)
          refine lv_iload_n hx hb dX11_unlikeDigits_37 rfl (lv_at hl 1 rfl) ?_
          refine W.widen (k := 0) (n := 0) (by decide) (by decide) ?_
          exact W.iret (v := nI 2) hx hb hr (fun t9 ht9 hW9 => ⟨⟨nI 2, (), rfl, trivial, zEnd1 hH ht9 hW9⟩, hS.F ht9⟩) hS.2.2 dX11_unlikeDigits_38
        · have zc203 := c203
          replace zc203 := zc_neq (rfl) (rfl) zc203
          refine lv_iinc (v := nI 3) (lv' := [(2, .int (nI 3)), (3, .int (nI 1000)), (0, .int x), (1, .int y)]) hx hb dX11_unlikeDigits_26 hl (k := 1) rfl (by decide) (by decide) rfl (fun ls hl => ?_)
          refine lv_iload_n hx hb dX11_unlikeDigits_29 rfl (lv_at hl 1 rfl) ?_
          refine lv_bipush (v := nI 10) hx hb dX11_unlikeDigits_30 (by decide) ?_
          refine lv_imul hx hb dX11_unlikeDigits_32 ?_
          refine lv_topi (fun v206 ev206 => ?_)
          obtain rfl : v206 = nI 10000 := ev206.trans (by decide)
          refine lv_istore_n (lv' := [(3, .int (nI 10000)), (2, .int (nI 3)), (0, .int x), (1, .int y)]) hx hb dX11_unlikeDigits_33 rfl hl (by decide) rfl (fun ls hl => ?_)
          refine lv_goto (tgt := 4) hx hb dX11_unlikeDigits_34 (by decide) ?_
          refine lv_iload_n hx hb dX11_unlikeDigits_4 rfl (lv_at hl 0 rfl) ?_
          refine lv_sipush (v := nI 9999) hx hb dX11_unlikeDigits_5 (by decide) ?_
          refine lv_icmp_gt (tgt := 37) hx hb dX11_unlikeDigits_8 (by decide) (fun c207 => ?_) (fun c207 => absurd (by decide) c207)
          refine lv_iload_n hx hb dX11_unlikeDigits_37 rfl (lv_at hl 1 rfl) ?_
          refine W.widen (k := 0) (n := 0) (by decide) (by decide) ?_
          exact W.iret (v := nI 3) hx hb hr (fun t9 ht9 hW9 => ⟨⟨nI 3, (), rfl, trivial, zEnd1 hH ht9 hW9⟩, hS.F ht9⟩) hS.2.2 dX11_unlikeDigits_38
    · have zc178 := c178
      replace zc178 := zc_neq (rfl) (rfl) zc178
      refine lv_iinc (v := nI 2) (lv' := [(2, .int (nI 2)), (3, .int (nI 10)), (0, .int x), (1, .int y)]) hx hb dX11_unlikeDigits_26 hl (k := 1) rfl (by decide) (by decide) rfl (fun ls hl => ?_)
      refine lv_iload_n hx hb dX11_unlikeDigits_29 rfl (lv_at hl 1 rfl) ?_
      refine lv_bipush (v := nI 10) hx hb dX11_unlikeDigits_30 (by decide) ?_
      refine lv_imul hx hb dX11_unlikeDigits_32 ?_
      refine lv_topi (fun v208 ev208 => ?_)
      obtain rfl : v208 = nI 100 := ev208.trans (by decide)
      refine lv_istore_n (lv' := [(3, .int (nI 100)), (2, .int (nI 2)), (0, .int x), (1, .int y)]) hx hb dX11_unlikeDigits_33 rfl hl (by decide) rfl (fun ls hl => ?_)
      refine lv_goto (tgt := 4) hx hb dX11_unlikeDigits_34 (by decide) ?_
      refine lv_iload_n hx hb dX11_unlikeDigits_4 rfl (lv_at hl 0 rfl) ?_
      refine lv_sipush (v := nI 9999) hx hb dX11_unlikeDigits_5 (by decide) ?_
      refine lv_icmp_gt (tgt := 37) hx hb dX11_unlikeDigits_8 (by decide) (fun c209 => absurd c209 (by decide)) (fun c209 => ?_)
      refine lv_iload_n hx hb dX11_unlikeDigits_11 rfl (lv_at hl 2 rfl) ?_
      refine lv_iload_n hx hb dX11_unlikeDigits_12 rfl (lv_at hl 0 rfl) ?_
      refine lv_idiv hx hb dX11_unlikeDigits_13 (by decide) ?_
      refine lv_topi (fun v210 ev210 => ?_)
      refine lv_bipush (v := nI 10) hx hb dX11_unlikeDigits_14 (by decide) ?_
      refine lv_irem hx hb dX11_unlikeDigits_16 (by decide) ?_
      refine lv_topi (fun v211 ev211 => ?_)
      refine lv_iload_n hx hb dX11_unlikeDigits_17 rfl (lv_at hl 3 rfl) ?_
      refine lv_iload_n hx hb dX11_unlikeDigits_18 rfl (lv_at hl 0 rfl) ?_
      refine lv_idiv hx hb dX11_unlikeDigits_19 (by decide) ?_
      refine lv_topi (fun v212 ev212 => ?_)
      refine lv_bipush (v := nI 10) hx hb dX11_unlikeDigits_20 (by decide) ?_
      refine lv_irem hx hb dX11_unlikeDigits_22 (by decide) ?_
      refine lv_topi (fun v213 ev213 => ?_)
      refine lv_icmp_eq (tgt := 29) hx hb dX11_unlikeDigits_23 (by decide) (fun c214 => ?_) (fun c214 => ?_)
      · have zc214 := c214
        replace zc214 := zc_eq (rfl) (rfl) zc214
        refine lv_iload_n hx hb dX11_unlikeDigits_29 rfl (lv_at hl 0 rfl) ?_
        refine lv_bipush (v := nI 10) hx hb dX11_unlikeDigits_30 (by decide) ?_
        refine lv_imul hx hb dX11_unlikeDigits_32 ?_
        refine lv_topi (fun v215 ev215 => ?_)
        obtain rfl : v215 = nI 1000 := ev215.trans (by decide)
        refine lv_istore_n (lv' := [(3, .int (nI 1000)), (2, .int (nI 2)), (0, .int x), (1, .int y)]) hx hb dX11_unlikeDigits_33 rfl hl (by decide) rfl (fun ls hl => ?_)
        refine lv_goto (tgt := 4) hx hb dX11_unlikeDigits_34 (by decide) ?_
        refine lv_iload_n hx hb dX11_unlikeDigits_4 rfl (lv_at hl 0 rfl) ?_
        refine lv_sipush (v := nI 9999) hx hb dX11_unlikeDigits_5 (by decide) ?_
        refine lv_icmp_gt (tgt := 37) hx hb dX11_unlikeDigits_8 (by decide) (fun c216 => absurd c216 (by decide)) (fun c216 => ?_)
        refine lv_iload_n hx hb dX11_unlikeDigits_11 rfl (lv_at hl 2 rfl) ?_
        refine lv_iload_n hx hb dX11_unlikeDigits_12 rfl (lv_at hl 0 rfl) ?_
        refine lv_idiv hx hb dX11_unlikeDigits_13 (by decide) ?_
        refine lv_topi (fun v217 ev217 => ?_)
        refine lv_bipush (v := nI 10) hx hb dX11_unlikeDigits_14 (by decide) ?_
        refine lv_irem hx hb dX11_unlikeDigits_16 (by decide) ?_
        refine lv_topi (fun v218 ev218 => ?_)
        refine lv_iload_n hx hb dX11_unlikeDigits_17 rfl (lv_at hl 3 rfl) ?_
        refine lv_iload_n hx hb dX11_unlikeDigits_18 rfl (lv_at hl 0 rfl) ?_
        refine lv_idiv hx hb dX11_unlikeDigits_19 (by decide) ?_
        refine lv_topi (fun v219 ev219 => ?_)
        refine lv_bipush (v := nI 10) hx hb dX11_unlikeDigits_20 (by decide) ?_
        refine lv_irem hx hb dX11_unlikeDigits_22 (by decide) ?_
        refine lv_topi (fun v220 ev220 => ?_)
        refine lv_icmp_eq (tgt := 29) hx hb dX11_unlikeDigits_23 (by decide) (fun c221 => ?_) (fun c221 => ?_)
        · have zc221 := c221
          replace zc221 := zc_eq (rfl) (rfl) zc221
          refine lv_iload_n hx hb dX11_unlikeDigits_29 rfl (lv_at hl 0 rfl) ?_
          refine lv_bipush (v := nI 10) hx hb dX11_unlikeDigits_30 (by decide) ?_
          refine lv_imul hx hb dX11_unlikeDigits_32 ?_
          refine lv_topi (fun v222 ev222 => ?_)
          obtain rfl : v222 = nI 10000 := ev222.trans (by decide)
          refine lv_istore_n (lv' := [(3, .int (nI 10000)), (2, .int (nI 2)), (0, .int x), (1, .int y)]) hx hb dX11_unlikeDigits_33 rfl hl (by decide) rfl (fun ls hl => ?_)
          refine lv_goto (tgt := 4) hx hb dX11_unlikeDigits_34 (by decide) ?_
          refine lv_iload_n hx hb dX11_unlikeDigits_4 rfl (lv_at hl 0 rfl) ?_
          refine lv_sipush (v := nI 9999) hx hb dX11_unlikeDigits_5 (by decide) ?_
          refine lv_icmp_gt (tgt := 37) hx hb dX11_unlikeDigits_8 (by decide) (fun c223 => ?_) (fun c223 => absurd (by decide) c223)
          refine lv_iload_n hx hb dX11_unlikeDigits_37 rfl (lv_at hl 1 rfl) ?_
          refine W.widen (k := 0) (n := 0) (by decide) (by decide) ?_
          exact W.iret (v := nI 2) hx hb hr (fun t9 ht9 hW9 => ⟨⟨nI 2, (), rfl, trivial, zEnd1 hH ht9 hW9⟩, hS.F ht9⟩) hS.2.2 dX11_unlikeDigits_38
        · have zc221 := c221
          replace zc221 := zc_neq (rfl) (rfl) zc221
          refine lv_iinc (v := nI 3) (lv' := [(2, .int (nI 3)), (3, .int (nI 1000)), (0, .int x), (1, .int y)]) hx hb dX11_unlikeDigits_26 hl (k := 1) rfl (by decide) (by decide) rfl (fun ls hl => ?_)
          refine lv_iload_n hx hb dX11_unlikeDigits_29 rfl (lv_at hl 1 rfl) ?_
          refine lv_bipush (v := nI 10) hx hb dX11_unlikeDigits_30 (by decide) ?_
          refine lv_imul hx hb dX11_unlikeDigits_32 ?_
          refine lv_topi (fun v224 ev224 => ?_)
          obtain rfl : v224 = nI 10000 := ev224.trans (by decide)
          refine lv_istore_n (lv' := [(3, .int (nI 10000)), (2, .int (nI 3)), (0, .int x), (1, .int y)]) hx hb dX11_unlikeDigits_33 rfl hl (by decide) rfl (fun ls hl => ?_)
          refine lv_goto (tgt := 4) hx hb dX11_unlikeDigits_34 (by decide) ?_
          refine lv_iload_n hx hb dX11_unlikeDigits_4 rfl (lv_at hl 0 rfl) ?_
          refine lv_sipush (v := nI 9999) hx hb dX11_unlikeDigits_5 (by decide) ?_
          refine lv_icmp_gt (tgt := 37) hx hb dX11_unlikeDigits_8 (by decide) (fun c225 => ?_) (fun c225 => absurd (by decide) c225)
          refine lv_iload_n hx hb dX11_unlikeDigits_37 rfl (lv_at hl 1 rfl) ?_
          refine W.widen (k := 0) (n := 0) (by decide) (by decide) ?_
          exact W.iret (v := nI 3) hx hb hr (fun t9 ht9 hW9 => ⟨⟨nI 3, (), rfl, trivial, zEnd1 hH ht9 hW9⟩, hS.F ht9⟩) hS.2.2 dX11_unlikeDigits_38
      · have zc214 := c214
        replace zc214 := zc_neq (rfl) (rfl) zc214
        refine lv_iinc (v := nI 3) (lv' := [(2, .int (nI 3)), (3, .int (nI 100)), (0, .int x), (1, .int y)]) hx hb dX11_unlikeDigits_26 hl (k := 1) rfl (by decide) (by decide) rfl (fun ls hl => ?_)
        refine lv_iload_n hx hb dX11_unlikeDigits_29 rfl (lv_at hl 1 rfl) ?_
        refine lv_bipush (v := nI 10) hx hb dX11_unlikeDigits_30 (by decide) ?_
        refine lv_imul hx hb dX11_unlikeDigits_32 ?_
        refine lv_topi (fun v226 ev226 => ?_)
        obtain rfl : v226 = nI 1000 := ev226.trans (by decide)
        refine lv_istore_n (lv' := [(3, .int (nI 1000)), (2, .int (nI 3)), (0, .int x), (1, .int y)]) hx hb dX11_unlikeDigits_33 rfl hl (by decide) rfl (fun ls hl => ?_)
        refine lv_goto (tgt := 4) hx hb dX11_unlikeDigits_34 (by decide) ?_
        refine lv_iload_n hx hb dX11_unlikeDigits_4 rfl (lv_at hl 0 rfl) ?_
        refine lv_sipush (v := nI 9999) hx hb dX11_unlikeDigits_5 (by decide) ?_
        refine lv_icmp_gt (tgt := 37) hx hb dX11_unlikeDigits_8 (by decide) (fun c227 => absurd c227 (by decide)) (fun c227 => ?_)
        refine lv_iload_n hx hb dX11_unlikeDigits_11 rfl (lv_at hl 2 rfl) ?_
        refine lv_iload_n hx hb dX11_unlikeDigits_12 rfl (lv_at hl 0 rfl) ?_
        refine lv_idiv hx hb dX11_unlikeDigits_13 (by decide) ?_
        refine lv_topi (fun v228 ev228 => ?_)
        refine lv_bipush (v := nI 10) hx hb dX11_unlikeDigits_14 (by decide) ?_
        refine lv_irem hx hb dX11_unlikeDigits_16 (by decide) ?_
        refine lv_topi (fun v229 ev229 => ?_)
        refine lv_iload_n hx hb dX11_unlikeDigits_17 rfl (lv_at hl 3 rfl) ?_
        refine lv_iload_n hx hb dX11_unlikeDigits_18 rfl (lv_at hl 0 rfl) ?_
        refine lv_idiv hx hb dX11_unlikeDigits_19 (by decide) ?_
        refine lv_topi (fun v230 ev230 => ?_)
        refine lv_bipush (v := nI 10) hx hb dX11_unlikeDigits_20 (by decide) ?_
        refine lv_irem hx hb dX11_unlikeDigits_22 (by decide) ?_
        refine lv_topi (fun v231 ev231 => ?_)
        refine lv_icmp_eq (tgt := 29) hx hb dX11_unlikeDigits_23 (by decide) (fun c232 => ?_) (fun c232 => ?_)
        · have zc232 := c232
          replace zc232 := zc_eq (rfl) (rfl) zc232
          refine lv_iload_n hx hb dX11_unlikeDigits_29 rfl (lv_at hl 0 rfl) ?_
          refine lv_bipush (v := nI 10) hx hb dX11_unlikeDigits_30 (by decide) ?_
          refine lv_imul hx hb dX11_unlikeDigits_32 ?_
          refine lv_topi (fun v233 ev233 => ?_)
          obtain rfl : v233 = nI 10000 := ev233.trans (by decide)
          refine lv_istore_n (lv' := [(3, .int (nI 10000)), (2, .int (nI 3)), (0, .int x), (1, .int y)]) hx hb dX11_unlikeDigits_33 rfl hl (by decide) rfl (fun ls hl => ?_)
          refine lv_goto (tgt := 4) hx hb dX11_unlikeDigits_34 (by decide) ?_
          refine lv_iload_n hx hb dX11_unlikeDigits_4 rfl (lv_at hl 0 rfl) ?_
          refine lv_sipush (v := nI 9999) hx hb dX11_unlikeDigits_5 (by decide) ?_
          refine lv_icmp_gt (tgt := 37) hx hb dX11_unlikeDigits_8 (by decide) (fun c234 => ?_) (fun c234 => absurd (by decide) c234)
          refine lv_iload_n hx hb dX11_unlikeDigits_37 rfl (lv_at hl 1 rfl) ?_
          refine W.widen (k := 0) (n := 0) (by decide) (by decide) ?_
          exact W.iret (v := nI 3) hx hb hr (fun t9 ht9 hW9 => ⟨⟨nI 3, (), rfl, trivial, zEnd1 hH ht9 hW9⟩, hS.F ht9⟩) hS.2.2 dX11_unlikeDigits_38
        · have zc232 := c232
          replace zc232 := zc_neq (rfl) (rfl) zc232
          refine lv_iinc (v := nI 4) (lv' := [(2, .int (nI 4)), (3, .int (nI 1000)), (0, .int x), (1, .int y)]) hx hb dX11_unlikeDigits_26 hl (k := 1) rfl (by decide) (by decide) rfl (fun ls hl => ?_)
          refine lv_iload_n hx hb dX11_unlikeDigits_29 rfl (lv_at hl 1 rfl) ?_
          refine lv_bipush (v := nI 10) hx hb dX11_unlikeDigits_30 (by decide) ?_
          refine lv_imul hx hb dX11_unlikeDigits_32 ?_
          refine lv_topi (fun v235 ev235 => ?_)
          obtain rfl : v235 = nI 10000 := ev235.trans (by decide)
          refine lv_istore_n (lv' := [(3, .int (nI 10000)), (2, .int (nI 4)), (0, .int x), (1, .int y)]) hx hb dX11_unlikeDigits_33 rfl hl (by decide) rfl (fun ls hl => ?_)
          refine lv_goto (tgt := 4) hx hb dX11_unlikeDigits_34 (by decide) ?_
          refine lv_iload_n hx hb dX11_unlikeDigits_4 rfl (lv_at hl 0 rfl) ?_
          refine lv_sipush (v := nI 9999) hx hb dX11_unlikeDigits_5 (by decide) ?_
          refine lv_icmp_gt (tgt := 37) hx hb dX11_unlikeDigits_8 (by decide) (fun c236 => ?_) (fun c236 => absurd (by decide) c236)
          refine lv_iload_n hx hb dX11_unlikeDigits_37 rfl (lv_at hl 1 rfl) ?_
          refine W.widen (k := 0) (n := 0) (by decide) (by decide) ?_
          exact W.iret (v := nI 4) hx hb hr (fun t9 ht9 hW9 => ⟨⟨nI 4, (), rfl, trivial, zEnd1 hH ht9 hW9⟩, hS.F ht9⟩) hS.2.2 dX11_unlikeDigits_38
set_option maxHeartbeats 4000000 in
set_option maxRecDepth 100000 in
/-- soldToday -/
theorem c_sold (l : Launch) (hl0 : l.stackTraces = false) (D : va_G) (A : Nat → Prop) (sad : Nat → Nat) (τ : zTy) (fi : zFi) (fr : zFr) (ol : Int64) (x : Int32) (hF : zFix τ fr) (n : Nat) (hT : zTh τ fi fr n) : Met l yX11_soldToday wsX11_soldToday ({ frames := 2, cells := 0, slots := 0, locals := 44 }) (va_Pc [.ref (τ.1 0), .int x] (zQc D A sad τ fi fr ol)) (va_Qq (fun (r : Option Nat) (u : Unit) => (∃ t, t < n ∧ r = some (τ.1 (300 + t))) ∨ r = none) (fun (u : Unit) (t : State) => zH D A τ fi fr ol t t.heap) A) 0 0 A := by
  refine Met.ofW (cc := cX11_soldToday) (maxL := 3) (ret := (some (.object "PostHouse$Thing"))) (by decide) rfl ?_
  intro p9 e9 s m args below meth c9 s₁ B hml hv
  obtain ⟨rfl, hz, hH, hA⟩ := hv
  have hx := B.exec
  have hb := B.bytes
  have hr := B.returns
  have hts := atoms_spec (ws := wsX11_soldToday) B.pre
  have hown : s.vm.findClass RX11 = some m.cls := findClass_of_methodNamed B.named
  have hlocks := B.notSynchronized
  have hS : va_S A s.heap s.heap [] := va_S.rf
  have hl := lv_entry ([.ref (τ.1 0), .int x]) (n := 3) (Nat.le_of_ble_eq_true rfl)
  rw [lg_entry_eq]
  generalize (lg_sl ([.ref (τ.1 0), .int x]) ++ List.replicate (3 - (lg_sl ([.ref (τ.1 0), .int x])).length) Slot.unset).toArray = ls at hl ⊢
  have hl : lv_has ls 3 [(0, .ref (τ.1 0)), (1, .int x)] := hl
  have hn30 := hT.1
  have hiX11 : ∀ w ∈ u_ws RX11 TX11 16, w ∈ wsX11_soldToday := fun _ h => List.mem_cons_of_mem _ (List.mem_append_left _ (List.mem_append_left _ (List.mem_append_right _ h)))
  have hw1 := hts (.fieldLink RX11 19 "PostHouse" "book" "LPostHouse$Book;") (by decide +kernel)
  have hw2 := hts (.fieldLink RX11 136 "PostHouse" "today" "I") (by decide +kernel)
  refine lv_aload_n hx hb dX11_soldToday_0 rfl (lv_at hl 0 rfl) ?_
  refine zGetR (D := D) (ci := 11) (C := RX11) (T := TX11) (N := 16) hx hb hts hiX11 hown hH (zk_0 hF) rfl 1 (by decide) rfl hw1 (fun _ h9 => h9) dX11_soldToday_1 (zr_0_1 hF) ?_
  refine lv_iload_n hx hb dX11_soldToday_4 rfl (lv_at hl 1 rfl) ?_
  refine va_callq (va_runV (As := [.int x]) (rest := []) ⟨hx, hb, hml, hown, hts⟩ (c_ofCode l hl0 D A sad τ fi fr ol x hF n hT) (cwV 1 hts gX11_soldToday_X0_ofCode rfl rfl rfl (by decide +kernel) ⟨Nat.le_of_ble_eq_true rfl, Nat.le_of_ble_eq_true rfl⟩) ⟨zQc_bl, zRecv hH (zk_3 hF) rfl, zQc_at hz hS hA hH⟩ rfl rfl hl.1 rfl (lv_room (Nat.le_of_ble_eq_true rfl)) dX11_soldToday_5 ⟨Nat.le_of_ble_eq_true rfl, Nat.le_of_ble_eq_true rfl⟩) hS (fun q _ h => h) (fun q h => h) (fun r101 u9 t9 H1 locs ht9 hvm9 hw hB hz1 hk1 hS => ?_)
  have hH := zMv ht9 hvm9 hB
  generalize H1 = H at hH hS ⊢
  rcases hw with ⟨t, ht, hcd, hcl, rfl⟩ | ⟨hno, rfl⟩
  · skip
    refine lv_astore_n (lv' := [(2, .ref (τ.1 (300 + t))), (0, .ref (τ.1 0)), (1, .int x)]) hx hb dX11_soldToday_8 rfl hl (by decide) rfl (fun ls hl => ?_)
    refine lv_aload_n hx hb dX11_soldToday_9 rfl (lv_at hl 0 rfl) ?_
    refine lv_ifnull hx hb dX11_soldToday_10 ?_
    refine lv_aload_n hx hb dX11_soldToday_13 rfl (lv_at hl 0 rfl) ?_
    refine lv_aload_n hx hb dX11_soldToday_14 rfl (lv_at hl 1 rfl) ?_
    refine zGetI (D := D) (ci := 11) (C := RX11) (T := TX11) (N := 16) hx hb hts hiX11 hown hH (zk_0 hF) rfl 15 (by decide) rfl hw2 (fun _ h9 => h9) dX11_soldToday_15 rfl ?_
    obtain ⟨k102, h4k102, h0k102⟩ := (hT.2.2.1 t (by omega)).2.2.2.2
    refine va_calli (va_runV (As := [.int (fi 0 15)]) (rest := []) ⟨hx, hb, hml, hown, hts⟩ (c_moneyOn l hl0 D A sad τ fi fr ol (fi 0 15) n hT t k102 (by omega) h0k102 h4k102) (cwV 1 hts gX11_soldToday_X8_moneyOn rfl rfl rfl (by decide +kernel) ⟨Nat.le_of_ble_eq_true rfl, Nat.le_of_ble_eq_true rfl⟩) ⟨zQc_bl, zRecv hH (hT.2.2.1 t (by omega)).1.1 rfl, zQc_at hz hS hA hH⟩ rfl rfl hl.1 rfl (lv_room (Nat.le_of_ble_eq_true rfl)) dX11_soldToday_18 ⟨Nat.le_of_ble_eq_true rfl, Nat.le_of_ble_eq_true rfl⟩) hS (fun q _ h => h) (fun q h => h) (fun r103 u9 t9 H1 locs ht9 hvm9 hw hB hz1 hk1 hS => ?_)
    have hH := zMv ht9 hvm9 hB
    generalize H1 = H at hH hS ⊢
    refine lv_iconst (v := (-1)) hx hb dX11_soldToday_21 (by decide) ?_
    refine lv_icmp_ne (tgt := 29) hx hb dX11_soldToday_22 (by decide) (fun c104 => ?_) (fun c104 => ?_)
    · have zc104 := c104
      replace zc104 := zc_neq (rfl) ((by decide : ((-1) : Int32).toInt = (-1))) zc104
      refine lv_aload_n hx hb dX11_soldToday_29 rfl (lv_at hl 0 rfl) ?_
      refine W.widen (k := 0) (n := 0) (by decide) (by decide) ?_
      exact W.aret (v := .ref (τ.1 (300 + t))) hx hb hr (Or.inl ⟨_, rfl⟩) (Or.inr ⟨_, rfl⟩) (fun t9 ht9 hW9 => ⟨⟨(some (τ.1 (300 + t))), (), rfl, Or.inl ⟨t, ht, rfl⟩, zEnd1 hH ht9 hW9⟩, hS.F ht9⟩) hS.2.2 dX11_soldToday_30
    · have zc104 := c104
      replace zc104 := zc_eq (rfl) ((by decide : ((-1) : Int32).toInt = (-1))) zc104
      refine lv_null hx hb dX11_soldToday_25 ?_
      refine lv_goto (tgt := 30) hx hb dX11_soldToday_26 (by decide) ?_
      refine W.widen (k := 0) (n := 0) (by decide) (by decide) ?_
      exact W.aret (v := .null) hx hb hr (Or.inl ⟨_, rfl⟩) (Or.inl rfl) (fun t9 ht9 hW9 => ⟨⟨none, (), rfl, Or.inr rfl, zEnd1 hH ht9 hW9⟩, hS.F ht9⟩) hS.2.2 dX11_soldToday_30
  · skip
    refine lv_astore_nN (lv' := [(2, .null), (0, .ref (τ.1 0)), (1, .int x)]) hx hb dX11_soldToday_8 rfl hl (by decide) rfl (fun ls hl => ?_)
    refine lv_aload_nN hx hb dX11_soldToday_9 rfl (lv_at hl 0 rfl) ?_
    refine lv_ifnullN (tgt := 25) hx hb dX11_soldToday_10 (by decide) ?_
    refine lv_null hx hb dX11_soldToday_25 ?_
    refine lv_goto (tgt := 30) hx hb dX11_soldToday_26 (by decide) ?_
    refine W.widen (k := 0) (n := 0) (by decide) (by decide) ?_
    exact W.aret (v := .null) hx hb hr (Or.inl ⟨_, rfl⟩) (Or.inl rfl) (fun t9 ht9 hW9 => ⟨⟨none, (), rfl, Or.inr rfl, zEnd1 hH ht9 hW9⟩, hS.F ht9⟩) hS.2.2 dX11_soldToday_30
set_option maxHeartbeats 4000000 in
set_option maxRecDepth 100000 in
/-- totalBut -/
theorem c_totalBut (l : Launch) (hl0 : l.stackTraces = false) (D : va_G) (A : Nat → Prop) (sad : Nat → Nat) (τ : zTy) (fi : zFi) (fr : zFr) (ol : Int64) (x : Int32) (hF : zFix τ fr) (n : Nat) (hT : zTh τ fi fr n) (q : Nat) (hq5 : q ≤ 512) (hL : zLk τ fr q) (l0 : Nat) (hl8 : l0 ≤ 8) (hln : fi (3000 + q) 2 = nI l0) : Met l yX11_totalBut wsX11_totalBut ({ frames := 3, cells := 0, slots := 0, locals := 66 }) (va_Pc [.ref (τ.1 0), .ref (τ.1 (3000 + q)), .int x] (zQc D A sad τ fi fr ol)) (va_Qi (fun (r : Int32) (u : Unit) => True) (fun (u : Unit) (t : State) => zH D A τ fi fr ol t t.heap) A) 0 0 A := by
  refine Met.ofW (cc := cX11_totalBut) (maxL := 6) (ret := (some .int)) (by decide) rfl ?_
  intro p9 e9 s m args below meth c9 s₁ B hml hv
  obtain ⟨rfl, hz, hH, hA⟩ := hv
  have hx := B.exec
  have hb := B.bytes
  have hr := B.returns
  have hts := atoms_spec (ws := wsX11_totalBut) B.pre
  have hown : s.vm.findClass RX11 = some m.cls := findClass_of_methodNamed B.named
  have hlocks := B.notSynchronized
  have hS : va_S A s.heap s.heap [] := va_S.rf
  have hl := lv_entry ([.ref (τ.1 0), .ref (τ.1 (3000 + q)), .int x]) (n := 6) (Nat.le_of_ble_eq_true rfl)
  rw [lg_entry_eq]
  generalize (lg_sl ([.ref (τ.1 0), .ref (τ.1 (3000 + q)), .int x]) ++ List.replicate (6 - (lg_sl ([.ref (τ.1 0), .ref (τ.1 (3000 + q)), .int x])).length) Slot.unset).toArray = ls at hl ⊢
  have hl : lv_has ls 6 [(0, .ref (τ.1 0)), (1, .ref (τ.1 (3000 + q))), (2, .int x)] := hl
  have hn30 := hT.1
  have hiX2 : ∀ w ∈ u_ws RX2 TX2 10, w ∈ wsX11_totalBut := fun _ h => List.mem_cons_of_mem _ (List.mem_append_left _ (List.mem_append_left _ (List.mem_append_left _ (List.mem_append_right _ h))))
  have hw1 := hts (.fieldLink RX11 228 "PostHouse$Letter" "lines" "I") (by decide +kernel)
  have hw2 := hts (.fieldLink RX11 459 "PostHouse$Letter" "codes" "[I") (by decide +kernel)
  have hiX11 : ∀ w ∈ u_ws RX11 TX11 16, w ∈ wsX11_totalBut := fun _ h => List.mem_cons_of_mem _ (List.mem_append_left _ (List.mem_append_left _ (List.mem_append_right _ h)))
  have hw4 := hts (.fieldLink RX11 136 "PostHouse" "today" "I") (by decide +kernel)
  have hw5 := hts (.fieldLink RX11 475 "PostHouse$Letter" "pieces" "[I") (by decide +kernel)
  refine lv_iconst (v := nI 0) hx hb dX11_totalBut_0 (by decide) ?_
  refine lv_istore_n (lv' := [(3, .int (nI 0)), (0, .ref (τ.1 0)), (1, .ref (τ.1 (3000 + q))), (2, .int x)]) hx hb dX11_totalBut_1 rfl hl (by decide) rfl (fun ls hl => ?_)
  refine lv_iconst (v := nI 0) hx hb dX11_totalBut_2 (by decide) ?_
  refine lv_istore (lv' := [(4, .int (nI 0)), (3, .int (nI 0)), (0, .ref (τ.1 0)), (1, .ref (τ.1 (3000 + q))), (2, .int x)]) hx hb dX11_totalBut_3 hl (by decide) rfl (fun ls hl => ?_)
  refine zLp (σ := Nat × Int32) (fun x9 k9 H locs ls => (fun (i : Nat) (yy : Int32) => k9 = l0 - i ∧ (i ≤ l0) ∧ zH D A τ fi fr ol s H ∧ va_S A s.heap H locs ∧ lv_has ls 6 [(0, .ref (τ.1 0)), (1, .ref (τ.1 (3000 + q))), (2, .int x), (3, .int yy), (4, .int (nI i))]) x9.1 x9.2) (0, nI 0) (l0 - 0) (show l0 - 0 = l0 - 0 ∧ (0 ≤ l0) ∧ zH D A τ fi fr ol s _ ∧ va_S A s.heap _ _ ∧ lv_has _ 6 [(0, .ref (τ.1 0)), (1, .ref (τ.1 (3000 + q))), (2, .int x), (3, .int (nI 0)), (4, .int (nI 0))] from ⟨rfl, Nat.zero_le _, hH, hS, lv_sub hl [2, 3, 4, 1, 0] rfl⟩) (fun k9 ih x9 H locs ls hv9 => ?_)
  obtain ⟨i, yy⟩ := x9
  have hv9 : k9 = l0 - i ∧ (i ≤ l0) ∧ zH D A τ fi fr ol s H ∧ va_S A s.heap H locs ∧ lv_has ls 6 [(0, .ref (τ.1 0)), (1, .ref (τ.1 (3000 + q))), (2, .int x), (3, .int yy), (4, .int (nI i))] := hv9
  obtain ⟨hkih101, hv9, hH, hS, hl⟩ := hv9
  obtain h1 := hv9
  have ih101 := ih
  clear ih
  refine lv_iload hx hb dX11_totalBut_5 (lv_at hl 4 rfl) ?_
  refine lv_aload_n hx hb dX11_totalBut_7 rfl (lv_at hl 1 rfl) ?_
  refine zGetI (D := D) (ci := 2) (C := RX2) (T := TX2) (N := 10) hx hb hts hiX2 hown hH hL.1.1 rfl 2 (by decide) rfl hw1 (fun _ h9 => h9) dX11_totalBut_8 hln ?_
  refine lv_icmp_ge (tgt := 66) hx hb dX11_totalBut_11 (by decide) (fun c102 => ?_) (fun c102 => ?_)
  · have zc102 := c102
    replace zc102 := zc_le (nI_toInt (by omega)) (nI_toInt (by omega)) zc102
    refine lv_iload_n hx hb dX11_totalBut_66 rfl (lv_at hl 3 rfl) ?_
    refine W.widen (k := 0) (n := 0) (by decide) (by decide) ?_
    exact W.iret (v := yy) hx hb hr (fun t9 ht9 hW9 => ⟨⟨yy, (), rfl, trivial, zEnd1 hH ht9 hW9⟩, hS.F ht9⟩) hS.2.2 dX11_totalBut_67
  · have zc102 := c102
    replace zc102 := zc_nle (nI_toInt (by omega)) (nI_toInt (by omega)) zc102
    refine lv_iload hx hb dX11_totalBut_14 (lv_at hl 4 rfl) ?_
    refine lv_iload_n hx hb dX11_totalBut_16 rfl (lv_at hl 2 rfl) ?_
    refine lv_icmp_eq (tgt := 60) hx hb dX11_totalBut_17 (by decide) (fun c103 => ?_) (fun c103 => ?_)
    · have zc103 := c103
      replace zc103 := zc_eq (nI_toInt (by omega)) (rfl) zc103
      refine lv_iinc (v := nI (i + 1)) (lv' := [(4, .int (nI (i + 1))), (0, .ref (τ.1 0)), (1, .ref (τ.1 (3000 + q))), (2, .int x), (3, .int yy)]) hx hb dX11_totalBut_60 hl (k := 4) rfl (by rw [show (Int32.ofInt 1 : Int32) = nI 1 from by decide, nI_add]) (by decide) rfl (fun ls hl => ?_)
      refine lv_goto (tgt := 5) hx hb dX11_totalBut_63 (by decide) ?_
      exact ih101 (l0 - (i + 1)) (by omega) (i + 1, _) _ _ _ (show l0 - (i + 1) = l0 - (i + 1) ∧ ((i + 1) ≤ l0) ∧ zH D A τ fi fr ol s _ ∧ va_S A s.heap _ _ ∧ lv_has _ 6 [(0, .ref (τ.1 0)), (1, .ref (τ.1 (3000 + q))), (2, .int x), (3, .int _), (4, .int (nI (i + 1)))] from ⟨rfl, (by omega), hH, hS, lv_sub hl [1, 2, 3, 4, 0] rfl⟩)
    · have zc103 := c103
      replace zc103 := zc_neq (nI_toInt (by omega)) (rfl) zc103
      refine lv_aload_n hx hb dX11_totalBut_20 rfl (lv_at hl 0 rfl) ?_
      refine lv_aload_n hx hb dX11_totalBut_21 rfl (lv_at hl 1 rfl) ?_
      refine zGetR (D := D) (ci := 2) (C := RX2) (T := TX2) (N := 10) hx hb hts hiX2 hown hH hL.1.1 rfl 0 (by decide) rfl hw2 (fun _ h9 => h9) dX11_totalBut_22 hL.2.2.1 ?_
      refine lv_iload hx hb dX11_totalBut_25 (lv_at hl 4 rfl) ?_
      refine zIaldN (D := D) hx hb hH hL.1.2.1 hL.2.1.1 (by omega) (by omega) rfl dX11_totalBut_27 ?_
      refine va_callq (va_runV (As := [.int (fi (4000 + q) i)]) (rest := []) ⟨hx, hb, hml, hown, hts⟩ (c_sold l hl0 D A sad τ fi fr ol (fi (4000 + q) i) hF n hT) (cwV 1 hts gX11_totalBut_X11_soldToday rfl rfl rfl (by decide +kernel) ⟨Nat.le_of_ble_eq_true rfl, Nat.le_of_ble_eq_true rfl⟩) ⟨zQc_bl, zRecv hH (zk_0 hF) rfl, zQc_at hz hS hA hH⟩ rfl rfl hl.1 rfl (lv_room (Nat.le_of_ble_eq_true rfl)) dX11_totalBut_28 ⟨Nat.le_of_ble_eq_true rfl, Nat.le_of_ble_eq_true rfl⟩) hS (fun q _ h => h) (fun q h => h) (fun r104 u9 t9 H1 locs ht9 hvm9 hw hB hz1 hk1 hS => ?_)
      have hH := zMv ht9 hvm9 hB
      generalize H1 = H at hH hS ⊢
      rcases hw with ⟨t105, ht105, rfl⟩ | rfl
      · skip
        refine lv_astore (lv' := [(5, .ref (τ.1 (300 + t105))), (0, .ref (τ.1 0)), (1, .ref (τ.1 (3000 + q))), (2, .int x), (3, .int yy), (4, .int (nI i))]) hx hb dX11_totalBut_31 hl (by decide) rfl (fun ls hl => ?_)
        refine lv_aload hx hb dX11_totalBut_33 (lv_at hl 0 rfl) ?_
        refine lv_ifnonnull (tgt := 40) hx hb dX11_totalBut_35 (by decide) ?_
        refine lv_iload_n hx hb dX11_totalBut_40 rfl (lv_at hl 4 rfl) ?_
        refine lv_aload hx hb dX11_totalBut_41 (lv_at hl 0 rfl) ?_
        refine lv_aload_n hx hb dX11_totalBut_43 rfl (lv_at hl 1 rfl) ?_
        refine zGetI (D := D) (ci := 11) (C := RX11) (T := TX11) (N := 16) hx hb hts hiX11 hown hH (zk_0 hF) rfl 15 (by decide) rfl hw4 (fun _ h9 => h9) dX11_totalBut_44 rfl ?_
        obtain ⟨k106, h4k106, h0k106⟩ := (hT.2.2.1 t105 (by omega)).2.2.2.2
        refine va_calli (va_runV (As := [.int (fi 0 15)]) (rest := [.int yy]) ⟨hx, hb, hml, hown, hts⟩ (c_moneyOn l hl0 D A sad τ fi fr ol (fi 0 15) n hT t105 k106 (by omega) h0k106 h4k106) (cwV 1 hts gX11_totalBut_X8_moneyOn rfl rfl rfl (by decide +kernel) ⟨Nat.le_of_ble_eq_true rfl, Nat.le_of_ble_eq_true rfl⟩) ⟨zQc_bl, zRecv hH (hT.2.2.1 t105 (by omega)).1.1 rfl, zQc_at hz hS hA hH⟩ rfl rfl hl.1 rfl (lv_room (Nat.le_of_ble_eq_true rfl)) dX11_totalBut_47 ⟨Nat.le_of_ble_eq_true rfl, Nat.le_of_ble_eq_true rfl⟩) hS (fun q _ h => h) (fun q h => h) (fun r107 u9 t9 H1 locs ht9 hvm9 hw hB hz1 hk1 hS => ?_)
        have hH := zMv ht9 hvm9 hB
        generalize H1 = H at hH hS ⊢
        refine lv_aload_n hx hb dX11_totalBut_50 rfl (lv_at hl 2 rfl) ?_
        refine zGetR (D := D) (ci := 2) (C := RX2) (T := TX2) (N := 10) hx hb hts hiX2 hown hH hL.1.1 rfl 1 (by decide) rfl hw5 (fun _ h9 => h9) dX11_totalBut_51 hL.2.2.2 ?_
        refine lv_iload hx hb dX11_totalBut_54 (lv_at hl 5 rfl) ?_
        refine zIaldN (D := D) hx hb hH hL.1.2.2 hL.2.1.2 (by omega) (by omega) rfl dX11_totalBut_56 ?_
        refine lv_imul hx hb dX11_totalBut_57 ?_
        refine lv_topi (fun v108 ev108 => ?_)
        refine lv_iadd hx hb dX11_totalBut_58 ?_
        refine lv_topi (fun v109 ev109 => ?_)
        refine lv_istore_n (lv' := [(3, .int v109), (5, .ref (τ.1 (300 + t105))), (0, .ref (τ.1 0)), (1, .ref (τ.1 (3000 + q))), (2, .int x), (4, .int (nI i))]) hx hb dX11_totalBut_59 rfl hl (by decide) rfl (fun ls hl => ?_)
        refine lv_iinc (v := nI (i + 1)) (lv' := [(4, .int (nI (i + 1))), (3, .int v109), (5, .ref (τ.1 (300 + t105))), (0, .ref (τ.1 0)), (1, .ref (τ.1 (3000 + q))), (2, .int x)]) hx hb dX11_totalBut_60 hl (k := 5) rfl (by rw [show (Int32.ofInt 1 : Int32) = nI 1 from by decide, nI_add]) (by decide) rfl (fun ls hl => ?_)
        refine lv_goto (tgt := 5) hx hb dX11_totalBut_63 (by decide) ?_
        exact ih101 (l0 - (i + 1)) (by omega) (i + 1, _) _ _ _ (show l0 - (i + 1) = l0 - (i + 1) ∧ ((i + 1) ≤ l0) ∧ zH D A τ fi fr ol s _ ∧ va_S A s.heap _ _ ∧ lv_has _ 6 [(0, .ref (τ.1 0)), (1, .ref (τ.1 (3000 + q))), (2, .int x), (3, .int _), (4, .int (nI (i + 1)))] from ⟨rfl, (by omega), hH, hS, lv_sub hl [3, 4, 5, 1, 0] rfl⟩)
      · skip
        refine lv_astoreN (lv' := [(5, .null), (0, .ref (τ.1 0)), (1, .ref (τ.1 (3000 + q))), (2, .int x), (3, .int yy), (4, .int (nI i))]) hx hb dX11_totalBut_31 hl (by decide) rfl (fun ls hl => ?_)
        refine lv_aloadN hx hb dX11_totalBut_33 (lv_at hl 0 rfl) ?_
        refine lv_ifnonnullN hx hb dX11_totalBut_35 ?_
        refine lv_iconst (v := (-1)) hx hb dX11_totalBut_38 (by decide) ?_
        refine W.widen (k := 0) (n := 0) (by decide) (by decide) ?_
        exact W.iret (v := (-1)) hx hb hr (fun t9 ht9 hW9 => ⟨⟨(-1), (), rfl, trivial, zEnd1 hH ht9 hW9⟩, hS.F ht9⟩) hS.2.2 dX11_totalBut_39
set_option maxHeartbeats 4000000 in
set_option maxRecDepth 100000 in
/-- knownLines -/
theorem c_known (l : Launch) (hl0 : l.stackTraces = false) (D : va_G) (A : Nat → Prop) (sad : Nat → Nat) (τ : zTy) (fi : zFi) (fr : zFr) (ol : Int64) (hF : zFix τ fr) (n : Nat) (hT : zTh τ fi fr n) (q : Nat) (hq5 : q ≤ 512) (hL : zLk τ fr q) (l0 : Nat) (hl8 : l0 ≤ 8) (hln : fi (3000 + q) 2 = nI l0) : Met l yX11_knownLines wsX11_knownLines ({ frames := 3, cells := 0, slots := 0, locals := 66 }) (va_Pc [.ref (τ.1 0), .ref (τ.1 (3000 + q))] (zQc D A sad τ fi fr ol)) (va_Qi (fun (r : Int32) (u : Unit) => True) (fun (u : Unit) (t : State) => zH D A τ fi fr ol t t.heap) A) 0 0 A := by
  refine Met.ofW (cc := cX11_knownLines) (maxL := 4) (ret := (some .int)) (by decide) rfl ?_
  intro p9 e9 s m args below meth c9 s₁ B hml hv
  obtain ⟨rfl, hz, hH, hA⟩ := hv
  have hx := B.exec
  have hb := B.bytes
  have hr := B.returns
  have hts := atoms_spec (ws := wsX11_knownLines) B.pre
  have hown : s.vm.findClass RX11 = some m.cls := findClass_of_methodNamed B.named
  have hlocks := B.notSynchronized
  have hS : va_S A s.heap s.heap [] := va_S.rf
  have hl := lv_entry ([.ref (τ.1 0), .ref (τ.1 (3000 + q))]) (n := 4) (Nat.le_of_ble_eq_true rfl)
  rw [lg_entry_eq]
  generalize (lg_sl ([.ref (τ.1 0), .ref (τ.1 (3000 + q))]) ++ List.replicate (4 - (lg_sl ([.ref (τ.1 0), .ref (τ.1 (3000 + q))])).length) Slot.unset).toArray = ls at hl ⊢
  have hl : lv_has ls 4 [(0, .ref (τ.1 0)), (1, .ref (τ.1 (3000 + q)))] := hl
  have hn30 := hT.1
  have hiX2 : ∀ w ∈ u_ws RX2 TX2 10, w ∈ wsX11_knownLines := fun _ h => List.mem_cons_of_mem _ (List.mem_append_left _ (List.mem_append_left _ (List.mem_append_left _ (List.mem_append_right _ h))))
  have hw1 := hts (.fieldLink RX11 228 "PostHouse$Letter" "lines" "I") (by decide +kernel)
  have hw2 := hts (.fieldLink RX11 459 "PostHouse$Letter" "codes" "[I") (by decide +kernel)
  refine lv_iconst (v := nI 0) hx hb dX11_knownLines_0 (by decide) ?_
  refine lv_istore_n (lv' := [(2, .int (nI 0)), (0, .ref (τ.1 0)), (1, .ref (τ.1 (3000 + q)))]) hx hb dX11_knownLines_1 rfl hl (by decide) rfl (fun ls hl => ?_)
  refine lv_iconst (v := nI 0) hx hb dX11_knownLines_2 (by decide) ?_
  refine lv_istore_n (lv' := [(3, .int (nI 0)), (2, .int (nI 0)), (0, .ref (τ.1 0)), (1, .ref (τ.1 (3000 + q)))]) hx hb dX11_knownLines_3 rfl hl (by decide) rfl (fun ls hl => ?_)
  refine zLp (σ := Nat × Int32) (fun x9 k9 H locs ls => (fun (i : Nat) (yy : Int32) => k9 = l0 - i ∧ (i ≤ l0) ∧ zH D A τ fi fr ol s H ∧ va_S A s.heap H locs ∧ lv_has ls 4 [(0, .ref (τ.1 0)), (1, .ref (τ.1 (3000 + q))), (2, .int yy), (3, .int (nI i))]) x9.1 x9.2) (0, nI 0) (l0 - 0) (show l0 - 0 = l0 - 0 ∧ (0 ≤ l0) ∧ zH D A τ fi fr ol s _ ∧ va_S A s.heap _ _ ∧ lv_has _ 4 [(0, .ref (τ.1 0)), (1, .ref (τ.1 (3000 + q))), (2, .int (nI 0)), (3, .int (nI 0))] from ⟨rfl, Nat.zero_le _, hH, hS, lv_sub hl [2, 3, 1, 0] rfl⟩) (fun k9 ih x9 H locs ls hv9 => ?_)
  obtain ⟨i, yy⟩ := x9
  have hv9 : k9 = l0 - i ∧ (i ≤ l0) ∧ zH D A τ fi fr ol s H ∧ va_S A s.heap H locs ∧ lv_has ls 4 [(0, .ref (τ.1 0)), (1, .ref (τ.1 (3000 + q))), (2, .int yy), (3, .int (nI i))] := hv9
  obtain ⟨hkih101, hv9, hH, hS, hl⟩ := hv9
  obtain h1 := hv9
  have ih101 := ih
  clear ih
  refine lv_iload_n hx hb dX11_knownLines_4 rfl (lv_at hl 3 rfl) ?_
  refine lv_aload_n hx hb dX11_knownLines_5 rfl (lv_at hl 1 rfl) ?_
  refine zGetI (D := D) (ci := 2) (C := RX2) (T := TX2) (N := 10) hx hb hts hiX2 hown hH hL.1.1 rfl 2 (by decide) rfl hw1 (fun _ h9 => h9) dX11_knownLines_6 hln ?_
  refine lv_icmp_ge (tgt := 34) hx hb dX11_knownLines_9 (by decide) (fun c102 => ?_) (fun c102 => ?_)
  · have zc102 := c102
    replace zc102 := zc_le (nI_toInt (by omega)) (nI_toInt (by omega)) zc102
    refine lv_iload_n hx hb dX11_knownLines_34 rfl (lv_at hl 2 rfl) ?_
    refine W.widen (k := 0) (n := 0) (by decide) (by decide) ?_
    exact W.iret (v := yy) hx hb hr (fun t9 ht9 hW9 => ⟨⟨yy, (), rfl, trivial, zEnd1 hH ht9 hW9⟩, hS.F ht9⟩) hS.2.2 dX11_knownLines_35
  · have zc102 := c102
    replace zc102 := zc_nle (nI_toInt (by omega)) (nI_toInt (by omega)) zc102
    refine lv_aload_n hx hb dX11_knownLines_12 rfl (lv_at hl 0 rfl) ?_
    refine lv_aload_n hx hb dX11_knownLines_13 rfl (lv_at hl 1 rfl) ?_
    refine zGetR (D := D) (ci := 2) (C := RX2) (T := TX2) (N := 10) hx hb hts hiX2 hown hH hL.1.1 rfl 0 (by decide) rfl hw2 (fun _ h9 => h9) dX11_knownLines_14 hL.2.2.1 ?_
    refine lv_iload_n hx hb dX11_knownLines_17 rfl (lv_at hl 3 rfl) ?_
    refine zIaldN (D := D) hx hb hH hL.1.2.1 hL.2.1.1 (by omega) (by omega) rfl dX11_knownLines_18 ?_
    refine va_callq (va_runV (As := [.int (fi (4000 + q) i)]) (rest := []) ⟨hx, hb, hml, hown, hts⟩ (c_sold l hl0 D A sad τ fi fr ol (fi (4000 + q) i) hF n hT) (cwV 1 hts gX11_knownLines_X11_soldToday rfl rfl rfl (by decide +kernel) ⟨Nat.le_of_ble_eq_true rfl, Nat.le_of_ble_eq_true rfl⟩) ⟨zQc_bl, zRecv hH (zk_0 hF) rfl, zQc_at hz hS hA hH⟩ rfl rfl hl.1 rfl (lv_room (Nat.le_of_ble_eq_true rfl)) dX11_knownLines_19 ⟨Nat.le_of_ble_eq_true rfl, Nat.le_of_ble_eq_true rfl⟩) hS (fun q _ h => h) (fun q h => h) (fun r103 u9 t9 H1 locs ht9 hvm9 hw hB hz1 hk1 hS => ?_)
    have hH := zMv ht9 hvm9 hB
    generalize H1 = H at hH hS ⊢
    rcases hw with ⟨t104, ht104, rfl⟩ | rfl
    · skip
      refine lv_ifnull hx hb dX11_knownLines_22 ?_
      obtain ⟨v105, ev105⟩ : ∃ y : Int32, y = yy + 1 := ⟨_, rfl⟩
      refine lv_iinc (v := v105) (lv' := [(2, .int v105), (0, .ref (τ.1 0)), (1, .ref (τ.1 (3000 + q))), (3, .int (nI i))]) hx hb dX11_knownLines_25 hl (k := 2) rfl (by rw [ev105]; rfl) (by decide) rfl (fun ls hl => ?_)
      refine lv_iinc (v := nI (i + 1)) (lv' := [(3, .int (nI (i + 1))), (2, .int v105), (0, .ref (τ.1 0)), (1, .ref (τ.1 (3000 + q)))]) hx hb dX11_knownLines_28 hl (k := 3) rfl (by rw [show (Int32.ofInt 1 : Int32) = nI 1 from by decide, nI_add]) (by decide) rfl (fun ls hl => ?_)
      refine lv_goto (tgt := 4) hx hb dX11_knownLines_31 (by decide) ?_
      exact ih101 (l0 - (i + 1)) (by omega) (i + 1, _) _ _ _ (show l0 - (i + 1) = l0 - (i + 1) ∧ ((i + 1) ≤ l0) ∧ zH D A τ fi fr ol s _ ∧ va_S A s.heap _ _ ∧ lv_has _ 4 [(0, .ref (τ.1 0)), (1, .ref (τ.1 (3000 + q))), (2, .int _), (3, .int (nI (i + 1)))] from ⟨rfl, (by omega), hH, hS, lv_sub hl [2, 3, 1, 0] rfl⟩)
    · skip
      refine lv_ifnullN (tgt := 28) hx hb dX11_knownLines_22 (by decide) ?_
      refine lv_iinc (v := nI (i + 1)) (lv' := [(3, .int (nI (i + 1))), (0, .ref (τ.1 0)), (1, .ref (τ.1 (3000 + q))), (2, .int yy)]) hx hb dX11_knownLines_28 hl (k := 3) rfl (by rw [show (Int32.ofInt 1 : Int32) = nI 1 from by decide, nI_add]) (by decide) rfl (fun ls hl => ?_)
      refine lv_goto (tgt := 4) hx hb dX11_knownLines_31 (by decide) ?_
      exact ih101 (l0 - (i + 1)) (by omega) (i + 1, _) _ _ _ (show l0 - (i + 1) = l0 - (i + 1) ∧ ((i + 1) ≤ l0) ∧ zH D A τ fi fr ol s _ ∧ va_S A s.heap _ _ ∧ lv_has _ 4 [(0, .ref (τ.1 0)), (1, .ref (τ.1 (3000 + q))), (2, .int _), (3, .int (nI (i + 1)))] from ⟨rfl, (by omega), hH, hS, lv_sub hl [1, 2, 3, 0] rfl⟩)
set_option maxHeartbeats 4000000 in
set_option maxRecDepth 100000 in
/-- totalOfKnown -/
theorem c_totalOf (l : Launch) (hl0 : l.stackTraces = false) (D : va_G) (A : Nat → Prop) (sad : Nat → Nat) (τ : zTy) (fi : zFi) (fr : zFr) (ol : Int64) (hF : zFix τ fr) (n : Nat) (hT : zTh τ fi fr n) (q : Nat) (hq5 : q ≤ 512) (hL : zLk τ fr q) (l0 : Nat) (hl8 : l0 ≤ 8) (hln : fi (3000 + q) 2 = nI l0) : Met l yX11_totalOfKnown wsX11_totalOfKnown ({ frames := 3, cells := 0, slots := 0, locals := 66 }) (va_Pc [.ref (τ.1 0), .ref (τ.1 (3000 + q))] (zQc D A sad τ fi fr ol)) (va_Qi (fun (r : Int32) (u : Unit) => True) (fun (u : Unit) (t : State) => zH D A τ fi fr ol t t.heap) A) 0 0 A := by
  refine Met.ofW (cc := cX11_totalOfKnown) (maxL := 5) (ret := (some .int)) (by decide) rfl ?_
  intro p9 e9 s m args below meth c9 s₁ B hml hv
  obtain ⟨rfl, hz, hH, hA⟩ := hv
  have hx := B.exec
  have hb := B.bytes
  have hr := B.returns
  have hts := atoms_spec (ws := wsX11_totalOfKnown) B.pre
  have hown : s.vm.findClass RX11 = some m.cls := findClass_of_methodNamed B.named
  have hlocks := B.notSynchronized
  have hS : va_S A s.heap s.heap [] := va_S.rf
  have hl := lv_entry ([.ref (τ.1 0), .ref (τ.1 (3000 + q))]) (n := 5) (Nat.le_of_ble_eq_true rfl)
  rw [lg_entry_eq]
  generalize (lg_sl ([.ref (τ.1 0), .ref (τ.1 (3000 + q))]) ++ List.replicate (5 - (lg_sl ([.ref (τ.1 0), .ref (τ.1 (3000 + q))])).length) Slot.unset).toArray = ls at hl ⊢
  have hl : lv_has ls 5 [(0, .ref (τ.1 0)), (1, .ref (τ.1 (3000 + q)))] := hl
  have hn30 := hT.1
  have hiX2 : ∀ w ∈ u_ws RX2 TX2 10, w ∈ wsX11_totalOfKnown := fun _ h => List.mem_cons_of_mem _ (List.mem_append_left _ (List.mem_append_left _ (List.mem_append_left _ (List.mem_append_right _ h))))
  have hw1 := hts (.fieldLink RX11 228 "PostHouse$Letter" "lines" "I") (by decide +kernel)
  have hw2 := hts (.fieldLink RX11 459 "PostHouse$Letter" "codes" "[I") (by decide +kernel)
  have hiX11 : ∀ w ∈ u_ws RX11 TX11 16, w ∈ wsX11_totalOfKnown := fun _ h => List.mem_cons_of_mem _ (List.mem_append_left _ (List.mem_append_left _ (List.mem_append_right _ h)))
  have hw4 := hts (.fieldLink RX11 136 "PostHouse" "today" "I") (by decide +kernel)
  have hw5 := hts (.fieldLink RX11 475 "PostHouse$Letter" "pieces" "[I") (by decide +kernel)
  refine lv_iconst (v := nI 0) hx hb dX11_totalOfKnown_0 (by decide) ?_
  refine lv_istore_n (lv' := [(2, .int (nI 0)), (0, .ref (τ.1 0)), (1, .ref (τ.1 (3000 + q)))]) hx hb dX11_totalOfKnown_1 rfl hl (by decide) rfl (fun ls hl => ?_)
  refine lv_iconst (v := nI 0) hx hb dX11_totalOfKnown_2 (by decide) ?_
  refine lv_istore_n (lv' := [(3, .int (nI 0)), (2, .int (nI 0)), (0, .ref (τ.1 0)), (1, .ref (τ.1 (3000 + q)))]) hx hb dX11_totalOfKnown_3 rfl hl (by decide) rfl (fun ls hl => ?_)
  refine zLp (σ := Nat × Int32) (fun x9 k9 H locs ls => (fun (i : Nat) (yy : Int32) => k9 = l0 - i ∧ (i ≤ l0) ∧ zH D A τ fi fr ol s H ∧ va_S A s.heap H locs ∧ lv_has ls 5 [(0, .ref (τ.1 0)), (1, .ref (τ.1 (3000 + q))), (2, .int yy), (3, .int (nI i))]) x9.1 x9.2) (0, nI 0) (l0 - 0) (show l0 - 0 = l0 - 0 ∧ (0 ≤ l0) ∧ zH D A τ fi fr ol s _ ∧ va_S A s.heap _ _ ∧ lv_has _ 5 [(0, .ref (τ.1 0)), (1, .ref (τ.1 (3000 + q))), (2, .int (nI 0)), (3, .int (nI 0))] from ⟨rfl, Nat.zero_le _, hH, hS, lv_sub hl [2, 3, 1, 0] rfl⟩) (fun k9 ih x9 H locs ls hv9 => ?_)
  obtain ⟨i, yy⟩ := x9
  have hv9 : k9 = l0 - i ∧ (i ≤ l0) ∧ zH D A τ fi fr ol s H ∧ va_S A s.heap H locs ∧ lv_has ls 5 [(0, .ref (τ.1 0)), (1, .ref (τ.1 (3000 + q))), (2, .int yy), (3, .int (nI i))] := hv9
  obtain ⟨hkih101, hv9, hH, hS, hl⟩ := hv9
  obtain h1 := hv9
  have ih101 := ih
  clear ih
  refine lv_iload_n hx hb dX11_totalOfKnown_4 rfl (lv_at hl 3 rfl) ?_
  refine lv_aload_n hx hb dX11_totalOfKnown_5 rfl (lv_at hl 1 rfl) ?_
  refine zGetI (D := D) (ci := 2) (C := RX2) (T := TX2) (N := 10) hx hb hts hiX2 hown hH hL.1.1 rfl 2 (by decide) rfl hw1 (fun _ h9 => h9) dX11_totalOfKnown_6 hln ?_
  refine lv_icmp_ge (tgt := 54) hx hb dX11_totalOfKnown_9 (by decide) (fun c102 => ?_) (fun c102 => ?_)
  · have zc102 := c102
    replace zc102 := zc_le (nI_toInt (by omega)) (nI_toInt (by omega)) zc102
    refine lv_iload_n hx hb dX11_totalOfKnown_54 rfl (lv_at hl 2 rfl) ?_
    refine W.widen (k := 0) (n := 0) (by decide) (by decide) ?_
    exact W.iret (v := yy) hx hb hr (fun t9 ht9 hW9 => ⟨⟨yy, (), rfl, trivial, zEnd1 hH ht9 hW9⟩, hS.F ht9⟩) hS.2.2 dX11_totalOfKnown_55
  · have zc102 := c102
    replace zc102 := zc_nle (nI_toInt (by omega)) (nI_toInt (by omega)) zc102
    refine lv_aload_n hx hb dX11_totalOfKnown_12 rfl (lv_at hl 0 rfl) ?_
    refine lv_aload_n hx hb dX11_totalOfKnown_13 rfl (lv_at hl 1 rfl) ?_
    refine zGetR (D := D) (ci := 2) (C := RX2) (T := TX2) (N := 10) hx hb hts hiX2 hown hH hL.1.1 rfl 0 (by decide) rfl hw2 (fun _ h9 => h9) dX11_totalOfKnown_14 hL.2.2.1 ?_
    refine lv_iload_n hx hb dX11_totalOfKnown_17 rfl (lv_at hl 3 rfl) ?_
    refine zIaldN (D := D) hx hb hH hL.1.2.1 hL.2.1.1 (by omega) (by omega) rfl dX11_totalOfKnown_18 ?_
    refine va_callq (va_runV (As := [.int (fi (4000 + q) i)]) (rest := []) ⟨hx, hb, hml, hown, hts⟩ (c_sold l hl0 D A sad τ fi fr ol (fi (4000 + q) i) hF n hT) (cwV 1 hts gX11_totalOfKnown_X11_soldToday rfl rfl rfl (by decide +kernel) ⟨Nat.le_of_ble_eq_true rfl, Nat.le_of_ble_eq_true rfl⟩) ⟨zQc_bl, zRecv hH (zk_0 hF) rfl, zQc_at hz hS hA hH⟩ rfl rfl hl.1 rfl (lv_room (Nat.le_of_ble_eq_true rfl)) dX11_totalOfKnown_19 ⟨Nat.le_of_ble_eq_true rfl, Nat.le_of_ble_eq_true rfl⟩) hS (fun q _ h => h) (fun q h => h) (fun r103 u9 t9 H1 locs ht9 hvm9 hw hB hz1 hk1 hS => ?_)
    have hH := zMv ht9 hvm9 hB
    generalize H1 = H at hH hS ⊢
    rcases hw with ⟨t104, ht104, rfl⟩ | rfl
    · skip
      refine lv_astore (lv' := [(4, .ref (τ.1 (300 + t104))), (0, .ref (τ.1 0)), (1, .ref (τ.1 (3000 + q))), (2, .int yy), (3, .int (nI i))]) hx hb dX11_totalOfKnown_22 hl (by decide) rfl (fun ls hl => ?_)
      refine lv_aload hx hb dX11_totalOfKnown_24 (lv_at hl 0 rfl) ?_
      refine lv_ifnull hx hb dX11_totalOfKnown_26 ?_
      refine lv_iload_n hx hb dX11_totalOfKnown_29 rfl (lv_at hl 3 rfl) ?_
      refine lv_aload hx hb dX11_totalOfKnown_30 (lv_at hl 0 rfl) ?_
      refine lv_aload_n hx hb dX11_totalOfKnown_32 rfl (lv_at hl 1 rfl) ?_
      refine zGetI (D := D) (ci := 11) (C := RX11) (T := TX11) (N := 16) hx hb hts hiX11 hown hH (zk_0 hF) rfl 15 (by decide) rfl hw4 (fun _ h9 => h9) dX11_totalOfKnown_33 rfl ?_
      obtain ⟨k105, h4k105, h0k105⟩ := (hT.2.2.1 t104 (by omega)).2.2.2.2
      refine va_calli (va_runV (As := [.int (fi 0 15)]) (rest := [.int yy]) ⟨hx, hb, hml, hown, hts⟩ (c_moneyOn l hl0 D A sad τ fi fr ol (fi 0 15) n hT t104 k105 (by omega) h0k105 h4k105) (cwV 1 hts gX11_totalOfKnown_X8_moneyOn rfl rfl rfl (by decide +kernel) ⟨Nat.le_of_ble_eq_true rfl, Nat.le_of_ble_eq_true rfl⟩) ⟨zQc_bl, zRecv hH (hT.2.2.1 t104 (by omega)).1.1 rfl, zQc_at hz hS hA hH⟩ rfl rfl hl.1 rfl (lv_room (Nat.le_of_ble_eq_true rfl)) dX11_totalOfKnown_36 ⟨Nat.le_of_ble_eq_true rfl, Nat.le_of_ble_eq_true rfl⟩) hS (fun q _ h => h) (fun q h => h) (fun r106 u9 t9 H1 locs ht9 hvm9 hw hB hz1 hk1 hS => ?_)
      have hH := zMv ht9 hvm9 hB
      generalize H1 = H at hH hS ⊢
      refine lv_aload_n hx hb dX11_totalOfKnown_39 rfl (lv_at hl 2 rfl) ?_
      refine zGetR (D := D) (ci := 2) (C := RX2) (T := TX2) (N := 10) hx hb hts hiX2 hown hH hL.1.1 rfl 1 (by decide) rfl hw5 (fun _ h9 => h9) dX11_totalOfKnown_40 hL.2.2.2 ?_
      refine lv_iload_n hx hb dX11_totalOfKnown_43 rfl (lv_at hl 4 rfl) ?_
      refine zIaldN (D := D) hx hb hH hL.1.2.2 hL.2.1.2 (by omega) (by omega) rfl dX11_totalOfKnown_44 ?_
      refine lv_imul hx hb dX11_totalOfKnown_45 ?_
      refine lv_topi (fun v107 ev107 => ?_)
      refine lv_iadd hx hb dX11_totalOfKnown_46 ?_
      refine lv_topi (fun v108 ev108 => ?_)
      refine lv_istore_n (lv' := [(2, .int v108), (4, .ref (τ.1 (300 + t104))), (0, .ref (τ.1 0)), (1, .ref (τ.1 (3000 + q))), (3, .int (nI i))]) hx hb dX11_totalOfKnown_47 rfl hl (by decide) rfl (fun ls hl => ?_)
      refine lv_iinc (v := nI (i + 1)) (lv' := [(3, .int (nI (i + 1))), (2, .int v108), (4, .ref (τ.1 (300 + t104))), (0, .ref (τ.1 0)), (1, .ref (τ.1 (3000 + q)))]) hx hb dX11_totalOfKnown_48 hl (k := 4) rfl (by rw [show (Int32.ofInt 1 : Int32) = nI 1 from by decide, nI_add]) (by decide) rfl (fun ls hl => ?_)
      refine lv_goto (tgt := 4) hx hb dX11_totalOfKnown_51 (by decide) ?_
      exact ih101 (l0 - (i + 1)) (by omega) (i + 1, _) _ _ _ (show l0 - (i + 1) = l0 - (i + 1) ∧ ((i + 1) ≤ l0) ∧ zH D A τ fi fr ol s _ ∧ va_S A s.heap _ _ ∧ lv_has _ 5 [(0, .ref (τ.1 0)), (1, .ref (τ.1 (3000 + q))), (2, .int _), (3, .int (nI (i + 1)))] from ⟨rfl, (by omega), hH, hS, lv_sub hl [3, 4, 1, 0] rfl⟩)
    · skip
      refine lv_astoreN (lv' := [(4, .null), (0, .ref (τ.1 0)), (1, .ref (τ.1 (3000 + q))), (2, .int yy), (3, .int (nI i))]) hx hb dX11_totalOfKnown_22 hl (by decide) rfl (fun ls hl => ?_)
      refine lv_aloadN hx hb dX11_totalOfKnown_24 (lv_at hl 0 rfl) ?_
      refine lv_ifnullN (tgt := 48) hx hb dX11_totalOfKnown_26 (by decide) ?_
      refine lv_iinc (v := nI (i + 1)) (lv' := [(3, .int (nI (i + 1))), (4, .null), (0, .ref (τ.1 0)), (1, .ref (τ.1 (3000 + q))), (2, .int yy)]) hx hb dX11_totalOfKnown_48 hl (k := 4) rfl (by rw [show (Int32.ofInt 1 : Int32) = nI 1 from by decide, nI_add]) (by decide) rfl (fun ls hl => ?_)
      refine lv_goto (tgt := 4) hx hb dX11_totalOfKnown_51 (by decide) ?_
      exact ih101 (l0 - (i + 1)) (by omega) (i + 1, _) _ _ _ (show l0 - (i + 1) = l0 - (i + 1) ∧ ((i + 1) ≤ l0) ∧ zH D A τ fi fr ol s _ ∧ va_S A s.heap _ _ ∧ lv_has _ 5 [(0, .ref (τ.1 0)), (1, .ref (τ.1 (3000 + q))), (2, .int _), (3, .int (nI (i + 1)))] from ⟨rfl, (by omega), hH, hS, lv_sub hl [2, 3, 4, 0] rfl⟩)
set_option maxHeartbeats 4000000 in
set_option maxRecDepth 100000 in
/-- isPaid -/
theorem c_isPaid (l : Launch) (hl0 : l.stackTraces = false) (D : va_G) (A : Nat → Prop) (sad : Nat → Nat) (τ : zTy) (fi : zFi) (fr : zFr) (ol : Int64) (hF : zFix τ fr) (n : Nat) (hT : zTh τ fi fr n) (q : Nat) (hq5 : q ≤ 512) (hL : zLk τ fr q) (l0 : Nat) (hl8 : l0 ≤ 8) (hln : fi (3000 + q) 2 = nI l0) : Met l yX11_isPaid wsX11_isPaid ({ frames := 4, cells := 0, slots := 0, locals := 90 }) (va_Pc [.ref (τ.1 0), .ref (τ.1 (3000 + q))] (zQc D A sad τ fi fr ol)) (va_Qi (fun (r : Int32) (u : Unit) => r = 0 ∨ r = 1) (fun (u : Unit) (t : State) => zH D A τ fi fr ol t t.heap) A) 0 0 A := by
  refine Met.ofW (cc := cX11_isPaid) (maxL := 3) (ret := (some .boolean)) (by decide) rfl ?_
  intro p9 e9 s m args below meth c9 s₁ B hml hv
  obtain ⟨rfl, hz, hH, hA⟩ := hv
  have hx := B.exec
  have hb := B.bytes
  have hr := B.returns
  have hts := atoms_spec (ws := wsX11_isPaid) B.pre
  have hown : s.vm.findClass RX11 = some m.cls := findClass_of_methodNamed B.named
  have hlocks := B.notSynchronized
  have hS : va_S A s.heap s.heap [] := va_S.rf
  have hl := lv_entry ([.ref (τ.1 0), .ref (τ.1 (3000 + q))]) (n := 3) (Nat.le_of_ble_eq_true rfl)
  rw [lg_entry_eq]
  generalize (lg_sl ([.ref (τ.1 0), .ref (τ.1 (3000 + q))]) ++ List.replicate (3 - (lg_sl ([.ref (τ.1 0), .ref (τ.1 (3000 + q))])).length) Slot.unset).toArray = ls at hl ⊢
  have hl : lv_has ls 3 [(0, .ref (τ.1 0)), (1, .ref (τ.1 (3000 + q)))] := hl
  have hn30 := hT.1
  have hiX2 : ∀ w ∈ u_ws RX2 TX2 10, w ∈ wsX11_isPaid := fun _ h => List.mem_cons_of_mem _ (List.mem_append_left _ (List.mem_append_left _ (List.mem_append_left _ (List.mem_append_left _ (List.mem_append_right _ h)))))
  have hw1 := hts (.fieldLink RX11 237 "PostHouse$Letter" "money" "I") (by decide +kernel)
  have hiX11 : ∀ w ∈ u_ws RX11 TX11 16, w ∈ wsX11_isPaid := fun _ h => List.mem_cons_of_mem _ (List.mem_append_left _ (List.mem_append_left _ (List.mem_append_left _ (List.mem_append_right _ h))))
  have hw3 := hts (.fieldLink RX11 33 "PostHouse" "rules" "LPostHouse$Rules;") (by decide +kernel)
  refine lv_aload_n hx hb dX11_isPaid_0 rfl (lv_at hl 0 rfl) ?_
  refine lv_aload_n hx hb dX11_isPaid_1 rfl (lv_at hl 1 rfl) ?_
  refine va_calli (va_runV (As := [.ref (τ.1 (3000 + q))]) (rest := []) ⟨hx, hb, hml, hown, hts⟩ (c_totalOf l hl0 D A sad τ fi fr ol hF n hT q hq5 hL l0 (by omega) hln) (cwV 1 hts gX11_isPaid_X11_totalOfKnown rfl rfl rfl (by decide +kernel) ⟨Nat.le_of_ble_eq_true rfl, Nat.le_of_ble_eq_true rfl⟩) ⟨zQc_bl, zRecv hH (zk_0 hF) rfl, zQc_at hz hS hA hH⟩ rfl rfl hl.1 rfl (lv_room (Nat.le_of_ble_eq_true rfl)) dX11_isPaid_2 ⟨Nat.le_of_ble_eq_true rfl, Nat.le_of_ble_eq_true rfl⟩) hS (fun q _ h => h) (fun q h => h) (fun r101 u9 t9 H1 locs ht9 hvm9 hw hB hz1 hk1 hS => ?_)
  have hH := zMv ht9 hvm9 hB
  generalize H1 = H at hH hS ⊢
  refine lv_istore_n (lv' := [(2, .int r101), (0, .ref (τ.1 0)), (1, .ref (τ.1 (3000 + q)))]) hx hb dX11_isPaid_5 rfl hl (by decide) rfl (fun ls hl => ?_)
  refine lv_iload_n hx hb dX11_isPaid_6 rfl (lv_at hl 0 rfl) ?_
  refine lv_if_le (tgt := 31) hx hb dX11_isPaid_7 (by decide) (fun c102 => ?_) (fun c102 => ?_)
  · have zc102 := c102
    replace zc102 := zc_le (rfl) ((by decide : (0 : Int32).toInt = 0)) zc102
    refine lv_iconst (v := nI 0) hx hb dX11_isPaid_31 (by decide) ?_
    refine W.widen (k := 0) (n := 0) (by decide) (by decide) ?_
    exact W.zret (v := nI 0) hx hb hr (by decide) (fun t9 ht9 hW9 => ⟨⟨nI 0, (), rfl, Or.inl rfl, zEnd1 hH ht9 hW9⟩, hS.F ht9⟩) hS.2.2 dX11_isPaid_32
  · have zc102 := c102
    replace zc102 := zc_nle (rfl) ((by decide : (0 : Int32).toInt = 0)) zc102
    refine lv_aload_n hx hb dX11_isPaid_10 rfl (lv_at hl 2 rfl) ?_
    refine zGetI (D := D) (ci := 2) (C := RX2) (T := TX2) (N := 10) hx hb hts hiX2 hown hH hL.1.1 rfl 4 (by decide) rfl hw1 (fun _ h9 => h9) dX11_isPaid_11 rfl ?_
    refine lv_iload_n hx hb dX11_isPaid_14 rfl (lv_at hl 0 rfl) ?_
    refine lv_aload_n hx hb dX11_isPaid_15 rfl (lv_at hl 1 rfl) ?_
    refine zGetR (D := D) (ci := 11) (C := RX11) (T := TX11) (N := 16) hx hb hts hiX11 hown hH (zk_0 hF) rfl 3 (by decide) rfl hw3 (fun _ h9 => h9) dX11_isPaid_16 (zr_0_3 hF) ?_
    refine lv_iload_n hx hb dX11_isPaid_19 rfl (lv_at hl 0 rfl) ?_
    refine va_calli (va_runV (As := [.int r101]) (rest := [.int r101, .int (fi (3000 + q) 4)]) ⟨hx, hb, hml, hown, hts⟩ (c_postOf l hl0 D A sad τ fi fr ol r101 hF) (cwV 1 hts gX11_isPaid_X5_postOf rfl rfl rfl (by decide +kernel) ⟨Nat.le_of_ble_eq_true rfl, Nat.le_of_ble_eq_true rfl⟩) ⟨zQc_bl, zRecv hH (zk_9 hF) rfl, zQc_at hz hS hA hH⟩ rfl rfl hl.1 rfl (lv_room (Nat.le_of_ble_eq_true rfl)) dX11_isPaid_20 ⟨Nat.le_of_ble_eq_true rfl, Nat.le_of_ble_eq_true rfl⟩) hS (fun q _ h => h) (fun q h => h) (fun r103 u9 t9 H1 locs ht9 hvm9 hw hB hz1 hk1 hS => ?_)
    have hH := zMv ht9 hvm9 hB
    generalize H1 = H at hH hS ⊢
    refine lv_iadd hx hb dX11_isPaid_23 ?_
    refine lv_topi (fun v104 ev104 => ?_)
    refine lv_icmp_lt (tgt := 31) hx hb dX11_isPaid_24 (by decide) (fun c105 => ?_) (fun c105 => ?_)
    · have zc105 := c105
      replace zc105 := zc_lt (rfl) (rfl) zc105
      refine lv_iconst (v := nI 0) hx hb dX11_isPaid_31 (by decide) ?_
      refine W.widen (k := 0) (n := 0) (by decide) (by decide) ?_
      exact W.zret (v := nI 0) hx hb hr (by decide) (fun t9 ht9 hW9 => ⟨⟨nI 0, (), rfl, Or.inl rfl, zEnd1 hH ht9 hW9⟩, hS.F ht9⟩) hS.2.2 dX11_isPaid_32
    · have zc105 := c105
      replace zc105 := zc_nlt (rfl) (rfl) zc105
      refine lv_iconst (v := nI 1) hx hb dX11_isPaid_27 (by decide) ?_
      refine lv_goto (tgt := 32) hx hb dX11_isPaid_28 (by decide) ?_
      refine W.widen (k := 0) (n := 0) (by decide) (by decide) ?_
      exact W.zret (v := nI 1) hx hb hr (by decide) (fun t9 ht9 hW9 => ⟨⟨nI 1, (), rfl, Or.inr rfl, zEnd1 hH ht9 hW9⟩, hS.F ht9⟩) hS.2.2 dX11_isPaid_32
set_option maxHeartbeats 4000000 in
set_option maxRecDepth 100000 in
/-- findMendings -/
theorem c_findM (l : Launch) (hl0 : l.stackTraces = false) (D : va_G) (A : Nat → Prop) (sad : Nat → Nat) (τ : zTy) (fi : zFi) (fr : zFr) (ol : Int64) (hF : zFix τ fr) (n : Nat) (hT : zTh τ fi fr n) (q : Nat) (hq5 : q ≤ 512) (hL : zLk τ fr q) (l0 : Nat) (hl8 : l0 ≤ 8) (hln : fi (3000 + q) 2 = nI l0) (j0 : Nat) (hj8 : j0 < 8) (hj0 : fi (3000 + q) 6 = nI j0) : Met l yX11_findMendings wsX11_findMendings ({ frames := 4, cells := 0, slots := 0, locals := 91 }) (va_Pc [.ref (τ.1 0), .ref (τ.1 (3000 + q))] (zQc D A sad τ fi fr ol)) (va_Qv (fun (u : zFi) => (∃ j, j < 8 ∧ u (3000 + q) 6 = nI j) ∧ ∀ a b, ¬ (a = 3000 + q ∧ 5 ≤ b ∧ b ≤ 7) → u a b = fi a b) (fun (u : zFi) (t : State) => zH D A τ u fr ol t t.heap) A) 0 0 A := by
  refine Met.ofW (cc := cX11_findMendings) (maxL := 7) (ret := none) (by decide) rfl ?_
  intro p9 e9 s m args below meth c9 s₁ B hml hv
  obtain ⟨rfl, hz, hH, hA⟩ := hv
  have hx := B.exec
  have hb := B.bytes
  have hr := B.returns
  have hts := atoms_spec (ws := wsX11_findMendings) B.pre
  have hown : s.vm.findClass RX11 = some m.cls := findClass_of_methodNamed B.named
  have hlocks := B.notSynchronized
  have hS : va_S A s.heap s.heap [] := va_S.rf
  have hl := lv_entry ([.ref (τ.1 0), .ref (τ.1 (3000 + q))]) (n := 7) (Nat.le_of_ble_eq_true rfl)
  rw [lg_entry_eq]
  generalize (lg_sl ([.ref (τ.1 0), .ref (τ.1 (3000 + q))]) ++ List.replicate (7 - (lg_sl ([.ref (τ.1 0), .ref (τ.1 (3000 + q))])).length) Slot.unset).toArray = ls at hl ⊢
  have hl : lv_has ls 7 [(0, .ref (τ.1 0)), (1, .ref (τ.1 (3000 + q)))] := hl
  have hn30 := hT.1
  have hT0 := hT
  have hiX2 : ∀ w ∈ u_ws RX2 TX2 10, w ∈ wsX11_findMendings := fun _ h => List.mem_cons_of_mem _ (List.mem_append_left _ (List.mem_append_left _ (List.mem_append_left _ (List.mem_append_right _ h))))
  have hw1 := hts (.fieldLink RX11 228 "PostHouse$Letter" "lines" "I") (by decide +kernel)
  have hiX11 : ∀ w ∈ u_ws RX11 TX11 16, w ∈ wsX11_findMendings := fun _ h => List.mem_cons_of_mem _ (List.mem_append_left _ (List.mem_append_left _ (List.mem_append_right _ h)))
  have hw3 := hts (.fieldLink RX11 19 "PostHouse" "book" "LPostHouse$Book;") (by decide +kernel)
  have hiX0 : ∀ w ∈ u_ws RX0 TX0 2, w ∈ wsX11_findMendings := fun _ h => List.mem_cons_of_mem _ (List.mem_append_left _ (List.mem_append_right _ h))
  have hw5 := hts (.fieldLink RX11 104 "PostHouse$Book" "size" "I") (by decide +kernel)
  have hw6 := hts (.fieldLink RX11 471 "PostHouse$Book" "things" "[LPostHouse$Thing;") (by decide +kernel)
  have hw7 := hts (.fieldLink RX11 136 "PostHouse" "today" "I") (by decide +kernel)
  have hw8 := hts (.fieldLink RX11 475 "PostHouse$Letter" "pieces" "[I") (by decide +kernel)
  have hw9 := hts (.fieldLink RX11 234 "PostHouse$Letter" "sum" "I") (by decide +kernel)
  have hiX8 : ∀ w ∈ u_ws RX8 TX8 10, w ∈ wsX11_findMendings := fun _ h => List.mem_cons_of_mem _ (List.mem_append_right _ h)
  have hw11 := hts (.fieldLink RX11 477 "PostHouse$Thing" "code" "I") (by decide +kernel)
  have hw12 := hts (.fieldLink RX11 459 "PostHouse$Letter" "codes" "[I") (by decide +kernel)
  have hw13 := hts (.fieldLink RX11 201 "PostHouse$Letter" "mendings" "I") (by decide +kernel)
  have hw14 := hts (.fieldLink RX11 462 "PostHouse$Letter" "mendedLine" "I") (by decide +kernel)
  have hw15 := hts (.fieldLink RX11 465 "PostHouse$Letter" "mendedCode" "I") (by decide +kernel)
  refine lv_iconst (v := nI 0) hx hb dX11_findMendings_0 (by decide) ?_
  refine lv_istore_n (lv' := [(2, .int (nI 0)), (0, .ref (τ.1 0)), (1, .ref (τ.1 (3000 + q)))]) hx hb dX11_findMendings_1 rfl hl (by decide) rfl (fun ls hl => ?_)
  refine zLp (σ := Nat × zFi) (fun x9 k9 H locs ls => (fun (i : Nat) (f : zFi) => k9 = l0 - i ∧ (i ≤ l0 ∧ (∃ j, j < 8 ∧ f (3000 + q) 6 = nI j) ∧ ∀ a b, ¬ (a = 3000 + q ∧ 5 ≤ b ∧ b ≤ 7) → f a b = fi a b) ∧ zH D A τ f fr ol s H ∧ va_S A s.heap H locs ∧ lv_has ls 7 [(0, .ref (τ.1 0)), (1, .ref (τ.1 (3000 + q))), (2, .int (nI i))]) x9.1 x9.2) (0, fi) (l0 - 0) (show l0 - 0 = l0 - 0 ∧ (0 ≤ l0 ∧ (∃ j, j < 8 ∧ fi (3000 + q) 6 = nI j) ∧ ∀ a b, ¬ (a = 3000 + q ∧ 5 ≤ b ∧ b ≤ 7) → fi a b = fi a b) ∧ zH D A τ fi fr ol s _ ∧ va_S A s.heap _ _ ∧ lv_has _ 7 [(0, .ref (τ.1 0)), (1, .ref (τ.1 (3000 + q))), (2, .int (nI 0))] from ⟨rfl, ⟨Nat.zero_le _, ⟨j0, hj8, hj0⟩, fun _ _ _ => rfl⟩, hH, hS, lv_sub hl [1, 2, 0] rfl⟩) (fun k9 ih x9 H locs ls hv9 => ?_)
  obtain ⟨i, f⟩ := x9
  have hv9 : k9 = l0 - i ∧ (i ≤ l0 ∧ (∃ j, j < 8 ∧ f (3000 + q) 6 = nI j) ∧ ∀ a b, ¬ (a = 3000 + q ∧ 5 ≤ b ∧ b ≤ 7) → f a b = fi a b) ∧ zH D A τ f fr ol s H ∧ va_S A s.heap H locs ∧ lv_has ls 7 [(0, .ref (τ.1 0)), (1, .ref (τ.1 (3000 + q))), (2, .int (nI i))] := hv9
  obtain ⟨hkih101, hv9, hH, hS, hl⟩ := hv9
  obtain ⟨h1, hm, hfr⟩ := hv9
  have ih101 := ih
  clear ih
  have q5 : f 3 1 = nI n := by rw [hfr 3 1 (by omega)]; exact hT0.2.1
  have q6 : f (3000 + q) 2 = nI l0 := by rw [hfr (3000 + q) 2 (by omega)]; exact hln
  have hT := zTh.ci (fi' := f) hT0 (fun i9 k9 h9 => hfr i9 k9 (by omega))
  refine lv_iload_n hx hb dX11_findMendings_2 rfl (lv_at hl 2 rfl) ?_
  refine lv_aload_n hx hb dX11_findMendings_3 rfl (lv_at hl 1 rfl) ?_
  refine zGetI (D := D) (ci := 2) (C := RX2) (T := TX2) (N := 10) hx hb hts hiX2 hown hH hL.1.1 rfl 2 (by decide) rfl hw1 (fun _ h9 => h9) dX11_findMendings_4 q6 ?_
  refine lv_icmp_ge (tgt := 138) hx hb dX11_findMendings_7 (by decide) (fun c102 => ?_) (fun c102 => ?_)
  · have zc102 := c102
    replace zc102 := zc_le (nI_toInt (by omega)) (nI_toInt (by omega)) zc102
    refine W.widen (k := 0) (n := 0) (by decide) (by decide) ?_
    exact W.vret hx hb hr (fun t9 ht9 hW9 => ⟨⟨f, rfl, ⟨hm, hfr⟩, zEnd1 hH ht9 hW9⟩, hS.F ht9⟩) hS.2.2 dX11_findMendings_138
  · have zc102 := c102
    replace zc102 := zc_nle (nI_toInt (by omega)) (nI_toInt (by omega)) zc102
    refine lv_aload_n hx hb dX11_findMendings_10 rfl (lv_at hl 0 rfl) ?_
    refine lv_aload_n hx hb dX11_findMendings_11 rfl (lv_at hl 1 rfl) ?_
    refine lv_iload_n hx hb dX11_findMendings_12 rfl (lv_at hl 2 rfl) ?_
    refine va_calli (va_runV (As := [.ref (τ.1 (3000 + q)), .int (nI i)]) (rest := []) ⟨hx, hb, hml, hown, hts⟩ (c_totalBut l hl0 D A sad τ f fr ol (nI i) hF n hT q hq5 hL l0 (by omega) q6) (cwV 2 hts gX11_findMendings_X11_totalBut rfl rfl rfl (by decide +kernel) ⟨Nat.le_of_ble_eq_true rfl, Nat.le_of_ble_eq_true rfl⟩) ⟨zQc_bl, zRecv hH (zk_0 hF) rfl, zQc_at hz hS hA hH⟩ rfl rfl hl.1 rfl (lv_room (Nat.le_of_ble_eq_true rfl)) dX11_findMendings_13 ⟨Nat.le_of_ble_eq_true rfl, Nat.le_of_ble_eq_true rfl⟩) hS (fun q _ h => h) (fun q h => h) (fun r103 u9 t9 H1 locs ht9 hvm9 hw hB hz1 hk1 hS => ?_)
    have hH := zMv ht9 hvm9 hB
    generalize H1 = H at hH hS ⊢
    refine lv_istore_n (lv' := [(3, .int r103), (0, .ref (τ.1 0)), (1, .ref (τ.1 (3000 + q))), (2, .int (nI i))]) hx hb dX11_findMendings_16 rfl hl (by decide) rfl (fun ls hl => ?_)
    refine lv_iconst (v := nI 0) hx hb dX11_findMendings_17 (by decide) ?_
    refine lv_istore (lv' := [(4, .int (nI 0)), (3, .int r103), (0, .ref (τ.1 0)), (1, .ref (τ.1 (3000 + q))), (2, .int (nI i))]) hx hb dX11_findMendings_18 hl (by decide) rfl (fun ls hl => ?_)
    refine zLp (σ := Nat × zFi) (fun x9 k9 H locs ls => (fun (i2 : Nat) (f2 : zFi) => k9 = n - i2 ∧ (i2 ≤ n ∧ (∃ j, j < 8 ∧ f2 (3000 + q) 6 = nI j) ∧ ∀ a b, ¬ (a = 3000 + q ∧ 5 ≤ b ∧ b ≤ 7) → f2 a b = fi a b) ∧ zH D A τ f2 fr ol s H ∧ va_S A s.heap H locs ∧ lv_has ls 7 [(0, .ref (τ.1 0)), (1, .ref (τ.1 (3000 + q))), (2, .int (nI i)), (3, .int r103), (4, .int (nI i2))]) x9.1 x9.2) (0, f) (n - 0) (show n - 0 = n - 0 ∧ (0 ≤ n ∧ (∃ j, j < 8 ∧ f (3000 + q) 6 = nI j) ∧ ∀ a b, ¬ (a = 3000 + q ∧ 5 ≤ b ∧ b ≤ 7) → f a b = fi a b) ∧ zH D A τ f fr ol s _ ∧ va_S A s.heap _ _ ∧ lv_has _ 7 [(0, .ref (τ.1 0)), (1, .ref (τ.1 (3000 + q))), (2, .int (nI i)), (3, .int r103), (4, .int (nI 0))] from ⟨rfl, ⟨Nat.zero_le _, hm, hfr⟩, hH, hS, lv_sub hl [2, 3, 4, 1, 0] rfl⟩) (fun k9 ih x9 H locs ls hv9 => ?_)
    obtain ⟨i2, f2⟩ := x9
    have hv9 : k9 = n - i2 ∧ (i2 ≤ n ∧ (∃ j, j < 8 ∧ f2 (3000 + q) 6 = nI j) ∧ ∀ a b, ¬ (a = 3000 + q ∧ 5 ≤ b ∧ b ≤ 7) → f2 a b = fi a b) ∧ zH D A τ f2 fr ol s H ∧ va_S A s.heap H locs ∧ lv_has ls 7 [(0, .ref (τ.1 0)), (1, .ref (τ.1 (3000 + q))), (2, .int (nI i)), (3, .int r103), (4, .int (nI i2))] := hv9
    obtain ⟨hkih104, hv9, hH, hS, hl⟩ := hv9
    obtain ⟨h2, hm2, hfr2⟩ := hv9
    have ih104 := ih
    clear ih
    have q5 : f2 3 1 = nI n := by rw [hfr2 3 1 (by omega)]; exact hT0.2.1
    have q6 : f2 (3000 + q) 2 = nI l0 := by rw [hfr2 (3000 + q) 2 (by omega)]; exact hln
    have hT := zTh.ci (fi' := f2) hT0 (fun i9 k9 h9 => hfr2 i9 k9 (by omega))
    refine lv_iload hx hb dX11_findMendings_20 (lv_at hl 4 rfl) ?_
    refine lv_aload_n hx hb dX11_findMendings_22 rfl (lv_at hl 0 rfl) ?_
    refine zGetR (D := D) (ci := 11) (C := RX11) (T := TX11) (N := 16) hx hb hts hiX11 hown hH (zk_0 hF) rfl 1 (by decide) rfl hw3 (fun _ h9 => h9) dX11_findMendings_23 (zr_0_1 hF) ?_
    refine zGetI (D := D) (ci := 0) (C := RX0) (T := TX0) (N := 2) hx hb hts hiX0 hown hH (zk_3 hF) rfl 1 (by decide) rfl hw5 (fun _ h9 => h9) dX11_findMendings_26 q5 ?_
    refine lv_icmp_ge (tgt := 132) hx hb dX11_findMendings_29 (by decide) (fun c105 => ?_) (fun c105 => ?_)
    · have zc105 := c105
      replace zc105 := zc_le (nI_toInt (by omega)) (nI_toInt (by omega)) zc105
      refine lv_iinc (v := nI (i + 1)) (lv' := [(2, .int (nI (i + 1))), (0, .ref (τ.1 0)), (1, .ref (τ.1 (3000 + q))), (3, .int r103), (4, .int (nI i2))]) hx hb dX11_findMendings_132 hl (k := 2) rfl (by rw [show (Int32.ofInt 1 : Int32) = nI 1 from by decide, nI_add]) (by decide) rfl (fun ls hl => ?_)
      refine lv_goto (tgt := 2) hx hb dX11_findMendings_135 (by decide) ?_
      exact ih101 (l0 - (i + 1)) (by omega) (i + 1, f2) _ _ _ (show l0 - (i + 1) = l0 - (i + 1) ∧ ((i + 1) ≤ l0 ∧ (∃ j, j < 8 ∧ f2 (3000 + q) 6 = nI j) ∧ ∀ a b, ¬ (a = 3000 + q ∧ 5 ≤ b ∧ b ≤ 7) → f2 a b = fi a b) ∧ zH D A τ f2 fr ol s _ ∧ va_S A s.heap _ _ ∧ lv_has _ 7 [(0, .ref (τ.1 0)), (1, .ref (τ.1 (3000 + q))), (2, .int (nI (i + 1)))] from ⟨rfl, ⟨by omega, hm2, hfr2⟩, hH, hS, lv_sub hl [1, 2, 0] rfl⟩)
    · have zc105 := c105
      replace zc105 := zc_nle (nI_toInt (by omega)) (nI_toInt (by omega)) zc105
      refine lv_iload_n hx hb dX11_findMendings_32 rfl (lv_at hl 3 rfl) ?_
      refine lv_iconst (v := (-1)) hx hb dX11_findMendings_33 (by decide) ?_
      refine lv_icmp_eq (tgt := 132) hx hb dX11_findMendings_34 (by decide) (fun c106 => ?_) (fun c106 => ?_)
      · have zc106 := c106
        replace zc106 := zc_eq (rfl) ((by decide : ((-1) : Int32).toInt = (-1))) zc106
        refine lv_iinc (v := nI (i + 1)) (lv' := [(2, .int (nI (i + 1))), (0, .ref (τ.1 0)), (1, .ref (τ.1 (3000 + q))), (3, .int r103), (4, .int (nI i2))]) hx hb dX11_findMendings_132 hl (k := 2) rfl (by rw [show (Int32.ofInt 1 : Int32) = nI 1 from by decide, nI_add]) (by decide) rfl (fun ls hl => ?_)
        refine lv_goto (tgt := 2) hx hb dX11_findMendings_135 (by decide) ?_
        exact ih101 (l0 - (i + 1)) (by omega) (i + 1, f2) _ _ _ (show l0 - (i + 1) = l0 - (i + 1) ∧ ((i + 1) ≤ l0 ∧ (∃ j, j < 8 ∧ f2 (3000 + q) 6 = nI j) ∧ ∀ a b, ¬ (a = 3000 + q ∧ 5 ≤ b ∧ b ≤ 7) → f2 a b = fi a b) ∧ zH D A τ f2 fr ol s _ ∧ va_S A s.heap _ _ ∧ lv_has _ 7 [(0, .ref (τ.1 0)), (1, .ref (τ.1 (3000 + q))), (2, .int (nI (i + 1)))] from ⟨rfl, ⟨by omega, hm2, hfr2⟩, hH, hS, lv_sub hl [1, 2, 0] rfl⟩)
      · have zc106 := c106
        replace zc106 := zc_neq (rfl) ((by decide : ((-1) : Int32).toInt = (-1))) zc106
        refine lv_aload_n hx hb dX11_findMendings_37 rfl (lv_at hl 0 rfl) ?_
        refine zGetR (D := D) (ci := 11) (C := RX11) (T := TX11) (N := 16) hx hb hts hiX11 hown hH (zk_0 hF) rfl 1 (by decide) rfl hw3 (fun _ h9 => h9) dX11_findMendings_38 (zr_0_1 hF) ?_
        refine zGetR (D := D) (ci := 0) (C := RX0) (T := TX0) (N := 2) hx hb hts hiX0 hown hH (zk_3 hF) rfl 0 (by decide) rfl hw6 (fun _ h9 => h9) dX11_findMendings_41 (zr_3_0 hF) ?_
        refine lv_iload hx hb dX11_findMendings_44 (lv_at hl 4 rfl) ?_
        refine zAaldS (D := D) hx hb hH (zk_4 hF) (by decide) (by decide) rfl (zn_4 hF) (by omega) (by omega) (hT.2.2.1 i2 (by omega)).2.2.1.2.2.2 dX11_findMendings_46 ?_
        refine lv_astore (lv' := [(5, .ref (τ.1 (300 + i2))), (0, .ref (τ.1 0)), (1, .ref (τ.1 (3000 + q))), (2, .int (nI i)), (3, .int r103), (4, .int (nI i2))]) hx hb dX11_findMendings_47 hl (by decide) rfl (fun ls hl => ?_)
        refine lv_aload hx hb dX11_findMendings_49 (lv_at hl 0 rfl) ?_
        refine lv_aload_n hx hb dX11_findMendings_51 rfl (lv_at hl 1 rfl) ?_
        refine zGetI (D := D) (ci := 11) (C := RX11) (T := TX11) (N := 16) hx hb hts hiX11 hown hH (zk_0 hF) rfl 15 (by decide) rfl hw7 (fun _ h9 => h9) dX11_findMendings_52 rfl ?_
        obtain ⟨k107, h4k107, h0k107⟩ := (hT.2.2.1 i2 (by omega)).2.2.2.2
        refine va_calli (va_runV (As := [.int (f2 0 15)]) (rest := []) ⟨hx, hb, hml, hown, hts⟩ (c_moneyOn l hl0 D A sad τ f2 fr ol (f2 0 15) n hT i2 k107 (by omega) h0k107 h4k107) (cwV 1 hts gX11_findMendings_X8_moneyOn rfl rfl rfl (by decide +kernel) ⟨Nat.le_of_ble_eq_true rfl, Nat.le_of_ble_eq_true rfl⟩) ⟨zQc_bl, zRecv hH (hT.2.2.1 i2 (by omega)).1.1 rfl, zQc_at hz hS hA hH⟩ rfl rfl hl.1 rfl (lv_room (Nat.le_of_ble_eq_true rfl)) dX11_findMendings_55 ⟨Nat.le_of_ble_eq_true rfl, Nat.le_of_ble_eq_true rfl⟩) hS (fun q _ h => h) (fun q h => h) (fun r108 u9 t9 H1 locs ht9 hvm9 hw hB hz1 hk1 hS => ?_)
        have hH := zMv ht9 hvm9 hB
        generalize H1 = H at hH hS ⊢
        refine lv_istore (lv' := [(6, .int r108), (5, .ref (τ.1 (300 + i2))), (0, .ref (τ.1 0)), (1, .ref (τ.1 (3000 + q))), (2, .int (nI i)), (3, .int r103), (4, .int (nI i2))]) hx hb dX11_findMendings_58 hl (by decide) rfl (fun ls hl => ?_)
        refine lv_iload hx hb dX11_findMendings_60 (lv_at hl 0 rfl) ?_
        refine lv_iconst (v := (-1)) hx hb dX11_findMendings_62 (by decide) ?_
        refine lv_icmp_eq (tgt := 126) hx hb dX11_findMendings_63 (by decide) (fun c109 => ?_) (fun c109 => ?_)
        · have zc109 := c109
          replace zc109 := zc_eq (rfl) ((by decide : ((-1) : Int32).toInt = (-1))) zc109
          refine lv_iinc (v := nI (i2 + 1)) (lv' := [(4, .int (nI (i2 + 1))), (6, .int r108), (5, .ref (τ.1 (300 + i2))), (0, .ref (τ.1 0)), (1, .ref (τ.1 (3000 + q))), (2, .int (nI i)), (3, .int r103)]) hx hb dX11_findMendings_126 hl (k := 6) rfl (by rw [show (Int32.ofInt 1 : Int32) = nI 1 from by decide, nI_add]) (by decide) rfl (fun ls hl => ?_)
          refine lv_goto (tgt := 20) hx hb dX11_findMendings_129 (by decide) ?_
          exact ih104 (n - (i2 + 1)) (by omega) (i2 + 1, f2) _ _ _ (show n - (i2 + 1) = n - (i2 + 1) ∧ ((i2 + 1) ≤ n ∧ (∃ j, j < 8 ∧ f2 (3000 + q) 6 = nI j) ∧ ∀ a b, ¬ (a = 3000 + q ∧ 5 ≤ b ∧ b ≤ 7) → f2 a b = fi a b) ∧ zH D A τ f2 fr ol s _ ∧ va_S A s.heap _ _ ∧ lv_has _ 7 [(0, .ref (τ.1 0)), (1, .ref (τ.1 (3000 + q))), (2, .int (nI i)), (3, .int r103), (4, .int (nI (i2 + 1)))] from ⟨rfl, ⟨by omega, hm2, fun a b h => hfr2 a b h⟩, hH, hS, lv_sub hl [3, 4, 5, 6, 0] rfl⟩)
        · have zc109 := c109
          replace zc109 := zc_neq (rfl) ((by decide : ((-1) : Int32).toInt = (-1))) zc109
          refine lv_iload_n hx hb dX11_findMendings_66 rfl (lv_at hl 5 rfl) ?_
          refine lv_iload hx hb dX11_findMendings_67 (lv_at hl 0 rfl) ?_
          refine lv_aload_n hx hb dX11_findMendings_69 rfl (lv_at hl 3 rfl) ?_
          refine zGetR (D := D) (ci := 2) (C := RX2) (T := TX2) (N := 10) hx hb hts hiX2 hown hH hL.1.1 rfl 1 (by decide) rfl hw8 (fun _ h9 => h9) dX11_findMendings_70 hL.2.2.2 ?_
          refine lv_iload_n hx hb dX11_findMendings_73 rfl (lv_at hl 4 rfl) ?_
          refine zIaldN (D := D) hx hb hH hL.1.2.2 hL.2.1.2 (by omega) (by omega) rfl dX11_findMendings_74 ?_
          refine lv_imul hx hb dX11_findMendings_75 ?_
          refine lv_topi (fun v110 ev110 => ?_)
          refine lv_iadd hx hb dX11_findMendings_76 ?_
          refine lv_topi (fun v111 ev111 => ?_)
          refine lv_aload_n hx hb dX11_findMendings_77 rfl (lv_at hl 3 rfl) ?_
          refine zGetI (D := D) (ci := 2) (C := RX2) (T := TX2) (N := 10) hx hb hts hiX2 hown hH hL.1.1 rfl 3 (by decide) rfl hw9 (fun _ h9 => h9) dX11_findMendings_78 rfl ?_
          refine lv_icmp_ne (tgt := 126) hx hb dX11_findMendings_81 (by decide) (fun c112 => ?_) (fun c112 => ?_)
          · have zc112 := c112
            replace zc112 := zc_neq (rfl) (rfl) zc112
            refine lv_iinc (v := nI (i2 + 1)) (lv' := [(4, .int (nI (i2 + 1))), (6, .int r108), (5, .ref (τ.1 (300 + i2))), (0, .ref (τ.1 0)), (1, .ref (τ.1 (3000 + q))), (2, .int (nI i)), (3, .int r103)]) hx hb dX11_findMendings_126 hl (k := 6) rfl (by rw [show (Int32.ofInt 1 : Int32) = nI 1 from by decide, nI_add]) (by decide) rfl (fun ls hl => ?_)
            refine lv_goto (tgt := 20) hx hb dX11_findMendings_129 (by decide) ?_
            exact ih104 (n - (i2 + 1)) (by omega) (i2 + 1, f2) _ _ _ (show n - (i2 + 1) = n - (i2 + 1) ∧ ((i2 + 1) ≤ n ∧ (∃ j, j < 8 ∧ f2 (3000 + q) 6 = nI j) ∧ ∀ a b, ¬ (a = 3000 + q ∧ 5 ≤ b ∧ b ≤ 7) → f2 a b = fi a b) ∧ zH D A τ f2 fr ol s _ ∧ va_S A s.heap _ _ ∧ lv_has _ 7 [(0, .ref (τ.1 0)), (1, .ref (τ.1 (3000 + q))), (2, .int (nI i)), (3, .int r103), (4, .int (nI (i2 + 1)))] from ⟨rfl, ⟨by omega, hm2, fun a b h => hfr2 a b h⟩, hH, hS, lv_sub hl [3, 4, 5, 6, 0] rfl⟩)
          · have zc112 := c112
            replace zc112 := zc_eq (rfl) (rfl) zc112
            refine lv_aload hx hb dX11_findMendings_84 (lv_at hl 1 rfl) ?_
            refine zGetI (D := D) (ci := 8) (C := RX8) (T := TX8) (N := 10) hx hb hts hiX8 hown hH (hT.2.2.1 i2 (by omega)).1.1 rfl 1 (by decide) rfl hw11 (fun _ h9 => h9) dX11_findMendings_86 rfl ?_
            refine lv_aload_n hx hb dX11_findMendings_89 rfl (lv_at hl 3 rfl) ?_
            refine zGetR (D := D) (ci := 2) (C := RX2) (T := TX2) (N := 10) hx hb hts hiX2 hown hH hL.1.1 rfl 0 (by decide) rfl hw12 (fun _ h9 => h9) dX11_findMendings_90 hL.2.2.1 ?_
            refine lv_iload_n hx hb dX11_findMendings_93 rfl (lv_at hl 4 rfl) ?_
            refine zIaldN (D := D) hx hb hH hL.1.2.1 hL.2.1.1 (by omega) (by omega) rfl dX11_findMendings_94 ?_
            refine va_calli (va_runS (As := [.int (f2 (300 + i2) 1), .int (f2 (4000 + q) i)]) (rest := []) ⟨hx, hb, hml, hown, hts⟩ (c_unlike l hl0 D A sad τ f2 fr ol (f2 (300 + i2) 1) (f2 (4000 + q) i)) (cwS 2 hts gX11_findMendings_X11_unlikeDigits rfl rfl rfl (by decide +kernel) ⟨Nat.le_of_ble_eq_true rfl, Nat.le_of_ble_eq_true rfl⟩) ⟨zQc_bl, zQc_at hz hS hA hH⟩ rfl rfl hl.1 rfl (lv_room (Nat.le_of_ble_eq_true rfl)) dX11_findMendings_95 ⟨Nat.le_of_ble_eq_true rfl, Nat.le_of_ble_eq_true rfl⟩) hS (fun q _ h => h) (fun q h => h) (fun r113 u9 t9 H1 locs ht9 hvm9 hw hB hz1 hk1 hS => ?_)
            have hH := zMv ht9 hvm9 hB
            generalize H1 = H at hH hS ⊢
            refine lv_iconst (v := nI 1) hx hb dX11_findMendings_98 (by decide) ?_
            refine lv_icmp_ne (tgt := 126) hx hb dX11_findMendings_99 (by decide) (fun c114 => ?_) (fun c114 => ?_)
            · have zc114 := c114
              replace zc114 := zc_neq (rfl) (nI_toInt (by omega)) zc114
              refine lv_iinc (v := nI (i2 + 1)) (lv' := [(4, .int (nI (i2 + 1))), (6, .int r108), (5, .ref (τ.1 (300 + i2))), (0, .ref (τ.1 0)), (1, .ref (τ.1 (3000 + q))), (2, .int (nI i)), (3, .int r103)]) hx hb dX11_findMendings_126 hl (k := 6) rfl (by rw [show (Int32.ofInt 1 : Int32) = nI 1 from by decide, nI_add]) (by decide) rfl (fun ls hl => ?_)
              refine lv_goto (tgt := 20) hx hb dX11_findMendings_129 (by decide) ?_
              exact ih104 (n - (i2 + 1)) (by omega) (i2 + 1, f2) _ _ _ (show n - (i2 + 1) = n - (i2 + 1) ∧ ((i2 + 1) ≤ n ∧ (∃ j, j < 8 ∧ f2 (3000 + q) 6 = nI j) ∧ ∀ a b, ¬ (a = 3000 + q ∧ 5 ≤ b ∧ b ≤ 7) → f2 a b = fi a b) ∧ zH D A τ f2 fr ol s _ ∧ va_S A s.heap _ _ ∧ lv_has _ 7 [(0, .ref (τ.1 0)), (1, .ref (τ.1 (3000 + q))), (2, .int (nI i)), (3, .int r103), (4, .int (nI (i2 + 1)))] from ⟨rfl, ⟨by omega, hm2, fun a b h => hfr2 a b h⟩, hH, hS, lv_sub hl [3, 4, 5, 6, 0] rfl⟩)
            · have zc114 := c114
              replace zc114 := zc_eq (rfl) (nI_toInt (by omega)) zc114
              refine lv_aload_n hx hb dX11_findMendings_102 rfl (lv_at hl 3 rfl) ?_
              refine lv_dup hx hb dX11_findMendings_103 rfl ?_
              refine zGetI (D := D) (ci := 2) (C := RX2) (T := TX2) (N := 10) hx hb hts hiX2 hown hH hL.1.1 rfl 5 (by decide) rfl hw13 (fun _ h9 => h9) dX11_findMendings_104 rfl ?_
              refine lv_iconst (v := nI 1) hx hb dX11_findMendings_107 (by decide) ?_
              refine lv_iadd hx hb dX11_findMendings_108 ?_
              refine lv_topi (fun v115 ev115 => ?_)
              refine zPutI (D := D) (ci := 2) (ty := .int) (C := RX2) (T := TX2) (N := 10) hx hb hts hiX2 tyX2 tyX2_ok nmX2 hown hH hS hL.1.1 rfl 5 (by decide) rfl hw13 (fun _ h9 => h9) rfl (by decide +kernel) rfl rfl dX11_findMendings_109 (fun H locs hH hS => ?_)
              obtain ⟨f116, ef116⟩ : ∃ f9 : zFi, f9 = zu f2 (3000 + q) 5 v115 := ⟨_, rfl⟩
              rw [← ef116] at hH
              have q117 : f116 3 1 = nI n := by rw [ef116, zu_n (fun h9 => by omega)]; exact q5
              have q118 : f116 (3000 + q) 2 = nI l0 := by rw [ef116, zu_n (fun h9 => absurd h9.2 (by decide))]; exact q6
              have q119 : f116 (3000 + q) 5 = v115 := by rw [ef116]; exact zu_s
              have hT := zTh.ci (fi' := f116) hT (fun i9 k9 h9 => by rw [ef116]; exact zu_n (by omega))
              refine lv_aload_n hx hb dX11_findMendings_112 rfl (lv_at hl 3 rfl) ?_
              refine lv_iload_n hx hb dX11_findMendings_113 rfl (lv_at hl 4 rfl) ?_
              refine zPutI (D := D) (ci := 2) (ty := .int) (C := RX2) (T := TX2) (N := 10) hx hb hts hiX2 tyX2 tyX2_ok nmX2 hown hH hS hL.1.1 rfl 6 (by decide) rfl hw14 (fun _ h9 => h9) rfl (by decide +kernel) rfl rfl dX11_findMendings_114 (fun H locs hH hS => ?_)
              obtain ⟨f120, ef120⟩ : ∃ f9 : zFi, f9 = zu f116 (3000 + q) 6 (nI i) := ⟨_, rfl⟩
              rw [← ef120] at hH
              have q121 : f120 3 1 = nI n := by rw [ef120, zu_n (fun h9 => by omega)]; exact q117
              have q122 : f120 (3000 + q) 2 = nI l0 := by rw [ef120, zu_n (fun h9 => absurd h9.2 (by decide))]; exact q118
              have q123 : f120 (3000 + q) 5 = v115 := by rw [ef120, zu_n (fun h9 => absurd h9.2 (by decide))]; exact q119
              have q124 : f120 (3000 + q) 6 = nI i := by rw [ef120]; exact zu_s
              have hT := zTh.ci (fi' := f120) hT (fun i9 k9 h9 => by rw [ef120]; exact zu_n (by omega))
              refine lv_aload_n hx hb dX11_findMendings_117 rfl (lv_at hl 3 rfl) ?_
              refine lv_aload hx hb dX11_findMendings_118 (lv_at hl 1 rfl) ?_
              refine zGetI (D := D) (ci := 8) (C := RX8) (T := TX8) (N := 10) hx hb hts hiX8 hown hH (hT.2.2.1 i2 (by omega)).1.1 rfl 1 (by decide) rfl hw11 (fun _ h9 => h9) dX11_findMendings_120 rfl ?_
              refine zPutI (D := D) (ci := 2) (ty := .int) (C := RX2) (T := TX2) (N := 10) hx hb hts hiX2 tyX2 tyX2_ok nmX2 hown hH hS hL.1.1 rfl 7 (by decide) rfl hw15 (fun _ h9 => h9) rfl (by decide +kernel) rfl rfl dX11_findMendings_123 (fun H locs hH hS => ?_)
              obtain ⟨f125, ef125⟩ : ∃ f9 : zFi, f9 = zu f120 (3000 + q) 7 (f120 (300 + i2) 1) := ⟨_, rfl⟩
              rw [← ef125] at hH
              have q126 : f125 3 1 = nI n := by rw [ef125, zu_n (fun h9 => by omega)]; exact q121
              have q127 : f125 (3000 + q) 2 = nI l0 := by rw [ef125, zu_n (fun h9 => absurd h9.2 (by decide))]; exact q122
              have q128 : f125 (3000 + q) 5 = v115 := by rw [ef125, zu_n (fun h9 => absurd h9.2 (by decide))]; exact q123
              have q129 : f125 (3000 + q) 6 = nI i := by rw [ef125, zu_n (fun h9 => absurd h9.2 (by decide))]; exact q124
              have q130 : f125 (3000 + q) 7 = f120 (300 + i2) 1 := by rw [ef125]; exact zu_s
              have hT := zTh.ci (fi' := f125) hT (fun i9 k9 h9 => by rw [ef125]; exact zu_n (by omega))
              refine lv_iinc (v := nI (i2 + 1)) (lv' := [(4, .int (nI (i2 + 1))), (6, .int r108), (5, .ref (τ.1 (300 + i2))), (0, .ref (τ.1 0)), (1, .ref (τ.1 (3000 + q))), (2, .int (nI i)), (3, .int r103)]) hx hb dX11_findMendings_126 hl (k := 6) rfl (by rw [show (Int32.ofInt 1 : Int32) = nI 1 from by decide, nI_add]) (by decide) rfl (fun ls hl => ?_)
              refine lv_goto (tgt := 20) hx hb dX11_findMendings_129 (by decide) ?_
              exact ih104 (n - (i2 + 1)) (by omega) (i2 + 1, f125) _ _ _ (show n - (i2 + 1) = n - (i2 + 1) ∧ ((i2 + 1) ≤ n ∧ (∃ j, j < 8 ∧ f125 (3000 + q) 6 = nI j) ∧ ∀ a b, ¬ (a = 3000 + q ∧ 5 ≤ b ∧ b ≤ 7) → f125 a b = fi a b) ∧ zH D A τ f125 fr ol s _ ∧ va_S A s.heap _ _ ∧ lv_has _ 7 [(0, .ref (τ.1 0)), (1, .ref (τ.1 (3000 + q))), (2, .int (nI i)), (3, .int r103), (4, .int (nI (i2 + 1)))] from ⟨rfl, ⟨by omega, ⟨i, by omega, q129⟩, fun a b h => by rw [ef125, zu_n (by omega), ef120, zu_n (by omega), ef116, zu_n (by omega)]; exact hfr2 a b h⟩, hH, hS, lv_sub hl [3, 4, 5, 6, 0] rfl⟩)
set_option maxHeartbeats 4000000 in
set_option maxRecDepth 100000 in
/-- mend -/
theorem c_mend (l : Launch) (hl0 : l.stackTraces = false) (D : va_G) (A : Nat → Prop) (sad : Nat → Nat) (τ : zTy) (fi : zFi) (fr : zFr) (ol : Int64) (hF : zFix τ fr) (n : Nat) (hT : zTh τ fi fr n) (q : Nat) (hq5 : q ≤ 512) (hL : zLk τ fr q) (l0 : Nat) (hl8 : l0 ≤ 8) (hln : fi (3000 + q) 2 = nI l0) (j0 : Nat) (hj8 : j0 < 8) (hj0 : fi (3000 + q) 6 = nI j0) : Met l yX11_mend wsX11_mend ({ frames := 5, cells := 0, slots := 0, locals := 117 }) (va_Pc [.ref (τ.1 0), .ref (τ.1 (3000 + q))] (zQc D A sad τ fi fr ol)) (va_Qi (fun (r : Int32) (u : zFi) => ∀ a b, ¬ ((a = 3000 + q ∧ 5 ≤ b ∧ b ≤ 8) ∨ a = 4000 + q) → u a b = fi a b) (fun (u : zFi) (t : State) => zH D A τ u fr ol t t.heap) A) 0 0 A := by
  refine Met.ofW (cc := cX11_mend) (maxL := 4) (ret := (some .boolean)) (by decide) rfl ?_
  intro p9 e9 s m args below meth c9 s₁ B hml hv
  obtain ⟨rfl, hz, hH, hA⟩ := hv
  have hx := B.exec
  have hb := B.bytes
  have hr := B.returns
  have hts := atoms_spec (ws := wsX11_mend) B.pre
  have hown : s.vm.findClass RX11 = some m.cls := findClass_of_methodNamed B.named
  have hlocks := B.notSynchronized
  have hS : va_S A s.heap s.heap [] := va_S.rf
  have hl := lv_entry ([.ref (τ.1 0), .ref (τ.1 (3000 + q))]) (n := 4) (Nat.le_of_ble_eq_true rfl)
  rw [lg_entry_eq]
  generalize (lg_sl ([.ref (τ.1 0), .ref (τ.1 (3000 + q))]) ++ List.replicate (4 - (lg_sl ([.ref (τ.1 0), .ref (τ.1 (3000 + q))])).length) Slot.unset).toArray = ls at hl ⊢
  have hl : lv_has ls 4 [(0, .ref (τ.1 0)), (1, .ref (τ.1 (3000 + q)))] := hl
  have hn30 := hT.1
  have hiX2 : ∀ w ∈ u_ws RX2 TX2 10, w ∈ wsX11_mend := fun _ h => List.mem_cons_of_mem _ (List.mem_append_left _ (List.mem_append_left _ (List.mem_append_left _ (List.mem_append_right _ h))))
  have hw1 := hts (.fieldLink RX11 234 "PostHouse$Letter" "sum" "I") (by decide +kernel)
  have hw2 := hts (.fieldLink RX11 201 "PostHouse$Letter" "mendings" "I") (by decide +kernel)
  have hw3 := hts (.fieldLink RX11 231 "PostHouse$Letter" "known" "I") (by decide +kernel)
  have hw4 := hts (.fieldLink RX11 459 "PostHouse$Letter" "codes" "[I") (by decide +kernel)
  have hw5 := hts (.fieldLink RX11 462 "PostHouse$Letter" "mendedLine" "I") (by decide +kernel)
  have hw6 := hts (.fieldLink RX11 465 "PostHouse$Letter" "mendedCode" "I") (by decide +kernel)
  refine lv_aload_n hx hb dX11_mend_0 rfl (lv_at hl 0 rfl) ?_
  refine lv_aload_n hx hb dX11_mend_1 rfl (lv_at hl 1 rfl) ?_
  refine lv_iconst (v := (-1)) hx hb dX11_mend_2 (by decide) ?_
  refine va_calli (va_runV (As := [.ref (τ.1 (3000 + q)), .int ((-1))]) (rest := []) ⟨hx, hb, hml, hown, hts⟩ (c_totalBut l hl0 D A sad τ fi fr ol ((-1)) hF n hT q hq5 hL l0 (by omega) hln) (cwV 2 hts gX11_mend_X11_totalBut rfl rfl rfl (by decide +kernel) ⟨Nat.le_of_ble_eq_true rfl, Nat.le_of_ble_eq_true rfl⟩) ⟨zQc_bl, zRecv hH (zk_0 hF) rfl, zQc_at hz hS hA hH⟩ rfl rfl hl.1 rfl (lv_room (Nat.le_of_ble_eq_true rfl)) dX11_mend_3 ⟨Nat.le_of_ble_eq_true rfl, Nat.le_of_ble_eq_true rfl⟩) hS (fun q _ h => h) (fun q h => h) (fun r101 u9 t9 H1 locs ht9 hvm9 hw hB hz1 hk1 hS => ?_)
  have hH := zMv ht9 hvm9 hB
  generalize H1 = H at hH hS ⊢
  refine lv_aload_n hx hb dX11_mend_6 rfl (lv_at hl 1 rfl) ?_
  refine zGetI (D := D) (ci := 2) (C := RX2) (T := TX2) (N := 10) hx hb hts hiX2 hown hH hL.1.1 rfl 3 (by decide) rfl hw1 (fun _ h9 => h9) dX11_mend_7 rfl ?_
  refine lv_icmp_ne (tgt := 17) hx hb dX11_mend_10 (by decide) (fun c102 => ?_) (fun c102 => ?_)
  · have zc102 := c102
    replace zc102 := zc_neq (rfl) (rfl) zc102
    refine lv_iconst (v := nI 0) hx hb dX11_mend_17 (by decide) ?_
    refine lv_istore_n (lv' := [(2, .int (nI 0)), (0, .ref (τ.1 0)), (1, .ref (τ.1 (3000 + q)))]) hx hb dX11_mend_18 rfl hl (by decide) rfl (fun ls hl => ?_)
    refine lv_iload_n hx hb dX11_mend_19 rfl (lv_at hl 0 rfl) ?_
    refine lv_if_ne (tgt := 28) hx hb dX11_mend_20 (by decide) (fun c103 => absurd (by decide) c103) (fun c103 => ?_)
    refine lv_aload_n hx hb dX11_mend_23 rfl (lv_at hl 1 rfl) ?_
    refine lv_aload_n hx hb dX11_mend_24 rfl (lv_at hl 2 rfl) ?_
    refine va_callv (va_runV (As := [.ref (τ.1 (3000 + q))]) (rest := []) ⟨hx, hb, hml, hown, hts⟩ (c_findM l hl0 D A sad τ fi fr ol hF n hT q hq5 hL l0 (by omega) hln j0 (by omega) hj0) (cwV 1 hts gX11_mend_X11_findMendings rfl rfl rfl (by decide +kernel) ⟨Nat.le_of_ble_eq_true rfl, Nat.le_of_ble_eq_true rfl⟩) ⟨zQc_bl, zRecv hH (zk_0 hF) rfl, zQc_at hz hS hA hH⟩ rfl rfl hl.1 rfl (lv_room (Nat.le_of_ble_eq_true rfl)) dX11_mend_25 ⟨Nat.le_of_ble_eq_true rfl, Nat.le_of_ble_eq_true rfl⟩) hS (fun q _ h => h) (fun q h => h) (fun u9 t9 H1 locs ht9 hvm9 hw hB hz1 hk1 hS => ?_)
    have hH := zMv ht9 hvm9 hB
    clear hB
    generalize u9 = f105 at hw hH
    generalize H1 = H at hH hS ⊢
    obtain ⟨⟨j106, hj107, q108⟩, hf109⟩ := hw
    have q110 : f105 (3000 + q) 2 = nI l0 := by rw [hf109 (3000 + q) 2 (by omega)]; exact hln
    have hT := zTh.ci (fi' := f105) hT (fun i9 k9 h9 => hf109 i9 k9 (by omega))
    refine lv_aload_n hx hb dX11_mend_28 rfl (lv_at hl 2 rfl) ?_
    refine zGetI (D := D) (ci := 2) (C := RX2) (T := TX2) (N := 10) hx hb hts hiX2 hown hH hL.1.1 rfl 5 (by decide) rfl hw2 (fun _ h9 => h9) dX11_mend_29 rfl ?_
    refine lv_iconst (v := nI 1) hx hb dX11_mend_32 (by decide) ?_
    refine lv_icmp_ne (tgt := 40) hx hb dX11_mend_33 (by decide) (fun c111 => ?_) (fun c111 => ?_)
    · have zc111 := c111
      replace zc111 := zc_neq (rfl) (nI_toInt (by omega)) zc111
      refine lv_iconst (v := nI 0) hx hb dX11_mend_40 (by decide) ?_
      refine lv_istore_n (lv' := [(3, .int (nI 0)), (2, .int (nI 0)), (0, .ref (τ.1 0)), (1, .ref (τ.1 (3000 + q)))]) hx hb dX11_mend_41 rfl hl (by decide) rfl (fun ls hl => ?_)
      refine lv_iload_n hx hb dX11_mend_42 rfl (lv_at hl 0 rfl) ?_
      refine lv_if_eq (tgt := 59) hx hb dX11_mend_43 (by decide) (fun c112 => ?_) (fun c112 => absurd (by decide) c112)
      refine lv_aload_n hx hb dX11_mend_59 rfl (lv_at hl 3 rfl) ?_
      refine lv_aload_n hx hb dX11_mend_60 rfl (lv_at hl 2 rfl) ?_
      refine lv_aload_n hx hb dX11_mend_61 rfl (lv_at hl 3 rfl) ?_
      refine va_calli (va_runV (As := [.ref (τ.1 (3000 + q))]) (rest := [.ref (τ.1 (3000 + q))]) ⟨hx, hb, hml, hown, hts⟩ (c_known l hl0 D A sad τ f105 fr ol hF n hT q hq5 hL l0 (by omega) q110) (cwV 1 hts gX11_mend_X11_knownLines rfl rfl rfl (by decide +kernel) ⟨Nat.le_of_ble_eq_true rfl, Nat.le_of_ble_eq_true rfl⟩) ⟨zQc_bl, zRecv hH (zk_0 hF) rfl, zQc_at hz hS hA hH⟩ rfl rfl hl.1 rfl (lv_room (Nat.le_of_ble_eq_true rfl)) dX11_mend_62 ⟨Nat.le_of_ble_eq_true rfl, Nat.le_of_ble_eq_true rfl⟩) hS (fun q _ h => h) (fun q h => h) (fun r113 u9 t9 H1 locs ht9 hvm9 hw hB hz1 hk1 hS => ?_)
      have hH := zMv ht9 hvm9 hB
      generalize H1 = H at hH hS ⊢
      refine zPutI (D := D) (ci := 2) (ty := .int) (C := RX2) (T := TX2) (N := 10) hx hb hts hiX2 tyX2 tyX2_ok nmX2 hown hH hS hL.1.1 rfl 8 (by decide) rfl hw3 (fun _ h9 => h9) rfl (by decide +kernel) rfl rfl dX11_mend_65 (fun H locs hH hS => ?_)
      obtain ⟨f114, ef114⟩ : ∃ f9 : zFi, f9 = zu f105 (3000 + q) 8 r113 := ⟨_, rfl⟩
      rw [← ef114] at hH
      have q115 : f114 (3000 + q) 2 = nI l0 := by rw [ef114, zu_n (fun h9 => absurd h9.2 (by decide))]; exact q110
      have q116 : f114 (3000 + q) 6 = nI j106 := by rw [ef114, zu_n (fun h9 => absurd h9.2 (by decide))]; exact q108
      have q117 : f114 (3000 + q) 8 = r113 := by rw [ef114]; exact zu_s
      have hT := zTh.ci (fi' := f114) hT (fun i9 k9 h9 => by rw [ef114]; exact zu_n (by omega))
      refine lv_iload_n hx hb dX11_mend_68 rfl (lv_at hl 1 rfl) ?_
      refine lv_if_ne (tgt := 76) hx hb dX11_mend_69 (by decide) (fun c118 => absurd (by decide) c118) (fun c118 => ?_)
      refine lv_iload_n hx hb dX11_mend_72 rfl (lv_at hl 0 rfl) ?_
      refine lv_if_eq (tgt := 80) hx hb dX11_mend_73 (by decide) (fun c119 => ?_) (fun c119 => absurd (by decide) c119)
      refine lv_iconst (v := nI 0) hx hb dX11_mend_80 (by decide) ?_
      refine W.widen (k := 0) (n := 0) (by decide) (by decide) ?_
      exact W.zret (v := nI 0) hx hb hr (by decide) (fun t9 ht9 hW9 => ⟨⟨nI 0, f114, rfl, fun a b h => by rw [ef114, zu_n (by omega), hf109 a b (by omega)], zEnd1 hH ht9 hW9⟩, hS.F ht9⟩) hS.2.2 dX11_mend_81
    · have zc111 := c111
      replace zc111 := zc_eq (rfl) (nI_toInt (by omega)) zc111
      refine lv_iconst (v := nI 1) hx hb dX11_mend_36 (by decide) ?_
      refine lv_goto (tgt := 41) hx hb dX11_mend_37 (by decide) ?_
      refine lv_istore_n (lv' := [(3, .int (nI 1)), (2, .int (nI 0)), (0, .ref (τ.1 0)), (1, .ref (τ.1 (3000 + q)))]) hx hb dX11_mend_41 rfl hl (by decide) rfl (fun ls hl => ?_)
      refine lv_iload_n hx hb dX11_mend_42 rfl (lv_at hl 0 rfl) ?_
      refine lv_if_eq (tgt := 59) hx hb dX11_mend_43 (by decide) (fun c120 => absurd c120 (by decide)) (fun c120 => ?_)
      refine lv_aload_n hx hb dX11_mend_46 rfl (lv_at hl 3 rfl) ?_
      refine zGetR (D := D) (ci := 2) (C := RX2) (T := TX2) (N := 10) hx hb hts hiX2 hown hH hL.1.1 rfl 0 (by decide) rfl hw4 (fun _ h9 => h9) dX11_mend_47 hL.2.2.1 ?_
      refine lv_aload_n hx hb dX11_mend_50 rfl (lv_at hl 3 rfl) ?_
      refine zGetI (D := D) (ci := 2) (C := RX2) (T := TX2) (N := 10) hx hb hts hiX2 hown hH hL.1.1 rfl 6 (by decide) rfl hw5 (fun _ h9 => h9) dX11_mend_51 q108 ?_
      refine lv_aload_n hx hb dX11_mend_54 rfl (lv_at hl 3 rfl) ?_
      refine zGetI (D := D) (ci := 2) (C := RX2) (T := TX2) (N := 10) hx hb hts hiX2 hown hH hL.1.1 rfl 7 (by decide) rfl hw6 (fun _ h9 => h9) dX11_mend_55 rfl ?_
      refine zIastN (D := D) hx hb hH hS hL.1.2.1 hL.2.1.1 (by omega) (by omega) dX11_mend_58 (fun H locs hH hS => ?_)
      obtain ⟨f121, ef121⟩ : ∃ f9 : zFi, f9 = zu f105 (4000 + q) j106 (f105 (3000 + q) 7) := ⟨_, rfl⟩
      rw [← ef121] at hH
      have q122 : f121 (3000 + q) 2 = nI l0 := by rw [ef121, zu_n (fun h9 => by omega)]; exact q110
      have q123 : f121 (3000 + q) 6 = nI j106 := by rw [ef121, zu_n (fun h9 => by omega)]; exact q108
      have q124 : f121 (4000 + q) j106 = f105 (3000 + q) 7 := by rw [ef121]; exact zu_s
      have hT := zTh.ci (fi' := f121) hT (fun i9 k9 h9 => by rw [ef121]; exact zu_n (by omega))
      refine lv_aload_n hx hb dX11_mend_59 rfl (lv_at hl 3 rfl) ?_
      refine lv_aload_n hx hb dX11_mend_60 rfl (lv_at hl 2 rfl) ?_
      refine lv_aload_n hx hb dX11_mend_61 rfl (lv_at hl 3 rfl) ?_
      refine va_calli (va_runV (As := [.ref (τ.1 (3000 + q))]) (rest := [.ref (τ.1 (3000 + q))]) ⟨hx, hb, hml, hown, hts⟩ (c_known l hl0 D A sad τ f121 fr ol hF n hT q hq5 hL l0 (by omega) q122) (cwV 1 hts gX11_mend_X11_knownLines rfl rfl rfl (by decide +kernel) ⟨Nat.le_of_ble_eq_true rfl, Nat.le_of_ble_eq_true rfl⟩) ⟨zQc_bl, zRecv hH (zk_0 hF) rfl, zQc_at hz hS hA hH⟩ rfl rfl hl.1 rfl (lv_room (Nat.le_of_ble_eq_true rfl)) dX11_mend_62 ⟨Nat.le_of_ble_eq_true rfl, Nat.le_of_ble_eq_true rfl⟩) hS (fun q _ h => h) (fun q h => h) (fun r125 u9 t9 H1 locs ht9 hvm9 hw hB hz1 hk1 hS => ?_)
      have hH := zMv ht9 hvm9 hB
      generalize H1 = H at hH hS ⊢
      refine zPutI (D := D) (ci := 2) (ty := .int) (C := RX2) (T := TX2) (N := 10) hx hb hts hiX2 tyX2 tyX2_ok nmX2 hown hH hS hL.1.1 rfl 8 (by decide) rfl hw3 (fun _ h9 => h9) rfl (by decide +kernel) rfl rfl dX11_mend_65 (fun H locs hH hS => ?_)
      obtain ⟨f126, ef126⟩ : ∃ f9 : zFi, f9 = zu f121 (3000 + q) 8 r125 := ⟨_, rfl⟩
      rw [← ef126] at hH
      have q127 : f126 (3000 + q) 2 = nI l0 := by rw [ef126, zu_n (fun h9 => absurd h9.2 (by decide))]; exact q122
      have q128 : f126 (3000 + q) 6 = nI j106 := by rw [ef126, zu_n (fun h9 => absurd h9.2 (by decide))]; exact q123
      have q129 : f126 (4000 + q) j106 = f105 (3000 + q) 7 := by rw [ef126, zu_n (fun h9 => by omega)]; exact q124
      have q130 : f126 (3000 + q) 8 = r125 := by rw [ef126]; exact zu_s
      have hT := zTh.ci (fi' := f126) hT (fun i9 k9 h9 => by rw [ef126]; exact zu_n (by omega))
      refine lv_iload_n hx hb dX11_mend_68 rfl (lv_at hl 1 rfl) ?_
      refine lv_if_ne (tgt := 76) hx hb dX11_mend_69 (by decide) (fun c131 => absurd (by decide) c131) (fun c131 => ?_)
      refine lv_iload_n hx hb dX11_mend_72 rfl (lv_at hl 0 rfl) ?_
      refine lv_if_eq (tgt := 80) hx hb dX11_mend_73 (by decide) (fun c132 => absurd c132 (by decide)) (fun c132 => ?_)
      refine lv_iconst (v := nI 1) hx hb dX11_mend_76 (by decide) ?_
      refine lv_goto (tgt := 81) hx hb dX11_mend_77 (by decide) ?_
      refine W.widen (k := 0) (n := 0) (by decide) (by decide) ?_
      exact W.zret (v := nI 1) hx hb hr (by decide) (fun t9 ht9 hW9 => ⟨⟨nI 1, f126, rfl, fun a b h => by rw [ef126, zu_n (by omega), ef121, zu_n (by omega), hf109 a b (by omega)], zEnd1 hH ht9 hW9⟩, hS.F ht9⟩) hS.2.2 dX11_mend_81
  · have zc102 := c102
    replace zc102 := zc_eq (rfl) (rfl) zc102
    refine lv_iconst (v := nI 1) hx hb dX11_mend_13 (by decide) ?_
    refine lv_goto (tgt := 18) hx hb dX11_mend_14 (by decide) ?_
    refine lv_istore_n (lv' := [(2, .int (nI 1)), (0, .ref (τ.1 0)), (1, .ref (τ.1 (3000 + q)))]) hx hb dX11_mend_18 rfl hl (by decide) rfl (fun ls hl => ?_)
    refine lv_iload_n hx hb dX11_mend_19 rfl (lv_at hl 0 rfl) ?_
    refine lv_if_ne (tgt := 28) hx hb dX11_mend_20 (by decide) (fun c133 => ?_) (fun c133 => absurd c133 (by decide))
    refine lv_aload_n hx hb dX11_mend_28 rfl (lv_at hl 2 rfl) ?_
    refine zGetI (D := D) (ci := 2) (C := RX2) (T := TX2) (N := 10) hx hb hts hiX2 hown hH hL.1.1 rfl 5 (by decide) rfl hw2 (fun _ h9 => h9) dX11_mend_29 rfl ?_
    refine lv_iconst (v := nI 1) hx hb dX11_mend_32 (by decide) ?_
    refine lv_icmp_ne (tgt := 40) hx hb dX11_mend_33 (by decide) (fun c134 => ?_) (fun c134 => ?_)
    · have zc134 := c134
      replace zc134 := zc_neq (rfl) (nI_toInt (by omega)) zc134
      refine lv_iconst (v := nI 0) hx hb dX11_mend_40 (by decide) ?_
      refine lv_istore_n (lv' := [(3, .int (nI 0)), (2, .int (nI 1)), (0, .ref (τ.1 0)), (1, .ref (τ.1 (3000 + q)))]) hx hb dX11_mend_41 rfl hl (by decide) rfl (fun ls hl => ?_)
      refine lv_iload_n hx hb dX11_mend_42 rfl (lv_at hl 0 rfl) ?_
      refine lv_if_eq (tgt := 59) hx hb dX11_mend_43 (by decide) (fun c135 => ?_) (fun c135 => absurd (by decide) c135)
      refine lv_aload_n hx hb dX11_mend_59 rfl (lv_at hl 3 rfl) ?_
      refine lv_aload_n hx hb dX11_mend_60 rfl (lv_at hl 2 rfl) ?_
      refine lv_aload_n hx hb dX11_mend_61 rfl (lv_at hl 3 rfl) ?_
      refine va_calli (va_runV (As := [.ref (τ.1 (3000 + q))]) (rest := [.ref (τ.1 (3000 + q))]) ⟨hx, hb, hml, hown, hts⟩ (c_known l hl0 D A sad τ fi fr ol hF n hT q hq5 hL l0 (by omega) hln) (cwV 1 hts gX11_mend_X11_knownLines rfl rfl rfl (by decide +kernel) ⟨Nat.le_of_ble_eq_true rfl, Nat.le_of_ble_eq_true rfl⟩) ⟨zQc_bl, zRecv hH (zk_0 hF) rfl, zQc_at hz hS hA hH⟩ rfl rfl hl.1 rfl (lv_room (Nat.le_of_ble_eq_true rfl)) dX11_mend_62 ⟨Nat.le_of_ble_eq_true rfl, Nat.le_of_ble_eq_true rfl⟩) hS (fun q _ h => h) (fun q h => h) (fun r136 u9 t9 H1 locs ht9 hvm9 hw hB hz1 hk1 hS => ?_)
      have hH := zMv ht9 hvm9 hB
      generalize H1 = H at hH hS ⊢
      refine zPutI (D := D) (ci := 2) (ty := .int) (C := RX2) (T := TX2) (N := 10) hx hb hts hiX2 tyX2 tyX2_ok nmX2 hown hH hS hL.1.1 rfl 8 (by decide) rfl hw3 (fun _ h9 => h9) rfl (by decide +kernel) rfl rfl dX11_mend_65 (fun H locs hH hS => ?_)
      obtain ⟨f137, ef137⟩ : ∃ f9 : zFi, f9 = zu fi (3000 + q) 8 r136 := ⟨_, rfl⟩
      rw [← ef137] at hH
      have q138 : f137 (3000 + q) 2 = nI l0 := by rw [ef137, zu_n (fun h9 => absurd h9.2 (by decide))]; exact hln
      have q139 : f137 (3000 + q) 6 = nI j0 := by rw [ef137, zu_n (fun h9 => absurd h9.2 (by decide))]; exact hj0
      have q140 : f137 (3000 + q) 8 = r136 := by rw [ef137]; exact zu_s
      have hT := zTh.ci (fi' := f137) hT (fun i9 k9 h9 => by rw [ef137]; exact zu_n (by omega))
      refine lv_iload_n hx hb dX11_mend_68 rfl (lv_at hl 1 rfl) ?_
      refine lv_if_ne (tgt := 76) hx hb dX11_mend_69 (by decide) (fun c141 => ?_) (fun c141 => absurd c141 (by decide))
      refine lv_iconst (v := nI 1) hx hb dX11_mend_76 (by decide) ?_
      refine lv_goto (tgt := 81) hx hb dX11_mend_77 (by decide) ?_
      refine W.widen (k := 0) (n := 0) (by decide) (by decide) ?_
      exact W.zret (v := nI 1) hx hb hr (by decide) (fun t9 ht9 hW9 => ⟨⟨nI 1, f137, rfl, fun a b h => by rw [ef137, zu_n (by omega)], zEnd1 hH ht9 hW9⟩, hS.F ht9⟩) hS.2.2 dX11_mend_81
    · have zc134 := c134
      replace zc134 := zc_eq (rfl) (nI_toInt (by omega)) zc134
      refine lv_iconst (v := nI 1) hx hb dX11_mend_36 (by decide) ?_
      refine lv_goto (tgt := 41) hx hb dX11_mend_37 (by decide) ?_
      refine lv_istore_n (lv' := [(3, .int (nI 1)), (2, .int (nI 1)), (0, .ref (τ.1 0)), (1, .ref (τ.1 (3000 + q)))]) hx hb dX11_mend_41 rfl hl (by decide) rfl (fun ls hl => ?_)
      refine lv_iload_n hx hb dX11_mend_42 rfl (lv_at hl 0 rfl) ?_
      refine lv_if_eq (tgt := 59) hx hb dX11_mend_43 (by decide) (fun c142 => absurd c142 (by decide)) (fun c142 => ?_)
      refine lv_aload_n hx hb dX11_mend_46 rfl (lv_at hl 3 rfl) ?_
      refine zGetR (D := D) (ci := 2) (C := RX2) (T := TX2) (N := 10) hx hb hts hiX2 hown hH hL.1.1 rfl 0 (by decide) rfl hw4 (fun _ h9 => h9) dX11_mend_47 hL.2.2.1 ?_
      refine lv_aload_n hx hb dX11_mend_50 rfl (lv_at hl 3 rfl) ?_
      refine zGetI (D := D) (ci := 2) (C := RX2) (T := TX2) (N := 10) hx hb hts hiX2 hown hH hL.1.1 rfl 6 (by decide) rfl hw5 (fun _ h9 => h9) dX11_mend_51 hj0 ?_
      refine lv_aload_n hx hb dX11_mend_54 rfl (lv_at hl 3 rfl) ?_
      refine zGetI (D := D) (ci := 2) (C := RX2) (T := TX2) (N := 10) hx hb hts hiX2 hown hH hL.1.1 rfl 7 (by decide) rfl hw6 (fun _ h9 => h9) dX11_mend_55 rfl ?_
      refine zIastN (D := D) hx hb hH hS hL.1.2.1 hL.2.1.1 (by omega) (by omega) dX11_mend_58 (fun H locs hH hS => ?_)
      obtain ⟨f143, ef143⟩ : ∃ f9 : zFi, f9 = zu fi (4000 + q) j0 (fi (3000 + q) 7) := ⟨_, rfl⟩
      rw [← ef143] at hH
      have q144 : f143 (3000 + q) 2 = nI l0 := by rw [ef143, zu_n (fun h9 => by omega)]; exact hln
      have q145 : f143 (3000 + q) 6 = nI j0 := by rw [ef143, zu_n (fun h9 => by omega)]; exact hj0
      have q146 : f143 (4000 + q) j0 = fi (3000 + q) 7 := by rw [ef143]; exact zu_s
      have hT := zTh.ci (fi' := f143) hT (fun i9 k9 h9 => by rw [ef143]; exact zu_n (by omega))
      refine lv_aload_n hx hb dX11_mend_59 rfl (lv_at hl 3 rfl) ?_
      refine lv_aload_n hx hb dX11_mend_60 rfl (lv_at hl 2 rfl) ?_
      refine lv_aload_n hx hb dX11_mend_61 rfl (lv_at hl 3 rfl) ?_
      refine va_calli (va_runV (As := [.ref (τ.1 (3000 + q))]) (rest := [.ref (τ.1 (3000 + q))]) ⟨hx, hb, hml, hown, hts⟩ (c_known l hl0 D A sad τ f143 fr ol hF n hT q hq5 hL l0 (by omega) q144) (cwV 1 hts gX11_mend_X11_knownLines rfl rfl rfl (by decide +kernel) ⟨Nat.le_of_ble_eq_true rfl, Nat.le_of_ble_eq_true rfl⟩) ⟨zQc_bl, zRecv hH (zk_0 hF) rfl, zQc_at hz hS hA hH⟩ rfl rfl hl.1 rfl (lv_room (Nat.le_of_ble_eq_true rfl)) dX11_mend_62 ⟨Nat.le_of_ble_eq_true rfl, Nat.le_of_ble_eq_true rfl⟩) hS (fun q _ h => h) (fun q h => h) (fun r147 u9 t9 H1 locs ht9 hvm9 hw hB hz1 hk1 hS => ?_)
      have hH := zMv ht9 hvm9 hB
      generalize H1 = H at hH hS ⊢
      refine zPutI (D := D) (ci := 2) (ty := .int) (C := RX2) (T := TX2) (N := 10) hx hb hts hiX2 tyX2 tyX2_ok nmX2 hown hH hS hL.1.1 rfl 8 (by decide) rfl hw3 (fun _ h9 => h9) rfl (by decide +kernel) rfl rfl dX11_mend_65 (fun H locs hH hS => ?_)
      obtain ⟨f148, ef148⟩ : ∃ f9 : zFi, f9 = zu f143 (3000 + q) 8 r147 := ⟨_, rfl⟩
      rw [← ef148] at hH
      have q149 : f148 (3000 + q) 2 = nI l0 := by rw [ef148, zu_n (fun h9 => absurd h9.2 (by decide))]; exact q144
      have q150 : f148 (3000 + q) 6 = nI j0 := by rw [ef148, zu_n (fun h9 => absurd h9.2 (by decide))]; exact q145
      have q151 : f148 (4000 + q) j0 = fi (3000 + q) 7 := by rw [ef148, zu_n (fun h9 => by omega)]; exact q146
      have q152 : f148 (3000 + q) 8 = r147 := by rw [ef148]; exact zu_s
      have hT := zTh.ci (fi' := f148) hT (fun i9 k9 h9 => by rw [ef148]; exact zu_n (by omega))
      refine lv_iload_n hx hb dX11_mend_68 rfl (lv_at hl 1 rfl) ?_
      refine lv_if_ne (tgt := 76) hx hb dX11_mend_69 (by decide) (fun c153 => ?_) (fun c153 => absurd c153 (by decide))
      refine lv_iconst (v := nI 1) hx hb dX11_mend_76 (by decide) ?_
      refine lv_goto (tgt := 81) hx hb dX11_mend_77 (by decide) ?_
      refine W.widen (k := 0) (n := 0) (by decide) (by decide) ?_
      exact W.zret (v := nI 1) hx hb hr (by decide) (fun t9 ht9 hW9 => ⟨⟨nI 1, f148, rfl, fun a b h => by rw [ef148, zu_n (by omega), ef143, zu_n (by omega)], zEnd1 hH ht9 hW9⟩, hS.F ht9⟩) hS.2.2 dX11_mend_81
