set_option maxHeartbeats 4000000 in
set_option maxRecDepth 100000 in
/-- isIn -/
theorem m_isIn (l : Launch) (hl0 : l.stackTraces = false) (D : va_G) (A : Nat → Prop) (sad : Nat → Nat) (τ : zTy) (fi : zFi) (fr : zFr) (ol : Int64) (x a b : Int32) : Met l yX12_isIn wsX12_isIn ({ frames := 0, cells := 0, slots := 0, locals := 0 }) (va_Pc [.int x, .int a, .int b] (zQc D A sad τ fi fr ol)) (va_Qi (fun (r : Int32) (u : Unit) => (r = 1 ∧ a.toInt ≤ x.toInt ∧ x.toInt ≤ b.toInt) ∨ (r = 0 ∧ ¬ (a.toInt ≤ x.toInt ∧ x.toInt ≤ b.toInt))) (fun (u : Unit) (t : State) => zH D A τ fi fr ol t t.heap) A) 0 0 A := by
  refine Met.ofW (cc := cX12_isIn) (maxL := 3) (ret := (some .boolean)) (by decide) rfl ?_
  intro p9 e9 s m args below meth c9 s₁ B hml hv
  obtain ⟨rfl, hz, hH, hA⟩ := hv
  have hx := B.exec
  have hb := B.bytes
  have hr := B.returns
  have hts := atoms_spec (ws := wsX12_isIn) B.pre
  have hown : s.vm.findClass RX12 = some m.cls := findClass_of_methodNamed B.named
  have hlocks := B.notSynchronized
  have hS : va_S A s.heap s.heap [] := va_S.rf
  have hl := lv_entry ([.int x, .int a, .int b]) (n := 3) (Nat.le_of_ble_eq_true rfl)
  rw [lg_entry_eq]
  generalize (lg_sl ([.int x, .int a, .int b]) ++ List.replicate (3 - (lg_sl ([.int x, .int a, .int b])).length) Slot.unset).toArray = ls at hl ⊢
  have hl : lv_has ls 3 [(0, .int x), (1, .int a), (2, .int b)] := hl
  refine lv_iload_n hx hb dX12_isIn_0 rfl (lv_at hl 0 rfl) ?_
  refine lv_iload_n hx hb dX12_isIn_1 rfl (lv_at hl 1 rfl) ?_
  refine lv_icmp_lt (tgt := 14) hx hb dX12_isIn_2 (by decide) (fun c101 => ?_) (fun c101 => ?_)
  · have zc101 := c101
    replace zc101 := zc_lt (rfl) (rfl) zc101
    refine lv_iconst (v := nI 0) hx hb dX12_isIn_14 (by decide) ?_
    refine W.widen (k := 0) (n := 0) (by decide) (by decide) ?_
    exact W.zret (v := nI 0) hx hb hr (by decide) (fun t9 ht9 hW9 => ⟨⟨nI 0, (), rfl, Or.inr ⟨rfl, fun h9 => by have h91 := h9.1; have h92 := h9.2; omega⟩, zEnd1 hH ht9 hW9⟩, hS.F ht9⟩) hS.2.2 dX12_isIn_15
  · have zc101 := c101
    replace zc101 := zc_nlt (rfl) (rfl) zc101
    refine lv_iload_n hx hb dX12_isIn_5 rfl (lv_at hl 0 rfl) ?_
    refine lv_iload_n hx hb dX12_isIn_6 rfl (lv_at hl 2 rfl) ?_
    refine lv_icmp_gt (tgt := 14) hx hb dX12_isIn_7 (by decide) (fun c102 => ?_) (fun c102 => ?_)
    · have zc102 := c102
      replace zc102 := zc_lt (rfl) (rfl) zc102
      refine lv_iconst (v := nI 0) hx hb dX12_isIn_14 (by decide) ?_
      refine W.widen (k := 0) (n := 0) (by decide) (by decide) ?_
      exact W.zret (v := nI 0) hx hb hr (by decide) (fun t9 ht9 hW9 => ⟨⟨nI 0, (), rfl, Or.inr ⟨rfl, fun h9 => by have h91 := h9.1; have h92 := h9.2; omega⟩, zEnd1 hH ht9 hW9⟩, hS.F ht9⟩) hS.2.2 dX12_isIn_15
    · have zc102 := c102
      replace zc102 := zc_nlt (rfl) (rfl) zc102
      refine lv_iconst (v := nI 1) hx hb dX12_isIn_10 (by decide) ?_
      refine lv_goto (tgt := 15) hx hb dX12_isIn_11 (by decide) ?_
      refine W.widen (k := 0) (n := 0) (by decide) (by decide) ?_
      exact W.zret (v := nI 1) hx hb hr (by decide) (fun t9 ht9 hW9 => ⟨⟨nI 1, (), rfl, Or.inl ⟨rfl, by omega, by omega⟩, zEnd1 hH ht9 hW9⟩, hS.F ht9⟩) hS.2.2 dX12_isIn_15
set_option maxHeartbeats 4000000 in
set_option maxRecDepth 100000 in
/-- X12_isThing -/
theorem m_isThing (l : Launch) (hl0 : l.stackTraces = false) (D : va_G) (A : Nat → Prop) (sad : Nat → Nat) (τ : zTy) (fi : zFi) (fr : zFr) (ol : Int64) (x : Int32) (n : Nat) (hF : zFix τ fr) (hn : fi 30 2 = nI n) (hnB : n ≤ 30) : Met l yX12_isThing wsX12_isThing ({ frames := 0, cells := 0, slots := 0, locals := 0 }) (va_Pc [.ref (τ.1 30), .int x] (zQc D A sad τ fi fr ol)) (va_Qi (fun (r : Int32) (u : Unit) => (∃ t, t < n ∧ x = nI t ∧ r = 1) ∨ (¬ (0 ≤ x.toInt ∧ x.toInt < (n : Int)) ∧ r = 0)) (fun (u : Unit) (t : State) => zH D A τ fi fr ol t t.heap) A) 0 0 A := by
  refine Met.ofW (cc := cX12_isThing) (maxL := 2) (ret := (some .boolean)) (by decide) rfl ?_
  intro p9 e9 s m args below meth c9 s₁ B hml hv
  obtain ⟨rfl, hz, hH, hA⟩ := hv
  have hx := B.exec
  have hb := B.bytes
  have hr := B.returns
  have hts := atoms_spec (ws := wsX12_isThing) B.pre
  have hown : s.vm.findClass RX12 = some m.cls := findClass_of_methodNamed B.named
  have hlocks := B.notSynchronized
  have hS : va_S A s.heap s.heap [] := va_S.rf
  have hl := lv_entry ([.ref (τ.1 30), .int x]) (n := 2) (Nat.le_of_ble_eq_true rfl)
  rw [lg_entry_eq]
  generalize (lg_sl ([.ref (τ.1 30), .int x]) ++ List.replicate (2 - (lg_sl ([.ref (τ.1 30), .int x])).length) Slot.unset).toArray = ls at hl ⊢
  have hl : lv_has ls 2 [(0, .ref (τ.1 30)), (1, .int x)] := hl
  have hiX12 : ∀ w ∈ u_ws RX12 TX12 71, w ∈ wsX12_isThing := fun _ h => List.mem_cons_of_mem _ (List.mem_append_right _ h)
  have hw1 := hts (.fieldLink RX12 168 "PostHouseModel" "things" "I") (by decide +kernel)
  refine lv_iload_n hx hb dX12_isThing_0 rfl (lv_at hl 1 rfl) ?_
  refine lv_if_lt (tgt := 16) hx hb dX12_isThing_1 (by decide) (fun c101 => ?_) (fun c101 => ?_)
  · have zc101 := c101
    replace zc101 := zc_lt (rfl) ((by decide : (0 : Int32).toInt = 0)) zc101
    refine lv_iconst (v := nI 0) hx hb dX12_isThing_16 (by decide) ?_
    refine W.widen (k := 0) (n := 0) (by decide) (by decide) ?_
    exact W.zret (v := nI 0) hx hb hr (by decide) (fun t9 ht9 hW9 => ⟨⟨nI 0, (), rfl, Or.inr ⟨fun h9 => by have h91 := h9.1; have h92 := h9.2; omega, rfl⟩, zEnd1 hH ht9 hW9⟩, hS.F ht9⟩) hS.2.2 dX12_isThing_17
  · have zc101 := c101
    replace zc101 := zc_nlt (rfl) ((by decide : (0 : Int32).toInt = 0)) zc101
    refine lv_iload_n hx hb dX12_isThing_4 rfl (lv_at hl 1 rfl) ?_
    refine lv_aload_n hx hb dX12_isThing_5 rfl (lv_at hl 0 rfl) ?_
    refine zGetI (D := D) (ci := 12) (C := RX12) (T := TX12) (N := 71) hx hb hts hiX12 hown hH (zk_30 hF) rfl 2 (by decide) rfl hw1 (fun _ h9 => h9) dX12_isThing_6 hn ?_
    refine lv_icmp_ge (tgt := 16) hx hb dX12_isThing_9 (by decide) (fun c102 => ?_) (fun c102 => ?_)
    · have zc102 := c102
      replace zc102 := zc_le (nI_toInt (by omega)) (rfl) zc102
      refine lv_iconst (v := nI 0) hx hb dX12_isThing_16 (by decide) ?_
      refine W.widen (k := 0) (n := 0) (by decide) (by decide) ?_
      exact W.zret (v := nI 0) hx hb hr (by decide) (fun t9 ht9 hW9 => ⟨⟨nI 0, (), rfl, Or.inr ⟨fun h9 => by have h91 := h9.1; have h92 := h9.2; omega, rfl⟩, zEnd1 hH ht9 hW9⟩, hS.F ht9⟩) hS.2.2 dX12_isThing_17
    · have zc102 := c102
      replace zc102 := zc_nle (nI_toInt (by omega)) (rfl) zc102
      refine lv_iconst (v := nI 1) hx hb dX12_isThing_12 (by decide) ?_
      refine lv_goto (tgt := 17) hx hb dX12_isThing_13 (by decide) ?_
      refine W.widen (k := 0) (n := 0) (by decide) (by decide) ?_
      exact W.zret (v := nI 1) hx hb hr (by decide) (fun t9 ht9 hW9 => ⟨⟨nI 1, (), rfl, (by obtain ⟨t, h91, h92⟩ := zNatB (x := x) (n := n) (by omega) (by omega); exact Or.inl ⟨t, h91, h92, rfl⟩), zEnd1 hH ht9 hW9⟩, hS.F ht9⟩) hS.2.2 dX12_isThing_17
set_option maxHeartbeats 4000000 in
set_option maxRecDepth 100000 in
/-- X12_isOrder -/
theorem m_isOrder (l : Launch) (hl0 : l.stackTraces = false) (D : va_G) (A : Nat → Prop) (sad : Nat → Nat) (τ : zTy) (fi : zFi) (fr : zFr) (ol : Int64) (x : Int32) (n : Nat) (hF : zFix τ fr) (hn : fi 30 45 = nI n) (hnB : n ≤ 60) : Met l yX12_isOrder wsX12_isOrder ({ frames := 0, cells := 0, slots := 0, locals := 0 }) (va_Pc [.ref (τ.1 30), .int x] (zQc D A sad τ fi fr ol)) (va_Qi (fun (r : Int32) (u : Unit) => (∃ t, t < n ∧ x = nI t ∧ r = 1) ∨ (¬ (0 ≤ x.toInt ∧ x.toInt < (n : Int)) ∧ r = 0)) (fun (u : Unit) (t : State) => zH D A τ fi fr ol t t.heap) A) 0 0 A := by
  refine Met.ofW (cc := cX12_isOrder) (maxL := 2) (ret := (some .boolean)) (by decide) rfl ?_
  intro p9 e9 s m args below meth c9 s₁ B hml hv
  obtain ⟨rfl, hz, hH, hA⟩ := hv
  have hx := B.exec
  have hb := B.bytes
  have hr := B.returns
  have hts := atoms_spec (ws := wsX12_isOrder) B.pre
  have hown : s.vm.findClass RX12 = some m.cls := findClass_of_methodNamed B.named
  have hlocks := B.notSynchronized
  have hS : va_S A s.heap s.heap [] := va_S.rf
  have hl := lv_entry ([.ref (τ.1 30), .int x]) (n := 2) (Nat.le_of_ble_eq_true rfl)
  rw [lg_entry_eq]
  generalize (lg_sl ([.ref (τ.1 30), .int x]) ++ List.replicate (2 - (lg_sl ([.ref (τ.1 30), .int x])).length) Slot.unset).toArray = ls at hl ⊢
  have hl : lv_has ls 2 [(0, .ref (τ.1 30)), (1, .int x)] := hl
  have hiX12 : ∀ w ∈ u_ws RX12 TX12 71, w ∈ wsX12_isOrder := fun _ h => List.mem_cons_of_mem _ (List.mem_append_right _ h)
  have hw1 := hts (.fieldLink RX12 171 "PostHouseModel" "orders" "I") (by decide +kernel)
  refine lv_iload_n hx hb dX12_isOrder_0 rfl (lv_at hl 1 rfl) ?_
  refine lv_if_lt (tgt := 16) hx hb dX12_isOrder_1 (by decide) (fun c101 => ?_) (fun c101 => ?_)
  · have zc101 := c101
    replace zc101 := zc_lt (rfl) ((by decide : (0 : Int32).toInt = 0)) zc101
    refine lv_iconst (v := nI 0) hx hb dX12_isOrder_16 (by decide) ?_
    refine W.widen (k := 0) (n := 0) (by decide) (by decide) ?_
    exact W.zret (v := nI 0) hx hb hr (by decide) (fun t9 ht9 hW9 => ⟨⟨nI 0, (), rfl, Or.inr ⟨fun h9 => by have h91 := h9.1; have h92 := h9.2; omega, rfl⟩, zEnd1 hH ht9 hW9⟩, hS.F ht9⟩) hS.2.2 dX12_isOrder_17
  · have zc101 := c101
    replace zc101 := zc_nlt (rfl) ((by decide : (0 : Int32).toInt = 0)) zc101
    refine lv_iload_n hx hb dX12_isOrder_4 rfl (lv_at hl 1 rfl) ?_
    refine lv_aload_n hx hb dX12_isOrder_5 rfl (lv_at hl 0 rfl) ?_
    refine zGetI (D := D) (ci := 12) (C := RX12) (T := TX12) (N := 71) hx hb hts hiX12 hown hH (zk_30 hF) rfl 45 (by decide) rfl hw1 (fun _ h9 => h9) dX12_isOrder_6 hn ?_
    refine lv_icmp_ge (tgt := 16) hx hb dX12_isOrder_9 (by decide) (fun c102 => ?_) (fun c102 => ?_)
    · have zc102 := c102
      replace zc102 := zc_le (nI_toInt (by omega)) (rfl) zc102
      refine lv_iconst (v := nI 0) hx hb dX12_isOrder_16 (by decide) ?_
      refine W.widen (k := 0) (n := 0) (by decide) (by decide) ?_
      exact W.zret (v := nI 0) hx hb hr (by decide) (fun t9 ht9 hW9 => ⟨⟨nI 0, (), rfl, Or.inr ⟨fun h9 => by have h91 := h9.1; have h92 := h9.2; omega, rfl⟩, zEnd1 hH ht9 hW9⟩, hS.F ht9⟩) hS.2.2 dX12_isOrder_17
    · have zc102 := c102
      replace zc102 := zc_nle (nI_toInt (by omega)) (rfl) zc102
      refine lv_iconst (v := nI 1) hx hb dX12_isOrder_12 (by decide) ?_
      refine lv_goto (tgt := 17) hx hb dX12_isOrder_13 (by decide) ?_
      refine W.widen (k := 0) (n := 0) (by decide) (by decide) ?_
      exact W.zret (v := nI 1) hx hb hr (by decide) (fun t9 ht9 hW9 => ⟨⟨nI 1, (), rfl, (by obtain ⟨t, h91, h92⟩ := zNatB (x := x) (n := n) (by omega) (by omega); exact Or.inl ⟨t, h91, h92, rfl⟩), zEnd1 hH ht9 hW9⟩, hS.F ht9⟩) hS.2.2 dX12_isOrder_17
set_option maxHeartbeats 4000000 in
set_option maxRecDepth 100000 in
/-- X12_isDoubt -/
theorem m_isDoubt (l : Launch) (hl0 : l.stackTraces = false) (D : va_G) (A : Nat → Prop) (sad : Nat → Nat) (τ : zTy) (fi : zFi) (fr : zFr) (ol : Int64) (x : Int32) (n : Nat) (hF : zFix τ fr) (hn : fi 30 35 = nI n) (hnB : n ≤ 512) : Met l yX12_isDoubt wsX12_isDoubt ({ frames := 0, cells := 0, slots := 0, locals := 0 }) (va_Pc [.ref (τ.1 30), .int x] (zQc D A sad τ fi fr ol)) (va_Qi (fun (r : Int32) (u : Unit) => (∃ t, t < n ∧ x = nI t ∧ r = 1) ∨ (¬ (0 ≤ x.toInt ∧ x.toInt < (n : Int)) ∧ r = 0)) (fun (u : Unit) (t : State) => zH D A τ fi fr ol t t.heap) A) 0 0 A := by
  refine Met.ofW (cc := cX12_isDoubt) (maxL := 2) (ret := (some .boolean)) (by decide) rfl ?_
  intro p9 e9 s m args below meth c9 s₁ B hml hv
  obtain ⟨rfl, hz, hH, hA⟩ := hv
  have hx := B.exec
  have hb := B.bytes
  have hr := B.returns
  have hts := atoms_spec (ws := wsX12_isDoubt) B.pre
  have hown : s.vm.findClass RX12 = some m.cls := findClass_of_methodNamed B.named
  have hlocks := B.notSynchronized
  have hS : va_S A s.heap s.heap [] := va_S.rf
  have hl := lv_entry ([.ref (τ.1 30), .int x]) (n := 2) (Nat.le_of_ble_eq_true rfl)
  rw [lg_entry_eq]
  generalize (lg_sl ([.ref (τ.1 30), .int x]) ++ List.replicate (2 - (lg_sl ([.ref (τ.1 30), .int x])).length) Slot.unset).toArray = ls at hl ⊢
  have hl : lv_has ls 2 [(0, .ref (τ.1 30)), (1, .int x)] := hl
  have hiX12 : ∀ w ∈ u_ws RX12 TX12 71, w ∈ wsX12_isDoubt := fun _ h => List.mem_cons_of_mem _ (List.mem_append_right _ h)
  have hw1 := hts (.fieldLink RX12 320 "PostHouseModel" "doubts" "I") (by decide +kernel)
  refine lv_iload_n hx hb dX12_isDoubt_0 rfl (lv_at hl 1 rfl) ?_
  refine lv_if_lt (tgt := 16) hx hb dX12_isDoubt_1 (by decide) (fun c101 => ?_) (fun c101 => ?_)
  · have zc101 := c101
    replace zc101 := zc_lt (rfl) ((by decide : (0 : Int32).toInt = 0)) zc101
    refine lv_iconst (v := nI 0) hx hb dX12_isDoubt_16 (by decide) ?_
    refine W.widen (k := 0) (n := 0) (by decide) (by decide) ?_
    exact W.zret (v := nI 0) hx hb hr (by decide) (fun t9 ht9 hW9 => ⟨⟨nI 0, (), rfl, Or.inr ⟨fun h9 => by have h91 := h9.1; have h92 := h9.2; omega, rfl⟩, zEnd1 hH ht9 hW9⟩, hS.F ht9⟩) hS.2.2 dX12_isDoubt_17
  · have zc101 := c101
    replace zc101 := zc_nlt (rfl) ((by decide : (0 : Int32).toInt = 0)) zc101
    refine lv_iload_n hx hb dX12_isDoubt_4 rfl (lv_at hl 1 rfl) ?_
    refine lv_aload_n hx hb dX12_isDoubt_5 rfl (lv_at hl 0 rfl) ?_
    refine zGetI (D := D) (ci := 12) (C := RX12) (T := TX12) (N := 71) hx hb hts hiX12 hown hH (zk_30 hF) rfl 35 (by decide) rfl hw1 (fun _ h9 => h9) dX12_isDoubt_6 hn ?_
    refine lv_icmp_ge (tgt := 16) hx hb dX12_isDoubt_9 (by decide) (fun c102 => ?_) (fun c102 => ?_)
    · have zc102 := c102
      replace zc102 := zc_le (nI_toInt (by omega)) (rfl) zc102
      refine lv_iconst (v := nI 0) hx hb dX12_isDoubt_16 (by decide) ?_
      refine W.widen (k := 0) (n := 0) (by decide) (by decide) ?_
      exact W.zret (v := nI 0) hx hb hr (by decide) (fun t9 ht9 hW9 => ⟨⟨nI 0, (), rfl, Or.inr ⟨fun h9 => by have h91 := h9.1; have h92 := h9.2; omega, rfl⟩, zEnd1 hH ht9 hW9⟩, hS.F ht9⟩) hS.2.2 dX12_isDoubt_17
    · have zc102 := c102
      replace zc102 := zc_nle (nI_toInt (by omega)) (rfl) zc102
      refine lv_iconst (v := nI 1) hx hb dX12_isDoubt_12 (by decide) ?_
      refine lv_goto (tgt := 17) hx hb dX12_isDoubt_13 (by decide) ?_
      refine W.widen (k := 0) (n := 0) (by decide) (by decide) ?_
      exact W.zret (v := nI 1) hx hb hr (by decide) (fun t9 ht9 hW9 => ⟨⟨nI 1, (), rfl, (by obtain ⟨t, h91, h92⟩ := zNatB (x := x) (n := n) (by omega) (by omega); exact Or.inl ⟨t, h91, h92, rfl⟩), zEnd1 hH ht9 hW9⟩, hS.F ht9⟩) hS.2.2 dX12_isDoubt_17
set_option maxHeartbeats 4000000 in
set_option maxRecDepth 100000 in
/-- byteCame -/
theorem m_byte (l : Launch) (hl0 : l.stackTraces = false) (D : va_G) (A : Nat → Prop) (sad : Nat → Nat) (τ : zTy) (fi : zFi) (fr : zFr) (ol : Int64) (n : Nat) (hF : zFix τ fr) (hn : fi 30 21 = nI n) (hn4 : n < 400) (x : Int32) : Met l yX12_byteCame wsX12_byteCame ({ frames := 0, cells := 0, slots := 0, locals := 0 }) (va_Pc [.ref (τ.1 30), .int x] (zQc D A sad τ fi fr ol)) (va_Qv (fun (u : zFi) => u 30 21 = nI (n + 1) ∧ ∀ a b, ¬ (a = 47 ∨ (a = 30 ∧ b = 21)) → u a b = fi a b) (fun (u : zFi) (t : State) => zH D A τ u fr ol t t.heap) A) 0 0 A := by
  refine Met.ofW (cc := cX12_byteCame) (maxL := 2) (ret := none) (by decide) rfl ?_
  intro p9 e9 s m args below meth c9 s₁ B hml hv
  obtain ⟨rfl, hz, hH, hA⟩ := hv
  have hx := B.exec
  have hb := B.bytes
  have hr := B.returns
  have hts := atoms_spec (ws := wsX12_byteCame) B.pre
  have hown : s.vm.findClass RX12 = some m.cls := findClass_of_methodNamed B.named
  have hlocks := B.notSynchronized
  have hS : va_S A s.heap s.heap [] := va_S.rf
  have hl := lv_entry ([.ref (τ.1 30), .int x]) (n := 2) (Nat.le_of_ble_eq_true rfl)
  rw [lg_entry_eq]
  generalize (lg_sl ([.ref (τ.1 30), .int x]) ++ List.replicate (2 - (lg_sl ([.ref (τ.1 30), .int x])).length) Slot.unset).toArray = ls at hl ⊢
  have hl : lv_has ls 2 [(0, .ref (τ.1 30)), (1, .int x)] := hl
  have hiX12 : ∀ w ∈ u_ws RX12 TX12 71, w ∈ wsX12_byteCame := fun _ h => List.mem_cons_of_mem _ (List.mem_append_right _ h)
  have hw1 := hts (.fieldLink RX12 58 "PostHouseModel" "tape" "[I") (by decide +kernel)
  have hw2 := hts (.fieldLink RX12 178 "PostHouseModel" "taped" "I") (by decide +kernel)
  refine lv_aload_n hx hb dX12_byteCame_0 rfl (lv_at hl 0 rfl) ?_
  refine zGetR (D := D) (ci := 12) (C := RX12) (T := TX12) (N := 71) hx hb hts hiX12 hown hH (zk_30 hF) rfl 20 (by decide) rfl hw1 (fun _ h9 => h9) dX12_byteCame_1 (zr_30_20 hF) ?_
  refine lv_aload_n hx hb dX12_byteCame_4 rfl (lv_at hl 0 rfl) ?_
  refine zGetI (D := D) (ci := 12) (C := RX12) (T := TX12) (N := 71) hx hb hts hiX12 hown hH (zk_30 hF) rfl 21 (by decide) rfl hw2 (fun _ h9 => h9) dX12_byteCame_5 hn ?_
  refine lv_iload_n hx hb dX12_byteCame_8 rfl (lv_at hl 1 rfl) ?_
  refine lv_sipush (v := nI 255) hx hb dX12_byteCame_9 (by decide) ?_
  refine lv_iand hx hb dX12_byteCame_12 ?_
  refine lv_topi (fun v101 ev101 => ?_)
  refine zIastN (D := D) hx hb hH hS (zk_47 hF) (zn_47 hF) (by omega) (by omega) dX12_byteCame_13 (fun H locs hH hS => ?_)
  obtain ⟨f102, ef102⟩ : ∃ f9 : zFi, f9 = zu fi 47 n v101 := ⟨_, rfl⟩
  rw [← ef102] at hH
  have q103 : f102 30 21 = nI n := by rw [ef102, zu_n (fun h9 => absurd h9.1 (by decide))]; exact hn
  have q104 : f102 47 n = v101 := by rw [ef102]; exact zu_s
  refine lv_aload_n hx hb dX12_byteCame_14 rfl (lv_at hl 0 rfl) ?_
  refine lv_dup hx hb dX12_byteCame_15 rfl ?_
  refine zGetI (D := D) (ci := 12) (C := RX12) (T := TX12) (N := 71) hx hb hts hiX12 hown hH (zk_30 hF) rfl 21 (by decide) rfl hw2 (fun _ h9 => h9) dX12_byteCame_16 q103 ?_
  refine lv_iconst (v := nI 1) hx hb dX12_byteCame_19 (by decide) ?_
  refine lv_iadd hx hb dX12_byteCame_20 ?_
  refine lv_topi (fun v105 ev105 => ?_)
  obtain rfl : v105 = nI (n + 1) := ev105.trans (nI_add _ _)
  refine zPutI (D := D) (ci := 12) (ty := .int) (C := RX12) (T := TX12) (N := 71) hx hb hts hiX12 tyX12 tyX12_ok nmX12 hown hH hS (zk_30 hF) rfl 21 (by decide) rfl hw2 (fun _ h9 => h9) rfl (by decide +kernel) rfl rfl dX12_byteCame_21 (fun H locs hH hS => ?_)
  obtain ⟨f106, ef106⟩ : ∃ f9 : zFi, f9 = zu f102 30 21 (nI (n + 1)) := ⟨_, rfl⟩
  rw [← ef106] at hH
  have q107 : f106 47 n = v101 := by rw [ef106, zu_n (fun h9 => absurd h9.1 (by decide))]; exact q104
  have q108 : f106 30 21 = nI (n + 1) := by rw [ef106]; exact zu_s
  refine W.widen (k := 0) (n := 0) (by decide) (by decide) ?_
  exact W.vret hx hb hr (fun t9 ht9 hW9 => ⟨⟨f106, rfl, ⟨q108, fun a b h => by rw [ef106, zu_n (by omega), ef102, zu_n (by omega)]⟩, zEnd1 hH ht9 hW9⟩, hS.F ht9⟩) hS.2.2 dX12_byteCame_24
set_option maxHeartbeats 4000000 in
set_option maxRecDepth 100000 in
/-- feed -/
theorem m_feed (l : Launch) (hl0 : l.stackTraces = false) (D : va_G) (A : Nat → Prop) (sad : Nat → Nat) (τ : zTy) (fi : zFi) (fr : zFr) (ol : Int64) (n : Nat) (hF : zFix τ fr) (hn : fi 30 21 = nI n) (hn4 : n ≤ 400) (x0 x1 x2 x3 x4 : Int32) : Met l yX12_feed wsX12_feed ({ frames := 1, cells := 0, slots := 0, locals := 21 }) (va_Pc [.ref (τ.1 30), .int x0, .int x1, .int x2, .int x3, .int x4] (zQc D A sad τ fi fr ol)) (va_Qi (fun (r : Int32) (u : zFi) => ((n + 20 ≤ 400 ∧ r = nI (n + 20) ∧ u 30 21 = nI (n + 20)) ∨ (400 < n + 20 ∧ r = -1 ∧ u 30 21 = nI n)) ∧ ∀ a b, ¬ (a = 47 ∨ (a = 30 ∧ (b = 0 ∨ b = 21))) → u a b = fi a b) (fun (u : zFi) (t : State) => zH D A τ u fr ol t t.heap) A) 0 0 A := by
  refine Met.ofW (cc := cX12_feed) (maxL := 7) (ret := (some .int)) (by decide) rfl ?_
  intro p9 e9 s m args below meth c9 s₁ B hml hv
  obtain ⟨rfl, hz, hH, hA⟩ := hv
  have hx := B.exec
  have hb := B.bytes
  have hr := B.returns
  have hts := atoms_spec (ws := wsX12_feed) B.pre
  have hown : s.vm.findClass RX12 = some m.cls := findClass_of_methodNamed B.named
  have hlocks := B.notSynchronized
  have hS : va_S A s.heap s.heap [] := va_S.rf
  have hl := lv_entry ([.ref (τ.1 30), .int x0, .int x1, .int x2, .int x3, .int x4]) (n := 7) (Nat.le_of_ble_eq_true rfl)
  rw [lg_entry_eq]
  generalize (lg_sl ([.ref (τ.1 30), .int x0, .int x1, .int x2, .int x3, .int x4]) ++ List.replicate (7 - (lg_sl ([.ref (τ.1 30), .int x0, .int x1, .int x2, .int x3, .int x4])).length) Slot.unset).toArray = ls at hl ⊢
  have hl : lv_has ls 7 [(0, .ref (τ.1 30)), (1, .int x0), (2, .int x1), (3, .int x2), (4, .int x3), (5, .int x4)] := hl
  have hw0 := hts (.fieldLink RX12 165 "PostHouseModel" "thrown" "I") (by decide +kernel)
  have hiX12 : ∀ w ∈ u_ws RX12 TX12 71, w ∈ wsX12_feed := fun _ h => List.mem_cons_of_mem _ (List.mem_append_right _ h)
  have hw2 := hts (.fieldLink RX12 178 "PostHouseModel" "taped" "I") (by decide +kernel)
  refine lv_aload_n hx hb dX12_feed_0 rfl (lv_at hl 0 rfl) ?_
  refine lv_iconst (v := nI 0) hx hb dX12_feed_1 (by decide) ?_
  refine zPutI (D := D) (ci := 12) (ty := .int) (C := RX12) (T := TX12) (N := 71) hx hb hts hiX12 tyX12 tyX12_ok nmX12 hown hH hS (zk_30 hF) rfl 0 (by decide) rfl hw0 (fun _ h9 => h9) rfl (by decide +kernel) rfl rfl dX12_feed_2 (fun H locs hH hS => ?_)
  obtain ⟨f101, ef101⟩ : ∃ f9 : zFi, f9 = zu fi 30 0 (nI 0) := ⟨_, rfl⟩
  rw [← ef101] at hH
  have q102 : f101 30 21 = nI n := by rw [ef101, zu_n (fun h9 => absurd h9.2 (by decide))]; exact hn
  have q103 : f101 30 0 = nI 0 := by rw [ef101]; exact zu_s
  refine lv_aload_n hx hb dX12_feed_5 rfl (lv_at hl 0 rfl) ?_
  refine zGetI (D := D) (ci := 12) (C := RX12) (T := TX12) (N := 71) hx hb hts hiX12 hown hH (zk_30 hF) rfl 21 (by decide) rfl hw2 (fun _ h9 => h9) dX12_feed_6 q102 ?_
  refine lv_bipush (v := nI 20) hx hb dX12_feed_9 (by decide) ?_
  refine lv_iadd hx hb dX12_feed_11 ?_
  refine lv_topi (fun v104 ev104 => ?_)
  obtain rfl : v104 = nI (n + 20) := ev104.trans (nI_add _ _)
  refine lv_sipush (v := nI 400) hx hb dX12_feed_12 (by decide) ?_
  refine lv_icmp_le (tgt := 20) hx hb dX12_feed_15 (by decide) (fun c105 => ?_) (fun c105 => ?_)
  · have zc105 := c105
    replace zc105 := zc_le (nI_toInt (by omega)) (nI_toInt (by omega)) zc105
    refine lv_bipush (v := nI 24) hx hb dX12_feed_20 (by decide) ?_
    refine lv_istore (lv' := [(6, .int (nI 24)), (0, .ref (τ.1 30)), (1, .int x0), (2, .int x1), (3, .int x2), (4, .int x3), (5, .int x4)]) hx hb dX12_feed_22 hl (by decide) rfl (fun ls hl => ?_)
    refine lv_iload hx hb dX12_feed_24 (lv_at hl 0 rfl) ?_
    refine lv_if_lt (tgt := 43) hx hb dX12_feed_26 (by decide) (fun c106 => absurd c106 (by decide)) (fun c106 => ?_)
    refine lv_aload_n hx hb dX12_feed_29 rfl (lv_at hl 1 rfl) ?_
    refine lv_iload_n hx hb dX12_feed_30 rfl (lv_at hl 2 rfl) ?_
    refine lv_iload hx hb dX12_feed_31 (lv_at hl 0 rfl) ?_
    refine lv_ishr hx hb dX12_feed_33 ?_
    refine lv_topi (fun v107 ev107 => ?_)
    refine va_callv (va_runV (As := [.int v107]) (rest := []) ⟨hx, hb, hml, hown, hts⟩ (m_byte l hl0 D A sad τ f101 fr ol n hF q102 (by omega) v107) (cwV 1 hts gX12_feed_X12_byteCame rfl rfl rfl (by decide +kernel) ⟨Nat.le_of_ble_eq_true rfl, Nat.le_of_ble_eq_true rfl⟩) ⟨zQc_bl, zRecv hH (zk_30 hF) rfl, zQc_at hz hS hA hH⟩ rfl rfl hl.1 rfl (lv_room (Nat.le_of_ble_eq_true rfl)) dX12_feed_34 ⟨Nat.le_of_ble_eq_true rfl, Nat.le_of_ble_eq_true rfl⟩) hS (fun q _ h => h) (fun q h => h) (fun u9 t9 H1 locs ht9 hvm9 hw hB hz1 hk1 hS => ?_)
    have hH := zMv ht9 hvm9 hB
    clear hB
    generalize u9 = f109 at hw hH
    generalize H1 = H at hH hS ⊢
    obtain ⟨q110, hf111⟩ := hw
    have q112 : f109 30 0 = nI 0 := by rw [hf111 30 0 (by omega)]; exact q103
    refine lv_iinc (v := nI 16) (lv' := [(6, .int (nI 16)), (0, .ref (τ.1 30)), (1, .int x0), (2, .int x1), (3, .int x2), (4, .int x3), (5, .int x4)]) hx hb dX12_feed_37 hl (k := 0) rfl (by decide) (by decide) rfl (fun ls hl => ?_)
    refine lv_goto (tgt := 24) hx hb dX12_feed_40 (by decide) ?_
    refine lv_iload hx hb dX12_feed_24 (lv_at hl 0 rfl) ?_
    refine lv_if_lt (tgt := 43) hx hb dX12_feed_26 (by decide) (fun c113 => absurd c113 (by decide)) (fun c113 => ?_)
    refine lv_aload_n hx hb dX12_feed_29 rfl (lv_at hl 1 rfl) ?_
    refine lv_iload_n hx hb dX12_feed_30 rfl (lv_at hl 2 rfl) ?_
    refine lv_iload hx hb dX12_feed_31 (lv_at hl 0 rfl) ?_
    refine lv_ishr hx hb dX12_feed_33 ?_
    refine lv_topi (fun v114 ev114 => ?_)
    refine va_callv (va_runV (As := [.int v114]) (rest := []) ⟨hx, hb, hml, hown, hts⟩ (m_byte l hl0 D A sad τ f109 fr ol (n + 1) hF q110 (by omega) v114) (cwV 1 hts gX12_feed_X12_byteCame rfl rfl rfl (by decide +kernel) ⟨Nat.le_of_ble_eq_true rfl, Nat.le_of_ble_eq_true rfl⟩) ⟨zQc_bl, zRecv hH (zk_30 hF) rfl, zQc_at hz hS hA hH⟩ rfl rfl hl.1 rfl (lv_room (Nat.le_of_ble_eq_true rfl)) dX12_feed_34 ⟨Nat.le_of_ble_eq_true rfl, Nat.le_of_ble_eq_true rfl⟩) hS (fun q _ h => h) (fun q h => h) (fun u9 t9 H1 locs ht9 hvm9 hw hB hz1 hk1 hS => ?_)
    have hH := zMv ht9 hvm9 hB
    clear hB
    generalize u9 = f116 at hw hH
    generalize H1 = H at hH hS ⊢
    obtain ⟨q117, hf118⟩ := hw
    have q119 : f116 30 0 = nI 0 := by rw [hf118 30 0 (by omega)]; exact q112
    refine lv_iinc (v := nI 8) (lv' := [(6, .int (nI 8)), (0, .ref (τ.1 30)), (1, .int x0), (2, .int x1), (3, .int x2), (4, .int x3), (5, .int x4)]) hx hb dX12_feed_37 hl (k := 0) rfl (by decide) (by decide) rfl (fun ls hl => ?_)
    refine lv_goto (tgt := 24) hx hb dX12_feed_40 (by decide) ?_
    refine lv_iload hx hb dX12_feed_24 (lv_at hl 0 rfl) ?_
    refine lv_if_lt (tgt := 43) hx hb dX12_feed_26 (by decide) (fun c120 => absurd c120 (by decide)) (fun c120 => ?_)
    refine lv_aload_n hx hb dX12_feed_29 rfl (lv_at hl 1 rfl) ?_
    refine lv_iload_n hx hb dX12_feed_30 rfl (lv_at hl 2 rfl) ?_
    refine lv_iload hx hb dX12_feed_31 (lv_at hl 0 rfl) ?_
    refine lv_ishr hx hb dX12_feed_33 ?_
    refine lv_topi (fun v121 ev121 => ?_)
    refine va_callv (va_runV (As := [.int v121]) (rest := []) ⟨hx, hb, hml, hown, hts⟩ (m_byte l hl0 D A sad τ f116 fr ol (n + 1 + 1) hF q117 (by omega) v121) (cwV 1 hts gX12_feed_X12_byteCame rfl rfl rfl (by decide +kernel) ⟨Nat.le_of_ble_eq_true rfl, Nat.le_of_ble_eq_true rfl⟩) ⟨zQc_bl, zRecv hH (zk_30 hF) rfl, zQc_at hz hS hA hH⟩ rfl rfl hl.1 rfl (lv_room (Nat.le_of_ble_eq_true rfl)) dX12_feed_34 ⟨Nat.le_of_ble_eq_true rfl, Nat.le_of_ble_eq_true rfl⟩) hS (fun q _ h => h) (fun q h => h) (fun u9 t9 H1 locs ht9 hvm9 hw hB hz1 hk1 hS => ?_)
    have hH := zMv ht9 hvm9 hB
    clear hB
    generalize u9 = f123 at hw hH
    generalize H1 = H at hH hS ⊢
    obtain ⟨q124, hf125⟩ := hw
    have q126 : f123 30 0 = nI 0 := by rw [hf125 30 0 (by omega)]; exact q119
    refine lv_iinc (v := nI 0) (lv' := [(6, .int (nI 0)), (0, .ref (τ.1 30)), (1, .int x0), (2, .int x1), (3, .int x2), (4, .int x3), (5, .int x4)]) hx hb dX12_feed_37 hl (k := 0) rfl (by decide) (by decide) rfl (fun ls hl => ?_)
    refine lv_goto (tgt := 24) hx hb dX12_feed_40 (by decide) ?_
    refine lv_iload hx hb dX12_feed_24 (lv_at hl 0 rfl) ?_
    refine lv_if_lt (tgt := 43) hx hb dX12_feed_26 (by decide) (fun c127 => absurd c127 (by decide)) (fun c127 => ?_)
    refine lv_aload_n hx hb dX12_feed_29 rfl (lv_at hl 1 rfl) ?_
    refine lv_iload_n hx hb dX12_feed_30 rfl (lv_at hl 2 rfl) ?_
    refine lv_iload hx hb dX12_feed_31 (lv_at hl 0 rfl) ?_
    refine lv_ishr hx hb dX12_feed_33 ?_
    refine lv_topi (fun v128 ev128 => ?_)
    refine va_callv (va_runV (As := [.int v128]) (rest := []) ⟨hx, hb, hml, hown, hts⟩ (m_byte l hl0 D A sad τ f123 fr ol (n + 1 + 1 + 1) hF q124 (by omega) v128) (cwV 1 hts gX12_feed_X12_byteCame rfl rfl rfl (by decide +kernel) ⟨Nat.le_of_ble_eq_true rfl, Nat.le_of_ble_eq_true rfl⟩) ⟨zQc_bl, zRecv hH (zk_30 hF) rfl, zQc_at hz hS hA hH⟩ rfl rfl hl.1 rfl (lv_room (Nat.le_of_ble_eq_true rfl)) dX12_feed_34 ⟨Nat.le_of_ble_eq_true rfl, Nat.le_of_ble_eq_true rfl⟩) hS (fun q _ h => h) (fun q h => h) (fun u9 t9 H1 locs ht9 hvm9 hw hB hz1 hk1 hS => ?_)
    have hH := zMv ht9 hvm9 hB
    clear hB
    generalize u9 = f130 at hw hH
    generalize H1 = H at hH hS ⊢
    obtain ⟨q131, hf132⟩ := hw
    have q133 : f130 30 0 = nI 0 := by rw [hf132 30 0 (by omega)]; exact q126
    refine lv_iinc (v := (-8)) (lv' := [(6, .int ((-8))), (0, .ref (τ.1 30)), (1, .int x0), (2, .int x1), (3, .int x2), (4, .int x3), (5, .int x4)]) hx hb dX12_feed_37 hl (k := 0) rfl (by decide) (by decide) rfl (fun ls hl => ?_)
    refine lv_goto (tgt := 24) hx hb dX12_feed_40 (by decide) ?_
    refine lv_iload hx hb dX12_feed_24 (lv_at hl 0 rfl) ?_
    refine lv_if_lt (tgt := 43) hx hb dX12_feed_26 (by decide) (fun c134 => ?_) (fun c134 => absurd (by decide) c134)
    refine lv_bipush (v := nI 24) hx hb dX12_feed_43 (by decide) ?_
    refine lv_istore (lv' := [(6, .int (nI 24)), (0, .ref (τ.1 30)), (1, .int x0), (2, .int x1), (3, .int x2), (4, .int x3), (5, .int x4)]) hx hb dX12_feed_45 hl (by decide) rfl (fun ls hl => ?_)
    refine lv_iload hx hb dX12_feed_47 (lv_at hl 0 rfl) ?_
    refine lv_if_lt (tgt := 66) hx hb dX12_feed_49 (by decide) (fun c135 => absurd c135 (by decide)) (fun c135 => ?_)
    refine lv_aload_n hx hb dX12_feed_52 rfl (lv_at hl 1 rfl) ?_
    refine lv_iload_n hx hb dX12_feed_53 rfl (lv_at hl 3 rfl) ?_
    refine lv_iload hx hb dX12_feed_54 (lv_at hl 0 rfl) ?_
    refine lv_ishr hx hb dX12_feed_56 ?_
    refine lv_topi (fun v136 ev136 => ?_)
    refine va_callv (va_runV (As := [.int v136]) (rest := []) ⟨hx, hb, hml, hown, hts⟩ (m_byte l hl0 D A sad τ f130 fr ol (n + 1 + 1 + 1 + 1) hF q131 (by omega) v136) (cwV 1 hts gX12_feed_X12_byteCame rfl rfl rfl (by decide +kernel) ⟨Nat.le_of_ble_eq_true rfl, Nat.le_of_ble_eq_true rfl⟩) ⟨zQc_bl, zRecv hH (zk_30 hF) rfl, zQc_at hz hS hA hH⟩ rfl rfl hl.1 rfl (lv_room (Nat.le_of_ble_eq_true rfl)) dX12_feed_57 ⟨Nat.le_of_ble_eq_true rfl, Nat.le_of_ble_eq_true rfl⟩) hS (fun q _ h => h) (fun q h => h) (fun u9 t9 H1 locs ht9 hvm9 hw hB hz1 hk1 hS => ?_)
    have hH := zMv ht9 hvm9 hB
    clear hB
    generalize u9 = f138 at hw hH
    generalize H1 = H at hH hS ⊢
    obtain ⟨q139, hf140⟩ := hw
    have q141 : f138 30 0 = nI 0 := by rw [hf140 30 0 (by omega)]; exact q133
    refine lv_iinc (v := nI 16) (lv' := [(6, .int (nI 16)), (0, .ref (τ.1 30)), (1, .int x0), (2, .int x1), (3, .int x2), (4, .int x3), (5, .int x4)]) hx hb dX12_feed_60 hl (k := 0) rfl (by decide) (by decide) rfl (fun ls hl => ?_)
    refine lv_goto (tgt := 47) hx hb dX12_feed_63 (by decide) ?_
    refine lv_iload hx hb dX12_feed_47 (lv_at hl 0 rfl) ?_
    refine lv_if_lt (tgt := 66) hx hb dX12_feed_49 (by decide) (fun c142 => absurd c142 (by decide)) (fun c142 => ?_)
    refine lv_aload_n hx hb dX12_feed_52 rfl (lv_at hl 1 rfl) ?_
    refine lv_iload_n hx hb dX12_feed_53 rfl (lv_at hl 3 rfl) ?_
    refine lv_iload hx hb dX12_feed_54 (lv_at hl 0 rfl) ?_
    refine lv_ishr hx hb dX12_feed_56 ?_
    refine lv_topi (fun v143 ev143 => ?_)
    refine va_callv (va_runV (As := [.int v143]) (rest := []) ⟨hx, hb, hml, hown, hts⟩ (m_byte l hl0 D A sad τ f138 fr ol (n + 1 + 1 + 1 + 1 + 1) hF q139 (by omega) v143) (cwV 1 hts gX12_feed_X12_byteCame rfl rfl rfl (by decide +kernel) ⟨Nat.le_of_ble_eq_true rfl, Nat.le_of_ble_eq_true rfl⟩) ⟨zQc_bl, zRecv hH (zk_30 hF) rfl, zQc_at hz hS hA hH⟩ rfl rfl hl.1 rfl (lv_room (Nat.le_of_ble_eq_true rfl)) dX12_feed_57 ⟨Nat.le_of_ble_eq_true rfl, Nat.le_of_ble_eq_true rfl⟩) hS (fun q _ h => h) (fun q h => h) (fun u9 t9 H1 locs ht9 hvm9 hw hB hz1 hk1 hS => ?_)
    have hH := zMv ht9 hvm9 hB
    clear hB
    generalize u9 = f145 at hw hH
    generalize H1 = H at hH hS ⊢
    obtain ⟨q146, hf147⟩ := hw
    have q148 : f145 30 0 = nI 0 := by rw [hf147 30 0 (by omega)]; exact q141
    refine lv_iinc (v := nI 8) (lv' := [(6, .int (nI 8)), (0, .ref (τ.1 30)), (1, .int x0), (2, .int x1), (3, .int x2), (4, .int x3), (5, .int x4)]) hx hb dX12_feed_60 hl (k := 0) rfl (by decide) (by decide) rfl (fun ls hl => ?_)
    refine lv_goto (tgt := 47) hx hb dX12_feed_63 (by decide) ?_
    refine lv_iload hx hb dX12_feed_47 (lv_at hl 0 rfl) ?_
    refine lv_if_lt (tgt := 66) hx hb dX12_feed_49 (by decide) (fun c149 => absurd c149 (by decide)) (fun c149 => ?_)
    refine lv_aload_n hx hb dX12_feed_52 rfl (lv_at hl 1 rfl) ?_
    refine lv_iload_n hx hb dX12_feed_53 rfl (lv_at hl 3 rfl) ?_
    refine lv_iload hx hb dX12_feed_54 (lv_at hl 0 rfl) ?_
    refine lv_ishr hx hb dX12_feed_56 ?_
    refine lv_topi (fun v150 ev150 => ?_)
    refine va_callv (va_runV (As := [.int v150]) (rest := []) ⟨hx, hb, hml, hown, hts⟩ (m_byte l hl0 D A sad τ f145 fr ol (n + 1 + 1 + 1 + 1 + 1 + 1) hF q146 (by omega) v150) (cwV 1 hts gX12_feed_X12_byteCame rfl rfl rfl (by decide +kernel) ⟨Nat.le_of_ble_eq_true rfl, Nat.le_of_ble_eq_true rfl⟩) ⟨zQc_bl, zRecv hH (zk_30 hF) rfl, zQc_at hz hS hA hH⟩ rfl rfl hl.1 rfl (lv_room (Nat.le_of_ble_eq_true rfl)) dX12_feed_57 ⟨Nat.le_of_ble_eq_true rfl, Nat.le_of_ble_eq_true rfl⟩) hS (fun q _ h => h) (fun q h => h) (fun u9 t9 H1 locs ht9 hvm9 hw hB hz1 hk1 hS => ?_)
    have hH := zMv ht9 hvm9 hB
    clear hB
    generalize u9 = f152 at hw hH
    generalize H1 = H at hH hS ⊢
    obtain ⟨q153, hf154⟩ := hw
    have q155 : f152 30 0 = nI 0 := by rw [hf154 30 0 (by omega)]; exact q148
    refine lv_iinc (v := nI 0) (lv' := [(6, .int (nI 0)), (0, .ref (τ.1 30)), (1, .int x0), (2, .int x1), (3, .int x2), (4, .int x3), (5, .int x4)]) hx hb dX12_feed_60 hl (k := 0) rfl (by decide) (by decide) rfl (fun ls hl => ?_)
    refine lv_goto (tgt := 47) hx hb dX12_feed_63 (by decide) ?_
    refine lv_iload hx hb dX12_feed_47 (lv_at hl 0 rfl) ?_
    refine lv_if_lt (tgt := 66) hx hb dX12_feed_49 (by decide) (fun c156 => absurd c156 (by decide)) (fun c156 => ?_)
    refine lv_aload_n hx hb dX12_feed_52 rfl (lv_at hl 1 rfl) ?_
    refine lv_iload_n hx hb dX12_feed_53 rfl (lv_at hl 3 rfl) ?_
    refine lv_iload hx hb dX12_feed_54 (lv_at hl 0 rfl) ?_
    refine lv_ishr hx hb dX12_feed_56 ?_
    refine lv_topi (fun v157 ev157 => ?_)
    refine va_callv (va_runV (As := [.int v157]) (rest := []) ⟨hx, hb, hml, hown, hts⟩ (m_byte l hl0 D A sad τ f152 fr ol (n + 1 + 1 + 1 + 1 + 1 + 1 + 1) hF q153 (by omega) v157) (cwV 1 hts gX12_feed_X12_byteCame rfl rfl rfl (by decide +kernel) ⟨Nat.le_of_ble_eq_true rfl, Nat.le_of_ble_eq_true rfl⟩) ⟨zQc_bl, zRecv hH (zk_30 hF) rfl, zQc_at hz hS hA hH⟩ rfl rfl hl.1 rfl (lv_room (Nat.le_of_ble_eq_true rfl)) dX12_feed_57 ⟨Nat.le_of_ble_eq_true rfl, Nat.le_of_ble_eq_true rfl⟩) hS (fun q _ h => h) (fun q h => h) (fun u9 t9 H1 locs ht9 hvm9 hw hB hz1 hk1 hS => ?_)
    have hH := zMv ht9 hvm9 hB
    clear hB
    generalize u9 = f159 at hw hH
    generalize H1 = H at hH hS ⊢
    obtain ⟨q160, hf161⟩ := hw
    have q162 : f159 30 0 = nI 0 := by rw [hf161 30 0 (by omega)]; exact q155
    refine lv_iinc (v := (-8)) (lv' := [(6, .int ((-8))), (0, .ref (τ.1 30)), (1, .int x0), (2, .int x1), (3, .int x2), (4, .int x3), (5, .int x4)]) hx hb dX12_feed_60 hl (k := 0) rfl (by decide) (by decide) rfl (fun ls hl => ?_)
    refine lv_goto (tgt := 47) hx hb dX12_feed_63 (by decide) ?_
    refine lv_iload hx hb dX12_feed_47 (lv_at hl 0 rfl) ?_
    refine lv_if_lt (tgt := 66) hx hb dX12_feed_49 (by decide) (fun c163 => ?_) (fun c163 => absurd (by decide) c163)
    refine lv_bipush (v := nI 24) hx hb dX12_feed_66 (by decide) ?_
    refine lv_istore (lv' := [(6, .int (nI 24)), (0, .ref (τ.1 30)), (1, .int x0), (2, .int x1), (3, .int x2), (4, .int x3), (5, .int x4)]) hx hb dX12_feed_68 hl (by decide) rfl (fun ls hl => ?_)
    refine lv_iload hx hb dX12_feed_70 (lv_at hl 0 rfl) ?_
    refine lv_if_lt (tgt := 89) hx hb dX12_feed_72 (by decide) (fun c164 => absurd c164 (by decide)) (fun c164 => ?_)
    refine lv_aload_n hx hb dX12_feed_75 rfl (lv_at hl 1 rfl) ?_
    refine lv_iload_n hx hb dX12_feed_76 rfl (lv_at hl 4 rfl) ?_
    refine lv_iload hx hb dX12_feed_77 (lv_at hl 0 rfl) ?_
    refine lv_ishr hx hb dX12_feed_79 ?_
    refine lv_topi (fun v165 ev165 => ?_)
    refine va_callv (va_runV (As := [.int v165]) (rest := []) ⟨hx, hb, hml, hown, hts⟩ (m_byte l hl0 D A sad τ f159 fr ol (n + 1 + 1 + 1 + 1 + 1 + 1 + 1 + 1) hF q160 (by omega) v165) (cwV 1 hts gX12_feed_X12_byteCame rfl rfl rfl (by decide +kernel) ⟨Nat.le_of_ble_eq_true rfl, Nat.le_of_ble_eq_true rfl⟩) ⟨zQc_bl, zRecv hH (zk_30 hF) rfl, zQc_at hz hS hA hH⟩ rfl rfl hl.1 rfl (lv_room (Nat.le_of_ble_eq_true rfl)) dX12_feed_80 ⟨Nat.le_of_ble_eq_true rfl, Nat.le_of_ble_eq_true rfl⟩) hS (fun q _ h => h) (fun q h => h) (fun u9 t9 H1 locs ht9 hvm9 hw hB hz1 hk1 hS => ?_)
    have hH := zMv ht9 hvm9 hB
    clear hB
    generalize u9 = f167 at hw hH
    generalize H1 = H at hH hS ⊢
    obtain ⟨q168, hf169⟩ := hw
    have q170 : f167 30 0 = nI 0 := by rw [hf169 30 0 (by omega)]; exact q162
    refine lv_iinc (v := nI 16) (lv' := [(6, .int (nI 16)), (0, .ref (τ.1 30)), (1, .int x0), (2, .int x1), (3, .int x2), (4, .int x3), (5, .int x4)]) hx hb dX12_feed_83 hl (k := 0) rfl (by decide) (by decide) rfl (fun ls hl => ?_)
    refine lv_goto (tgt := 70) hx hb dX12_feed_86 (by decide) ?_
    refine lv_iload hx hb dX12_feed_70 (lv_at hl 0 rfl) ?_
    refine lv_if_lt (tgt := 89) hx hb dX12_feed_72 (by decide) (fun c171 => absurd c171 (by decide)) (fun c171 => ?_)
    refine lv_aload_n hx hb dX12_feed_75 rfl (lv_at hl 1 rfl) ?_
    refine lv_iload_n hx hb dX12_feed_76 rfl (lv_at hl 4 rfl) ?_
    refine lv_iload hx hb dX12_feed_77 (lv_at hl 0 rfl) ?_
    refine lv_ishr hx hb dX12_feed_79 ?_
    refine lv_topi (fun v172 ev172 => ?_)
    refine va_callv (va_runV (As := [.int v172]) (rest := []) ⟨hx, hb, hml, hown, hts⟩ (m_byte l hl0 D A sad τ f167 fr ol (n + 1 + 1 + 1 + 1 + 1 + 1 + 1 + 1 + 1) hF q168 (by omega) v172) (cwV 1 hts gX12_feed_X12_byteCame rfl rfl rfl (by decide +kernel) ⟨Nat.le_of_ble_eq_true rfl, Nat.le_of_ble_eq_true rfl⟩) ⟨zQc_bl, zRecv hH (zk_30 hF) rfl, zQc_at hz hS hA hH⟩ rfl rfl hl.1 rfl (lv_room (Nat.le_of_ble_eq_true rfl)) dX12_feed_80 ⟨Nat.le_of_ble_eq_true rfl, Nat.le_of_ble_eq_true rfl⟩) hS (fun q _ h => h) (fun q h => h) (fun u9 t9 H1 locs ht9 hvm9 hw hB hz1 hk1 hS => ?_)
    have hH := zMv ht9 hvm9 hB
    clear hB
    generalize u9 = f174 at hw hH
    generalize H1 = H at hH hS ⊢
    obtain ⟨q175, hf176⟩ := hw
    have q177 : f174 30 0 = nI 0 := by rw [hf176 30 0 (by omega)]; exact q170
    refine lv_iinc (v := nI 8) (lv' := [(6, .int (nI 8)), (0, .ref (τ.1 30)), (1, .int x0), (2, .int x1), (3, .int x2), (4, .int x3), (5, .int x4)]) hx hb dX12_feed_83 hl (k := 0) rfl (by decide) (by decide) rfl (fun ls hl => ?_)
    refine lv_goto (tgt := 70) hx hb dX12_feed_86 (by decide) ?_
    refine lv_iload hx hb dX12_feed_70 (lv_at hl 0 rfl) ?_
    refine lv_if_lt (tgt := 89) hx hb dX12_feed_72 (by decide) (fun c178 => absurd c178 (by decide)) (fun c178 => ?_)
    refine lv_aload_n hx hb dX12_feed_75 rfl (lv_at hl 1 rfl) ?_
    refine lv_iload_n hx hb dX12_feed_76 rfl (lv_at hl 4 rfl) ?_
    refine lv_iload hx hb dX12_feed_77 (lv_at hl 0 rfl) ?_
    refine lv_ishr hx hb dX12_feed_79 ?_
    refine lv_topi (fun v179 ev179 => ?_)
    refine va_callv (va_runV (As := [.int v179]) (rest := []) ⟨hx, hb, hml, hown, hts⟩ (m_byte l hl0 D A sad τ f174 fr ol (n + 1 + 1 + 1 + 1 + 1 + 1 + 1 + 1 + 1 + 1) hF q175 (by omega) v179) (cwV 1 hts gX12_feed_X12_byteCame rfl rfl rfl (by decide +kernel) ⟨Nat.le_of_ble_eq_true rfl, Nat.le_of_ble_eq_true rfl⟩) ⟨zQc_bl, zRecv hH (zk_30 hF) rfl, zQc_at hz hS hA hH⟩ rfl rfl hl.1 rfl (lv_room (Nat.le_of_ble_eq_true rfl)) dX12_feed_80 ⟨Nat.le_of_ble_eq_true rfl, Nat.le_of_ble_eq_true rfl⟩) hS (fun q _ h => h) (fun q h => h) (fun u9 t9 H1 locs ht9 hvm9 hw hB hz1 hk1 hS => ?_)
    have hH := zMv ht9 hvm9 hB
    clear hB
    generalize u9 = f181 at hw hH
    generalize H1 = H at hH hS ⊢
    obtain ⟨q182, hf183⟩ := hw
    have q184 : f181 30 0 = nI 0 := by rw [hf183 30 0 (by omega)]; exact q177
    refine lv_iinc (v := nI 0) (lv' := [(6, .int (nI 0)), (0, .ref (τ.1 30)), (1, .int x0), (2, .int x1), (3, .int x2), (4, .int x3), (5, .int x4)]) hx hb dX12_feed_83 hl (k := 0) rfl (by decide) (by decide) rfl (fun ls hl => ?_)
    refine lv_goto (tgt := 70) hx hb dX12_feed_86 (by decide) ?_
    refine lv_iload hx hb dX12_feed_70 (lv_at hl 0 rfl) ?_
    refine lv_if_lt (tgt := 89) hx hb dX12_feed_72 (by decide) (fun c185 => absurd c185 (by decide)) (fun c185 => ?_)
    refine lv_aload_n hx hb dX12_feed_75 rfl (lv_at hl 1 rfl) ?_
    refine lv_iload_n hx hb dX12_feed_76 rfl (lv_at hl 4 rfl) ?_
    refine lv_iload hx hb dX12_feed_77 (lv_at hl 0 rfl) ?_
    refine lv_ishr hx hb dX12_feed_79 ?_
    refine lv_topi (fun v186 ev186 => ?_)
    refine va_callv (va_runV (As := [.int v186]) (rest := []) ⟨hx, hb, hml, hown, hts⟩ (m_byte l hl0 D A sad τ f181 fr ol (n + 1 + 1 + 1 + 1 + 1 + 1 + 1 + 1 + 1 + 1 + 1) hF q182 (by omega) v186) (cwV 1 hts gX12_feed_X12_byteCame rfl rfl rfl (by decide +kernel) ⟨Nat.le_of_ble_eq_true rfl, Nat.le_of_ble_eq_true rfl⟩) ⟨zQc_bl, zRecv hH (zk_30 hF) rfl, zQc_at hz hS hA hH⟩ rfl rfl hl.1 rfl (lv_room (Nat.le_of_ble_eq_true rfl)) dX12_feed_80 ⟨Nat.le_of_ble_eq_true rfl, Nat.le_of_ble_eq_true rfl⟩) hS (fun q _ h => h) (fun q h => h) (fun u9 t9 H1 locs ht9 hvm9 hw hB hz1 hk1 hS => ?_)
    have hH := zMv ht9 hvm9 hB
    clear hB
    generalize u9 = f188 at hw hH
    generalize H1 = H at hH hS ⊢
    obtain ⟨q189, hf190⟩ := hw
    have q191 : f188 30 0 = nI 0 := by rw [hf190 30 0 (by omega)]; exact q184
    refine lv_iinc (v := (-8)) (lv' := [(6, .int ((-8))), (0, .ref (τ.1 30)), (1, .int x0), (2, .int x1), (3, .int x2), (4, .int x3), (5, .int x4)]) hx hb dX12_feed_83 hl (k := 0) rfl (by decide) (by decide) rfl (fun ls hl => ?_)
    refine lv_goto (tgt := 70) hx hb dX12_feed_86 (by decide) ?_
    refine lv_iload hx hb dX12_feed_70 (lv_at hl 0 rfl) ?_
    refine lv_if_lt (tgt := 89) hx hb dX12_feed_72 (by decide) (fun c192 => ?_) (fun c192 => absurd (by decide) c192)
    refine lv_bipush (v := nI 24) hx hb dX12_feed_89 (by decide) ?_
    refine lv_istore (lv' := [(6, .int (nI 24)), (0, .ref (τ.1 30)), (1, .int x0), (2, .int x1), (3, .int x2), (4, .int x3), (5, .int x4)]) hx hb dX12_feed_91 hl (by decide) rfl (fun ls hl => ?_)
    refine lv_iload hx hb dX12_feed_93 (lv_at hl 0 rfl) ?_
    refine lv_if_lt (tgt := 113) hx hb dX12_feed_95 (by decide) (fun c193 => absurd c193 (by decide)) (fun c193 => ?_)
    refine lv_aload_n hx hb dX12_feed_98 rfl (lv_at hl 1 rfl) ?_
    refine lv_iload hx hb dX12_feed_99 (lv_at hl 5 rfl) ?_
    refine lv_iload hx hb dX12_feed_101 (lv_at hl 0 rfl) ?_
    refine lv_ishr hx hb dX12_feed_103 ?_
    refine lv_topi (fun v194 ev194 => ?_)
    refine va_callv (va_runV (As := [.int v194]) (rest := []) ⟨hx, hb, hml, hown, hts⟩ (m_byte l hl0 D A sad τ f188 fr ol (n + 1 + 1 + 1 + 1 + 1 + 1 + 1 + 1 + 1 + 1 + 1 + 1) hF q189 (by omega) v194) (cwV 1 hts gX12_feed_X12_byteCame rfl rfl rfl (by decide +kernel) ⟨Nat.le_of_ble_eq_true rfl, Nat.le_of_ble_eq_true rfl⟩) ⟨zQc_bl, zRecv hH (zk_30 hF) rfl, zQc_at hz hS hA hH⟩ rfl rfl hl.1 rfl (lv_room (Nat.le_of_ble_eq_true rfl)) dX12_feed_104 ⟨Nat.le_of_ble_eq_true rfl, Nat.le_of_ble_eq_true rfl⟩) hS (fun q _ h => h) (fun q h => h) (fun u9 t9 H1 locs ht9 hvm9 hw hB hz1 hk1 hS => ?_)
    have hH := zMv ht9 hvm9 hB
    clear hB
    generalize u9 = f196 at hw hH
    generalize H1 = H at hH hS ⊢
    obtain ⟨q197, hf198⟩ := hw
    have q199 : f196 30 0 = nI 0 := by rw [hf198 30 0 (by omega)]; exact q191
    refine lv_iinc (v := nI 16) (lv' := [(6, .int (nI 16)), (0, .ref (τ.1 30)), (1, .int x0), (2, .int x1), (3, .int x2), (4, .int x3), (5, .int x4)]) hx hb dX12_feed_107 hl (k := 0) rfl (by decide) (by decide) rfl (fun ls hl => ?_)
    refine lv_goto (tgt := 93) hx hb dX12_feed_110 (by decide) ?_
    refine lv_iload hx hb dX12_feed_93 (lv_at hl 0 rfl) ?_
    refine lv_if_lt (tgt := 113) hx hb dX12_feed_95 (by decide) (fun c200 => absurd c200 (by decide)) (fun c200 => ?_)
    refine lv_aload_n hx hb dX12_feed_98 rfl (lv_at hl 1 rfl) ?_
    refine lv_iload hx hb dX12_feed_99 (lv_at hl 5 rfl) ?_
    refine lv_iload hx hb dX12_feed_101 (lv_at hl 0 rfl) ?_
    refine lv_ishr hx hb dX12_feed_103 ?_
    refine lv_topi (fun v201 ev201 => ?_)
    refine va_callv (va_runV (As := [.int v201]) (rest := []) ⟨hx, hb, hml, hown, hts⟩ (m_byte l hl0 D A sad τ f196 fr ol (n + 1 + 1 + 1 + 1 + 1 + 1 + 1 + 1 + 1 + 1 + 1 + 1 + 1) hF q197 (by omega) v201) (cwV 1 hts gX12_feed_X12_byteCame rfl rfl rfl (by decide +kernel) ⟨Nat.le_of_ble_eq_true rfl, Nat.le_of_ble_eq_true rfl⟩) ⟨zQc_bl, zRecv hH (zk_30 hF) rfl, zQc_at hz hS hA hH⟩ rfl rfl hl.1 rfl (lv_room (Nat.le_of_ble_eq_true rfl)) dX12_feed_104 ⟨Nat.le_of_ble_eq_true rfl, Nat.le_of_ble_eq_true rfl⟩) hS (fun q _ h => h) (fun q h => h) (fun u9 t9 H1 locs ht9 hvm9 hw hB hz1 hk1 hS => ?_)
    have hH := zMv ht9 hvm9 hB
    clear hB
    generalize u9 = f203 at hw hH
    generalize H1 = H at hH hS ⊢
    obtain ⟨q204, hf205⟩ := hw
    have q206 : f203 30 0 = nI 0 := by rw [hf205 30 0 (by omega)]; exact q199
    refine lv_iinc (v := nI 8) (lv' := [(6, .int (nI 8)), (0, .ref (τ.1 30)), (1, .int x0), (2, .int x1), (3, .int x2), (4, .int x3), (5, .int x4)]) hx hb dX12_feed_107 hl (k := 0) rfl (by decide) (by decide) rfl (fun ls hl => ?_)
    refine lv_goto (tgt := 93) hx hb dX12_feed_110 (by decide) ?_
    refine lv_iload hx hb dX12_feed_93 (lv_at hl 0 rfl) ?_
    refine lv_if_lt (tgt := 113) hx hb dX12_feed_95 (by decide) (fun c207 => absurd c207 (by decide)) (fun c207 => ?_)
    refine lv_aload_n hx hb dX12_feed_98 rfl (lv_at hl 1 rfl) ?_
    refine lv_iload hx hb dX12_feed_99 (lv_at hl 5 rfl) ?_
    refine lv_iload hx hb dX12_feed_101 (lv_at hl 0 rfl) ?_
    refine lv_ishr hx hb dX12_feed_103 ?_
    refine lv_topi (fun v208 ev208 => ?_)
    refine va_callv (va_runV (As := [.int v208]) (rest := []) ⟨hx, hb, hml, hown, hts⟩ (m_byte l hl0 D A sad τ f203 fr ol (n + 1 + 1 + 1 + 1 + 1 + 1 + 1 + 1 + 1 + 1 + 1 + 1 + 1 + 1) hF q204 (by omega) v208) (cwV 1 hts gX12_feed_X12_byteCame rfl rfl rfl (by decide +kernel) ⟨Nat.le_of_ble_eq_true rfl, Nat.le_of_ble_eq_true rfl⟩) ⟨zQc_bl, zRecv hH (zk_30 hF) rfl, zQc_at hz hS hA hH⟩ rfl rfl hl.1 rfl (lv_room (Nat.le_of_ble_eq_true rfl)) dX12_feed_104 ⟨Nat.le_of_ble_eq_true rfl, Nat.le_of_ble_eq_true rfl⟩) hS (fun q _ h => h) (fun q h => h) (fun u9 t9 H1 locs ht9 hvm9 hw hB hz1 hk1 hS => ?_)
    have hH := zMv ht9 hvm9 hB
    clear hB
    generalize u9 = f210 at hw hH
    generalize H1 = H at hH hS ⊢
    obtain ⟨q211, hf212⟩ := hw
    have q213 : f210 30 0 = nI 0 := by rw [hf212 30 0 (by omega)]; exact q206
    refine lv_iinc (v := nI 0) (lv' := [(6, .int (nI 0)), (0, .ref (τ.1 30)), (1, .int x0), (2, .int x1), (3, .int x2), (4, .int x3), (5, .int x4)]) hx hb dX12_feed_107 hl (k := 0) rfl (by decide) (by decide) rfl (fun ls hl => ?_)
    refine lv_goto (tgt := 93) hx hb dX12_feed_110 (by decide) ?_
    refine lv_iload hx hb dX12_feed_93 (lv_at hl 0 rfl) ?_
    refine lv_if_lt (tgt := 113) hx hb dX12_feed_95 (by decide) (fun c214 => absurd c214 (by decide)) (fun c214 => ?_)
    refine lv_aload_n hx hb dX12_feed_98 rfl (lv_at hl 1 rfl) ?_
    refine lv_iload hx hb dX12_feed_99 (lv_at hl 5 rfl) ?_
    refine lv_iload hx hb dX12_feed_101 (lv_at hl 0 rfl) ?_
    refine lv_ishr hx hb dX12_feed_103 ?_
    refine lv_topi (fun v215 ev215 => ?_)
    refine va_callv (va_runV (As := [.int v215]) (rest := []) ⟨hx, hb, hml, hown, hts⟩ (m_byte l hl0 D A sad τ f210 fr ol (n + 1 + 1 + 1 + 1 + 1 + 1 + 1 + 1 + 1 + 1 + 1 + 1 + 1 + 1 + 1) hF q211 (by omega) v215) (cwV 1 hts gX12_feed_X12_byteCame rfl rfl rfl (by decide +kernel) ⟨Nat.le_of_ble_eq_true rfl, Nat.le_of_ble_eq_true rfl⟩) ⟨zQc_bl, zRecv hH (zk_30 hF) rfl, zQc_at hz hS hA hH⟩ rfl rfl hl.1 rfl (lv_room (Nat.le_of_ble_eq_true rfl)) dX12_feed_104 ⟨Nat.le_of_ble_eq_true rfl, Nat.le_of_ble_eq_true rfl⟩) hS (fun q _ h => h) (fun q h => h) (fun u9 t9 H1 locs ht9 hvm9 hw hB hz1 hk1 hS => ?_)
    have hH := zMv ht9 hvm9 hB
    clear hB
    generalize u9 = f217 at hw hH
    generalize H1 = H at hH hS ⊢
    obtain ⟨q218, hf219⟩ := hw
    have q220 : f217 30 0 = nI 0 := by rw [hf219 30 0 (by omega)]; exact q213
    refine lv_iinc (v := (-8)) (lv' := [(6, .int ((-8))), (0, .ref (τ.1 30)), (1, .int x0), (2, .int x1), (3, .int x2), (4, .int x3), (5, .int x4)]) hx hb dX12_feed_107 hl (k := 0) rfl (by decide) (by decide) rfl (fun ls hl => ?_)
    refine lv_goto (tgt := 93) hx hb dX12_feed_110 (by decide) ?_
    refine lv_iload hx hb dX12_feed_93 (lv_at hl 0 rfl) ?_
    refine lv_if_lt (tgt := 113) hx hb dX12_feed_95 (by decide) (fun c221 => ?_) (fun c221 => absurd (by decide) c221)
    refine lv_bipush (v := nI 24) hx hb dX12_feed_113 (by decide) ?_
    refine lv_istore (lv' := [(6, .int (nI 24)), (0, .ref (τ.1 30)), (1, .int x0), (2, .int x1), (3, .int x2), (4, .int x3), (5, .int x4)]) hx hb dX12_feed_115 hl (by decide) rfl (fun ls hl => ?_)
    refine lv_iload hx hb dX12_feed_117 (lv_at hl 0 rfl) ?_
    refine lv_if_lt (tgt := 137) hx hb dX12_feed_119 (by decide) (fun c222 => absurd c222 (by decide)) (fun c222 => ?_)
    refine lv_aload_n hx hb dX12_feed_122 rfl (lv_at hl 1 rfl) ?_
    refine lv_iload hx hb dX12_feed_123 (lv_at hl 6 rfl) ?_
    refine lv_iload hx hb dX12_feed_125 (lv_at hl 0 rfl) ?_
    refine lv_ishr hx hb dX12_feed_127 ?_
    refine lv_topi (fun v223 ev223 => ?_)
    refine va_callv (va_runV (As := [.int v223]) (rest := []) ⟨hx, hb, hml, hown, hts⟩ (m_byte l hl0 D A sad τ f217 fr ol (n + 1 + 1 + 1 + 1 + 1 + 1 + 1 + 1 + 1 + 1 + 1 + 1 + 1 + 1 + 1 + 1) hF q218 (by omega) v223) (cwV 1 hts gX12_feed_X12_byteCame rfl rfl rfl (by decide +kernel) ⟨Nat.le_of_ble_eq_true rfl, Nat.le_of_ble_eq_true rfl⟩) ⟨zQc_bl, zRecv hH (zk_30 hF) rfl, zQc_at hz hS hA hH⟩ rfl rfl hl.1 rfl (lv_room (Nat.le_of_ble_eq_true rfl)) dX12_feed_128 ⟨Nat.le_of_ble_eq_true rfl, Nat.le_of_ble_eq_true rfl⟩) hS (fun q _ h => h) (fun q h => h) (fun u9 t9 H1 locs ht9 hvm9 hw hB hz1 hk1 hS => ?_)
    have hH := zMv ht9 hvm9 hB
    clear hB
    generalize u9 = f225 at hw hH
    generalize H1 = H at hH hS ⊢
    obtain ⟨q226, hf227⟩ := hw
    have q228 : f225 30 0 = nI 0 := by rw [hf227 30 0 (by omega)]; exact q220
    refine lv_iinc (v := nI 16) (lv' := [(6, .int (nI 16)), (0, .ref (τ.1 30)), (1, .int x0), (2, .int x1), (3, .int x2), (4, .int x3), (5, .int x4)]) hx hb dX12_feed_131 hl (k := 0) rfl (by decide) (by decide) rfl (fun ls hl => ?_)
    refine lv_goto (tgt := 117) hx hb dX12_feed_134 (by decide) ?_
    refine lv_iload hx hb dX12_feed_117 (lv_at hl 0 rfl) ?_
    refine lv_if_lt (tgt := 137) hx hb dX12_feed_119 (by decide) (fun c229 => absurd c229 (by decide)) (fun c229 => ?_)
    refine lv_aload_n hx hb dX12_feed_122 rfl (lv_at hl 1 rfl) ?_
    refine lv_iload hx hb dX12_feed_123 (lv_at hl 6 rfl) ?_
    refine lv_iload hx hb dX12_feed_125 (lv_at hl 0 rfl) ?_
    refine lv_ishr hx hb dX12_feed_127 ?_
    refine lv_topi (fun v230 ev230 => ?_)
    refine va_callv (va_runV (As := [.int v230]) (rest := []) ⟨hx, hb, hml, hown, hts⟩ (m_byte l hl0 D A sad τ f225 fr ol (n + 1 + 1 + 1 + 1 + 1 + 1 + 1 + 1 + 1 + 1 + 1 + 1 + 1 + 1 + 1 + 1 + 1) hF q226 (by omega) v230) (cwV 1 hts gX12_feed_X12_byteCame rfl rfl rfl (by decide +kernel) ⟨Nat.le_of_ble_eq_true rfl, Nat.le_of_ble_eq_true rfl⟩) ⟨zQc_bl, zRecv hH (zk_30 hF) rfl, zQc_at hz hS hA hH⟩ rfl rfl hl.1 rfl (lv_room (Nat.le_of_ble_eq_true rfl)) dX12_feed_128 ⟨Nat.le_of_ble_eq_true rfl, Nat.le_of_ble_eq_true rfl⟩) hS (fun q _ h => h) (fun q h => h) (fun u9 t9 H1 locs ht9 hvm9 hw hB hz1 hk1 hS => ?_)
    have hH := zMv ht9 hvm9 hB
    clear hB
    generalize u9 = f232 at hw hH
    generalize H1 = H at hH hS ⊢
    obtain ⟨q233, hf234⟩ := hw
    have q235 : f232 30 0 = nI 0 := by rw [hf234 30 0 (by omega)]; exact q228
    refine lv_iinc (v := nI 8) (lv' := [(6, .int (nI 8)), (0, .ref (τ.1 30)), (1, .int x0), (2, .int x1), (3, .int x2), (4, .int x3), (5, .int x4)]) hx hb dX12_feed_131 hl (k := 0) rfl (by decide) (by decide) rfl (fun ls hl => ?_)
    refine lv_goto (tgt := 117) hx hb dX12_feed_134 (by decide) ?_
    refine lv_iload hx hb dX12_feed_117 (lv_at hl 0 rfl) ?_
    refine lv_if_lt (tgt := 137) hx hb dX12_feed_119 (by decide) (fun c236 => absurd c236 (by decide)) (fun c236 => ?_)
    refine lv_aload_n hx hb dX12_feed_122 rfl (lv_at hl 1 rfl) ?_
    refine lv_iload hx hb dX12_feed_123 (lv_at hl 6 rfl) ?_
    refine lv_iload hx hb dX12_feed_125 (lv_at hl 0 rfl) ?_
    refine lv_ishr hx hb dX12_feed_127 ?_
    refine lv_topi (fun v237 ev237 => ?_)
    refine va_callv (va_runV (As := [.int v237]) (rest := []) ⟨hx, hb, hml, hown, hts⟩ (m_byte l hl0 D A sad τ f232 fr ol (n + 1 + 1 + 1 + 1 + 1 + 1 + 1 + 1 + 1 + 1 + 1 + 1 + 1 + 1 + 1 + 1 + 1 + 1) hF q233 (by omega) v237) (cwV 1 hts gX12_feed_X12_byteCame rfl rfl rfl (by decide +kernel) ⟨Nat.le_of_ble_eq_true rfl, Nat.le_of_ble_eq_true rfl⟩) ⟨zQc_bl, zRecv hH (zk_30 hF) rfl, zQc_at hz hS hA hH⟩ rfl rfl hl.1 rfl (lv_room (Nat.le_of_ble_eq_true rfl)) dX12_feed_128 ⟨Nat.le_of_ble_eq_true rfl, Nat.le_of_ble_eq_true rfl⟩) hS (fun q _ h => h) (fun q h => h) (fun u9 t9 H1 locs ht9 hvm9 hw hB hz1 hk1 hS => ?_)
    have hH := zMv ht9 hvm9 hB
    clear hB
    generalize u9 = f239 at hw hH
    generalize H1 = H at hH hS ⊢
    obtain ⟨q240, hf241⟩ := hw
    have q242 : f239 30 0 = nI 0 := by rw [hf241 30 0 (by omega)]; exact q235
    refine lv_iinc (v := nI 0) (lv' := [(6, .int (nI 0)), (0, .ref (τ.1 30)), (1, .int x0), (2, .int x1), (3, .int x2), (4, .int x3), (5, .int x4)]) hx hb dX12_feed_131 hl (k := 0) rfl (by decide) (by decide) rfl (fun ls hl => ?_)
    refine lv_goto (tgt := 117) hx hb dX12_feed_134 (by decide) ?_
    refine lv_iload hx hb dX12_feed_117 (lv_at hl 0 rfl) ?_
    refine lv_if_lt (tgt := 137) hx hb dX12_feed_119 (by decide) (fun c243 => absurd c243 (by decide)) (fun c243 => ?_)
    refine lv_aload_n hx hb dX12_feed_122 rfl (lv_at hl 1 rfl) ?_
    refine lv_iload hx hb dX12_feed_123 (lv_at hl 6 rfl) ?_
    refine lv_iload hx hb dX12_feed_125 (lv_at hl 0 rfl) ?_
    refine lv_ishr hx hb dX12_feed_127 ?_
    refine lv_topi (fun v244 ev244 => ?_)
    refine va_callv (va_runV (As := [.int v244]) (rest := []) ⟨hx, hb, hml, hown, hts⟩ (m_byte l hl0 D A sad τ f239 fr ol (n + 1 + 1 + 1 + 1 + 1 + 1 + 1 + 1 + 1 + 1 + 1 + 1 + 1 + 1 + 1 + 1 + 1 + 1 + 1) hF q240 (by omega) v244) (cwV 1 hts gX12_feed_X12_byteCame rfl rfl rfl (by decide +kernel) ⟨Nat.le_of_ble_eq_true rfl, Nat.le_of_ble_eq_true rfl⟩) ⟨zQc_bl, zRecv hH (zk_30 hF) rfl, zQc_at hz hS hA hH⟩ rfl rfl hl.1 rfl (lv_room (Nat.le_of_ble_eq_true rfl)) dX12_feed_128 ⟨Nat.le_of_ble_eq_true rfl, Nat.le_of_ble_eq_true rfl⟩) hS (fun q _ h => h) (fun q h => h) (fun u9 t9 H1 locs ht9 hvm9 hw hB hz1 hk1 hS => ?_)
    have hH := zMv ht9 hvm9 hB
    clear hB
    generalize u9 = f246 at hw hH
    generalize H1 = H at hH hS ⊢
    obtain ⟨q247, hf248⟩ := hw
    have q249 : f246 30 0 = nI 0 := by rw [hf248 30 0 (by omega)]; exact q242
    refine lv_iinc (v := (-8)) (lv' := [(6, .int ((-8))), (0, .ref (τ.1 30)), (1, .int x0), (2, .int x1), (3, .int x2), (4, .int x3), (5, .int x4)]) hx hb dX12_feed_131 hl (k := 0) rfl (by decide) (by decide) rfl (fun ls hl => ?_)
    refine lv_goto (tgt := 117) hx hb dX12_feed_134 (by decide) ?_
    refine lv_iload hx hb dX12_feed_117 (lv_at hl 0 rfl) ?_
    refine lv_if_lt (tgt := 137) hx hb dX12_feed_119 (by decide) (fun c250 => ?_) (fun c250 => absurd (by decide) c250)
    refine lv_aload_n hx hb dX12_feed_137 rfl (lv_at hl 1 rfl) ?_
    refine zGetI (D := D) (ci := 12) (C := RX12) (T := TX12) (N := 71) hx hb hts hiX12 hown hH (zk_30 hF) rfl 21 (by decide) rfl hw2 (fun _ h9 => h9) dX12_feed_138 q247 ?_
    refine W.widen (k := 0) (n := 0) (by decide) (by decide) ?_
    exact W.iret (v := nI (n + 1 + 1 + 1 + 1 + 1 + 1 + 1 + 1 + 1 + 1 + 1 + 1 + 1 + 1 + 1 + 1 + 1 + 1 + 1 + 1)) hx hb hr (fun t9 ht9 hW9 => ⟨⟨nI (n + 1 + 1 + 1 + 1 + 1 + 1 + 1 + 1 + 1 + 1 + 1 + 1 + 1 + 1 + 1 + 1 + 1 + 1 + 1 + 1), f246, rfl, ⟨Or.inl ⟨by omega, rfl, q247⟩, fun a b h => by rw [hf248 a b (by omega), hf241 a b (by omega), hf234 a b (by omega), hf227 a b (by omega), hf219 a b (by omega), hf212 a b (by omega), hf205 a b (by omega), hf198 a b (by omega), hf190 a b (by omega), hf183 a b (by omega), hf176 a b (by omega), hf169 a b (by omega), hf161 a b (by omega), hf154 a b (by omega), hf147 a b (by omega), hf140 a b (by omega), hf132 a b (by omega), hf125 a b (by omega), hf118 a b (by omega), hf111 a b (by omega), ef101, zu_n (by omega)]⟩, zEnd1 hH ht9 hW9⟩, hS.F ht9⟩) hS.2.2 dX12_feed_141
  · have zc105 := c105
    replace zc105 := zc_nle (nI_toInt (by omega)) (nI_toInt (by omega)) zc105
    refine lv_iconst (v := (-1)) hx hb dX12_feed_18 (by decide) ?_
    refine W.widen (k := 0) (n := 0) (by decide) (by decide) ?_
    exact W.iret (v := (-1)) hx hb hr (fun t9 ht9 hW9 => ⟨⟨(-1), f101, rfl, ⟨Or.inr ⟨by omega, rfl, q102⟩, fun a b h => by rw [ef101, zu_n (by omega)]⟩, zEnd1 hH ht9 hW9⟩, hS.F ht9⟩) hS.2.2 dX12_feed_19
set_option maxHeartbeats 4000000 in
set_option maxRecDepth 100000 in
/-- end -/
theorem m_end (l : Launch) (hl0 : l.stackTraces = false) (D : va_G) (A : Nat → Prop) (sad : Nat → Nat) (τ : zTy) (fi : zFi) (fr : zFr) (ol : Int64) (n : Nat) (hF : zFix τ fr) (hn : fi 30 21 = nI n) (hn4 : n ≤ 400) (x : Int32) : Met l yX12_end wsX12_end ({ frames := 0, cells := 0, slots := 0, locals := 0 }) (va_Pc [.ref (τ.1 30), .int x] (zQc D A sad τ fi fr ol)) (va_Qi (fun (r : Int32) (u : zFi) => ((r = 1 ∧ 0 ≤ x.toInt ∧ x.toInt ≤ n ∧ u 30 21 = x) ∨ (r = 0 ∧ ¬ (0 ≤ x.toInt ∧ x.toInt ≤ n) ∧ u 30 21 = nI n)) ∧ ∀ a b, ¬ (a = 30 ∧ (b = 0 ∨ b = 21)) → u a b = fi a b) (fun (u : zFi) (t : State) => zH D A τ u fr ol t t.heap) A) 0 0 A := by
  refine Met.ofW (cc := cX12_end) (maxL := 2) (ret := (some .boolean)) (by decide) rfl ?_
  intro p9 e9 s m args below meth c9 s₁ B hml hv
  obtain ⟨rfl, hz, hH, hA⟩ := hv
  have hx := B.exec
  have hb := B.bytes
  have hr := B.returns
  have hts := atoms_spec (ws := wsX12_end) B.pre
  have hown : s.vm.findClass RX12 = some m.cls := findClass_of_methodNamed B.named
  have hlocks := B.notSynchronized
  have hS : va_S A s.heap s.heap [] := va_S.rf
  have hl := lv_entry ([.ref (τ.1 30), .int x]) (n := 2) (Nat.le_of_ble_eq_true rfl)
  rw [lg_entry_eq]
  generalize (lg_sl ([.ref (τ.1 30), .int x]) ++ List.replicate (2 - (lg_sl ([.ref (τ.1 30), .int x])).length) Slot.unset).toArray = ls at hl ⊢
  have hl : lv_has ls 2 [(0, .ref (τ.1 30)), (1, .int x)] := hl
  have hw0 := hts (.fieldLink RX12 165 "PostHouseModel" "thrown" "I") (by decide +kernel)
  have hiX12 : ∀ w ∈ u_ws RX12 TX12 71, w ∈ wsX12_end := fun _ h => List.mem_cons_of_mem _ (List.mem_append_right _ h)
  have hw2 := hts (.fieldLink RX12 178 "PostHouseModel" "taped" "I") (by decide +kernel)
  refine lv_aload_n hx hb dX12_end_0 rfl (lv_at hl 0 rfl) ?_
  refine lv_iconst (v := nI 0) hx hb dX12_end_1 (by decide) ?_
  refine zPutI (D := D) (ci := 12) (ty := .int) (C := RX12) (T := TX12) (N := 71) hx hb hts hiX12 tyX12 tyX12_ok nmX12 hown hH hS (zk_30 hF) rfl 0 (by decide) rfl hw0 (fun _ h9 => h9) rfl (by decide +kernel) rfl rfl dX12_end_2 (fun H locs hH hS => ?_)
  obtain ⟨f101, ef101⟩ : ∃ f9 : zFi, f9 = zu fi 30 0 (nI 0) := ⟨_, rfl⟩
  rw [← ef101] at hH
  have q102 : f101 30 21 = nI n := by rw [ef101, zu_n (fun h9 => absurd h9.2 (by decide))]; exact hn
  have q103 : f101 30 0 = nI 0 := by rw [ef101]; exact zu_s
  refine lv_iload_n hx hb dX12_end_5 rfl (lv_at hl 1 rfl) ?_
  refine lv_if_lt (tgt := 17) hx hb dX12_end_6 (by decide) (fun c104 => ?_) (fun c104 => ?_)
  · have zc104 := c104
    replace zc104 := zc_lt (rfl) ((by decide : (0 : Int32).toInt = 0)) zc104
    refine lv_iconst (v := nI 0) hx hb dX12_end_17 (by decide) ?_
    refine W.widen (k := 0) (n := 0) (by decide) (by decide) ?_
    exact W.zret (v := nI 0) hx hb hr (by decide) (fun t9 ht9 hW9 => ⟨⟨nI 0, f101, rfl, ⟨Or.inr ⟨rfl, fun h9 => by have h91 := h9.1; have h92 := h9.2; omega, q102⟩, fun a b h => by rw [ef101, zu_n (by omega)]⟩, zEnd1 hH ht9 hW9⟩, hS.F ht9⟩) hS.2.2 dX12_end_18
  · have zc104 := c104
    replace zc104 := zc_nlt (rfl) ((by decide : (0 : Int32).toInt = 0)) zc104
    refine lv_iload_n hx hb dX12_end_9 rfl (lv_at hl 1 rfl) ?_
    refine lv_aload_n hx hb dX12_end_10 rfl (lv_at hl 0 rfl) ?_
    refine zGetI (D := D) (ci := 12) (C := RX12) (T := TX12) (N := 71) hx hb hts hiX12 hown hH (zk_30 hF) rfl 21 (by decide) rfl hw2 (fun _ h9 => h9) dX12_end_11 q102 ?_
    refine lv_icmp_le (tgt := 19) hx hb dX12_end_14 (by decide) (fun c105 => ?_) (fun c105 => ?_)
    · have zc105 := c105
      replace zc105 := zc_le (rfl) (nI_toInt (by omega)) zc105
      refine lv_aload_n hx hb dX12_end_19 rfl (lv_at hl 0 rfl) ?_
      refine lv_iload_n hx hb dX12_end_20 rfl (lv_at hl 1 rfl) ?_
      refine zPutI (D := D) (ci := 12) (ty := .int) (C := RX12) (T := TX12) (N := 71) hx hb hts hiX12 tyX12 tyX12_ok nmX12 hown hH hS (zk_30 hF) rfl 21 (by decide) rfl hw2 (fun _ h9 => h9) rfl (by decide +kernel) rfl rfl dX12_end_21 (fun H locs hH hS => ?_)
      obtain ⟨f106, ef106⟩ : ∃ f9 : zFi, f9 = zu f101 30 21 x := ⟨_, rfl⟩
      rw [← ef106] at hH
      have q107 : f106 30 0 = nI 0 := by rw [ef106, zu_n (fun h9 => absurd h9.2 (by decide))]; exact q103
      have q108 : f106 30 21 = x := by rw [ef106]; exact zu_s
      refine lv_iconst (v := nI 1) hx hb dX12_end_24 (by decide) ?_
      refine W.widen (k := 0) (n := 0) (by decide) (by decide) ?_
      exact W.zret (v := nI 1) hx hb hr (by decide) (fun t9 ht9 hW9 => ⟨⟨nI 1, f106, rfl, ⟨Or.inl ⟨rfl, by omega, by omega, q108⟩, fun a b h => by rw [ef106, zu_n (by omega), ef101, zu_n (by omega)]⟩, zEnd1 hH ht9 hW9⟩, hS.F ht9⟩) hS.2.2 dX12_end_25
    · have zc105 := c105
      replace zc105 := zc_nle (rfl) (nI_toInt (by omega)) zc105
      refine lv_iconst (v := nI 0) hx hb dX12_end_17 (by decide) ?_
      refine W.widen (k := 0) (n := 0) (by decide) (by decide) ?_
      exact W.zret (v := nI 0) hx hb hr (by decide) (fun t9 ht9 hW9 => ⟨⟨nI 0, f101, rfl, ⟨Or.inr ⟨rfl, fun h9 => by have h91 := h9.1; have h92 := h9.2; omega, q102⟩, fun a b h => by rw [ef101, zu_n (by omega)]⟩, zEnd1 hH ht9 hW9⟩, hS.F ht9⟩) hS.2.2 dX12_end_18
/-- the model's things -/
def zMt (fi : zFi) (n : Nat) : Prop := n ≤ 30 ∧ fi 30 2 = nI n ∧ ∀ t, t < n → ∃ k, k ≤ 4 ∧ fi 36 t = nI k
theorem zMt.ci {fi fi' : zFi} {n : Nat} (h : zMt fi n) (hi : ∀ i k, (i = 30 ∧ k = 2) ∨ i = 36 → fi' i k = fi i k) : zMt fi' n := ⟨h.1, by rw [hi 30 2 (by omega)]; exact h.2.1, fun t q => by rw [hi 36 t (by omega)]; exact h.2.2 t q⟩
set_option maxHeartbeats 4000000 in
set_option maxRecDepth 100000 in
/-- thingOf -/
theorem m_thingOf (l : Launch) (hl0 : l.stackTraces = false) (D : va_G) (A : Nat → Prop) (sad : Nat → Nat) (τ : zTy) (fi : zFi) (fr : zFr) (ol : Int64) (x : Int32) (hF : zFix τ fr) (n : Nat) (hn : fi 30 2 = nI n) (hnB : n ≤ 30) : Met l yX12_thingOf wsX12_thingOf ({ frames := 0, cells := 0, slots := 0, locals := 0 }) (va_Pc [.ref (τ.1 30), .int x] (zQc D A sad τ fi fr ol)) (va_Qi (fun (r : Int32) (u : Unit) => (∃ t, t < n ∧ fi 31 t = x ∧ (∀ j, j < t → ¬ fi 31 j = x) ∧ r = nI t) ∨ ((∀ j, j < n → ¬ fi 31 j = x) ∧ r = -1)) (fun (u : Unit) (t : State) => zH D A τ fi fr ol t t.heap) A) 0 0 A := by
  refine Met.ofW (cc := cX12_thingOf) (maxL := 3) (ret := (some .int)) (by decide) rfl ?_
  intro p9 e9 s m args below meth c9 s₁ B hml hv
  obtain ⟨rfl, hz, hH, hA⟩ := hv
  have hx := B.exec
  have hb := B.bytes
  have hr := B.returns
  have hts := atoms_spec (ws := wsX12_thingOf) B.pre
  have hown : s.vm.findClass RX12 = some m.cls := findClass_of_methodNamed B.named
  have hlocks := B.notSynchronized
  have hS : va_S A s.heap s.heap [] := va_S.rf
  have hl := lv_entry ([.ref (τ.1 30), .int x]) (n := 3) (Nat.le_of_ble_eq_true rfl)
  rw [lg_entry_eq]
  generalize (lg_sl ([.ref (τ.1 30), .int x]) ++ List.replicate (3 - (lg_sl ([.ref (τ.1 30), .int x])).length) Slot.unset).toArray = ls at hl ⊢
  have hl : lv_has ls 3 [(0, .ref (τ.1 30)), (1, .int x)] := hl
  have hiX12 : ∀ w ∈ u_ws RX12 TX12 71, w ∈ wsX12_thingOf := fun _ h => List.mem_cons_of_mem _ (List.mem_append_right _ h)
  have hw1 := hts (.fieldLink RX12 168 "PostHouseModel" "things" "I") (by decide +kernel)
  have hw2 := hts (.fieldLink RX12 7 "PostHouseModel" "code" "[I") (by decide +kernel)
  refine lv_iconst (v := nI 0) hx hb dX12_thingOf_0 (by decide) ?_
  refine lv_istore_n (lv' := [(2, .int (nI 0)), (0, .ref (τ.1 30)), (1, .int x)]) hx hb dX12_thingOf_1 rfl hl (by decide) rfl (fun ls hl => ?_)
  refine zLp (σ := Nat) (fun x9 k9 H locs ls => (fun (i : Nat) => k9 = n - i ∧ (i ≤ n ∧ ∀ j, j < i → ¬ fi 31 j = x) ∧ zH D A τ fi fr ol s H ∧ va_S A s.heap H locs ∧ lv_has ls 3 [(0, .ref (τ.1 30)), (1, .int x), (2, .int (nI i))]) x9) 0 (n - 0) (show n - 0 = n - 0 ∧ (0 ≤ n ∧ ∀ j, j < 0 → ¬ fi 31 j = x) ∧ zH D A τ fi fr ol s _ ∧ va_S A s.heap _ _ ∧ lv_has _ 3 [(0, .ref (τ.1 30)), (1, .int x), (2, .int (nI 0))] from ⟨rfl, ⟨Nat.zero_le _, fun j h => absurd h (by omega)⟩, hH, hS, lv_sub hl [1, 2, 0] rfl⟩) (fun k9 ih x9 H locs ls hv9 => ?_)
  generalize x9 = i at hv9
  have hv9 : k9 = n - i ∧ (i ≤ n ∧ ∀ j, j < i → ¬ fi 31 j = x) ∧ zH D A τ fi fr ol s H ∧ va_S A s.heap H locs ∧ lv_has ls 3 [(0, .ref (τ.1 30)), (1, .int x), (2, .int (nI i))] := hv9
  obtain ⟨hkih101, hv9, hH, hS, hl⟩ := hv9
  obtain ⟨h1, hj⟩ := hv9
  have ih101 := ih
  clear ih
  refine lv_iload_n hx hb dX12_thingOf_2 rfl (lv_at hl 2 rfl) ?_
  refine lv_aload_n hx hb dX12_thingOf_3 rfl (lv_at hl 0 rfl) ?_
  refine zGetI (D := D) (ci := 12) (C := RX12) (T := TX12) (N := 71) hx hb hts hiX12 hown hH (zk_30 hF) rfl 2 (by decide) rfl hw1 (fun _ h9 => h9) dX12_thingOf_4 hn ?_
  refine lv_icmp_ge (tgt := 28) hx hb dX12_thingOf_7 (by decide) (fun c102 => ?_) (fun c102 => ?_)
  · have zc102 := c102
    replace zc102 := zc_le (nI_toInt (by omega)) (nI_toInt (by omega)) zc102
    refine lv_iconst (v := (-1)) hx hb dX12_thingOf_28 (by decide) ?_
    refine W.widen (k := 0) (n := 0) (by decide) (by decide) ?_
    exact W.iret (v := (-1)) hx hb hr (fun t9 ht9 hW9 => ⟨⟨(-1), (), rfl, Or.inr ⟨fun j h => hj j (by omega), rfl⟩, zEnd1 hH ht9 hW9⟩, hS.F ht9⟩) hS.2.2 dX12_thingOf_29
  · have zc102 := c102
    replace zc102 := zc_nle (nI_toInt (by omega)) (nI_toInt (by omega)) zc102
    refine lv_aload_n hx hb dX12_thingOf_10 rfl (lv_at hl 0 rfl) ?_
    refine zGetR (D := D) (ci := 12) (C := RX12) (T := TX12) (N := 71) hx hb hts hiX12 hown hH (zk_30 hF) rfl 3 (by decide) rfl hw2 (fun _ h9 => h9) dX12_thingOf_11 (zr_30_3 hF) ?_
    refine lv_iload_n hx hb dX12_thingOf_14 rfl (lv_at hl 2 rfl) ?_
    refine zIaldN (D := D) hx hb hH (zk_31 hF) (zn_31 hF) (by omega) (by omega) rfl dX12_thingOf_15 ?_
    refine lv_iload_n hx hb dX12_thingOf_16 rfl (lv_at hl 1 rfl) ?_
    refine lv_icmp_ne (tgt := 22) hx hb dX12_thingOf_17 (by decide) (fun c103 => ?_) (fun c103 => ?_)
    · have zc103 := c103
      replace zc103 := zc_neq (rfl) (rfl) zc103
      refine lv_iinc (v := nI (i + 1)) (lv' := [(2, .int (nI (i + 1))), (0, .ref (τ.1 30)), (1, .int x)]) hx hb dX12_thingOf_22 hl (k := 2) rfl (by rw [show (Int32.ofInt 1 : Int32) = nI 1 from by decide, nI_add]) (by decide) rfl (fun ls hl => ?_)
      refine lv_goto (tgt := 2) hx hb dX12_thingOf_25 (by decide) ?_
      exact ih101 (n - (i + 1)) (by omega) (i + 1) _ _ _ (show n - (i + 1) = n - (i + 1) ∧ ((i + 1) ≤ n ∧ ∀ j, j < (i + 1) → ¬ fi 31 j = x) ∧ zH D A τ fi fr ol s _ ∧ va_S A s.heap _ _ ∧ lv_has _ 3 [(0, .ref (τ.1 30)), (1, .int x), (2, .int (nI (i + 1)))] from ⟨rfl, ⟨by omega, fun j h => by by_cases h7 : j = i; (subst h7; exact c103); exact hj j (by omega)⟩, hH, hS, lv_sub hl [1, 2, 0] rfl⟩)
    · have zc103 := c103
      replace zc103 := zc_eq (rfl) (rfl) zc103
      refine lv_iload_n hx hb dX12_thingOf_20 rfl (lv_at hl 2 rfl) ?_
      refine W.widen (k := 0) (n := 0) (by decide) (by decide) ?_
      exact W.iret (v := nI i) hx hb hr (fun t9 ht9 hW9 => ⟨⟨nI i, (), rfl, Or.inl ⟨i, by omega, c103, hj, rfl⟩, zEnd1 hH ht9 hW9⟩, hS.F ht9⟩) hS.2.2 dX12_thingOf_21
set_option maxHeartbeats 4000000 in
set_option maxRecDepth 100000 in
/-- thing -/
theorem m_thing (l : Launch) (hl0 : l.stackTraces = false) (D : va_G) (A : Nat → Prop) (sad : Nat → Nat) (τ : zTy) (fi : zFi) (fr : zFr) (ol : Int64) (hF : zFix τ fr) (n : Nat) (hMt : zMt fi n) (x1 x2 x3 x4 : Int32) : Met l yX12_thing wsX12_thing ({ frames := 1, cells := 0, slots := 0, locals := 22 }) (va_Pc [.ref (τ.1 30), .int x1, .int x2, .int x3, .int x4] (zQc D A sad τ fi fr ol)) (va_Qi (fun (r : Int32) (u : zFi) => ((0 ≤ x1.toInt ∧ x1.toInt ≤ 9999 ∧ 1 ≤ x2.toInt ∧ x2.toInt ≤ 2000 ∧ 0 ≤ x3.toInt ∧ x3.toInt ≤ 7 ∧ 1 ≤ x4.toInt ∧ x4.toInt ≤ 20 ∧ ∀ j, j < n → ¬ fi 31 j = x1) ∧ n < 30 ∧ r = nI n ∧ u = zu (zu (zu (zu (zu (zu (zu (zu fi 30 0 (nI 0)) 31 n x1) 32 n x2) 33 n x3) 34 n x4) 35 n (nI 0)) 36 n (nI 0)) 30 2 (nI (n + 1))) ∨ (¬ (0 ≤ x1.toInt ∧ x1.toInt ≤ 9999 ∧ 1 ≤ x2.toInt ∧ x2.toInt ≤ 2000 ∧ 0 ≤ x3.toInt ∧ x3.toInt ≤ 7 ∧ 1 ≤ x4.toInt ∧ x4.toInt ≤ 20 ∧ ∀ j, j < n → ¬ fi 31 j = x1) ∧ r = nI 0 ∧ u = zu fi 30 0 (nI 1)) ∨ ((0 ≤ x1.toInt ∧ x1.toInt ≤ 9999 ∧ 1 ≤ x2.toInt ∧ x2.toInt ≤ 2000 ∧ 0 ≤ x3.toInt ∧ x3.toInt ≤ 7 ∧ 1 ≤ x4.toInt ∧ x4.toInt ≤ 20 ∧ ∀ j, j < n → ¬ fi 31 j = x1) ∧ n = 30 ∧ r = nI 0 ∧ u = zu fi 30 0 (nI 2))) (fun (u : zFi) (t : State) => zH D A τ u fr ol t t.heap) A) 0 0 A := by
  refine Met.ofW (cc := cX12_thing) (maxL := 6) (ret := (some .int)) (by decide) rfl ?_
  intro p9 e9 s m args below meth c9 s₁ B hml hv
  obtain ⟨rfl, hz, hH, hA⟩ := hv
  have hx := B.exec
  have hb := B.bytes
  have hr := B.returns
  have hts := atoms_spec (ws := wsX12_thing) B.pre
  have hown : s.vm.findClass RX12 = some m.cls := findClass_of_methodNamed B.named
  have hlocks := B.notSynchronized
  have hS : va_S A s.heap s.heap [] := va_S.rf
  have hl := lv_entry ([.ref (τ.1 30), .int x1, .int x2, .int x3, .int x4]) (n := 6) (Nat.le_of_ble_eq_true rfl)
  rw [lg_entry_eq]
  generalize (lg_sl ([.ref (τ.1 30), .int x1, .int x2, .int x3, .int x4]) ++ List.replicate (6 - (lg_sl ([.ref (τ.1 30), .int x1, .int x2, .int x3, .int x4])).length) Slot.unset).toArray = ls at hl ⊢
  have hl : lv_has ls 6 [(0, .ref (τ.1 30)), (1, .int x1), (2, .int x2), (3, .int x3), (4, .int x4)] := hl
  have hm30 := hMt.1
  have hw0 := hts (.fieldLink RX12 165 "PostHouseModel" "thrown" "I") (by decide +kernel)
  have hiX12 : ∀ w ∈ u_ws RX12 TX12 71, w ∈ wsX12_thing := fun _ h => List.mem_cons_of_mem _ (List.mem_append_right _ h)
  have hw2 := hts (.fieldLink RX12 168 "PostHouseModel" "things" "I") (by decide +kernel)
  have hw3 := hts (.fieldLink RX12 7 "PostHouseModel" "code" "[I") (by decide +kernel)
  have hw4 := hts (.fieldLink RX12 13 "PostHouseModel" "weight" "[I") (by decide +kernel)
  have hw5 := hts (.fieldLink RX12 16 "PostHouseModel" "street" "[I") (by decide +kernel)
  have hw6 := hts (.fieldLink RX12 19 "PostHouseModel" "place" "[I") (by decide +kernel)
  have hw7 := hts (.fieldLink RX12 22 "PostHouseModel" "stock" "[I") (by decide +kernel)
  have hw8 := hts (.fieldLink RX12 25 "PostHouseModel" "prices" "[I") (by decide +kernel)
  refine lv_iload_n hx hb dX12_thing_0 rfl (lv_at hl 1 rfl) ?_
  refine lv_iconst (v := nI 0) hx hb dX12_thing_1 (by decide) ?_
  refine lv_sipush (v := nI 9999) hx hb dX12_thing_2 (by decide) ?_
  refine va_calli (va_runS (As := [.int x1, .int (nI 0), .int (nI 9999)]) (rest := []) ⟨hx, hb, hml, hown, hts⟩ (m_isIn l hl0 D A sad τ fi fr ol x1 (nI 0) (nI 9999)) (cwS 3 hts gX12_thing_X12_isIn rfl rfl rfl (by decide +kernel) ⟨Nat.le_of_ble_eq_true rfl, Nat.le_of_ble_eq_true rfl⟩) ⟨zQc_bl, zQc_at hz hS hA hH⟩ rfl rfl hl.1 rfl (lv_room (Nat.le_of_ble_eq_true rfl)) dX12_thing_5 ⟨Nat.le_of_ble_eq_true rfl, Nat.le_of_ble_eq_true rfl⟩) hS (fun q _ h => h) (fun q h => h) (fun r101 u9 t9 H1 locs ht9 hvm9 hw hB hz1 hk1 hS => ?_)
  have hH := zMv ht9 hvm9 hB
  generalize H1 = H at hH hS ⊢
  rcases hw with ⟨rfl, hy102⟩ | ⟨rfl, hn103⟩
  · skip
    replace hy102 := zWi1 (rfl) (nI_toInt (by omega)) (nI_toInt (by omega)) hy102
    refine lv_if_eq (tgt := 56) hx hb dX12_thing_8 (by decide) (fun c104 => absurd c104 (by decide)) (fun c104 => ?_)
    refine lv_iload_n hx hb dX12_thing_11 rfl (lv_at hl 2 rfl) ?_
    refine lv_iconst (v := nI 1) hx hb dX12_thing_12 (by decide) ?_
    refine lv_sipush (v := nI 2000) hx hb dX12_thing_13 (by decide) ?_
    refine va_calli (va_runS (As := [.int x2, .int (nI 1), .int (nI 2000)]) (rest := []) ⟨hx, hb, hml, hown, hts⟩ (m_isIn l hl0 D A sad τ fi fr ol x2 (nI 1) (nI 2000)) (cwS 3 hts gX12_thing_X12_isIn rfl rfl rfl (by decide +kernel) ⟨Nat.le_of_ble_eq_true rfl, Nat.le_of_ble_eq_true rfl⟩) ⟨zQc_bl, zQc_at hz hS hA hH⟩ rfl rfl hl.1 rfl (lv_room (Nat.le_of_ble_eq_true rfl)) dX12_thing_16 ⟨Nat.le_of_ble_eq_true rfl, Nat.le_of_ble_eq_true rfl⟩) hS (fun q _ h => h) (fun q h => h) (fun r105 u9 t9 H1 locs ht9 hvm9 hw hB hz1 hk1 hS => ?_)
    have hH := zMv ht9 hvm9 hB
    generalize H1 = H at hH hS ⊢
    rcases hw with ⟨rfl, hy106⟩ | ⟨rfl, hn107⟩
    · skip
      replace hy106 := zWi1 (rfl) (nI_toInt (by omega)) (nI_toInt (by omega)) hy106
      refine lv_if_eq (tgt := 56) hx hb dX12_thing_19 (by decide) (fun c108 => absurd c108 (by decide)) (fun c108 => ?_)
      refine lv_iload_n hx hb dX12_thing_22 rfl (lv_at hl 3 rfl) ?_
      refine lv_iconst (v := nI 0) hx hb dX12_thing_23 (by decide) ?_
      refine lv_bipush (v := nI 7) hx hb dX12_thing_24 (by decide) ?_
      refine va_calli (va_runS (As := [.int x3, .int (nI 0), .int (nI 7)]) (rest := []) ⟨hx, hb, hml, hown, hts⟩ (m_isIn l hl0 D A sad τ fi fr ol x3 (nI 0) (nI 7)) (cwS 3 hts gX12_thing_X12_isIn rfl rfl rfl (by decide +kernel) ⟨Nat.le_of_ble_eq_true rfl, Nat.le_of_ble_eq_true rfl⟩) ⟨zQc_bl, zQc_at hz hS hA hH⟩ rfl rfl hl.1 rfl (lv_room (Nat.le_of_ble_eq_true rfl)) dX12_thing_26 ⟨Nat.le_of_ble_eq_true rfl, Nat.le_of_ble_eq_true rfl⟩) hS (fun q _ h => h) (fun q h => h) (fun r109 u9 t9 H1 locs ht9 hvm9 hw hB hz1 hk1 hS => ?_)
      have hH := zMv ht9 hvm9 hB
      generalize H1 = H at hH hS ⊢
      rcases hw with ⟨rfl, hy110⟩ | ⟨rfl, hn111⟩
      · skip
        replace hy110 := zWi1 (rfl) (nI_toInt (by omega)) (nI_toInt (by omega)) hy110
        refine lv_if_eq (tgt := 56) hx hb dX12_thing_29 (by decide) (fun c112 => absurd c112 (by decide)) (fun c112 => ?_)
        refine lv_iload hx hb dX12_thing_32 (lv_at hl 4 rfl) ?_
        refine lv_iconst (v := nI 1) hx hb dX12_thing_34 (by decide) ?_
        refine lv_bipush (v := nI 20) hx hb dX12_thing_35 (by decide) ?_
        refine va_calli (va_runS (As := [.int x4, .int (nI 1), .int (nI 20)]) (rest := []) ⟨hx, hb, hml, hown, hts⟩ (m_isIn l hl0 D A sad τ fi fr ol x4 (nI 1) (nI 20)) (cwS 3 hts gX12_thing_X12_isIn rfl rfl rfl (by decide +kernel) ⟨Nat.le_of_ble_eq_true rfl, Nat.le_of_ble_eq_true rfl⟩) ⟨zQc_bl, zQc_at hz hS hA hH⟩ rfl rfl hl.1 rfl (lv_room (Nat.le_of_ble_eq_true rfl)) dX12_thing_37 ⟨Nat.le_of_ble_eq_true rfl, Nat.le_of_ble_eq_true rfl⟩) hS (fun q _ h => h) (fun q h => h) (fun r113 u9 t9 H1 locs ht9 hvm9 hw hB hz1 hk1 hS => ?_)
        have hH := zMv ht9 hvm9 hB
        generalize H1 = H at hH hS ⊢
        rcases hw with ⟨rfl, hy114⟩ | ⟨rfl, hn115⟩
        · skip
          replace hy114 := zWi1 (rfl) (nI_toInt (by omega)) (nI_toInt (by omega)) hy114
          refine lv_if_eq (tgt := 56) hx hb dX12_thing_40 (by decide) (fun c116 => absurd c116 (by decide)) (fun c116 => ?_)
          refine lv_aload_n hx hb dX12_thing_43 rfl (lv_at hl 0 rfl) ?_
          refine lv_iload_n hx hb dX12_thing_44 rfl (lv_at hl 1 rfl) ?_
          refine va_calli (va_runV (As := [.int x1]) (rest := []) ⟨hx, hb, hml, hown, hts⟩ (m_thingOf l hl0 D A sad τ fi fr ol x1 hF n hMt.2.1 (by omega)) (cwV 1 hts gX12_thing_X12_thingOf rfl rfl rfl (by decide +kernel) ⟨Nat.le_of_ble_eq_true rfl, Nat.le_of_ble_eq_true rfl⟩) ⟨zQc_bl, zRecv hH (zk_30 hF) rfl, zQc_at hz hS hA hH⟩ rfl rfl hl.1 rfl (lv_room (Nat.le_of_ble_eq_true rfl)) dX12_thing_45 ⟨Nat.le_of_ble_eq_true rfl, Nat.le_of_ble_eq_true rfl⟩) hS (fun q _ h => h) (fun q h => h) (fun r117 u9 t9 H1 locs ht9 hvm9 hw hB hz1 hk1 hS => ?_)
          have hH := zMv ht9 hvm9 hB
          generalize H1 = H at hH hS ⊢
          rcases hw with ⟨t118, ht118, hcd, hcl, rfl⟩ | ⟨hno, rfl⟩
          · skip
            refine lv_iconst (v := (-1)) hx hb dX12_thing_48 (by decide) ?_
            refine lv_icmp_ne (tgt := 56) hx hb dX12_thing_49 (by decide) (fun c119 => ?_) (fun c119 => False.elim (by have zc119 := zc_eq (nI_toInt (by omega)) ((by decide : ((-1) : Int32).toInt = (-1))) c119; omega))
            refine lv_iconst (v := nI 0) hx hb dX12_thing_56 (by decide) ?_
            refine lv_istore (lv' := [(5, .int (nI 0)), (0, .ref (τ.1 30)), (1, .int x1), (2, .int x2), (3, .int x3), (4, .int x4)]) hx hb dX12_thing_57 hl (by decide) rfl (fun ls hl => ?_)
            refine lv_aload_n hx hb dX12_thing_59 rfl (lv_at hl 1 rfl) ?_
            refine lv_iload hx hb dX12_thing_60 (lv_at hl 0 rfl) ?_
            refine lv_if_ne (tgt := 69) hx hb dX12_thing_62 (by decide) (fun c120 => absurd (by decide) c120) (fun c120 => ?_)
            refine lv_iconst (v := nI 1) hx hb dX12_thing_65 (by decide) ?_
            refine lv_goto (tgt := 83) hx hb dX12_thing_66 (by decide) ?_
            refine zPutI (D := D) (ci := 12) (ty := .int) (C := RX12) (T := TX12) (N := 71) hx hb hts hiX12 tyX12 tyX12_ok nmX12 hown hH hS (zk_30 hF) rfl 0 (by decide) rfl hw0 (fun _ h9 => h9) rfl (by decide +kernel) rfl rfl dX12_thing_83 (fun H locs hH hS => ?_)
            obtain ⟨f121, ef121⟩ : ∃ f9 : zFi, f9 = zu fi 30 0 (nI 1) := ⟨_, rfl⟩
            rw [← ef121] at hH
            have q122 : f121 30 2 = nI n := by rw [ef121, zu_n (fun h9 => absurd h9.2 (by decide))]; exact hMt.2.1
            have q123 : f121 30 0 = nI 1 := by rw [ef121]; exact zu_s
            refine lv_aload_n hx hb dX12_thing_86 rfl (lv_at hl 1 rfl) ?_
            refine zGetI (D := D) (ci := 12) (C := RX12) (T := TX12) (N := 71) hx hb hts hiX12 hown hH (zk_30 hF) rfl 0 (by decide) rfl hw0 (fun _ h9 => h9) dX12_thing_87 q123 ?_
            refine lv_if_le (tgt := 95) hx hb dX12_thing_90 (by decide) (fun c124 => absurd c124 (by decide)) (fun c124 => ?_)
            refine lv_iconst (v := nI 0) hx hb dX12_thing_93 (by decide) ?_
            refine W.widen (k := 0) (n := 0) (by decide) (by decide) ?_
            exact W.iret (v := nI 0) hx hb hr (fun t9 ht9 hW9 => ⟨⟨nI 0, f121, rfl, Or.inr (Or.inl ⟨fun h9 => h9.2.2.2.2.2.2.2.2 t118 ht118 hcd, rfl, by rw [ef121]⟩), zEnd1 hH ht9 hW9⟩, hS.F ht9⟩) hS.2.2 dX12_thing_94
          · skip
            refine lv_iconst (v := (-1)) hx hb dX12_thing_48 (by decide) ?_
            refine lv_icmp_ne (tgt := 56) hx hb dX12_thing_49 (by decide) (fun c125 => absurd (by decide) c125) (fun c125 => ?_)
            refine lv_iconst (v := nI 1) hx hb dX12_thing_52 (by decide) ?_
            refine lv_goto (tgt := 57) hx hb dX12_thing_53 (by decide) ?_
            refine lv_istore (lv' := [(5, .int (nI 1)), (0, .ref (τ.1 30)), (1, .int x1), (2, .int x2), (3, .int x3), (4, .int x4)]) hx hb dX12_thing_57 hl (by decide) rfl (fun ls hl => ?_)
            refine lv_aload_n hx hb dX12_thing_59 rfl (lv_at hl 1 rfl) ?_
            refine lv_iload hx hb dX12_thing_60 (lv_at hl 0 rfl) ?_
            refine lv_if_ne (tgt := 69) hx hb dX12_thing_62 (by decide) (fun c126 => ?_) (fun c126 => absurd c126 (by decide))
            refine lv_aload_n hx hb dX12_thing_69 rfl (lv_at hl 1 rfl) ?_
            refine zGetI (D := D) (ci := 12) (C := RX12) (T := TX12) (N := 71) hx hb hts hiX12 hown hH (zk_30 hF) rfl 2 (by decide) rfl hw2 (fun _ h9 => h9) dX12_thing_70 hMt.2.1 ?_
            refine lv_bipush (v := nI 30) hx hb dX12_thing_73 (by decide) ?_
            refine lv_icmp_ne (tgt := 82) hx hb dX12_thing_75 (by decide) (fun c127 => ?_) (fun c127 => ?_)
            · have zc127 := c127
              replace zc127 := zc_neq (nI_toInt (by omega)) (nI_toInt (by omega)) zc127
              refine lv_iconst (v := nI 0) hx hb dX12_thing_82 (by decide) ?_
              refine zPutI (D := D) (ci := 12) (ty := .int) (C := RX12) (T := TX12) (N := 71) hx hb hts hiX12 tyX12 tyX12_ok nmX12 hown hH hS (zk_30 hF) rfl 0 (by decide) rfl hw0 (fun _ h9 => h9) rfl (by decide +kernel) rfl rfl dX12_thing_83 (fun H locs hH hS => ?_)
              obtain ⟨f128, ef128⟩ : ∃ f9 : zFi, f9 = zu fi 30 0 (nI 0) := ⟨_, rfl⟩
              rw [← ef128] at hH
              have q129 : f128 30 2 = nI n := by rw [ef128, zu_n (fun h9 => absurd h9.2 (by decide))]; exact hMt.2.1
              have q130 : f128 30 0 = nI 0 := by rw [ef128]; exact zu_s
              refine lv_aload_n hx hb dX12_thing_86 rfl (lv_at hl 1 rfl) ?_
              refine zGetI (D := D) (ci := 12) (C := RX12) (T := TX12) (N := 71) hx hb hts hiX12 hown hH (zk_30 hF) rfl 0 (by decide) rfl hw0 (fun _ h9 => h9) dX12_thing_87 q130 ?_
              refine lv_if_le (tgt := 95) hx hb dX12_thing_90 (by decide) (fun c131 => ?_) (fun c131 => absurd (by decide) c131)
              refine lv_aload_n hx hb dX12_thing_95 rfl (lv_at hl 1 rfl) ?_
              refine zGetR (D := D) (ci := 12) (C := RX12) (T := TX12) (N := 71) hx hb hts hiX12 hown hH (zk_30 hF) rfl 3 (by decide) rfl hw3 (fun _ h9 => h9) dX12_thing_96 (zr_30_3 hF) ?_
              refine lv_aload_n hx hb dX12_thing_99 rfl (lv_at hl 1 rfl) ?_
              refine zGetI (D := D) (ci := 12) (C := RX12) (T := TX12) (N := 71) hx hb hts hiX12 hown hH (zk_30 hF) rfl 2 (by decide) rfl hw2 (fun _ h9 => h9) dX12_thing_100 q129 ?_
              refine lv_iload_n hx hb dX12_thing_103 rfl (lv_at hl 2 rfl) ?_
              refine zIastN (D := D) hx hb hH hS (zk_31 hF) (zn_31 hF) (by omega) (by omega) dX12_thing_104 (fun H locs hH hS => ?_)
              obtain ⟨f132, ef132⟩ : ∃ f9 : zFi, f9 = zu f128 31 n x1 := ⟨_, rfl⟩
              rw [← ef132] at hH
              have q133 : f132 30 2 = nI n := by rw [ef132, zu_n (fun h9 => absurd h9.1 (by decide))]; exact q129
              have q134 : f132 30 0 = nI 0 := by rw [ef132, zu_n (fun h9 => absurd h9.1 (by decide))]; exact q130
              have q135 : f132 31 n = x1 := by rw [ef132]; exact zu_s
              refine lv_aload_n hx hb dX12_thing_105 rfl (lv_at hl 1 rfl) ?_
              refine zGetR (D := D) (ci := 12) (C := RX12) (T := TX12) (N := 71) hx hb hts hiX12 hown hH (zk_30 hF) rfl 4 (by decide) rfl hw4 (fun _ h9 => h9) dX12_thing_106 (zr_30_4 hF) ?_
              refine lv_aload_n hx hb dX12_thing_109 rfl (lv_at hl 1 rfl) ?_
              refine zGetI (D := D) (ci := 12) (C := RX12) (T := TX12) (N := 71) hx hb hts hiX12 hown hH (zk_30 hF) rfl 2 (by decide) rfl hw2 (fun _ h9 => h9) dX12_thing_110 q133 ?_
              refine lv_iload_n hx hb dX12_thing_113 rfl (lv_at hl 3 rfl) ?_
              refine zIastN (D := D) hx hb hH hS (zk_32 hF) (zn_32 hF) (by omega) (by omega) dX12_thing_114 (fun H locs hH hS => ?_)
              obtain ⟨f136, ef136⟩ : ∃ f9 : zFi, f9 = zu f132 32 n x2 := ⟨_, rfl⟩
              rw [← ef136] at hH
              have q137 : f136 30 2 = nI n := by rw [ef136, zu_n (fun h9 => absurd h9.1 (by decide))]; exact q133
              have q138 : f136 30 0 = nI 0 := by rw [ef136, zu_n (fun h9 => absurd h9.1 (by decide))]; exact q134
              have q139 : f136 31 n = x1 := by rw [ef136, zu_n (fun h9 => absurd h9.1 (by decide))]; exact q135
              have q140 : f136 32 n = x2 := by rw [ef136]; exact zu_s
              refine lv_aload_n hx hb dX12_thing_115 rfl (lv_at hl 1 rfl) ?_
              refine zGetR (D := D) (ci := 12) (C := RX12) (T := TX12) (N := 71) hx hb hts hiX12 hown hH (zk_30 hF) rfl 5 (by decide) rfl hw5 (fun _ h9 => h9) dX12_thing_116 (zr_30_5 hF) ?_
              refine lv_aload_n hx hb dX12_thing_119 rfl (lv_at hl 1 rfl) ?_
              refine zGetI (D := D) (ci := 12) (C := RX12) (T := TX12) (N := 71) hx hb hts hiX12 hown hH (zk_30 hF) rfl 2 (by decide) rfl hw2 (fun _ h9 => h9) dX12_thing_120 q137 ?_
              refine lv_iload_n hx hb dX12_thing_123 rfl (lv_at hl 4 rfl) ?_
              refine zIastN (D := D) hx hb hH hS (zk_33 hF) (zn_33 hF) (by omega) (by omega) dX12_thing_124 (fun H locs hH hS => ?_)
              obtain ⟨f141, ef141⟩ : ∃ f9 : zFi, f9 = zu f136 33 n x3 := ⟨_, rfl⟩
              rw [← ef141] at hH
              have q142 : f141 30 2 = nI n := by rw [ef141, zu_n (fun h9 => absurd h9.1 (by decide))]; exact q137
              have q143 : f141 30 0 = nI 0 := by rw [ef141, zu_n (fun h9 => absurd h9.1 (by decide))]; exact q138
              have q144 : f141 31 n = x1 := by rw [ef141, zu_n (fun h9 => absurd h9.1 (by decide))]; exact q139
              have q145 : f141 32 n = x2 := by rw [ef141, zu_n (fun h9 => absurd h9.1 (by decide))]; exact q140
              have q146 : f141 33 n = x3 := by rw [ef141]; exact zu_s
              refine lv_aload_n hx hb dX12_thing_125 rfl (lv_at hl 1 rfl) ?_
              refine zGetR (D := D) (ci := 12) (C := RX12) (T := TX12) (N := 71) hx hb hts hiX12 hown hH (zk_30 hF) rfl 6 (by decide) rfl hw6 (fun _ h9 => h9) dX12_thing_126 (zr_30_6 hF) ?_
              refine lv_aload_n hx hb dX12_thing_129 rfl (lv_at hl 1 rfl) ?_
              refine zGetI (D := D) (ci := 12) (C := RX12) (T := TX12) (N := 71) hx hb hts hiX12 hown hH (zk_30 hF) rfl 2 (by decide) rfl hw2 (fun _ h9 => h9) dX12_thing_130 q142 ?_
              refine lv_iload hx hb dX12_thing_133 (lv_at hl 5 rfl) ?_
              refine zIastN (D := D) hx hb hH hS (zk_34 hF) (zn_34 hF) (by omega) (by omega) dX12_thing_135 (fun H locs hH hS => ?_)
              obtain ⟨f147, ef147⟩ : ∃ f9 : zFi, f9 = zu f141 34 n x4 := ⟨_, rfl⟩
              rw [← ef147] at hH
              have q148 : f147 30 2 = nI n := by rw [ef147, zu_n (fun h9 => absurd h9.1 (by decide))]; exact q142
              have q149 : f147 30 0 = nI 0 := by rw [ef147, zu_n (fun h9 => absurd h9.1 (by decide))]; exact q143
              have q150 : f147 31 n = x1 := by rw [ef147, zu_n (fun h9 => absurd h9.1 (by decide))]; exact q144
              have q151 : f147 32 n = x2 := by rw [ef147, zu_n (fun h9 => absurd h9.1 (by decide))]; exact q145
              have q152 : f147 33 n = x3 := by rw [ef147, zu_n (fun h9 => absurd h9.1 (by decide))]; exact q146
              have q153 : f147 34 n = x4 := by rw [ef147]; exact zu_s
              refine lv_aload_n hx hb dX12_thing_136 rfl (lv_at hl 1 rfl) ?_
              refine zGetR (D := D) (ci := 12) (C := RX12) (T := TX12) (N := 71) hx hb hts hiX12 hown hH (zk_30 hF) rfl 7 (by decide) rfl hw7 (fun _ h9 => h9) dX12_thing_137 (zr_30_7 hF) ?_
              refine lv_aload_n hx hb dX12_thing_140 rfl (lv_at hl 1 rfl) ?_
              refine zGetI (D := D) (ci := 12) (C := RX12) (T := TX12) (N := 71) hx hb hts hiX12 hown hH (zk_30 hF) rfl 2 (by decide) rfl hw2 (fun _ h9 => h9) dX12_thing_141 q148 ?_
              refine lv_iconst (v := nI 0) hx hb dX12_thing_144 (by decide) ?_
              refine zIastN (D := D) hx hb hH hS (zk_35 hF) (zn_35 hF) (by omega) (by omega) dX12_thing_145 (fun H locs hH hS => ?_)
              obtain ⟨f154, ef154⟩ : ∃ f9 : zFi, f9 = zu f147 35 n (nI 0) := ⟨_, rfl⟩
              rw [← ef154] at hH
              have q155 : f154 30 2 = nI n := by rw [ef154, zu_n (fun h9 => absurd h9.1 (by decide))]; exact q148
              have q156 : f154 30 0 = nI 0 := by rw [ef154, zu_n (fun h9 => absurd h9.1 (by decide))]; exact q149
              have q157 : f154 31 n = x1 := by rw [ef154, zu_n (fun h9 => absurd h9.1 (by decide))]; exact q150
              have q158 : f154 32 n = x2 := by rw [ef154, zu_n (fun h9 => absurd h9.1 (by decide))]; exact q151
              have q159 : f154 33 n = x3 := by rw [ef154, zu_n (fun h9 => absurd h9.1 (by decide))]; exact q152
              have q160 : f154 34 n = x4 := by rw [ef154, zu_n (fun h9 => absurd h9.1 (by decide))]; exact q153
              have q161 : f154 35 n = nI 0 := by rw [ef154]; exact zu_s
              refine lv_aload_n hx hb dX12_thing_146 rfl (lv_at hl 1 rfl) ?_
              refine zGetR (D := D) (ci := 12) (C := RX12) (T := TX12) (N := 71) hx hb hts hiX12 hown hH (zk_30 hF) rfl 8 (by decide) rfl hw8 (fun _ h9 => h9) dX12_thing_147 (zr_30_8 hF) ?_
              refine lv_aload_n hx hb dX12_thing_150 rfl (lv_at hl 1 rfl) ?_
              refine zGetI (D := D) (ci := 12) (C := RX12) (T := TX12) (N := 71) hx hb hts hiX12 hown hH (zk_30 hF) rfl 2 (by decide) rfl hw2 (fun _ h9 => h9) dX12_thing_151 q155 ?_
              refine lv_iconst (v := nI 0) hx hb dX12_thing_154 (by decide) ?_
              refine zIastN (D := D) hx hb hH hS (zk_36 hF) (zn_36 hF) (by omega) (by omega) dX12_thing_155 (fun H locs hH hS => ?_)
              obtain ⟨f162, ef162⟩ : ∃ f9 : zFi, f9 = zu f154 36 n (nI 0) := ⟨_, rfl⟩
              rw [← ef162] at hH
              have q163 : f162 30 2 = nI n := by rw [ef162, zu_n (fun h9 => absurd h9.1 (by decide))]; exact q155
              have q164 : f162 30 0 = nI 0 := by rw [ef162, zu_n (fun h9 => absurd h9.1 (by decide))]; exact q156
              have q165 : f162 31 n = x1 := by rw [ef162, zu_n (fun h9 => absurd h9.1 (by decide))]; exact q157
              have q166 : f162 32 n = x2 := by rw [ef162, zu_n (fun h9 => absurd h9.1 (by decide))]; exact q158
              have q167 : f162 33 n = x3 := by rw [ef162, zu_n (fun h9 => absurd h9.1 (by decide))]; exact q159
              have q168 : f162 34 n = x4 := by rw [ef162, zu_n (fun h9 => absurd h9.1 (by decide))]; exact q160
              have q169 : f162 35 n = nI 0 := by rw [ef162, zu_n (fun h9 => absurd h9.1 (by decide))]; exact q161
              have q170 : f162 36 n = nI 0 := by rw [ef162]; exact zu_s
              refine lv_aload_n hx hb dX12_thing_156 rfl (lv_at hl 1 rfl) ?_
              refine lv_dup hx hb dX12_thing_157 rfl ?_
              refine zGetI (D := D) (ci := 12) (C := RX12) (T := TX12) (N := 71) hx hb hts hiX12 hown hH (zk_30 hF) rfl 2 (by decide) rfl hw2 (fun _ h9 => h9) dX12_thing_158 q163 ?_
              refine lv_iconst (v := nI 1) hx hb dX12_thing_161 (by decide) ?_
              refine lv_iadd hx hb dX12_thing_162 ?_
              refine lv_topi (fun v171 ev171 => ?_)
              obtain rfl : v171 = nI (n + 1) := ev171.trans (nI_add _ _)
              refine zPutI (D := D) (ci := 12) (ty := .int) (C := RX12) (T := TX12) (N := 71) hx hb hts hiX12 tyX12 tyX12_ok nmX12 hown hH hS (zk_30 hF) rfl 2 (by decide) rfl hw2 (fun _ h9 => h9) rfl (by decide +kernel) rfl rfl dX12_thing_163 (fun H locs hH hS => ?_)
              obtain ⟨f172, ef172⟩ : ∃ f9 : zFi, f9 = zu f162 30 2 (nI (n + 1)) := ⟨_, rfl⟩
              rw [← ef172] at hH
              have q173 : f172 30 0 = nI 0 := by rw [ef172, zu_n (fun h9 => absurd h9.2 (by decide))]; exact q164
              have q174 : f172 31 n = x1 := by rw [ef172, zu_n (fun h9 => absurd h9.1 (by decide))]; exact q165
              have q175 : f172 32 n = x2 := by rw [ef172, zu_n (fun h9 => absurd h9.1 (by decide))]; exact q166
              have q176 : f172 33 n = x3 := by rw [ef172, zu_n (fun h9 => absurd h9.1 (by decide))]; exact q167
              have q177 : f172 34 n = x4 := by rw [ef172, zu_n (fun h9 => absurd h9.1 (by decide))]; exact q168
              have q178 : f172 35 n = nI 0 := by rw [ef172, zu_n (fun h9 => absurd h9.1 (by decide))]; exact q169
              have q179 : f172 36 n = nI 0 := by rw [ef172, zu_n (fun h9 => absurd h9.1 (by decide))]; exact q170
              have q180 : f172 30 2 = nI (n + 1) := by rw [ef172]; exact zu_s
              refine lv_aload_n hx hb dX12_thing_166 rfl (lv_at hl 1 rfl) ?_
              refine zGetI (D := D) (ci := 12) (C := RX12) (T := TX12) (N := 71) hx hb hts hiX12 hown hH (zk_30 hF) rfl 2 (by decide) rfl hw2 (fun _ h9 => h9) dX12_thing_167 q180 ?_
              refine lv_iconst (v := nI 1) hx hb dX12_thing_170 (by decide) ?_
              refine lv_isub hx hb dX12_thing_171 ?_
              refine lv_topi (fun v181 ev181 => ?_)
              obtain rfl : v181 = nI ((n + 1) - 1) := ev181.trans (pk_sub (by omega))
              refine W.widen (k := 0) (n := 0) (by decide) (by decide) ?_
              exact W.iret (v := nI ((n + 1) - 1)) hx hb hr (fun t9 ht9 hW9 => ⟨⟨nI ((n + 1) - 1), f172, rfl, Or.inl ⟨(by have k0 := hy102; have k1 := hy106; have k2 := hy110; have k3 := hy114; refine ⟨?_, ?_, ?_, ?_, ?_, ?_, ?_, ?_, hno⟩ <;> omega), by omega, by rw [show n + 1 - 1 = n by omega], by rw [ef172, ef162, ef154, ef147, ef141, ef136, ef132, ef128]⟩, zEnd1 hH ht9 hW9⟩, hS.F ht9⟩) hS.2.2 dX12_thing_172
            · have zc127 := c127
              replace zc127 := zc_eq (nI_toInt (by omega)) (nI_toInt (by omega)) zc127
              refine lv_iconst (v := nI 2) hx hb dX12_thing_78 (by decide) ?_
              refine lv_goto (tgt := 83) hx hb dX12_thing_79 (by decide) ?_
              refine zPutI (D := D) (ci := 12) (ty := .int) (C := RX12) (T := TX12) (N := 71) hx hb hts hiX12 tyX12 tyX12_ok nmX12 hown hH hS (zk_30 hF) rfl 0 (by decide) rfl hw0 (fun _ h9 => h9) rfl (by decide +kernel) rfl rfl dX12_thing_83 (fun H locs hH hS => ?_)
              obtain ⟨f182, ef182⟩ : ∃ f9 : zFi, f9 = zu fi 30 0 (nI 2) := ⟨_, rfl⟩
              rw [← ef182] at hH
              have q183 : f182 30 2 = nI n := by rw [ef182, zu_n (fun h9 => absurd h9.2 (by decide))]; exact hMt.2.1
              have q184 : f182 30 0 = nI 2 := by rw [ef182]; exact zu_s
              refine lv_aload_n hx hb dX12_thing_86 rfl (lv_at hl 1 rfl) ?_
              refine zGetI (D := D) (ci := 12) (C := RX12) (T := TX12) (N := 71) hx hb hts hiX12 hown hH (zk_30 hF) rfl 0 (by decide) rfl hw0 (fun _ h9 => h9) dX12_thing_87 q184 ?_
              refine lv_if_le (tgt := 95) hx hb dX12_thing_90 (by decide) (fun c185 => absurd c185 (by decide)) (fun c185 => ?_)
              refine lv_iconst (v := nI 0) hx hb dX12_thing_93 (by decide) ?_
              refine W.widen (k := 0) (n := 0) (by decide) (by decide) ?_
              exact W.iret (v := nI 0) hx hb hr (fun t9 ht9 hW9 => ⟨⟨nI 0, f182, rfl, Or.inr (Or.inr ⟨(by have k0 := hy102; have k1 := hy106; have k2 := hy110; have k3 := hy114; refine ⟨?_, ?_, ?_, ?_, ?_, ?_, ?_, ?_, hno⟩ <;> omega), by omega, rfl, by rw [ef182]⟩), zEnd1 hH ht9 hW9⟩, hS.F ht9⟩) hS.2.2 dX12_thing_94
        · skip
          replace hn115 := zWi0 (rfl) (nI_toInt (by omega)) (nI_toInt (by omega)) hn115
          refine lv_if_eq (tgt := 56) hx hb dX12_thing_40 (by decide) (fun c186 => ?_) (fun c186 => absurd (by decide) c186)
          refine lv_iconst (v := nI 0) hx hb dX12_thing_56 (by decide) ?_
          refine lv_istore (lv' := [(5, .int (nI 0)), (0, .ref (τ.1 30)), (1, .int x1), (2, .int x2), (3, .int x3), (4, .int x4)]) hx hb dX12_thing_57 hl (by decide) rfl (fun ls hl => ?_)
          refine lv_aload_n hx hb dX12_thing_59 rfl (lv_at hl 1 rfl) ?_
          refine lv_iload hx hb dX12_thing_60 (lv_at hl 0 rfl) ?_
          refine lv_if_ne (tgt := 69) hx hb dX12_thing_62 (by decide) (fun c187 => absurd (by decide) c187) (fun c187 => ?_)
          refine lv_iconst (v := nI 1) hx hb dX12_thing_65 (by decide) ?_
          refine lv_goto (tgt := 83) hx hb dX12_thing_66 (by decide) ?_
          refine zPutI (D := D) (ci := 12) (ty := .int) (C := RX12) (T := TX12) (N := 71) hx hb hts hiX12 tyX12 tyX12_ok nmX12 hown hH hS (zk_30 hF) rfl 0 (by decide) rfl hw0 (fun _ h9 => h9) rfl (by decide +kernel) rfl rfl dX12_thing_83 (fun H locs hH hS => ?_)
          obtain ⟨f188, ef188⟩ : ∃ f9 : zFi, f9 = zu fi 30 0 (nI 1) := ⟨_, rfl⟩
          rw [← ef188] at hH
          have q189 : f188 30 2 = nI n := by rw [ef188, zu_n (fun h9 => absurd h9.2 (by decide))]; exact hMt.2.1
          have q190 : f188 30 0 = nI 1 := by rw [ef188]; exact zu_s
          refine lv_aload_n hx hb dX12_thing_86 rfl (lv_at hl 1 rfl) ?_
          refine zGetI (D := D) (ci := 12) (C := RX12) (T := TX12) (N := 71) hx hb hts hiX12 hown hH (zk_30 hF) rfl 0 (by decide) rfl hw0 (fun _ h9 => h9) dX12_thing_87 q190 ?_
          refine lv_if_le (tgt := 95) hx hb dX12_thing_90 (by decide) (fun c191 => absurd c191 (by decide)) (fun c191 => ?_)
          refine lv_iconst (v := nI 0) hx hb dX12_thing_93 (by decide) ?_
          refine W.widen (k := 0) (n := 0) (by decide) (by decide) ?_
          exact W.iret (v := nI 0) hx hb hr (fun t9 ht9 hW9 => ⟨⟨nI 0, f188, rfl, Or.inr (Or.inl ⟨fun h9 => by obtain ⟨a1, a2, a3, a4, a5, a6, a7, a8, -⟩ := h9; have h8 := hn115; omega, rfl, by rw [ef188]⟩), zEnd1 hH ht9 hW9⟩, hS.F ht9⟩) hS.2.2 dX12_thing_94
      · skip
        replace hn111 := zWi0 (rfl) (nI_toInt (by omega)) (nI_toInt (by omega)) hn111
        refine lv_if_eq (tgt := 56) hx hb dX12_thing_29 (by decide) (fun c192 => ?_) (fun c192 => absurd (by decide) c192)
        refine lv_iconst (v := nI 0) hx hb dX12_thing_56 (by decide) ?_
        refine lv_istore (lv' := [(5, .int (nI 0)), (0, .ref (τ.1 30)), (1, .int x1), (2, .int x2), (3, .int x3), (4, .int x4)]) hx hb dX12_thing_57 hl (by decide) rfl (fun ls hl => ?_)
        refine lv_aload_n hx hb dX12_thing_59 rfl (lv_at hl 1 rfl) ?_
        refine lv_iload hx hb dX12_thing_60 (lv_at hl 0 rfl) ?_
        refine lv_if_ne (tgt := 69) hx hb dX12_thing_62 (by decide) (fun c193 => absurd (by decide) c193) (fun c193 => ?_)
        refine lv_iconst (v := nI 1) hx hb dX12_thing_65 (by decide) ?_
        refine lv_goto (tgt := 83) hx hb dX12_thing_66 (by decide) ?_
        refine zPutI (D := D) (ci := 12) (ty := .int) (C := RX12) (T := TX12) (N := 71) hx hb hts hiX12 tyX12 tyX12_ok nmX12 hown hH hS (zk_30 hF) rfl 0 (by decide) rfl hw0 (fun _ h9 => h9) rfl (by decide +kernel) rfl rfl dX12_thing_83 (fun H locs hH hS => ?_)
        obtain ⟨f194, ef194⟩ : ∃ f9 : zFi, f9 = zu fi 30 0 (nI 1) := ⟨_, rfl⟩
        rw [← ef194] at hH
        have q195 : f194 30 2 = nI n := by rw [ef194, zu_n (fun h9 => absurd h9.2 (by decide))]; exact hMt.2.1
        have q196 : f194 30 0 = nI 1 := by rw [ef194]; exact zu_s
        refine lv_aload_n hx hb dX12_thing_86 rfl (lv_at hl 1 rfl) ?_
        refine zGetI (D := D) (ci := 12) (C := RX12) (T := TX12) (N := 71) hx hb hts hiX12 hown hH (zk_30 hF) rfl 0 (by decide) rfl hw0 (fun _ h9 => h9) dX12_thing_87 q196 ?_
        refine lv_if_le (tgt := 95) hx hb dX12_thing_90 (by decide) (fun c197 => absurd c197 (by decide)) (fun c197 => ?_)
        refine lv_iconst (v := nI 0) hx hb dX12_thing_93 (by decide) ?_
        refine W.widen (k := 0) (n := 0) (by decide) (by decide) ?_
        exact W.iret (v := nI 0) hx hb hr (fun t9 ht9 hW9 => ⟨⟨nI 0, f194, rfl, Or.inr (Or.inl ⟨fun h9 => by obtain ⟨a1, a2, a3, a4, a5, a6, a7, a8, -⟩ := h9; have h8 := hn111; omega, rfl, by rw [ef194]⟩), zEnd1 hH ht9 hW9⟩, hS.F ht9⟩) hS.2.2 dX12_thing_94
    · skip
      replace hn107 := zWi0 (rfl) (nI_toInt (by omega)) (nI_toInt (by omega)) hn107
      refine lv_if_eq (tgt := 56) hx hb dX12_thing_19 (by decide) (fun c198 => ?_) (fun c198 => absurd (by decide) c198)
      refine lv_iconst (v := nI 0) hx hb dX12_thing_56 (by decide) ?_
      refine lv_istore (lv' := [(5, .int (nI 0)), (0, .ref (τ.1 30)), (1, .int x1), (2, .int x2), (3, .int x3), (4, .int x4)]) hx hb dX12_thing_57 hl (by decide) rfl (fun ls hl => ?_)
      refine lv_aload_n hx hb dX12_thing_59 rfl (lv_at hl 1 rfl) ?_
      refine lv_iload hx hb dX12_thing_60 (lv_at hl 0 rfl) ?_
      refine lv_if_ne (tgt := 69) hx hb dX12_thing_62 (by decide) (fun c199 => absurd (by decide) c199) (fun c199 => ?_)
      refine lv_iconst (v := nI 1) hx hb dX12_thing_65 (by decide) ?_
      refine lv_goto (tgt := 83) hx hb dX12_thing_66 (by decide) ?_
      refine zPutI (D := D) (ci := 12) (ty := .int) (C := RX12) (T := TX12) (N := 71) hx hb hts hiX12 tyX12 tyX12_ok nmX12 hown hH hS (zk_30 hF) rfl 0 (by decide) rfl hw0 (fun _ h9 => h9) rfl (by decide +kernel) rfl rfl dX12_thing_83 (fun H locs hH hS => ?_)
      obtain ⟨f200, ef200⟩ : ∃ f9 : zFi, f9 = zu fi 30 0 (nI 1) := ⟨_, rfl⟩
      rw [← ef200] at hH
      have q201 : f200 30 2 = nI n := by rw [ef200, zu_n (fun h9 => absurd h9.2 (by decide))]; exact hMt.2.1
      have q202 : f200 30 0 = nI 1 := by rw [ef200]; exact zu_s
      refine lv_aload_n hx hb dX12_thing_86 rfl (lv_at hl 1 rfl) ?_
      refine zGetI (D := D) (ci := 12) (C := RX12) (T := TX12) (N := 71) hx hb hts hiX12 hown hH (zk_30 hF) rfl 0 (by decide) rfl hw0 (fun _ h9 => h9) dX12_thing_87 q202 ?_
      refine lv_if_le (tgt := 95) hx hb dX12_thing_90 (by decide) (fun c203 => absurd c203 (by decide)) (fun c203 => ?_)
      refine lv_iconst (v := nI 0) hx hb dX12_thing_93 (by decide) ?_
      refine W.widen (k := 0) (n := 0) (by decide) (by decide) ?_
      exact W.iret (v := nI 0) hx hb hr (fun t9 ht9 hW9 => ⟨⟨nI 0, f200, rfl, Or.inr (Or.inl ⟨fun h9 => by obtain ⟨a1, a2, a3, a4, a5, a6, a7, a8, -⟩ := h9; have h8 := hn107; omega, rfl, by rw [ef200]⟩), zEnd1 hH ht9 hW9⟩, hS.F ht9⟩) hS.2.2 dX12_thing_94
  · skip
    replace hn103 := zWi0 (rfl) (nI_toInt (by omega)) (nI_toInt (by omega)) hn103
    refine lv_if_eq (tgt := 56) hx hb dX12_thing_8 (by decide) (fun c204 => ?_) (fun c204 => absurd (by decide) c204)
    refine lv_iconst (v := nI 0) hx hb dX12_thing_56 (by decide) ?_
    refine lv_istore (lv' := [(5, .int (nI 0)), (0, .ref (τ.1 30)), (1, .int x1), (2, .int x2), (3, .int x3), (4, .int x4)]) hx hb dX12_thing_57 hl (by decide) rfl (fun ls hl => ?_)
    refine lv_aload_n hx hb dX12_thing_59 rfl (lv_at hl 1 rfl) ?_
    refine lv_iload hx hb dX12_thing_60 (lv_at hl 0 rfl) ?_
    refine lv_if_ne (tgt := 69) hx hb dX12_thing_62 (by decide) (fun c205 => absurd (by decide) c205) (fun c205 => ?_)
    refine lv_iconst (v := nI 1) hx hb dX12_thing_65 (by decide) ?_
    refine lv_goto (tgt := 83) hx hb dX12_thing_66 (by decide) ?_
    refine zPutI (D := D) (ci := 12) (ty := .int) (C := RX12) (T := TX12) (N := 71) hx hb hts hiX12 tyX12 tyX12_ok nmX12 hown hH hS (zk_30 hF) rfl 0 (by decide) rfl hw0 (fun _ h9 => h9) rfl (by decide +kernel) rfl rfl dX12_thing_83 (fun H locs hH hS => ?_)
    obtain ⟨f206, ef206⟩ : ∃ f9 : zFi, f9 = zu fi 30 0 (nI 1) := ⟨_, rfl⟩
    rw [← ef206] at hH
    have q207 : f206 30 2 = nI n := by rw [ef206, zu_n (fun h9 => absurd h9.2 (by decide))]; exact hMt.2.1
    have q208 : f206 30 0 = nI 1 := by rw [ef206]; exact zu_s
    refine lv_aload_n hx hb dX12_thing_86 rfl (lv_at hl 1 rfl) ?_
    refine zGetI (D := D) (ci := 12) (C := RX12) (T := TX12) (N := 71) hx hb hts hiX12 hown hH (zk_30 hF) rfl 0 (by decide) rfl hw0 (fun _ h9 => h9) dX12_thing_87 q208 ?_
    refine lv_if_le (tgt := 95) hx hb dX12_thing_90 (by decide) (fun c209 => absurd c209 (by decide)) (fun c209 => ?_)
    refine lv_iconst (v := nI 0) hx hb dX12_thing_93 (by decide) ?_
    refine W.widen (k := 0) (n := 0) (by decide) (by decide) ?_
    exact W.iret (v := nI 0) hx hb hr (fun t9 ht9 hW9 => ⟨⟨nI 0, f206, rfl, Or.inr (Or.inl ⟨fun h9 => by obtain ⟨a1, a2, a3, a4, a5, a6, a7, a8, -⟩ := h9; have h8 := hn103; omega, rfl, by rw [ef206]⟩), zEnd1 hH ht9 hW9⟩, hS.F ht9⟩) hS.2.2 dX12_thing_94
set_option maxHeartbeats 4000000 in
set_option maxRecDepth 100000 in
/-- cost -/
theorem m_cost (l : Launch) (hl0 : l.stackTraces = false) (D : va_G) (A : Nat → Prop) (sad : Nat → Nat) (τ : zTy) (fi : zFi) (fr : zFr) (ol : Int64) (y : Int32) (hF : zFix τ fr) (t k0 : Nat) (ht : t < 30) (hk0 : fi 36 t = nI k0) (hk4 : k0 ≤ 4) : Met l yX12_cost wsX12_cost ({ frames := 0, cells := 0, slots := 0, locals := 0 }) (va_Pc [.ref (τ.1 30), .int (nI t), .int y] (zQc D A sad τ fi fr ol)) (va_Qi (fun (r : Int32) (u : Unit) => True) (fun (u : Unit) (t : State) => zH D A τ fi fr ol t t.heap) A) 0 0 A := by
  refine Met.ofW (cc := cX12_cost) (maxL := 5) (ret := (some .int)) (by decide) rfl ?_
  intro p9 e9 s m args below meth c9 s₁ B hml hv
  obtain ⟨rfl, hz, hH, hA⟩ := hv
  have hx := B.exec
  have hb := B.bytes
  have hr := B.returns
  have hts := atoms_spec (ws := wsX12_cost) B.pre
  have hown : s.vm.findClass RX12 = some m.cls := findClass_of_methodNamed B.named
  have hlocks := B.notSynchronized
  have hS : va_S A s.heap s.heap [] := va_S.rf
  have hl := lv_entry ([.ref (τ.1 30), .int (nI t), .int y]) (n := 5) (Nat.le_of_ble_eq_true rfl)
  rw [lg_entry_eq]
  generalize (lg_sl ([.ref (τ.1 30), .int (nI t), .int y]) ++ List.replicate (5 - (lg_sl ([.ref (τ.1 30), .int (nI t), .int y])).length) Slot.unset).toArray = ls at hl ⊢
  have hl : lv_has ls 5 [(0, .ref (τ.1 30)), (1, .int (nI t)), (2, .int y)] := hl
  have hiX12 : ∀ w ∈ u_ws RX12 TX12 71, w ∈ wsX12_cost := fun _ h => List.mem_cons_of_mem _ (List.mem_append_right _ h)
  have hw1 := hts (.fieldLink RX12 25 "PostHouseModel" "prices" "[I") (by decide +kernel)
  have hw2 := hts (.fieldLink RX12 31 "PostHouseModel" "priceFrom" "[I") (by decide +kernel)
  have hw3 := hts (.fieldLink RX12 34 "PostHouseModel" "priceTo" "[I") (by decide +kernel)
  have hw4 := hts (.fieldLink RX12 28 "PostHouseModel" "priceMoney" "[I") (by decide +kernel)
  refine lv_iconst (v := (-1)) hx hb dX12_cost_0 (by decide) ?_
  refine lv_istore_n (lv' := [(3, .int ((-1))), (0, .ref (τ.1 30)), (1, .int (nI t)), (2, .int y)]) hx hb dX12_cost_1 rfl hl (by decide) rfl (fun ls hl => ?_)
  refine lv_iconst (v := nI 4) hx hb dX12_cost_2 (by decide) ?_
  refine lv_iload_n hx hb dX12_cost_3 rfl (lv_at hl 2 rfl) ?_
  refine lv_imul hx hb dX12_cost_4 ?_
  refine lv_topi (fun v101 ev101 => ?_)
  obtain rfl : v101 = nI (4 * t) := ev101.trans (pk_mul _ _)
  refine lv_istore (lv' := [(4, .int (nI (4 * t))), (3, .int ((-1))), (0, .ref (τ.1 30)), (1, .int (nI t)), (2, .int y)]) hx hb dX12_cost_5 hl (by decide) rfl (fun ls hl => ?_)
  refine zLp (σ := Nat × Int32) (fun x9 k9 H locs ls => (fun (i : Nat) (v : Int32) => k9 = 4 * t + k0 - i ∧ (4 * t ≤ i ∧ i ≤ 4 * t + k0) ∧ zH D A τ fi fr ol s H ∧ va_S A s.heap H locs ∧ lv_has ls 5 [(0, .ref (τ.1 30)), (1, .int (nI t)), (2, .int y), (3, .int v), (4, .int (nI i))]) x9.1 x9.2) (4 * t, (-1)) (4 * t + k0 - (4 * t)) (show 4 * t + k0 - (4 * t) = 4 * t + k0 - (4 * t) ∧ (4 * t ≤ (4 * t) ∧ (4 * t) ≤ 4 * t + k0) ∧ zH D A τ fi fr ol s _ ∧ va_S A s.heap _ _ ∧ lv_has _ 5 [(0, .ref (τ.1 30)), (1, .int (nI t)), (2, .int y), (3, .int ((-1))), (4, .int (nI (4 * t)))] from ⟨rfl, ⟨Nat.le_refl _, by omega⟩, hH, hS, lv_sub hl [2, 3, 4, 1, 0] rfl⟩) (fun k9 ih x9 H locs ls hv9 => ?_)
  obtain ⟨i, v⟩ := x9
  have hv9 : k9 = 4 * t + k0 - i ∧ (4 * t ≤ i ∧ i ≤ 4 * t + k0) ∧ zH D A τ fi fr ol s H ∧ va_S A s.heap H locs ∧ lv_has ls 5 [(0, .ref (τ.1 30)), (1, .int (nI t)), (2, .int y), (3, .int v), (4, .int (nI i))] := hv9
  obtain ⟨hkih102, hv9, hH, hS, hl⟩ := hv9
  obtain ⟨h0, h1⟩ := hv9
  have ih102 := ih
  clear ih
  refine lv_iload hx hb dX12_cost_7 (lv_at hl 4 rfl) ?_
  refine lv_iconst (v := nI 4) hx hb dX12_cost_9 (by decide) ?_
  refine lv_iload_n hx hb dX12_cost_10 rfl (lv_at hl 1 rfl) ?_
  refine lv_imul hx hb dX12_cost_11 ?_
  refine lv_topi (fun v103 ev103 => ?_)
  obtain rfl : v103 = nI (4 * t) := ev103.trans (pk_mul _ _)
  refine lv_aload_n hx hb dX12_cost_12 rfl (lv_at hl 0 rfl) ?_
  refine zGetR (D := D) (ci := 12) (C := RX12) (T := TX12) (N := 71) hx hb hts hiX12 hown hH (zk_30 hF) rfl 8 (by decide) rfl hw1 (fun _ h9 => h9) dX12_cost_13 (zr_30_8 hF) ?_
  refine lv_iload_n hx hb dX12_cost_16 rfl (lv_at hl 1 rfl) ?_
  refine zIaldN (D := D) hx hb hH (zk_36 hF) (zn_36 hF) (by omega) (by omega) hk0 dX12_cost_17 ?_
  refine lv_iadd hx hb dX12_cost_18 ?_
  refine lv_topi (fun v104 ev104 => ?_)
  obtain rfl : v104 = nI (4 * t + k0) := ev104.trans (nI_add _ _)
  refine lv_icmp_ge (tgt := 58) hx hb dX12_cost_19 (by decide) (fun c105 => ?_) (fun c105 => ?_)
  · have zc105 := c105
    replace zc105 := zc_le (nI_toInt (by omega)) (nI_toInt (by omega)) zc105
    refine lv_iload_n hx hb dX12_cost_58 rfl (lv_at hl 3 rfl) ?_
    refine W.widen (k := 0) (n := 0) (by decide) (by decide) ?_
    exact W.iret (v := v) hx hb hr (fun t9 ht9 hW9 => ⟨⟨v, (), rfl, trivial, zEnd1 hH ht9 hW9⟩, hS.F ht9⟩) hS.2.2 dX12_cost_59
  · have zc105 := c105
    replace zc105 := zc_nle (nI_toInt (by omega)) (nI_toInt (by omega)) zc105
    refine lv_iload_n hx hb dX12_cost_22 rfl (lv_at hl 2 rfl) ?_
    refine lv_aload_n hx hb dX12_cost_23 rfl (lv_at hl 0 rfl) ?_
    refine zGetR (D := D) (ci := 12) (C := RX12) (T := TX12) (N := 71) hx hb hts hiX12 hown hH (zk_30 hF) rfl 10 (by decide) rfl hw2 (fun _ h9 => h9) dX12_cost_24 (zr_30_10 hF) ?_
    refine lv_iload hx hb dX12_cost_27 (lv_at hl 4 rfl) ?_
    refine zIaldN (D := D) hx hb hH (zk_38 hF) (zn_38 hF) (by omega) (by omega) rfl dX12_cost_29 ?_
    refine lv_icmp_lt (tgt := 52) hx hb dX12_cost_30 (by decide) (fun c106 => ?_) (fun c106 => ?_)
    · have zc106 := c106
      replace zc106 := zc_lt (rfl) (rfl) zc106
      refine lv_iinc (v := nI (i + 1)) (lv' := [(4, .int (nI (i + 1))), (0, .ref (τ.1 30)), (1, .int (nI t)), (2, .int y), (3, .int v)]) hx hb dX12_cost_52 hl (k := 4) rfl (by rw [show (Int32.ofInt 1 : Int32) = nI 1 from by decide, nI_add]) (by decide) rfl (fun ls hl => ?_)
      refine lv_goto (tgt := 7) hx hb dX12_cost_55 (by decide) ?_
      exact ih102 (4 * t + k0 - (i + 1)) (by omega) (i + 1, _) _ _ _ (show 4 * t + k0 - (i + 1) = 4 * t + k0 - (i + 1) ∧ (4 * t ≤ (i + 1) ∧ (i + 1) ≤ 4 * t + k0) ∧ zH D A τ fi fr ol s _ ∧ va_S A s.heap _ _ ∧ lv_has _ 5 [(0, .ref (τ.1 30)), (1, .int (nI t)), (2, .int y), (3, .int _), (4, .int (nI (i + 1)))] from ⟨rfl, ⟨by omega, by omega⟩, hH, hS, lv_sub hl [1, 2, 3, 4, 0] rfl⟩)
    · have zc106 := c106
      replace zc106 := zc_nlt (rfl) (rfl) zc106
      refine lv_iload_n hx hb dX12_cost_33 rfl (lv_at hl 2 rfl) ?_
      refine lv_aload_n hx hb dX12_cost_34 rfl (lv_at hl 0 rfl) ?_
      refine zGetR (D := D) (ci := 12) (C := RX12) (T := TX12) (N := 71) hx hb hts hiX12 hown hH (zk_30 hF) rfl 11 (by decide) rfl hw3 (fun _ h9 => h9) dX12_cost_35 (zr_30_11 hF) ?_
      refine lv_iload hx hb dX12_cost_38 (lv_at hl 4 rfl) ?_
      refine zIaldN (D := D) hx hb hH (zk_39 hF) (zn_39 hF) (by omega) (by omega) rfl dX12_cost_40 ?_
      refine lv_icmp_gt (tgt := 52) hx hb dX12_cost_41 (by decide) (fun c107 => ?_) (fun c107 => ?_)
      · have zc107 := c107
        replace zc107 := zc_lt (rfl) (rfl) zc107
        refine lv_iinc (v := nI (i + 1)) (lv' := [(4, .int (nI (i + 1))), (0, .ref (τ.1 30)), (1, .int (nI t)), (2, .int y), (3, .int v)]) hx hb dX12_cost_52 hl (k := 4) rfl (by rw [show (Int32.ofInt 1 : Int32) = nI 1 from by decide, nI_add]) (by decide) rfl (fun ls hl => ?_)
        refine lv_goto (tgt := 7) hx hb dX12_cost_55 (by decide) ?_
        exact ih102 (4 * t + k0 - (i + 1)) (by omega) (i + 1, _) _ _ _ (show 4 * t + k0 - (i + 1) = 4 * t + k0 - (i + 1) ∧ (4 * t ≤ (i + 1) ∧ (i + 1) ≤ 4 * t + k0) ∧ zH D A τ fi fr ol s _ ∧ va_S A s.heap _ _ ∧ lv_has _ 5 [(0, .ref (τ.1 30)), (1, .int (nI t)), (2, .int y), (3, .int _), (4, .int (nI (i + 1)))] from ⟨rfl, ⟨by omega, by omega⟩, hH, hS, lv_sub hl [1, 2, 3, 4, 0] rfl⟩)
      · have zc107 := c107
        replace zc107 := zc_nlt (rfl) (rfl) zc107
        refine lv_aload_n hx hb dX12_cost_44 rfl (lv_at hl 0 rfl) ?_
        refine zGetR (D := D) (ci := 12) (C := RX12) (T := TX12) (N := 71) hx hb hts hiX12 hown hH (zk_30 hF) rfl 9 (by decide) rfl hw4 (fun _ h9 => h9) dX12_cost_45 (zr_30_9 hF) ?_
        refine lv_iload hx hb dX12_cost_48 (lv_at hl 4 rfl) ?_
        refine zIaldN (D := D) hx hb hH (zk_37 hF) (zn_37 hF) (by omega) (by omega) rfl dX12_cost_50 ?_
        refine lv_istore_n (lv' := [(3, .int (fi 37 i)), (0, .ref (τ.1 30)), (1, .int (nI t)), (2, .int y), (4, .int (nI i))]) hx hb dX12_cost_51 rfl hl (by decide) rfl (fun ls hl => ?_)
        refine lv_iinc (v := nI (i + 1)) (lv' := [(4, .int (nI (i + 1))), (3, .int (fi 37 i)), (0, .ref (τ.1 30)), (1, .int (nI t)), (2, .int y)]) hx hb dX12_cost_52 hl (k := 4) rfl (by rw [show (Int32.ofInt 1 : Int32) = nI 1 from by decide, nI_add]) (by decide) rfl (fun ls hl => ?_)
        refine lv_goto (tgt := 7) hx hb dX12_cost_55 (by decide) ?_
        exact ih102 (4 * t + k0 - (i + 1)) (by omega) (i + 1, _) _ _ _ (show 4 * t + k0 - (i + 1) = 4 * t + k0 - (i + 1) ∧ (4 * t ≤ (i + 1) ∧ (i + 1) ≤ 4 * t + k0) ∧ zH D A τ fi fr ol s _ ∧ va_S A s.heap _ _ ∧ lv_has _ 5 [(0, .ref (τ.1 30)), (1, .int (nI t)), (2, .int y), (3, .int _), (4, .int (nI (i + 1)))] from ⟨rfl, ⟨by omega, by omega⟩, hH, hS, lv_sub hl [2, 3, 4, 1, 0] rfl⟩)
set_option maxHeartbeats 4000000 in
set_option maxRecDepth 100000 in
/-- costs -/
theorem m_costs (l : Launch) (hl0 : l.stackTraces = false) (D : va_G) (A : Nat → Prop) (sad : Nat → Nat) (τ : zTy) (fi : zFi) (fr : zFr) (ol : Int64) (x y : Int32) (hF : zFix τ fr) (n : Nat) (hMt : zMt fi n) : Met l yX12_costs wsX12_costs ({ frames := 1, cells := 0, slots := 0, locals := 24 }) (va_Pc [.ref (τ.1 30), .int x, .int y] (zQc D A sad τ fi fr ol)) (va_Qi (fun (r : Int32) (u : zFi) => ∀ a b, ¬ (a = 30 ∧ b = 0) → u a b = fi a b) (fun (u : zFi) (t : State) => zH D A τ u fr ol t t.heap) A) 0 0 A := by
  refine Met.ofW (cc := cX12_costs) (maxL := 3) (ret := (some .int)) (by decide) rfl ?_
  intro p9 e9 s m args below meth c9 s₁ B hml hv
  obtain ⟨rfl, hz, hH, hA⟩ := hv
  have hx := B.exec
  have hb := B.bytes
  have hr := B.returns
  have hts := atoms_spec (ws := wsX12_costs) B.pre
  have hown : s.vm.findClass RX12 = some m.cls := findClass_of_methodNamed B.named
  have hlocks := B.notSynchronized
  have hS : va_S A s.heap s.heap [] := va_S.rf
  have hl := lv_entry ([.ref (τ.1 30), .int x, .int y]) (n := 3) (Nat.le_of_ble_eq_true rfl)
  rw [lg_entry_eq]
  generalize (lg_sl ([.ref (τ.1 30), .int x, .int y]) ++ List.replicate (3 - (lg_sl ([.ref (τ.1 30), .int x, .int y])).length) Slot.unset).toArray = ls at hl ⊢
  have hl : lv_has ls 3 [(0, .ref (τ.1 30)), (1, .int x), (2, .int y)] := hl
  have hm30 := hMt.1
  have hw0 := hts (.fieldLink RX12 165 "PostHouseModel" "thrown" "I") (by decide +kernel)
  have hiX12 : ∀ w ∈ u_ws RX12 TX12 71, w ∈ wsX12_costs := fun _ h => List.mem_cons_of_mem _ (List.mem_append_right _ h)
  refine lv_aload_n hx hb dX12_costs_0 rfl (lv_at hl 0 rfl) ?_
  refine lv_aload_n hx hb dX12_costs_1 rfl (lv_at hl 0 rfl) ?_
  refine lv_iload_n hx hb dX12_costs_2 rfl (lv_at hl 1 rfl) ?_
  refine va_calli (va_runV (As := [.int x]) (rest := [.ref (τ.1 30)]) ⟨hx, hb, hml, hown, hts⟩ (m_isThing l hl0 D A sad τ fi fr ol x n hF hMt.2.1 (by omega)) (cwV 1 hts gX12_costs_X12_isThing rfl rfl rfl (by decide +kernel) ⟨Nat.le_of_ble_eq_true rfl, Nat.le_of_ble_eq_true rfl⟩) ⟨zQc_bl, zRecv hH (zk_30 hF) rfl, zQc_at hz hS hA hH⟩ rfl rfl hl.1 rfl (lv_room (Nat.le_of_ble_eq_true rfl)) dX12_costs_3 ⟨Nat.le_of_ble_eq_true rfl, Nat.le_of_ble_eq_true rfl⟩) hS (fun q _ h => h) (fun q h => h) (fun r101 u9 t9 H1 locs ht9 hvm9 hw hB hz1 hk1 hS => ?_)
  have hH := zMv ht9 hvm9 hB
  generalize H1 = H at hH hS ⊢
  rcases hw with ⟨t, ht, rfl, rfl⟩ | ⟨hno, rfl⟩
  · skip
    refine lv_if_ne (tgt := 13) hx hb dX12_costs_6 (by decide) (fun c102 => ?_) (fun c102 => absurd c102 (by decide))
    refine lv_iconst (v := nI 0) hx hb dX12_costs_13 (by decide) ?_
    refine zPutI (D := D) (ci := 12) (ty := .int) (C := RX12) (T := TX12) (N := 71) hx hb hts hiX12 tyX12 tyX12_ok nmX12 hown hH hS (zk_30 hF) rfl 0 (by decide) rfl hw0 (fun _ h9 => h9) rfl (by decide +kernel) rfl rfl dX12_costs_14 (fun H locs hH hS => ?_)
    obtain ⟨f103, ef103⟩ : ∃ f9 : zFi, f9 = zu fi 30 0 (nI 0) := ⟨_, rfl⟩
    rw [← ef103] at hH
    have q104 : f103 30 2 = nI n := by rw [ef103, zu_n (fun h9 => absurd h9.2 (by decide))]; exact hMt.2.1
    have q105 : f103 30 0 = nI 0 := by rw [ef103]; exact zu_s
    have hMt := zMt.ci (fi' := f103) hMt (fun i9 k9 h9 => by rw [ef103]; exact zu_n (by omega))
    refine lv_aload_n hx hb dX12_costs_17 rfl (lv_at hl 0 rfl) ?_
    refine zGetI (D := D) (ci := 12) (C := RX12) (T := TX12) (N := 71) hx hb hts hiX12 hown hH (zk_30 hF) rfl 0 (by decide) rfl hw0 (fun _ h9 => h9) dX12_costs_18 q105 ?_
    refine lv_if_le (tgt := 28) hx hb dX12_costs_21 (by decide) (fun c106 => ?_) (fun c106 => absurd (by decide) c106)
    refine lv_aload_n hx hb dX12_costs_28 rfl (lv_at hl 0 rfl) ?_
    refine lv_iload_n hx hb dX12_costs_29 rfl (lv_at hl 1 rfl) ?_
    refine lv_iload_n hx hb dX12_costs_30 rfl (lv_at hl 2 rfl) ?_
    obtain ⟨k107, h4k107, h0k107⟩ := hMt.2.2 t (by omega)
    refine va_calli (va_runV (As := [.int (nI t), .int y]) (rest := []) ⟨hx, hb, hml, hown, hts⟩ (m_cost l hl0 D A sad τ f103 fr ol y hF t k107 (by omega) h0k107 h4k107) (cwV 2 hts gX12_costs_X12_cost rfl rfl rfl (by decide +kernel) ⟨Nat.le_of_ble_eq_true rfl, Nat.le_of_ble_eq_true rfl⟩) ⟨zQc_bl, zRecv hH (zk_30 hF) rfl, zQc_at hz hS hA hH⟩ rfl rfl hl.1 rfl (lv_room (Nat.le_of_ble_eq_true rfl)) dX12_costs_31 ⟨Nat.le_of_ble_eq_true rfl, Nat.le_of_ble_eq_true rfl⟩) hS (fun q _ h => h) (fun q h => h) (fun r108 u9 t9 H1 locs ht9 hvm9 hw hB hz1 hk1 hS => ?_)
    have hH := zMv ht9 hvm9 hB
    generalize H1 = H at hH hS ⊢
    refine W.widen (k := 0) (n := 0) (by decide) (by decide) ?_
    exact W.iret (v := r108) hx hb hr (fun t9 ht9 hW9 => ⟨⟨r108, f103, rfl, fun a b h => by rw [ef103, zu_n (by omega)], zEnd1 hH ht9 hW9⟩, hS.F ht9⟩) hS.2.2 dX12_costs_34
  · skip
    refine lv_if_ne (tgt := 13) hx hb dX12_costs_6 (by decide) (fun c109 => absurd (by decide) c109) (fun c109 => ?_)
    refine lv_iconst (v := nI 1) hx hb dX12_costs_9 (by decide) ?_
    refine lv_goto (tgt := 14) hx hb dX12_costs_10 (by decide) ?_
    refine zPutI (D := D) (ci := 12) (ty := .int) (C := RX12) (T := TX12) (N := 71) hx hb hts hiX12 tyX12 tyX12_ok nmX12 hown hH hS (zk_30 hF) rfl 0 (by decide) rfl hw0 (fun _ h9 => h9) rfl (by decide +kernel) rfl rfl dX12_costs_14 (fun H locs hH hS => ?_)
    obtain ⟨f110, ef110⟩ : ∃ f9 : zFi, f9 = zu fi 30 0 (nI 1) := ⟨_, rfl⟩
    rw [← ef110] at hH
    have q111 : f110 30 2 = nI n := by rw [ef110, zu_n (fun h9 => absurd h9.2 (by decide))]; exact hMt.2.1
    have q112 : f110 30 0 = nI 1 := by rw [ef110]; exact zu_s
    have hMt := zMt.ci (fi' := f110) hMt (fun i9 k9 h9 => by rw [ef110]; exact zu_n (by omega))
    refine lv_aload_n hx hb dX12_costs_17 rfl (lv_at hl 0 rfl) ?_
    refine zGetI (D := D) (ci := 12) (C := RX12) (T := TX12) (N := 71) hx hb hts hiX12 hown hH (zk_30 hF) rfl 0 (by decide) rfl hw0 (fun _ h9 => h9) dX12_costs_18 q112 ?_
    refine lv_if_le (tgt := 28) hx hb dX12_costs_21 (by decide) (fun c113 => absurd c113 (by decide)) (fun c113 => ?_)
    refine lv_iconst (v := nI 0) hx hb dX12_costs_24 (by decide) ?_
    refine lv_goto (tgt := 34) hx hb dX12_costs_25 (by decide) ?_
    refine W.widen (k := 0) (n := 0) (by decide) (by decide) ?_
    exact W.iret (v := nI 0) hx hb hr (fun t9 ht9 hW9 => ⟨⟨nI 0, f110, rfl, fun a b h => by rw [ef110, zu_n (by omega)], zEnd1 hH ht9 hW9⟩, hS.F ht9⟩) hS.2.2 dX12_costs_34
set_option maxHeartbeats 4000000 in
set_option maxRecDepth 100000 in
/-- stock -/
theorem m_stock (l : Launch) (hl0 : l.stackTraces = false) (D : va_G) (A : Nat → Prop) (sad : Nat → Nat) (τ : zTy) (fi : zFi) (fr : zFr) (ol : Int64) (x : Int32) (hF : zFix τ fr) (n : Nat) (hMt : zMt fi n) : Met l yX12_stock wsX12_stock ({ frames := 1, cells := 0, slots := 0, locals := 21 }) (va_Pc [.ref (τ.1 30), .int x] (zQc D A sad τ fi fr ol)) (va_Qi (fun (r : Int32) (u : zFi) => ∀ a b, ¬ (a = 30 ∧ b = 0) → u a b = fi a b) (fun (u : zFi) (t : State) => zH D A τ u fr ol t t.heap) A) 0 0 A := by
  refine Met.ofW (cc := cX12_stock) (maxL := 2) (ret := (some .int)) (by decide) rfl ?_
  intro p9 e9 s m args below meth c9 s₁ B hml hv
  obtain ⟨rfl, hz, hH, hA⟩ := hv
  have hx := B.exec
  have hb := B.bytes
  have hr := B.returns
  have hts := atoms_spec (ws := wsX12_stock) B.pre
  have hown : s.vm.findClass RX12 = some m.cls := findClass_of_methodNamed B.named
  have hlocks := B.notSynchronized
  have hS : va_S A s.heap s.heap [] := va_S.rf
  have hl := lv_entry ([.ref (τ.1 30), .int x]) (n := 2) (Nat.le_of_ble_eq_true rfl)
  rw [lg_entry_eq]
  generalize (lg_sl ([.ref (τ.1 30), .int x]) ++ List.replicate (2 - (lg_sl ([.ref (τ.1 30), .int x])).length) Slot.unset).toArray = ls at hl ⊢
  have hl : lv_has ls 2 [(0, .ref (τ.1 30)), (1, .int x)] := hl
  have hm30 := hMt.1
  have hw0 := hts (.fieldLink RX12 165 "PostHouseModel" "thrown" "I") (by decide +kernel)
  have hiX12 : ∀ w ∈ u_ws RX12 TX12 71, w ∈ wsX12_stock := fun _ h => List.mem_cons_of_mem _ (List.mem_append_right _ h)
  have hw2 := hts (.fieldLink RX12 22 "PostHouseModel" "stock" "[I") (by decide +kernel)
  refine lv_aload_n hx hb dX12_stock_0 rfl (lv_at hl 0 rfl) ?_
  refine lv_aload_n hx hb dX12_stock_1 rfl (lv_at hl 0 rfl) ?_
  refine lv_iload_n hx hb dX12_stock_2 rfl (lv_at hl 1 rfl) ?_
  refine va_calli (va_runV (As := [.int x]) (rest := [.ref (τ.1 30)]) ⟨hx, hb, hml, hown, hts⟩ (m_isThing l hl0 D A sad τ fi fr ol x n hF hMt.2.1 (by omega)) (cwV 1 hts gX12_stock_X12_isThing rfl rfl rfl (by decide +kernel) ⟨Nat.le_of_ble_eq_true rfl, Nat.le_of_ble_eq_true rfl⟩) ⟨zQc_bl, zRecv hH (zk_30 hF) rfl, zQc_at hz hS hA hH⟩ rfl rfl hl.1 rfl (lv_room (Nat.le_of_ble_eq_true rfl)) dX12_stock_3 ⟨Nat.le_of_ble_eq_true rfl, Nat.le_of_ble_eq_true rfl⟩) hS (fun q _ h => h) (fun q h => h) (fun r101 u9 t9 H1 locs ht9 hvm9 hw hB hz1 hk1 hS => ?_)
  have hH := zMv ht9 hvm9 hB
  generalize H1 = H at hH hS ⊢
  rcases hw with ⟨t, ht, rfl, rfl⟩ | ⟨hno, rfl⟩
  · skip
    refine lv_if_ne (tgt := 13) hx hb dX12_stock_6 (by decide) (fun c102 => ?_) (fun c102 => absurd c102 (by decide))
    refine lv_iconst (v := nI 0) hx hb dX12_stock_13 (by decide) ?_
    refine zPutI (D := D) (ci := 12) (ty := .int) (C := RX12) (T := TX12) (N := 71) hx hb hts hiX12 tyX12 tyX12_ok nmX12 hown hH hS (zk_30 hF) rfl 0 (by decide) rfl hw0 (fun _ h9 => h9) rfl (by decide +kernel) rfl rfl dX12_stock_14 (fun H locs hH hS => ?_)
    obtain ⟨f103, ef103⟩ : ∃ f9 : zFi, f9 = zu fi 30 0 (nI 0) := ⟨_, rfl⟩
    rw [← ef103] at hH
    have q104 : f103 30 2 = nI n := by rw [ef103, zu_n (fun h9 => absurd h9.2 (by decide))]; exact hMt.2.1
    have q105 : f103 30 0 = nI 0 := by rw [ef103]; exact zu_s
    refine lv_aload_n hx hb dX12_stock_17 rfl (lv_at hl 0 rfl) ?_
    refine zGetI (D := D) (ci := 12) (C := RX12) (T := TX12) (N := 71) hx hb hts hiX12 hown hH (zk_30 hF) rfl 0 (by decide) rfl hw0 (fun _ h9 => h9) dX12_stock_18 q105 ?_
    refine lv_if_le (tgt := 28) hx hb dX12_stock_21 (by decide) (fun c106 => ?_) (fun c106 => absurd (by decide) c106)
    refine lv_aload_n hx hb dX12_stock_28 rfl (lv_at hl 0 rfl) ?_
    refine zGetR (D := D) (ci := 12) (C := RX12) (T := TX12) (N := 71) hx hb hts hiX12 hown hH (zk_30 hF) rfl 7 (by decide) rfl hw2 (fun _ h9 => h9) dX12_stock_29 (zr_30_7 hF) ?_
    refine lv_iload_n hx hb dX12_stock_32 rfl (lv_at hl 1 rfl) ?_
    refine zIaldN (D := D) hx hb hH (zk_35 hF) (zn_35 hF) (by omega) (by omega) rfl dX12_stock_33 ?_
    refine W.widen (k := 0) (n := 0) (by decide) (by decide) ?_
    exact W.iret (v := f103 35 t) hx hb hr (fun t9 ht9 hW9 => ⟨⟨f103 35 t, f103, rfl, fun a b h => by rw [ef103, zu_n (by omega)], zEnd1 hH ht9 hW9⟩, hS.F ht9⟩) hS.2.2 dX12_stock_34
  · skip
    refine lv_if_ne (tgt := 13) hx hb dX12_stock_6 (by decide) (fun c107 => absurd (by decide) c107) (fun c107 => ?_)
    refine lv_iconst (v := nI 1) hx hb dX12_stock_9 (by decide) ?_
    refine lv_goto (tgt := 14) hx hb dX12_stock_10 (by decide) ?_
    refine zPutI (D := D) (ci := 12) (ty := .int) (C := RX12) (T := TX12) (N := 71) hx hb hts hiX12 tyX12 tyX12_ok nmX12 hown hH hS (zk_30 hF) rfl 0 (by decide) rfl hw0 (fun _ h9 => h9) rfl (by decide +kernel) rfl rfl dX12_stock_14 (fun H locs hH hS => ?_)
    obtain ⟨f108, ef108⟩ : ∃ f9 : zFi, f9 = zu fi 30 0 (nI 1) := ⟨_, rfl⟩
    rw [← ef108] at hH
    have q109 : f108 30 2 = nI n := by rw [ef108, zu_n (fun h9 => absurd h9.2 (by decide))]; exact hMt.2.1
    have q110 : f108 30 0 = nI 1 := by rw [ef108]; exact zu_s
    refine lv_aload_n hx hb dX12_stock_17 rfl (lv_at hl 0 rfl) ?_
    refine zGetI (D := D) (ci := 12) (C := RX12) (T := TX12) (N := 71) hx hb hts hiX12 hown hH (zk_30 hF) rfl 0 (by decide) rfl hw0 (fun _ h9 => h9) dX12_stock_18 q110 ?_
    refine lv_if_le (tgt := 28) hx hb dX12_stock_21 (by decide) (fun c111 => absurd c111 (by decide)) (fun c111 => ?_)
    refine lv_iconst (v := nI 0) hx hb dX12_stock_24 (by decide) ?_
    refine lv_goto (tgt := 34) hx hb dX12_stock_25 (by decide) ?_
    refine W.widen (k := 0) (n := 0) (by decide) (by decide) ?_
    exact W.iret (v := nI 0) hx hb hr (fun t9 ht9 hW9 => ⟨⟨nI 0, f108, rfl, fun a b h => by rw [ef108, zu_n (by omega)], zEnd1 hH ht9 hW9⟩, hS.F ht9⟩) hS.2.2 dX12_stock_34
set_option maxHeartbeats 4000000 in
set_option maxRecDepth 100000 in
/-- instead -/
theorem m_instead (l : Launch) (hl0 : l.stackTraces = false) (D : va_G) (A : Nat → Prop) (sad : Nat → Nat) (τ : zTy) (fi : zFi) (fr : zFr) (ol : Int64) (x : Int32) (hF : zFix τ fr) (n : Nat) (hMt : zMt fi n) : Met l yX12_instead wsX12_instead ({ frames := 1, cells := 0, slots := 0, locals := 21 }) (va_Pc [.ref (τ.1 30), .int x] (zQc D A sad τ fi fr ol)) (va_Qi (fun (r : Int32) (u : zFi) => ∀ a b, ¬ (a = 30 ∧ b = 0) → u a b = fi a b) (fun (u : zFi) (t : State) => zH D A τ u fr ol t t.heap) A) 0 0 A := by
  refine Met.ofW (cc := cX12_instead) (maxL := 2) (ret := (some .int)) (by decide) rfl ?_
  intro p9 e9 s m args below meth c9 s₁ B hml hv
  obtain ⟨rfl, hz, hH, hA⟩ := hv
  have hx := B.exec
  have hb := B.bytes
  have hr := B.returns
  have hts := atoms_spec (ws := wsX12_instead) B.pre
  have hown : s.vm.findClass RX12 = some m.cls := findClass_of_methodNamed B.named
  have hlocks := B.notSynchronized
  have hS : va_S A s.heap s.heap [] := va_S.rf
  have hl := lv_entry ([.ref (τ.1 30), .int x]) (n := 2) (Nat.le_of_ble_eq_true rfl)
  rw [lg_entry_eq]
  generalize (lg_sl ([.ref (τ.1 30), .int x]) ++ List.replicate (2 - (lg_sl ([.ref (τ.1 30), .int x])).length) Slot.unset).toArray = ls at hl ⊢
  have hl : lv_has ls 2 [(0, .ref (τ.1 30)), (1, .int x)] := hl
  have hm30 := hMt.1
  have hw0 := hts (.fieldLink RX12 165 "PostHouseModel" "thrown" "I") (by decide +kernel)
  have hiX12 : ∀ w ∈ u_ws RX12 TX12 71, w ∈ wsX12_instead := fun _ h => List.mem_cons_of_mem _ (List.mem_append_right _ h)
  have hw2 := hts (.fieldLink RX12 37 "PostHouseModel" "other" "[I") (by decide +kernel)
  refine lv_aload_n hx hb dX12_instead_0 rfl (lv_at hl 0 rfl) ?_
  refine lv_aload_n hx hb dX12_instead_1 rfl (lv_at hl 0 rfl) ?_
  refine lv_iload_n hx hb dX12_instead_2 rfl (lv_at hl 1 rfl) ?_
  refine va_calli (va_runV (As := [.int x]) (rest := [.ref (τ.1 30)]) ⟨hx, hb, hml, hown, hts⟩ (m_isThing l hl0 D A sad τ fi fr ol x n hF hMt.2.1 (by omega)) (cwV 1 hts gX12_instead_X12_isThing rfl rfl rfl (by decide +kernel) ⟨Nat.le_of_ble_eq_true rfl, Nat.le_of_ble_eq_true rfl⟩) ⟨zQc_bl, zRecv hH (zk_30 hF) rfl, zQc_at hz hS hA hH⟩ rfl rfl hl.1 rfl (lv_room (Nat.le_of_ble_eq_true rfl)) dX12_instead_3 ⟨Nat.le_of_ble_eq_true rfl, Nat.le_of_ble_eq_true rfl⟩) hS (fun q _ h => h) (fun q h => h) (fun r101 u9 t9 H1 locs ht9 hvm9 hw hB hz1 hk1 hS => ?_)
  have hH := zMv ht9 hvm9 hB
  generalize H1 = H at hH hS ⊢
  rcases hw with ⟨t, ht, rfl, rfl⟩ | ⟨hno, rfl⟩
  · skip
    refine lv_if_ne (tgt := 13) hx hb dX12_instead_6 (by decide) (fun c102 => ?_) (fun c102 => absurd c102 (by decide))
    refine lv_iconst (v := nI 0) hx hb dX12_instead_13 (by decide) ?_
    refine zPutI (D := D) (ci := 12) (ty := .int) (C := RX12) (T := TX12) (N := 71) hx hb hts hiX12 tyX12 tyX12_ok nmX12 hown hH hS (zk_30 hF) rfl 0 (by decide) rfl hw0 (fun _ h9 => h9) rfl (by decide +kernel) rfl rfl dX12_instead_14 (fun H locs hH hS => ?_)
    obtain ⟨f103, ef103⟩ : ∃ f9 : zFi, f9 = zu fi 30 0 (nI 0) := ⟨_, rfl⟩
    rw [← ef103] at hH
    have q104 : f103 30 2 = nI n := by rw [ef103, zu_n (fun h9 => absurd h9.2 (by decide))]; exact hMt.2.1
    have q105 : f103 30 0 = nI 0 := by rw [ef103]; exact zu_s
    refine lv_aload_n hx hb dX12_instead_17 rfl (lv_at hl 0 rfl) ?_
    refine zGetI (D := D) (ci := 12) (C := RX12) (T := TX12) (N := 71) hx hb hts hiX12 hown hH (zk_30 hF) rfl 0 (by decide) rfl hw0 (fun _ h9 => h9) dX12_instead_18 q105 ?_
    refine lv_if_le (tgt := 28) hx hb dX12_instead_21 (by decide) (fun c106 => ?_) (fun c106 => absurd (by decide) c106)
    refine lv_aload_n hx hb dX12_instead_28 rfl (lv_at hl 0 rfl) ?_
    refine zGetR (D := D) (ci := 12) (C := RX12) (T := TX12) (N := 71) hx hb hts hiX12 hown hH (zk_30 hF) rfl 12 (by decide) rfl hw2 (fun _ h9 => h9) dX12_instead_29 (zr_30_12 hF) ?_
    refine lv_iload_n hx hb dX12_instead_32 rfl (lv_at hl 1 rfl) ?_
    refine zIaldN (D := D) hx hb hH (zk_40 hF) (zn_40 hF) (by omega) (by omega) rfl dX12_instead_33 ?_
    refine W.widen (k := 0) (n := 0) (by decide) (by decide) ?_
    exact W.iret (v := f103 40 t) hx hb hr (fun t9 ht9 hW9 => ⟨⟨f103 40 t, f103, rfl, fun a b h => by rw [ef103, zu_n (by omega)], zEnd1 hH ht9 hW9⟩, hS.F ht9⟩) hS.2.2 dX12_instead_34
  · skip
    refine lv_if_ne (tgt := 13) hx hb dX12_instead_6 (by decide) (fun c107 => absurd (by decide) c107) (fun c107 => ?_)
    refine lv_iconst (v := nI 1) hx hb dX12_instead_9 (by decide) ?_
    refine lv_goto (tgt := 14) hx hb dX12_instead_10 (by decide) ?_
    refine zPutI (D := D) (ci := 12) (ty := .int) (C := RX12) (T := TX12) (N := 71) hx hb hts hiX12 tyX12 tyX12_ok nmX12 hown hH hS (zk_30 hF) rfl 0 (by decide) rfl hw0 (fun _ h9 => h9) rfl (by decide +kernel) rfl rfl dX12_instead_14 (fun H locs hH hS => ?_)
    obtain ⟨f108, ef108⟩ : ∃ f9 : zFi, f9 = zu fi 30 0 (nI 1) := ⟨_, rfl⟩
    rw [← ef108] at hH
    have q109 : f108 30 2 = nI n := by rw [ef108, zu_n (fun h9 => absurd h9.2 (by decide))]; exact hMt.2.1
    have q110 : f108 30 0 = nI 1 := by rw [ef108]; exact zu_s
    refine lv_aload_n hx hb dX12_instead_17 rfl (lv_at hl 0 rfl) ?_
    refine zGetI (D := D) (ci := 12) (C := RX12) (T := TX12) (N := 71) hx hb hts hiX12 hown hH (zk_30 hF) rfl 0 (by decide) rfl hw0 (fun _ h9 => h9) dX12_instead_18 q110 ?_
    refine lv_if_le (tgt := 28) hx hb dX12_instead_21 (by decide) (fun c111 => absurd c111 (by decide)) (fun c111 => ?_)
    refine lv_iconst (v := nI 0) hx hb dX12_instead_24 (by decide) ?_
    refine lv_goto (tgt := 34) hx hb dX12_instead_25 (by decide) ?_
    refine W.widen (k := 0) (n := 0) (by decide) (by decide) ?_
    exact W.iret (v := nI 0) hx hb hr (fun t9 ht9 hW9 => ⟨⟨nI 0, f108, rfl, fun a b h => by rw [ef108, zu_n (by omega)], zEnd1 hH ht9 hW9⟩, hS.F ht9⟩) hS.2.2 dX12_instead_34
set_option maxHeartbeats 4000000 in
set_option maxRecDepth 100000 in
/-- says -/
theorem m_says (l : Launch) (hl0 : l.stackTraces = false) (D : va_G) (A : Nat → Prop) (sad : Nat → Nat) (τ : zTy) (fi : zFi) (fr : zFr) (ol : Int64) (x : Int32) (hF : zFix τ fr) : Met l yX12_says wsX12_says ({ frames := 1, cells := 0, slots := 0, locals := 22 }) (va_Pc [.ref (τ.1 30), .int x] (zQc D A sad τ fi fr ol)) (va_Qi (fun (r : Int32) (u : zFi) => ∀ a b, ¬ (a = 30 ∧ b = 0) → u a b = fi a b) (fun (u : zFi) (t : State) => zH D A τ u fr ol t t.heap) A) 0 0 A := by
  refine Met.ofW (cc := cX12_says) (maxL := 2) (ret := (some .int)) (by decide) rfl ?_
  intro p9 e9 s m args below meth c9 s₁ B hml hv
  obtain ⟨rfl, hz, hH, hA⟩ := hv
  have hx := B.exec
  have hb := B.bytes
  have hr := B.returns
  have hts := atoms_spec (ws := wsX12_says) B.pre
  have hown : s.vm.findClass RX12 = some m.cls := findClass_of_methodNamed B.named
  have hlocks := B.notSynchronized
  have hS : va_S A s.heap s.heap [] := va_S.rf
  have hl := lv_entry ([.ref (τ.1 30), .int x]) (n := 2) (Nat.le_of_ble_eq_true rfl)
  rw [lg_entry_eq]
  generalize (lg_sl ([.ref (τ.1 30), .int x]) ++ List.replicate (2 - (lg_sl ([.ref (τ.1 30), .int x])).length) Slot.unset).toArray = ls at hl ⊢
  have hl : lv_has ls 2 [(0, .ref (τ.1 30)), (1, .int x)] := hl
  have hw0 := hts (.fieldLink RX12 165 "PostHouseModel" "thrown" "I") (by decide +kernel)
  have hiX12 : ∀ w ∈ u_ws RX12 TX12 71, w ∈ wsX12_says := fun _ h => List.mem_cons_of_mem _ (List.mem_append_right _ h)
  have hw2 := hts (.fieldLink RX12 49 "PostHouseModel" "rule" "[I") (by decide +kernel)
  refine lv_aload_n hx hb dX12_says_0 rfl (lv_at hl 0 rfl) ?_
  refine lv_iload_n hx hb dX12_says_1 rfl (lv_at hl 1 rfl) ?_
  refine lv_iconst (v := nI 0) hx hb dX12_says_2 (by decide) ?_
  refine lv_iconst (v := nI 3) hx hb dX12_says_3 (by decide) ?_
  refine va_calli (va_runS (As := [.int x, .int (nI 0), .int (nI 3)]) (rest := [.ref (τ.1 30)]) ⟨hx, hb, hml, hown, hts⟩ (m_isIn l hl0 D A sad τ fi fr ol x (nI 0) (nI 3)) (cwS 3 hts gX12_says_X12_isIn rfl rfl rfl (by decide +kernel) ⟨Nat.le_of_ble_eq_true rfl, Nat.le_of_ble_eq_true rfl⟩) ⟨zQc_bl, zQc_at hz hS hA hH⟩ rfl rfl hl.1 rfl (lv_room (Nat.le_of_ble_eq_true rfl)) dX12_says_4 ⟨Nat.le_of_ble_eq_true rfl, Nat.le_of_ble_eq_true rfl⟩) hS (fun q _ h => h) (fun q h => h) (fun r101 u9 t9 H1 locs ht9 hvm9 hw hB hz1 hk1 hS => ?_)
  have hH := zMv ht9 hvm9 hB
  generalize H1 = H at hH hS ⊢
  rcases hw with ⟨rfl, hy102⟩ | ⟨rfl, hn103⟩
  · skip
    replace hy102 := zWi1 (rfl) (nI_toInt (by omega)) (nI_toInt (by omega)) hy102
    refine lv_if_ne (tgt := 14) hx hb dX12_says_7 (by decide) (fun c104 => ?_) (fun c104 => absurd c104 (by decide))
    refine lv_iconst (v := nI 0) hx hb dX12_says_14 (by decide) ?_
    refine zPutI (D := D) (ci := 12) (ty := .int) (C := RX12) (T := TX12) (N := 71) hx hb hts hiX12 tyX12 tyX12_ok nmX12 hown hH hS (zk_30 hF) rfl 0 (by decide) rfl hw0 (fun _ h9 => h9) rfl (by decide +kernel) rfl rfl dX12_says_15 (fun H locs hH hS => ?_)
    obtain ⟨f105, ef105⟩ : ∃ f9 : zFi, f9 = zu fi 30 0 (nI 0) := ⟨_, rfl⟩
    rw [← ef105] at hH
    have q106 : f105 30 0 = nI 0 := by rw [ef105]; exact zu_s
    refine lv_aload_n hx hb dX12_says_18 rfl (lv_at hl 0 rfl) ?_
    refine zGetI (D := D) (ci := 12) (C := RX12) (T := TX12) (N := 71) hx hb hts hiX12 hown hH (zk_30 hF) rfl 0 (by decide) rfl hw0 (fun _ h9 => h9) dX12_says_19 q106 ?_
    refine lv_if_le (tgt := 29) hx hb dX12_says_22 (by decide) (fun c107 => ?_) (fun c107 => absurd (by decide) c107)
    refine lv_aload_n hx hb dX12_says_29 rfl (lv_at hl 0 rfl) ?_
    refine zGetR (D := D) (ci := 12) (C := RX12) (T := TX12) (N := 71) hx hb hts hiX12 hown hH (zk_30 hF) rfl 17 (by decide) rfl hw2 (fun _ h9 => h9) dX12_says_30 (zr_30_17 hF) ?_
    refine lv_iload_n hx hb dX12_says_33 rfl (lv_at hl 1 rfl) ?_
    obtain ⟨k, hk, rfl⟩ : ∃ k : Nat, k < 4 ∧ x = nI k := zNatB (by omega) (by omega)
    refine zIaldN (D := D) hx hb hH (zk_44 hF) (zn_44 hF) (by omega) (by omega) rfl dX12_says_34 ?_
    refine W.widen (k := 0) (n := 0) (by decide) (by decide) ?_
    exact W.iret (v := f105 44 k) hx hb hr (fun t9 ht9 hW9 => ⟨⟨f105 44 k, f105, rfl, fun a b h => by rw [ef105, zu_n (by omega)], zEnd1 hH ht9 hW9⟩, hS.F ht9⟩) hS.2.2 dX12_says_35
  · skip
    replace hn103 := zWi0 (rfl) (nI_toInt (by omega)) (nI_toInt (by omega)) hn103
    refine lv_if_ne (tgt := 14) hx hb dX12_says_7 (by decide) (fun c108 => absurd (by decide) c108) (fun c108 => ?_)
    refine lv_iconst (v := nI 1) hx hb dX12_says_10 (by decide) ?_
    refine lv_goto (tgt := 15) hx hb dX12_says_11 (by decide) ?_
    refine zPutI (D := D) (ci := 12) (ty := .int) (C := RX12) (T := TX12) (N := 71) hx hb hts hiX12 tyX12 tyX12_ok nmX12 hown hH hS (zk_30 hF) rfl 0 (by decide) rfl hw0 (fun _ h9 => h9) rfl (by decide +kernel) rfl rfl dX12_says_15 (fun H locs hH hS => ?_)
    obtain ⟨f109, ef109⟩ : ∃ f9 : zFi, f9 = zu fi 30 0 (nI 1) := ⟨_, rfl⟩
    rw [← ef109] at hH
    have q110 : f109 30 0 = nI 1 := by rw [ef109]; exact zu_s
    refine lv_aload_n hx hb dX12_says_18 rfl (lv_at hl 0 rfl) ?_
    refine zGetI (D := D) (ci := 12) (C := RX12) (T := TX12) (N := 71) hx hb hts hiX12 hown hH (zk_30 hF) rfl 0 (by decide) rfl hw0 (fun _ h9 => h9) dX12_says_19 q110 ?_
    refine lv_if_le (tgt := 29) hx hb dX12_says_22 (by decide) (fun c111 => absurd c111 (by decide)) (fun c111 => ?_)
    refine lv_iconst (v := nI 0) hx hb dX12_says_25 (by decide) ?_
    refine lv_goto (tgt := 35) hx hb dX12_says_26 (by decide) ?_
    refine W.widen (k := 0) (n := 0) (by decide) (by decide) ?_
    exact W.iret (v := nI 0) hx hb hr (fun t9 ht9 hW9 => ⟨⟨nI 0, f109, rfl, fun a b h => by rw [ef109, zu_n (by omega)], zEnd1 hH ht9 hW9⟩, hS.F ht9⟩) hS.2.2 dX12_says_35
set_option maxHeartbeats 4000000 in
set_option maxRecDepth 100000 in
/-- fault -/
theorem m_fault (l : Launch) (hl0 : l.stackTraces = false) (D : va_G) (A : Nat → Prop) (sad : Nat → Nat) (τ : zTy) (fi : zFi) (fr : zFr) (ol : Int64) (hF : zFix τ fr) : Met l yX12_fault wsX12_fault ({ frames := 0, cells := 0, slots := 0, locals := 0 }) (va_Pc [.ref (τ.1 30)] (zQc D A sad τ fi fr ol)) (va_Qi (fun (r : Int32) (u : zFi) => ∀ a b, ¬ (a = 30 ∧ b = 0) → u a b = fi a b) (fun (u : zFi) (t : State) => zH D A τ u fr ol t t.heap) A) 0 0 A := by
  refine Met.ofW (cc := cX12_fault) (maxL := 1) (ret := (some .int)) (by decide) rfl ?_
  intro p9 e9 s m args below meth c9 s₁ B hml hv
  obtain ⟨rfl, hz, hH, hA⟩ := hv
  have hx := B.exec
  have hb := B.bytes
  have hr := B.returns
  have hts := atoms_spec (ws := wsX12_fault) B.pre
  have hown : s.vm.findClass RX12 = some m.cls := findClass_of_methodNamed B.named
  have hlocks := B.notSynchronized
  have hS : va_S A s.heap s.heap [] := va_S.rf
  have hl := lv_entry ([.ref (τ.1 30)]) (n := 1) (Nat.le_of_ble_eq_true rfl)
  rw [lg_entry_eq]
  generalize (lg_sl ([.ref (τ.1 30)]) ++ List.replicate (1 - (lg_sl ([.ref (τ.1 30)])).length) Slot.unset).toArray = ls at hl ⊢
  have hl : lv_has ls 1 [(0, .ref (τ.1 30))] := hl
  have hw0 := hts (.fieldLink RX12 165 "PostHouseModel" "thrown" "I") (by decide +kernel)
  have hiX12 : ∀ w ∈ u_ws RX12 TX12 71, w ∈ wsX12_fault := fun _ h => List.mem_cons_of_mem _ (List.mem_append_right _ h)
  have hw2 := hts (.fieldLink RX12 61 "PostHouseModel" "fault" "I") (by decide +kernel)
  refine lv_aload_n hx hb dX12_fault_0 rfl (lv_at hl 0 rfl) ?_
  refine lv_iconst (v := nI 0) hx hb dX12_fault_1 (by decide) ?_
  refine zPutI (D := D) (ci := 12) (ty := .int) (C := RX12) (T := TX12) (N := 71) hx hb hts hiX12 tyX12 tyX12_ok nmX12 hown hH hS (zk_30 hF) rfl 0 (by decide) rfl hw0 (fun _ h9 => h9) rfl (by decide +kernel) rfl rfl dX12_fault_2 (fun H locs hH hS => ?_)
  obtain ⟨f101, ef101⟩ : ∃ f9 : zFi, f9 = zu fi 30 0 (nI 0) := ⟨_, rfl⟩
  rw [← ef101] at hH
  have q102 : f101 30 0 = nI 0 := by rw [ef101]; exact zu_s
  refine lv_aload_n hx hb dX12_fault_5 rfl (lv_at hl 0 rfl) ?_
  refine zGetI (D := D) (ci := 12) (C := RX12) (T := TX12) (N := 71) hx hb hts hiX12 hown hH (zk_30 hF) rfl 24 (by decide) rfl hw2 (fun _ h9 => h9) dX12_fault_6 rfl ?_
  refine W.widen (k := 0) (n := 0) (by decide) (by decide) ?_
  exact W.iret (v := f101 30 24) hx hb hr (fun t9 ht9 hW9 => ⟨⟨f101 30 24, f101, rfl, fun a b h => by rw [ef101, zu_n (by omega)], zEnd1 hH ht9 hW9⟩, hS.F ht9⟩) hS.2.2 dX12_fault_9
set_option maxHeartbeats 4000000 in
set_option maxRecDepth 100000 in
/-- wrong -/
theorem m_wrong (l : Launch) (hl0 : l.stackTraces = false) (D : va_G) (A : Nat → Prop) (sad : Nat → Nat) (τ : zTy) (fi : zFi) (fr : zFr) (ol : Int64) (x : Int32) (hF : zFix τ fr) : Met l yX12_wrong wsX12_wrong ({ frames := 0, cells := 0, slots := 0, locals := 0 }) (va_Pc [.ref (τ.1 30), .int x] (zQc D A sad τ fi fr ol)) (va_Qi (fun (r : Int32) (u : zFi) => r = 0 ∧ ∀ a b, ¬ (a = 30 ∧ b = 24) → u a b = fi a b) (fun (u : zFi) (t : State) => zH D A τ u fr ol t t.heap) A) 0 0 A := by
  refine Met.ofW (cc := cX12_wrong) (maxL := 2) (ret := (some .boolean)) (by decide) rfl ?_
  intro p9 e9 s m args below meth c9 s₁ B hml hv
  obtain ⟨rfl, hz, hH, hA⟩ := hv
  have hx := B.exec
  have hb := B.bytes
  have hr := B.returns
  have hts := atoms_spec (ws := wsX12_wrong) B.pre
  have hown : s.vm.findClass RX12 = some m.cls := findClass_of_methodNamed B.named
  have hlocks := B.notSynchronized
  have hS : va_S A s.heap s.heap [] := va_S.rf
  have hl := lv_entry ([.ref (τ.1 30), .int x]) (n := 2) (Nat.le_of_ble_eq_true rfl)
  rw [lg_entry_eq]
  generalize (lg_sl ([.ref (τ.1 30), .int x]) ++ List.replicate (2 - (lg_sl ([.ref (τ.1 30), .int x])).length) Slot.unset).toArray = ls at hl ⊢
  have hl : lv_has ls 2 [(0, .ref (τ.1 30)), (1, .int x)] := hl
  have hw0 := hts (.fieldLink RX12 61 "PostHouseModel" "fault" "I") (by decide +kernel)
  have hiX12 : ∀ w ∈ u_ws RX12 TX12 71, w ∈ wsX12_wrong := fun _ h => List.mem_cons_of_mem _ (List.mem_append_right _ h)
  refine lv_aload_n hx hb dX12_wrong_0 rfl (lv_at hl 0 rfl) ?_
  refine lv_iload_n hx hb dX12_wrong_1 rfl (lv_at hl 1 rfl) ?_
  refine zPutI (D := D) (ci := 12) (ty := .int) (C := RX12) (T := TX12) (N := 71) hx hb hts hiX12 tyX12 tyX12_ok nmX12 hown hH hS (zk_30 hF) rfl 24 (by decide) rfl hw0 (fun _ h9 => h9) rfl (by decide +kernel) rfl rfl dX12_wrong_2 (fun H locs hH hS => ?_)
  obtain ⟨f101, ef101⟩ : ∃ f9 : zFi, f9 = zu fi 30 24 x := ⟨_, rfl⟩
  rw [← ef101] at hH
  have q102 : f101 30 24 = x := by rw [ef101]; exact zu_s
  refine lv_iconst (v := nI 0) hx hb dX12_wrong_5 (by decide) ?_
  refine W.widen (k := 0) (n := 0) (by decide) (by decide) ?_
  exact W.zret (v := nI 0) hx hb hr (by decide) (fun t9 ht9 hW9 => ⟨⟨nI 0, f101, rfl, ⟨rfl, fun a b h => by rw [ef101, zu_n (by omega)]⟩, zEnd1 hH ht9 hW9⟩, hS.F ht9⟩) hS.2.2 dX12_wrong_6
