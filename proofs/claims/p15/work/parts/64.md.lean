/-- a letter's lines -/
def zMl (fi : zFi) (k : Nat) : Prop := k ≤ 8 ∧ fi 30 26 = nI k ∧ ∀ j, j < k → 1 ≤ (fi 49 j).toInt ∧ (fi 49 j).toInt ≤ 99
theorem zMl.ci {fi fi' : zFi} {k : Nat} (h : zMl fi k) (hi : ∀ i k, (i = 30 ∧ k = 26) ∨ i = 49 → fi' i k = fi i k) : zMl fi' k := ⟨h.1, by rw [hi 30 26 (by omega)]; exact h.2.1, fun t q => by rw [hi 49 t (by omega)]; exact h.2.2 t q⟩
theorem zMl.add {fi fi' : zFi} {k : Nat} (h : zMl fi k) (hk : k < 8) (e : fi' 30 26 = nI (k + 1)) (e1 : 1 ≤ (fi' 49 k).toInt) (e2 : (fi' 49 k).toInt ≤ 99) (ho : ∀ j, j < k → fi' 49 j = fi 49 j) : zMl fi' (k + 1) := ⟨by omega, e, fun j q => by
  by_cases hj : j = k
  · subst hj; exact ⟨e1, e2⟩
  · rw [ho j (by omega)]; exact h.2.2 j (by omega)⟩
set_option maxHeartbeats 4000000 in
set_option maxRecDepth 100000 in
/-- priceOf -/
theorem m_priceOf (l : Launch) (hl0 : l.stackTraces = false) (D : va_G) (A : Nat → Prop) (sad : Nat → Nat) (τ : zTy) (fi : zFi) (fr : zFr) (ol : Int64) (x : Int32) (hF : zFix τ fr) (n : Nat) (hMt : zMt fi n) : Met l yX12_priceOf wsX12_priceOf ({ frames := 1, cells := 0, slots := 0, locals := 24 }) (va_Pc [.ref (τ.1 30), .int x] (zQc D A sad τ fi fr ol)) (va_Qi (fun (r : Int32) (u : Unit) => (∃ t, t < n ∧ fi 31 t = x) ∨ r = -1) (fun (u : Unit) (t : State) => zH D A τ fi fr ol t t.heap) A) 0 0 A := by
  refine Met.ofW (cc := cX12_priceOf) (maxL := 3) (ret := (some .int)) (by decide) rfl ?_
  intro p9 e9 s m args below meth c9 s₁ B hml hv
  obtain ⟨rfl, hz, hH, hA⟩ := hv
  have hx := B.exec
  have hb := B.bytes
  have hr := B.returns
  have hts := atoms_spec (ws := wsX12_priceOf) B.pre
  have hown : s.vm.findClass RX12 = some m.cls := findClass_of_methodNamed B.named
  have hlocks := B.notSynchronized
  have hS : va_S A s.heap s.heap [] := va_S.rf
  have hl := lv_entry ([.ref (τ.1 30), .int x]) (n := 3) (Nat.le_of_ble_eq_true rfl)
  rw [lg_entry_eq]
  generalize (lg_sl ([.ref (τ.1 30), .int x]) ++ List.replicate (3 - (lg_sl ([.ref (τ.1 30), .int x])).length) Slot.unset).toArray = ls at hl ⊢
  have hl : lv_has ls 3 [(0, .ref (τ.1 30)), (1, .int x)] := hl
  have hm30 := hMt.1
  have hiX12 : ∀ w ∈ u_ws RX12 TX12 71, w ∈ wsX12_priceOf := fun _ h => List.mem_cons_of_mem _ (List.mem_append_right _ h)
  have hw1 := hts (.fieldLink RX12 200 "PostHouseModel" "today" "I") (by decide +kernel)
  refine lv_aload_n hx hb dX12_priceOf_0 rfl (lv_at hl 0 rfl) ?_
  refine lv_iload_n hx hb dX12_priceOf_1 rfl (lv_at hl 1 rfl) ?_
  refine va_calli (va_runV (As := [.int x]) (rest := []) ⟨hx, hb, hml, hown, hts⟩ (m_thingOf l hl0 D A sad τ fi fr ol x hF n hMt.2.1 (by omega)) (cwV 1 hts gX12_priceOf_X12_thingOf rfl rfl rfl (by decide +kernel) ⟨Nat.le_of_ble_eq_true rfl, Nat.le_of_ble_eq_true rfl⟩) ⟨zQc_bl, zRecv hH (zk_30 hF) rfl, zQc_at hz hS hA hH⟩ rfl rfl hl.1 rfl (lv_room (Nat.le_of_ble_eq_true rfl)) dX12_priceOf_2 ⟨Nat.le_of_ble_eq_true rfl, Nat.le_of_ble_eq_true rfl⟩) hS (fun q _ h => h) (fun q h => h) (fun r101 u9 t9 H1 locs ht9 hvm9 hw hB hz1 hk1 hS => ?_)
  have hH := zMv ht9 hvm9 hB
  generalize H1 = H at hH hS ⊢
  rcases hw with ⟨t102, ht102, hcd, hcl, rfl⟩ | ⟨hno, rfl⟩
  · skip
    refine lv_istore_n (lv' := [(2, .int (nI t102)), (0, .ref (τ.1 30)), (1, .int x)]) hx hb dX12_priceOf_5 rfl hl (by decide) rfl (fun ls hl => ?_)
    refine lv_iload_n hx hb dX12_priceOf_6 rfl (lv_at hl 0 rfl) ?_
    refine lv_iconst (v := (-1)) hx hb dX12_priceOf_7 (by decide) ?_
    refine lv_icmp_ne (tgt := 15) hx hb dX12_priceOf_8 (by decide) (fun c103 => ?_) (fun c103 => False.elim (by have zc103 := zc_eq (nI_toInt (by omega)) ((by decide : ((-1) : Int32).toInt = (-1))) c103; omega))
    refine lv_aload_n hx hb dX12_priceOf_15 rfl (lv_at hl 1 rfl) ?_
    refine lv_iload_n hx hb dX12_priceOf_16 rfl (lv_at hl 0 rfl) ?_
    refine lv_aload_n hx hb dX12_priceOf_17 rfl (lv_at hl 1 rfl) ?_
    refine zGetI (D := D) (ci := 12) (C := RX12) (T := TX12) (N := 71) hx hb hts hiX12 hown hH (zk_30 hF) rfl 1 (by decide) rfl hw1 (fun _ h9 => h9) dX12_priceOf_18 rfl ?_
    obtain ⟨k104, h4k104, h0k104⟩ := hMt.2.2 t102 (by omega)
    refine va_calli (va_runV (As := [.int (nI t102), .int (fi 30 1)]) (rest := []) ⟨hx, hb, hml, hown, hts⟩ (m_cost l hl0 D A sad τ fi fr ol (fi 30 1) hF t102 k104 (by omega) h0k104 h4k104) (cwV 2 hts gX12_priceOf_X12_cost rfl rfl rfl (by decide +kernel) ⟨Nat.le_of_ble_eq_true rfl, Nat.le_of_ble_eq_true rfl⟩) ⟨zQc_bl, zRecv hH (zk_30 hF) rfl, zQc_at hz hS hA hH⟩ rfl rfl hl.1 rfl (lv_room (Nat.le_of_ble_eq_true rfl)) dX12_priceOf_21 ⟨Nat.le_of_ble_eq_true rfl, Nat.le_of_ble_eq_true rfl⟩) hS (fun q _ h => h) (fun q h => h) (fun r105 u9 t9 H1 locs ht9 hvm9 hw hB hz1 hk1 hS => ?_)
    have hH := zMv ht9 hvm9 hB
    generalize H1 = H at hH hS ⊢
    refine W.widen (k := 0) (n := 0) (by decide) (by decide) ?_
    exact W.iret (v := r105) hx hb hr (fun t9 ht9 hW9 => ⟨⟨r105, (), rfl, Or.inl ⟨t102, ht102, hcd⟩, zEnd1 hH ht9 hW9⟩, hS.F ht9⟩) hS.2.2 dX12_priceOf_24
  · skip
    refine lv_istore_n (lv' := [(2, .int ((-1))), (0, .ref (τ.1 30)), (1, .int x)]) hx hb dX12_priceOf_5 rfl hl (by decide) rfl (fun ls hl => ?_)
    refine lv_iload_n hx hb dX12_priceOf_6 rfl (lv_at hl 0 rfl) ?_
    refine lv_iconst (v := (-1)) hx hb dX12_priceOf_7 (by decide) ?_
    refine lv_icmp_ne (tgt := 15) hx hb dX12_priceOf_8 (by decide) (fun c106 => absurd (by decide) c106) (fun c106 => ?_)
    refine lv_iconst (v := (-1)) hx hb dX12_priceOf_11 (by decide) ?_
    refine lv_goto (tgt := 24) hx hb dX12_priceOf_12 (by decide) ?_
    refine W.widen (k := 0) (n := 0) (by decide) (by decide) ?_
    exact W.iret (v := (-1)) hx hb hr (fun t9 ht9 hW9 => ⟨⟨(-1), (), rfl, Or.inr rfl, zEnd1 hH ht9 hW9⟩, hS.F ht9⟩) hS.2.2 dX12_priceOf_24
set_option maxHeartbeats 4000000 in
set_option maxRecDepth 100000 in
/-- due -/
theorem m_due (l : Launch) (hl0 : l.stackTraces = false) (D : va_G) (A : Nat → Prop) (sad : Nat → Nat) (τ : zTy) (fi : zFi) (fr : zFr) (ol : Int64) (x : Int32) (hF : zFix τ fr) : Met l yX12_due wsX12_due ({ frames := 0, cells := 0, slots := 0, locals := 0 }) (va_Pc [.ref (τ.1 30), .int x] (zQc D A sad τ fi fr ol)) (va_Qi (fun (r : Int32) (u : Unit) => True) (fun (u : Unit) (t : State) => zH D A τ fi fr ol t t.heap) A) 0 0 A := by
  refine Met.ofW (cc := cX12_due) (maxL := 2) (ret := (some .int)) (by decide) rfl ?_
  intro p9 e9 s m args below meth c9 s₁ B hml hv
  obtain ⟨rfl, hz, hH, hA⟩ := hv
  have hx := B.exec
  have hb := B.bytes
  have hr := B.returns
  have hts := atoms_spec (ws := wsX12_due) B.pre
  have hown : s.vm.findClass RX12 = some m.cls := findClass_of_methodNamed B.named
  have hlocks := B.notSynchronized
  have hS : va_S A s.heap s.heap [] := va_S.rf
  have hl := lv_entry ([.ref (τ.1 30), .int x]) (n := 2) (Nat.le_of_ble_eq_true rfl)
  rw [lg_entry_eq]
  generalize (lg_sl ([.ref (τ.1 30), .int x]) ++ List.replicate (2 - (lg_sl ([.ref (τ.1 30), .int x])).length) Slot.unset).toArray = ls at hl ⊢
  have hl : lv_has ls 2 [(0, .ref (τ.1 30)), (1, .int x)] := hl
  have hiX12 : ∀ w ∈ u_ws RX12 TX12 71, w ∈ wsX12_due := fun _ h => List.mem_cons_of_mem _ (List.mem_append_right _ h)
  have hw1 := hts (.fieldLink RX12 49 "PostHouseModel" "rule" "[I") (by decide +kernel)
  refine lv_iload_n hx hb dX12_due_0 rfl (lv_at hl 1 rfl) ?_
  refine lv_iload_n hx hb dX12_due_1 rfl (lv_at hl 1 rfl) ?_
  refine lv_aload_n hx hb dX12_due_2 rfl (lv_at hl 0 rfl) ?_
  refine zGetR (D := D) (ci := 12) (C := RX12) (T := TX12) (N := 71) hx hb hts hiX12 hown hH (zk_30 hF) rfl 17 (by decide) rfl hw1 (fun _ h9 => h9) dX12_due_3 (zr_30_17 hF) ?_
  refine lv_iconst (v := nI 2) hx hb dX12_due_6 (by decide) ?_
  refine zIaldN (D := D) hx hb hH (zk_44 hF) (zn_44 hF) (by omega) (by omega) rfl dX12_due_7 ?_
  refine lv_icmp_ge (tgt := 20) hx hb dX12_due_8 (by decide) (fun c101 => ?_) (fun c101 => ?_)
  · have zc101 := c101
    replace zc101 := zc_le (rfl) (rfl) zc101
    refine lv_iconst (v := nI 0) hx hb dX12_due_20 (by decide) ?_
    refine lv_iadd hx hb dX12_due_21 ?_
    refine lv_topi (fun v102 ev102 => ?_)
    refine W.widen (k := 0) (n := 0) (by decide) (by decide) ?_
    exact W.iret (v := v102) hx hb hr (fun t9 ht9 hW9 => ⟨⟨v102, (), rfl, trivial, zEnd1 hH ht9 hW9⟩, hS.F ht9⟩) hS.2.2 dX12_due_22
  · have zc101 := c101
    replace zc101 := zc_nle (rfl) (rfl) zc101
    refine lv_aload_n hx hb dX12_due_11 rfl (lv_at hl 0 rfl) ?_
    refine zGetR (D := D) (ci := 12) (C := RX12) (T := TX12) (N := 71) hx hb hts hiX12 hown hH (zk_30 hF) rfl 17 (by decide) rfl hw1 (fun _ h9 => h9) dX12_due_12 (zr_30_17 hF) ?_
    refine lv_iconst (v := nI 1) hx hb dX12_due_15 (by decide) ?_
    refine zIaldN (D := D) hx hb hH (zk_44 hF) (zn_44 hF) (by omega) (by omega) rfl dX12_due_16 ?_
    refine lv_goto (tgt := 21) hx hb dX12_due_17 (by decide) ?_
    refine lv_iadd hx hb dX12_due_21 ?_
    refine lv_topi (fun v103 ev103 => ?_)
    refine W.widen (k := 0) (n := 0) (by decide) (by decide) ?_
    exact W.iret (v := v103) hx hb hr (fun t9 ht9 hW9 => ⟨⟨v103, (), rfl, trivial, zEnd1 hH ht9 hW9⟩, hS.F ht9⟩) hS.2.2 dX12_due_22
set_option maxHeartbeats 4000000 in
set_option maxRecDepth 100000 in
/-- known -/
theorem m_known (l : Launch) (hl0 : l.stackTraces = false) (D : va_G) (A : Nat → Prop) (sad : Nat → Nat) (τ : zTy) (fi : zFi) (fr : zFr) (ol : Int64) (hF : zFix τ fr) (n : Nat) (hMt : zMt fi n) (l0 : Nat) (hMl : zMl fi l0) : Met l yX12_known wsX12_known ({ frames := 2, cells := 0, slots := 0, locals := 46 }) (va_Pc [.ref (τ.1 30)] (zQc D A sad τ fi fr ol)) (va_Qi (fun (r : Int32) (u : Unit) => True) (fun (u : Unit) (t : State) => zH D A τ fi fr ol t t.heap) A) 0 0 A := by
  refine Met.ofW (cc := cX12_known) (maxL := 3) (ret := (some .int)) (by decide) rfl ?_
  intro p9 e9 s m args below meth c9 s₁ B hml hv
  obtain ⟨rfl, hz, hH, hA⟩ := hv
  have hx := B.exec
  have hb := B.bytes
  have hr := B.returns
  have hts := atoms_spec (ws := wsX12_known) B.pre
  have hown : s.vm.findClass RX12 = some m.cls := findClass_of_methodNamed B.named
  have hlocks := B.notSynchronized
  have hS : va_S A s.heap s.heap [] := va_S.rf
  have hl := lv_entry ([.ref (τ.1 30)]) (n := 3) (Nat.le_of_ble_eq_true rfl)
  rw [lg_entry_eq]
  generalize (lg_sl ([.ref (τ.1 30)]) ++ List.replicate (3 - (lg_sl ([.ref (τ.1 30)])).length) Slot.unset).toArray = ls at hl ⊢
  have hl : lv_has ls 3 [(0, .ref (τ.1 30))] := hl
  have hm30 := hMt.1
  have hl8 := hMl.1
  have hiX12 : ∀ w ∈ u_ws RX12 TX12 71, w ∈ wsX12_known := fun _ h => List.mem_cons_of_mem _ (List.mem_append_right _ h)
  have hw1 := hts (.fieldLink RX12 262 "PostHouseModel" "lines" "I") (by decide +kernel)
  have hw2 := hts (.fieldLink RX12 65 "PostHouseModel" "lineCode" "[I") (by decide +kernel)
  refine lv_iconst (v := nI 0) hx hb dX12_known_0 (by decide) ?_
  refine lv_istore_n (lv' := [(1, .int (nI 0)), (0, .ref (τ.1 30))]) hx hb dX12_known_1 rfl hl (by decide) rfl (fun ls hl => ?_)
  refine lv_iconst (v := nI 0) hx hb dX12_known_2 (by decide) ?_
  refine lv_istore_n (lv' := [(2, .int (nI 0)), (1, .int (nI 0)), (0, .ref (τ.1 30))]) hx hb dX12_known_3 rfl hl (by decide) rfl (fun ls hl => ?_)
  refine zLp (σ := Nat × Int32) (fun x9 k9 H locs ls => (fun (i : Nat) (yy : Int32) => k9 = l0 - i ∧ (i ≤ l0) ∧ zH D A τ fi fr ol s H ∧ va_S A s.heap H locs ∧ lv_has ls 3 [(0, .ref (τ.1 30)), (1, .int yy), (2, .int (nI i))]) x9.1 x9.2) (0, nI 0) (l0 - 0) (show l0 - 0 = l0 - 0 ∧ (0 ≤ l0) ∧ zH D A τ fi fr ol s _ ∧ va_S A s.heap _ _ ∧ lv_has _ 3 [(0, .ref (τ.1 30)), (1, .int (nI 0)), (2, .int (nI 0))] from ⟨rfl, Nat.zero_le _, hH, hS, lv_sub hl [2, 1, 0] rfl⟩) (fun k9 ih x9 H locs ls hv9 => ?_)
  obtain ⟨i, yy⟩ := x9
  have hv9 : k9 = l0 - i ∧ (i ≤ l0) ∧ zH D A τ fi fr ol s H ∧ va_S A s.heap H locs ∧ lv_has ls 3 [(0, .ref (τ.1 30)), (1, .int yy), (2, .int (nI i))] := hv9
  obtain ⟨hkih101, hv9, hH, hS, hl⟩ := hv9
  obtain h1 := hv9
  have ih101 := ih
  clear ih
  refine lv_iload_n hx hb dX12_known_4 rfl (lv_at hl 2 rfl) ?_
  refine lv_aload_n hx hb dX12_known_5 rfl (lv_at hl 0 rfl) ?_
  refine zGetI (D := D) (ci := 12) (C := RX12) (T := TX12) (N := 71) hx hb hts hiX12 hown hH (zk_30 hF) rfl 26 (by decide) rfl hw1 (fun _ h9 => h9) dX12_known_6 hMl.2.1 ?_
  refine lv_icmp_ge (tgt := 40) hx hb dX12_known_9 (by decide) (fun c102 => ?_) (fun c102 => ?_)
  · have zc102 := c102
    replace zc102 := zc_le (nI_toInt (by omega)) (nI_toInt (by omega)) zc102
    refine lv_iload_n hx hb dX12_known_40 rfl (lv_at hl 1 rfl) ?_
    refine W.widen (k := 0) (n := 0) (by decide) (by decide) ?_
    exact W.iret (v := yy) hx hb hr (fun t9 ht9 hW9 => ⟨⟨yy, (), rfl, trivial, zEnd1 hH ht9 hW9⟩, hS.F ht9⟩) hS.2.2 dX12_known_41
  · have zc102 := c102
    replace zc102 := zc_nle (nI_toInt (by omega)) (nI_toInt (by omega)) zc102
    refine lv_iload_n hx hb dX12_known_12 rfl (lv_at hl 1 rfl) ?_
    refine lv_aload_n hx hb dX12_known_13 rfl (lv_at hl 0 rfl) ?_
    refine lv_aload_n hx hb dX12_known_14 rfl (lv_at hl 0 rfl) ?_
    refine zGetR (D := D) (ci := 12) (C := RX12) (T := TX12) (N := 71) hx hb hts hiX12 hown hH (zk_30 hF) rfl 27 (by decide) rfl hw2 (fun _ h9 => h9) dX12_known_15 (zr_30_27 hF) ?_
    refine lv_iload_n hx hb dX12_known_18 rfl (lv_at hl 2 rfl) ?_
    refine zIaldN (D := D) hx hb hH (zk_48 hF) (zn_48 hF) (by omega) (by omega) rfl dX12_known_19 ?_
    refine va_calli (va_runV (As := [.int (fi 48 i)]) (rest := [.int yy]) ⟨hx, hb, hml, hown, hts⟩ (m_priceOf l hl0 D A sad τ fi fr ol (fi 48 i) hF n hMt) (cwV 1 hts gX12_known_X12_priceOf rfl rfl rfl (by decide +kernel) ⟨Nat.le_of_ble_eq_true rfl, Nat.le_of_ble_eq_true rfl⟩) ⟨zQc_bl, zRecv hH (zk_30 hF) rfl, zQc_at hz hS hA hH⟩ rfl rfl hl.1 rfl (lv_room (Nat.le_of_ble_eq_true rfl)) dX12_known_20 ⟨Nat.le_of_ble_eq_true rfl, Nat.le_of_ble_eq_true rfl⟩) hS (fun q _ h => h) (fun q h => h) (fun r103 u9 t9 H1 locs ht9 hvm9 hw hB hz1 hk1 hS => ?_)
    have hH := zMv ht9 hvm9 hB
    generalize H1 = H at hH hS ⊢
    clear hw
    refine lv_iconst (v := (-1)) hx hb dX12_known_23 (by decide) ?_
    refine lv_icmp_ne (tgt := 31) hx hb dX12_known_24 (by decide) (fun c104 => ?_) (fun c104 => ?_)
    · have zc104 := c104
      replace zc104 := zc_neq (rfl) ((by decide : ((-1) : Int32).toInt = (-1))) zc104
      refine lv_iconst (v := nI 1) hx hb dX12_known_31 (by decide) ?_
      refine lv_iadd hx hb dX12_known_32 ?_
      refine lv_topi (fun v105 ev105 => ?_)
      refine lv_istore_n (lv' := [(1, .int v105), (0, .ref (τ.1 30)), (2, .int (nI i))]) hx hb dX12_known_33 rfl hl (by decide) rfl (fun ls hl => ?_)
      refine lv_iinc (v := nI (i + 1)) (lv' := [(2, .int (nI (i + 1))), (1, .int v105), (0, .ref (τ.1 30))]) hx hb dX12_known_34 hl (k := 2) rfl (by rw [show (Int32.ofInt 1 : Int32) = nI 1 from by decide, nI_add]) (by decide) rfl (fun ls hl => ?_)
      refine lv_goto (tgt := 4) hx hb dX12_known_37 (by decide) ?_
      exact ih101 (l0 - (i + 1)) (by omega) (i + 1, _) _ _ _ (show l0 - (i + 1) = l0 - (i + 1) ∧ ((i + 1) ≤ l0) ∧ zH D A τ fi fr ol s _ ∧ va_S A s.heap _ _ ∧ lv_has _ 3 [(0, .ref (τ.1 30)), (1, .int _), (2, .int (nI (i + 1)))] from ⟨rfl, (by omega), hH, hS, lv_sub hl [2, 1, 0] rfl⟩)
    · have zc104 := c104
      replace zc104 := zc_eq (rfl) ((by decide : ((-1) : Int32).toInt = (-1))) zc104
      refine lv_iconst (v := nI 0) hx hb dX12_known_27 (by decide) ?_
      refine lv_goto (tgt := 32) hx hb dX12_known_28 (by decide) ?_
      refine lv_iadd hx hb dX12_known_32 ?_
      refine lv_topi (fun v106 ev106 => ?_)
      refine lv_istore_n (lv' := [(1, .int v106), (0, .ref (τ.1 30)), (2, .int (nI i))]) hx hb dX12_known_33 rfl hl (by decide) rfl (fun ls hl => ?_)
      refine lv_iinc (v := nI (i + 1)) (lv' := [(2, .int (nI (i + 1))), (1, .int v106), (0, .ref (τ.1 30))]) hx hb dX12_known_34 hl (k := 2) rfl (by rw [show (Int32.ofInt 1 : Int32) = nI 1 from by decide, nI_add]) (by decide) rfl (fun ls hl => ?_)
      refine lv_goto (tgt := 4) hx hb dX12_known_37 (by decide) ?_
      exact ih101 (l0 - (i + 1)) (by omega) (i + 1, _) _ _ _ (show l0 - (i + 1) = l0 - (i + 1) ∧ ((i + 1) ≤ l0) ∧ zH D A τ fi fr ol s _ ∧ va_S A s.heap _ _ ∧ lv_has _ 3 [(0, .ref (τ.1 30)), (1, .int _), (2, .int (nI (i + 1)))] from ⟨rfl, (by omega), hH, hS, lv_sub hl [2, 1, 0] rfl⟩)
set_option maxHeartbeats 4000000 in
set_option maxRecDepth 100000 in
/-- total -/
theorem m_total (l : Launch) (hl0 : l.stackTraces = false) (D : va_G) (A : Nat → Prop) (sad : Nat → Nat) (τ : zTy) (fi : zFi) (fr : zFr) (ol : Int64) (x y : Int32) (hF : zFix τ fr) (n : Nat) (hMt : zMt fi n) (l0 : Nat) (hMl : zMl fi l0) : Met l yX12_total wsX12_total ({ frames := 2, cells := 0, slots := 0, locals := 46 }) (va_Pc [.ref (τ.1 30), .int x, .int y] (zQc D A sad τ fi fr ol)) (va_Qi (fun (r : Int32) (u : Unit) => True) (fun (u : Unit) (t : State) => zH D A τ fi fr ol t t.heap) A) 0 0 A := by
  refine Met.ofW (cc := cX12_total) (maxL := 6) (ret := (some .int)) (by decide) rfl ?_
  intro p9 e9 s m args below meth c9 s₁ B hml hv
  obtain ⟨rfl, hz, hH, hA⟩ := hv
  have hx := B.exec
  have hb := B.bytes
  have hr := B.returns
  have hts := atoms_spec (ws := wsX12_total) B.pre
  have hown : s.vm.findClass RX12 = some m.cls := findClass_of_methodNamed B.named
  have hlocks := B.notSynchronized
  have hS : va_S A s.heap s.heap [] := va_S.rf
  have hl := lv_entry ([.ref (τ.1 30), .int x, .int y]) (n := 6) (Nat.le_of_ble_eq_true rfl)
  rw [lg_entry_eq]
  generalize (lg_sl ([.ref (τ.1 30), .int x, .int y]) ++ List.replicate (6 - (lg_sl ([.ref (τ.1 30), .int x, .int y])).length) Slot.unset).toArray = ls at hl ⊢
  have hl : lv_has ls 6 [(0, .ref (τ.1 30)), (1, .int x), (2, .int y)] := hl
  have hm30 := hMt.1
  have hl8 := hMl.1
  have hiX12 : ∀ w ∈ u_ws RX12 TX12 71, w ∈ wsX12_total := fun _ h => List.mem_cons_of_mem _ (List.mem_append_right _ h)
  have hw1 := hts (.fieldLink RX12 262 "PostHouseModel" "lines" "I") (by decide +kernel)
  have hw2 := hts (.fieldLink RX12 65 "PostHouseModel" "lineCode" "[I") (by decide +kernel)
  have hw3 := hts (.fieldLink RX12 68 "PostHouseModel" "lineMany" "[I") (by decide +kernel)
  refine lv_iconst (v := nI 0) hx hb dX12_total_0 (by decide) ?_
  refine lv_istore_n (lv' := [(3, .int (nI 0)), (0, .ref (τ.1 30)), (1, .int x), (2, .int y)]) hx hb dX12_total_1 rfl hl (by decide) rfl (fun ls hl => ?_)
  refine lv_iconst (v := nI 0) hx hb dX12_total_2 (by decide) ?_
  refine lv_istore (lv' := [(4, .int (nI 0)), (3, .int (nI 0)), (0, .ref (τ.1 30)), (1, .int x), (2, .int y)]) hx hb dX12_total_3 hl (by decide) rfl (fun ls hl => ?_)
  refine zLp (σ := Nat × Int32) (fun x9 k9 H locs ls => (fun (i : Nat) (yy : Int32) => k9 = l0 - i ∧ (i ≤ l0) ∧ zH D A τ fi fr ol s H ∧ va_S A s.heap H locs ∧ lv_has ls 6 [(0, .ref (τ.1 30)), (1, .int x), (2, .int y), (3, .int yy), (4, .int (nI i))]) x9.1 x9.2) (0, nI 0) (l0 - 0) (show l0 - 0 = l0 - 0 ∧ (0 ≤ l0) ∧ zH D A τ fi fr ol s _ ∧ va_S A s.heap _ _ ∧ lv_has _ 6 [(0, .ref (τ.1 30)), (1, .int x), (2, .int y), (3, .int (nI 0)), (4, .int (nI 0))] from ⟨rfl, Nat.zero_le _, hH, hS, lv_sub hl [2, 3, 4, 1, 0] rfl⟩) (fun k9 ih x9 H locs ls hv9 => ?_)
  obtain ⟨i, yy⟩ := x9
  have hv9 : k9 = l0 - i ∧ (i ≤ l0) ∧ zH D A τ fi fr ol s H ∧ va_S A s.heap H locs ∧ lv_has ls 6 [(0, .ref (τ.1 30)), (1, .int x), (2, .int y), (3, .int yy), (4, .int (nI i))] := hv9
  obtain ⟨hkih101, hv9, hH, hS, hl⟩ := hv9
  obtain h1 := hv9
  have ih101 := ih
  clear ih
  refine lv_iload hx hb dX12_total_5 (lv_at hl 4 rfl) ?_
  refine lv_aload_n hx hb dX12_total_7 rfl (lv_at hl 0 rfl) ?_
  refine zGetI (D := D) (ci := 12) (C := RX12) (T := TX12) (N := 71) hx hb hts hiX12 hown hH (zk_30 hF) rfl 26 (by decide) rfl hw1 (fun _ h9 => h9) dX12_total_8 hMl.2.1 ?_
  refine lv_icmp_ge (tgt := 64) hx hb dX12_total_11 (by decide) (fun c102 => ?_) (fun c102 => ?_)
  · have zc102 := c102
    replace zc102 := zc_le (nI_toInt (by omega)) (nI_toInt (by omega)) zc102
    refine lv_iload_n hx hb dX12_total_64 rfl (lv_at hl 3 rfl) ?_
    refine W.widen (k := 0) (n := 0) (by decide) (by decide) ?_
    exact W.iret (v := yy) hx hb hr (fun t9 ht9 hW9 => ⟨⟨yy, (), rfl, trivial, zEnd1 hH ht9 hW9⟩, hS.F ht9⟩) hS.2.2 dX12_total_65
  · have zc102 := c102
    replace zc102 := zc_nle (nI_toInt (by omega)) (nI_toInt (by omega)) zc102
    refine lv_aload_n hx hb dX12_total_14 rfl (lv_at hl 0 rfl) ?_
    refine lv_iload hx hb dX12_total_15 (lv_at hl 4 rfl) ?_
    refine lv_iload_n hx hb dX12_total_17 rfl (lv_at hl 1 rfl) ?_
    refine lv_icmp_ne (tgt := 25) hx hb dX12_total_18 (by decide) (fun c103 => ?_) (fun c103 => ?_)
    · have zc103 := c103
      replace zc103 := zc_neq (nI_toInt (by omega)) (rfl) zc103
      refine lv_aload_n hx hb dX12_total_25 rfl (lv_at hl 0 rfl) ?_
      refine zGetR (D := D) (ci := 12) (C := RX12) (T := TX12) (N := 71) hx hb hts hiX12 hown hH (zk_30 hF) rfl 27 (by decide) rfl hw2 (fun _ h9 => h9) dX12_total_26 (zr_30_27 hF) ?_
      refine lv_iload hx hb dX12_total_29 (lv_at hl 4 rfl) ?_
      refine zIaldN (D := D) hx hb hH (zk_48 hF) (zn_48 hF) (by omega) (by omega) rfl dX12_total_31 ?_
      refine va_calli (va_runV (As := [.int (fi 48 i)]) (rest := []) ⟨hx, hb, hml, hown, hts⟩ (m_priceOf l hl0 D A sad τ fi fr ol (fi 48 i) hF n hMt) (cwV 1 hts gX12_total_X12_priceOf rfl rfl rfl (by decide +kernel) ⟨Nat.le_of_ble_eq_true rfl, Nat.le_of_ble_eq_true rfl⟩) ⟨zQc_bl, zRecv hH (zk_30 hF) rfl, zQc_at hz hS hA hH⟩ rfl rfl hl.1 rfl (lv_room (Nat.le_of_ble_eq_true rfl)) dX12_total_32 ⟨Nat.le_of_ble_eq_true rfl, Nat.le_of_ble_eq_true rfl⟩) hS (fun q _ h => h) (fun q h => h) (fun r104 u9 t9 H1 locs ht9 hvm9 hw hB hz1 hk1 hS => ?_)
      have hH := zMv ht9 hvm9 hB
      generalize H1 = H at hH hS ⊢
      clear hw
      refine lv_istore (lv' := [(5, .int r104), (0, .ref (τ.1 30)), (1, .int x), (2, .int y), (3, .int yy), (4, .int (nI i))]) hx hb dX12_total_35 hl (by decide) rfl (fun ls hl => ?_)
      refine lv_iload hx hb dX12_total_37 (lv_at hl 0 rfl) ?_
      refine lv_iconst (v := (-1)) hx hb dX12_total_39 (by decide) ?_
      refine lv_icmp_ne (tgt := 45) hx hb dX12_total_40 (by decide) (fun c105 => ?_) (fun c105 => ?_)
      · have zc105 := c105
        replace zc105 := zc_neq (rfl) ((by decide : ((-1) : Int32).toInt = (-1))) zc105
        refine lv_iload_n hx hb dX12_total_45 rfl (lv_at hl 4 rfl) ?_
        refine lv_iload hx hb dX12_total_46 (lv_at hl 0 rfl) ?_
        refine lv_aload_n hx hb dX12_total_48 rfl (lv_at hl 1 rfl) ?_
        refine zGetR (D := D) (ci := 12) (C := RX12) (T := TX12) (N := 71) hx hb hts hiX12 hown hH (zk_30 hF) rfl 28 (by decide) rfl hw3 (fun _ h9 => h9) dX12_total_49 (zr_30_28 hF) ?_
        refine lv_iload hx hb dX12_total_52 (lv_at hl 5 rfl) ?_
        refine zIaldN (D := D) hx hb hH (zk_49 hF) (zn_49 hF) (by omega) (by omega) rfl dX12_total_54 ?_
        refine lv_imul hx hb dX12_total_55 ?_
        refine lv_topi (fun v106 ev106 => ?_)
        refine lv_iadd hx hb dX12_total_56 ?_
        refine lv_topi (fun v107 ev107 => ?_)
        refine lv_istore_n (lv' := [(3, .int v107), (5, .int r104), (0, .ref (τ.1 30)), (1, .int x), (2, .int y), (4, .int (nI i))]) hx hb dX12_total_57 rfl hl (by decide) rfl (fun ls hl => ?_)
        refine lv_iinc (v := nI (i + 1)) (lv' := [(4, .int (nI (i + 1))), (3, .int v107), (5, .int r104), (0, .ref (τ.1 30)), (1, .int x), (2, .int y)]) hx hb dX12_total_58 hl (k := 5) rfl (by rw [show (Int32.ofInt 1 : Int32) = nI 1 from by decide, nI_add]) (by decide) rfl (fun ls hl => ?_)
        refine lv_goto (tgt := 5) hx hb dX12_total_61 (by decide) ?_
        exact ih101 (l0 - (i + 1)) (by omega) (i + 1, _) _ _ _ (show l0 - (i + 1) = l0 - (i + 1) ∧ ((i + 1) ≤ l0) ∧ zH D A τ fi fr ol s _ ∧ va_S A s.heap _ _ ∧ lv_has _ 6 [(0, .ref (τ.1 30)), (1, .int x), (2, .int y), (3, .int _), (4, .int (nI (i + 1)))] from ⟨rfl, (by omega), hH, hS, lv_sub hl [3, 4, 5, 1, 0] rfl⟩)
      · have zc105 := c105
        replace zc105 := zc_eq (rfl) ((by decide : ((-1) : Int32).toInt = (-1))) zc105
        refine lv_iconst (v := (-1)) hx hb dX12_total_43 (by decide) ?_
        refine W.widen (k := 0) (n := 0) (by decide) (by decide) ?_
        exact W.iret (v := (-1)) hx hb hr (fun t9 ht9 hW9 => ⟨⟨(-1), (), rfl, trivial, zEnd1 hH ht9 hW9⟩, hS.F ht9⟩) hS.2.2 dX12_total_44
    · have zc103 := c103
      replace zc103 := zc_eq (nI_toInt (by omega)) (rfl) zc103
      refine lv_iload_n hx hb dX12_total_21 rfl (lv_at hl 2 rfl) ?_
      refine lv_goto (tgt := 32) hx hb dX12_total_22 (by decide) ?_
      refine va_calli (va_runV (As := [.int y]) (rest := []) ⟨hx, hb, hml, hown, hts⟩ (m_priceOf l hl0 D A sad τ fi fr ol y hF n hMt) (cwV 1 hts gX12_total_X12_priceOf rfl rfl rfl (by decide +kernel) ⟨Nat.le_of_ble_eq_true rfl, Nat.le_of_ble_eq_true rfl⟩) ⟨zQc_bl, zRecv hH (zk_30 hF) rfl, zQc_at hz hS hA hH⟩ rfl rfl hl.1 rfl (lv_room (Nat.le_of_ble_eq_true rfl)) dX12_total_32 ⟨Nat.le_of_ble_eq_true rfl, Nat.le_of_ble_eq_true rfl⟩) hS (fun q _ h => h) (fun q h => h) (fun r108 u9 t9 H1 locs ht9 hvm9 hw hB hz1 hk1 hS => ?_)
      have hH := zMv ht9 hvm9 hB
      generalize H1 = H at hH hS ⊢
      clear hw
      refine lv_istore (lv' := [(5, .int r108), (0, .ref (τ.1 30)), (1, .int x), (2, .int y), (3, .int yy), (4, .int (nI i))]) hx hb dX12_total_35 hl (by decide) rfl (fun ls hl => ?_)
      refine lv_iload hx hb dX12_total_37 (lv_at hl 0 rfl) ?_
      refine lv_iconst (v := (-1)) hx hb dX12_total_39 (by decide) ?_
      refine lv_icmp_ne (tgt := 45) hx hb dX12_total_40 (by decide) (fun c109 => ?_) (fun c109 => ?_)
      · have zc109 := c109
        replace zc109 := zc_neq (rfl) ((by decide : ((-1) : Int32).toInt = (-1))) zc109
        refine lv_iload_n hx hb dX12_total_45 rfl (lv_at hl 4 rfl) ?_
        refine lv_iload hx hb dX12_total_46 (lv_at hl 0 rfl) ?_
        refine lv_aload_n hx hb dX12_total_48 rfl (lv_at hl 1 rfl) ?_
        refine zGetR (D := D) (ci := 12) (C := RX12) (T := TX12) (N := 71) hx hb hts hiX12 hown hH (zk_30 hF) rfl 28 (by decide) rfl hw3 (fun _ h9 => h9) dX12_total_49 (zr_30_28 hF) ?_
        refine lv_iload hx hb dX12_total_52 (lv_at hl 5 rfl) ?_
        refine zIaldN (D := D) hx hb hH (zk_49 hF) (zn_49 hF) (by omega) (by omega) rfl dX12_total_54 ?_
        refine lv_imul hx hb dX12_total_55 ?_
        refine lv_topi (fun v110 ev110 => ?_)
        refine lv_iadd hx hb dX12_total_56 ?_
        refine lv_topi (fun v111 ev111 => ?_)
        refine lv_istore_n (lv' := [(3, .int v111), (5, .int r108), (0, .ref (τ.1 30)), (1, .int x), (2, .int y), (4, .int (nI i))]) hx hb dX12_total_57 rfl hl (by decide) rfl (fun ls hl => ?_)
        refine lv_iinc (v := nI (i + 1)) (lv' := [(4, .int (nI (i + 1))), (3, .int v111), (5, .int r108), (0, .ref (τ.1 30)), (1, .int x), (2, .int y)]) hx hb dX12_total_58 hl (k := 5) rfl (by rw [show (Int32.ofInt 1 : Int32) = nI 1 from by decide, nI_add]) (by decide) rfl (fun ls hl => ?_)
        refine lv_goto (tgt := 5) hx hb dX12_total_61 (by decide) ?_
        exact ih101 (l0 - (i + 1)) (by omega) (i + 1, _) _ _ _ (show l0 - (i + 1) = l0 - (i + 1) ∧ ((i + 1) ≤ l0) ∧ zH D A τ fi fr ol s _ ∧ va_S A s.heap _ _ ∧ lv_has _ 6 [(0, .ref (τ.1 30)), (1, .int x), (2, .int y), (3, .int _), (4, .int (nI (i + 1)))] from ⟨rfl, (by omega), hH, hS, lv_sub hl [3, 4, 5, 1, 0] rfl⟩)
      · have zc109 := c109
        replace zc109 := zc_eq (rfl) ((by decide : ((-1) : Int32).toInt = (-1))) zc109
        refine lv_iconst (v := (-1)) hx hb dX12_total_43 (by decide) ?_
        refine W.widen (k := 0) (n := 0) (by decide) (by decide) ?_
        exact W.iret (v := (-1)) hx hb hr (fun t9 ht9 hW9 => ⟨⟨(-1), (), rfl, trivial, zEnd1 hH ht9 hW9⟩, hS.F ht9⟩) hS.2.2 dX12_total_44
set_option maxHeartbeats 4000000 in
set_option maxRecDepth 100000 in
/-- oneDigit -/
theorem m_oneDigit (l : Launch) (hl0 : l.stackTraces = false) (D : va_G) (A : Nat → Prop) (sad : Nat → Nat) (τ : zTy) (fi : zFi) (fr : zFr) (ol : Int64) (x y : Int32) : Met l yX12_oneDigit wsX12_oneDigit ({ frames := 0, cells := 0, slots := 0, locals := 0 }) (va_Pc [.int x, .int y] (zQc D A sad τ fi fr ol)) (va_Qi (fun (r : Int32) (u : Unit) => True) (fun (u : Unit) (t : State) => zH D A τ fi fr ol t t.heap) A) 0 0 A := by
  refine Met.ofW (cc := cX12_oneDigit) (maxL := 6) (ret := (some .boolean)) (by decide) rfl ?_
  intro p9 e9 s m args below meth c9 s₁ B hml hv
  obtain ⟨rfl, hz, hH, hA⟩ := hv
  have hx := B.exec
  have hb := B.bytes
  have hr := B.returns
  have hts := atoms_spec (ws := wsX12_oneDigit) B.pre
  have hown : s.vm.findClass RX12 = some m.cls := findClass_of_methodNamed B.named
  have hlocks := B.notSynchronized
  have hS : va_S A s.heap s.heap [] := va_S.rf
  have hl := lv_entry ([.int x, .int y]) (n := 6) (Nat.le_of_ble_eq_true rfl)
  rw [lg_entry_eq]
  generalize (lg_sl ([.int x, .int y]) ++ List.replicate (6 - (lg_sl ([.int x, .int y])).length) Slot.unset).toArray = ls at hl ⊢
  have hl : lv_has ls 6 [(0, .int x), (1, .int y)] := hl
  refine lv_iconst (v := nI 0) hx hb dX12_oneDigit_0 (by decide) ?_
  refine lv_istore_n (lv' := [(2, .int (nI 0)), (0, .int x), (1, .int y)]) hx hb dX12_oneDigit_1 rfl hl (by decide) rfl (fun ls hl => ?_)
  refine lv_iload_n hx hb dX12_oneDigit_2 rfl (lv_at hl 1 rfl) ?_
  refine lv_istore_n (lv' := [(3, .int x), (2, .int (nI 0)), (0, .int x), (1, .int y)]) hx hb dX12_oneDigit_3 rfl hl (by decide) rfl (fun ls hl => ?_)
  refine lv_iload_n hx hb dX12_oneDigit_4 rfl (lv_at hl 3 rfl) ?_
  refine lv_istore (lv' := [(4, .int y), (3, .int x), (2, .int (nI 0)), (0, .int x), (1, .int y)]) hx hb dX12_oneDigit_5 hl (by decide) rfl (fun ls hl => ?_)
  refine lv_iconst (v := nI 0) hx hb dX12_oneDigit_7 (by decide) ?_
  refine lv_istore (lv' := [(5, .int (nI 0)), (4, .int y), (3, .int x), (2, .int (nI 0)), (0, .int x), (1, .int y)]) hx hb dX12_oneDigit_8 hl (by decide) rfl (fun ls hl => ?_)
  refine zLp (σ := Nat × Int32 × Int32 × Int32) (fun x9 k9 H locs ls => (fun (i : Nat) (n2 : Int32) (xx : Int32) (yy : Int32) => k9 = 4 - i ∧ (i ≤ 4) ∧ zH D A τ fi fr ol s H ∧ va_S A s.heap H locs ∧ lv_has ls 6 [(0, .int x), (1, .int y), (2, .int n2), (3, .int xx), (4, .int yy), (5, .int (nI i))]) x9.1 x9.2.1 x9.2.2.1 x9.2.2.2) (0, nI 0, x, y) (4 - 0) (show 4 - 0 = 4 - 0 ∧ (0 ≤ 4) ∧ zH D A τ fi fr ol s _ ∧ va_S A s.heap _ _ ∧ lv_has _ 6 [(0, .int x), (1, .int y), (2, .int (nI 0)), (3, .int x), (4, .int y), (5, .int (nI 0))] from ⟨rfl, Nat.zero_le _, hH, hS, lv_sub hl [4, 5, 3, 2, 1, 0] rfl⟩) (fun k9 ih x9 H locs ls hv9 => ?_)
  obtain ⟨i, n2, xx, yy⟩ := x9
  have hv9 : k9 = 4 - i ∧ (i ≤ 4) ∧ zH D A τ fi fr ol s H ∧ va_S A s.heap H locs ∧ lv_has ls 6 [(0, .int x), (1, .int y), (2, .int n2), (3, .int xx), (4, .int yy), (5, .int (nI i))] := hv9
  obtain ⟨hkih101, hv9, hH, hS, hl⟩ := hv9
  obtain h1 := hv9
  have ih101 := ih
  clear ih
  refine lv_iload hx hb dX12_oneDigit_10 (lv_at hl 5 rfl) ?_
  refine lv_iconst (v := nI 4) hx hb dX12_oneDigit_12 (by decide) ?_
  refine lv_icmp_ge (tgt := 54) hx hb dX12_oneDigit_13 (by decide) (fun c102 => ?_) (fun c102 => ?_)
  · have zc102 := c102
    replace zc102 := zc_le (nI_toInt (by omega)) (nI_toInt (by omega)) zc102
    refine lv_iload_n hx hb dX12_oneDigit_54 rfl (lv_at hl 2 rfl) ?_
    refine lv_iconst (v := nI 1) hx hb dX12_oneDigit_55 (by decide) ?_
    refine lv_icmp_ne (tgt := 63) hx hb dX12_oneDigit_56 (by decide) (fun c103 => ?_) (fun c103 => ?_)
    · have zc103 := c103
      replace zc103 := zc_neq (rfl) (nI_toInt (by omega)) zc103
      refine lv_iconst (v := nI 0) hx hb dX12_oneDigit_63 (by decide) ?_
      refine W.widen (k := 0) (n := 0) (by decide) (by decide) ?_
      exact W.zret (v := nI 0) hx hb hr (by decide) (fun t9 ht9 hW9 => ⟨⟨nI 0, (), rfl, trivial, zEnd1 hH ht9 hW9⟩, hS.F ht9⟩) hS.2.2 dX12_oneDigit_64
    · have zc103 := c103
      replace zc103 := zc_eq (rfl) (nI_toInt (by omega)) zc103
      refine lv_iconst (v := nI 1) hx hb dX12_oneDigit_59 (by decide) ?_
      refine lv_goto (tgt := 64) hx hb dX12_oneDigit_60 (by decide) ?_
      refine W.widen (k := 0) (n := 0) (by decide) (by decide) ?_
      exact W.zret (v := nI 1) hx hb hr (by decide) (fun t9 ht9 hW9 => ⟨⟨nI 1, (), rfl, trivial, zEnd1 hH ht9 hW9⟩, hS.F ht9⟩) hS.2.2 dX12_oneDigit_64
  · have zc102 := c102
    replace zc102 := zc_nle (nI_toInt (by omega)) (nI_toInt (by omega)) zc102
    refine lv_iload_n hx hb dX12_oneDigit_16 rfl (lv_at hl 2 rfl) ?_
    refine lv_iload_n hx hb dX12_oneDigit_17 rfl (lv_at hl 3 rfl) ?_
    refine lv_bipush (v := nI 10) hx hb dX12_oneDigit_18 (by decide) ?_
    refine lv_irem hx hb dX12_oneDigit_20 (by decide) ?_
    refine lv_topi (fun v104 ev104 => ?_)
    refine lv_iload hx hb dX12_oneDigit_21 (lv_at hl 4 rfl) ?_
    refine lv_bipush (v := nI 10) hx hb dX12_oneDigit_23 (by decide) ?_
    refine lv_irem hx hb dX12_oneDigit_25 (by decide) ?_
    refine lv_topi (fun v105 ev105 => ?_)
    refine lv_icmp_eq (tgt := 33) hx hb dX12_oneDigit_26 (by decide) (fun c106 => ?_) (fun c106 => ?_)
    · have zc106 := c106
      replace zc106 := zc_eq (rfl) (rfl) zc106
      refine lv_iconst (v := nI 0) hx hb dX12_oneDigit_33 (by decide) ?_
      refine lv_iadd hx hb dX12_oneDigit_34 ?_
      refine lv_topi (fun v107 ev107 => ?_)
      refine lv_istore_n (lv' := [(2, .int v107), (0, .int x), (1, .int y), (3, .int xx), (4, .int yy), (5, .int (nI i))]) hx hb dX12_oneDigit_35 rfl hl (by decide) rfl (fun ls hl => ?_)
      refine lv_iload_n hx hb dX12_oneDigit_36 rfl (lv_at hl 3 rfl) ?_
      refine lv_bipush (v := nI 10) hx hb dX12_oneDigit_37 (by decide) ?_
      refine lv_idiv hx hb dX12_oneDigit_39 (by decide) ?_
      refine lv_topi (fun v108 ev108 => ?_)
      refine lv_istore_n (lv' := [(3, .int v108), (2, .int v107), (0, .int x), (1, .int y), (4, .int yy), (5, .int (nI i))]) hx hb dX12_oneDigit_40 rfl hl (by decide) rfl (fun ls hl => ?_)
      refine lv_iload hx hb dX12_oneDigit_41 (lv_at hl 4 rfl) ?_
      refine lv_bipush (v := nI 10) hx hb dX12_oneDigit_43 (by decide) ?_
      refine lv_idiv hx hb dX12_oneDigit_45 (by decide) ?_
      refine lv_topi (fun v109 ev109 => ?_)
      refine lv_istore (lv' := [(4, .int v109), (3, .int v108), (2, .int v107), (0, .int x), (1, .int y), (5, .int (nI i))]) hx hb dX12_oneDigit_46 hl (by decide) rfl (fun ls hl => ?_)
      refine lv_iinc (v := nI (i + 1)) (lv' := [(5, .int (nI (i + 1))), (4, .int v109), (3, .int v108), (2, .int v107), (0, .int x), (1, .int y)]) hx hb dX12_oneDigit_48 hl (k := 5) rfl (by rw [show (Int32.ofInt 1 : Int32) = nI 1 from by decide, nI_add]) (by decide) rfl (fun ls hl => ?_)
      refine lv_goto (tgt := 10) hx hb dX12_oneDigit_51 (by decide) ?_
      exact ih101 (4 - (i + 1)) (by omega) (i + 1, _, _, _) _ _ _ (show 4 - (i + 1) = 4 - (i + 1) ∧ ((i + 1) ≤ 4) ∧ zH D A τ fi fr ol s _ ∧ va_S A s.heap _ _ ∧ lv_has _ 6 [(0, .int x), (1, .int y), (2, .int _), (3, .int _), (4, .int _), (5, .int (nI (i + 1)))] from ⟨rfl, (by omega), hH, hS, lv_sub hl [4, 5, 3, 2, 1, 0] rfl⟩)
    · have zc106 := c106
      replace zc106 := zc_neq (rfl) (rfl) zc106
      refine lv_iconst (v := nI 1) hx hb dX12_oneDigit_29 (by decide) ?_
      refine lv_goto (tgt := 34) hx hb dX12_oneDigit_30 (by decide) ?_
      refine lv_iadd hx hb dX12_oneDigit_34 ?_
      refine lv_topi (fun v110 ev110 => ?_)
      refine lv_istore_n (lv' := [(2, .int v110), (0, .int x), (1, .int y), (3, .int xx), (4, .int yy), (5, .int (nI i))]) hx hb dX12_oneDigit_35 rfl hl (by decide) rfl (fun ls hl => ?_)
      refine lv_iload_n hx hb dX12_oneDigit_36 rfl (lv_at hl 3 rfl) ?_
      refine lv_bipush (v := nI 10) hx hb dX12_oneDigit_37 (by decide) ?_
      refine lv_idiv hx hb dX12_oneDigit_39 (by decide) ?_
      refine lv_topi (fun v111 ev111 => ?_)
      refine lv_istore_n (lv' := [(3, .int v111), (2, .int v110), (0, .int x), (1, .int y), (4, .int yy), (5, .int (nI i))]) hx hb dX12_oneDigit_40 rfl hl (by decide) rfl (fun ls hl => ?_)
      refine lv_iload hx hb dX12_oneDigit_41 (lv_at hl 4 rfl) ?_
      refine lv_bipush (v := nI 10) hx hb dX12_oneDigit_43 (by decide) ?_
      refine lv_idiv hx hb dX12_oneDigit_45 (by decide) ?_
      refine lv_topi (fun v112 ev112 => ?_)
      refine lv_istore (lv' := [(4, .int v112), (3, .int v111), (2, .int v110), (0, .int x), (1, .int y), (5, .int (nI i))]) hx hb dX12_oneDigit_46 hl (by decide) rfl (fun ls hl => ?_)
      refine lv_iinc (v := nI (i + 1)) (lv' := [(5, .int (nI (i + 1))), (4, .int v112), (3, .int v111), (2, .int v110), (0, .int x), (1, .int y)]) hx hb dX12_oneDigit_48 hl (k := 5) rfl (by rw [show (Int32.ofInt 1 : Int32) = nI 1 from by decide, nI_add]) (by decide) rfl (fun ls hl => ?_)
      refine lv_goto (tgt := 10) hx hb dX12_oneDigit_51 (by decide) ?_
      exact ih101 (4 - (i + 1)) (by omega) (i + 1, _, _, _) _ _ _ (show 4 - (i + 1) = 4 - (i + 1) ∧ ((i + 1) ≤ 4) ∧ zH D A τ fi fr ol s _ ∧ va_S A s.heap _ _ ∧ lv_has _ 6 [(0, .int x), (1, .int y), (2, .int _), (3, .int _), (4, .int _), (5, .int (nI (i + 1)))] from ⟨rfl, (by omega), hH, hS, lv_sub hl [4, 5, 3, 2, 1, 0] rfl⟩)
set_option maxHeartbeats 4000000 in
set_option maxRecDepth 100000 in
/-- findMendings -/
theorem m_findM (l : Launch) (hl0 : l.stackTraces = false) (D : va_G) (A : Nat → Prop) (sad : Nat → Nat) (τ : zTy) (fi : zFi) (fr : zFr) (ol : Int64) (hF : zFix τ fr) (n : Nat) (hMt : zMt fi n) (l0 : Nat) (hMl : zMl fi l0) : Met l yX12_findMendings wsX12_findMendings ({ frames := 3, cells := 0, slots := 0, locals := 71 }) (va_Pc [.ref (τ.1 30)] (zQc D A sad τ fi fr ol)) (va_Qv (fun (u : zFi) => (u 30 31 = nI 0 ∨ ∃ k, k < 8 ∧ u 30 32 = nI k) ∧ ∀ a b, ¬ (a = 30 ∧ 31 ≤ b ∧ b ≤ 33) → u a b = fi a b) (fun (u : zFi) (t : State) => zH D A τ u fr ol t t.heap) A) 0 0 A := by
  refine Met.ofW (cc := cX12_findMendings) (maxL := 3) (ret := none) (by decide) rfl ?_
  intro p9 e9 s m args below meth c9 s₁ B hml hv
  obtain ⟨rfl, hz, hH, hA⟩ := hv
  have hx := B.exec
  have hb := B.bytes
  have hr := B.returns
  have hts := atoms_spec (ws := wsX12_findMendings) B.pre
  have hown : s.vm.findClass RX12 = some m.cls := findClass_of_methodNamed B.named
  have hlocks := B.notSynchronized
  have hS : va_S A s.heap s.heap [] := va_S.rf
  have hl := lv_entry ([.ref (τ.1 30)]) (n := 3) (Nat.le_of_ble_eq_true rfl)
  rw [lg_entry_eq]
  generalize (lg_sl ([.ref (τ.1 30)]) ++ List.replicate (3 - (lg_sl ([.ref (τ.1 30)])).length) Slot.unset).toArray = ls at hl ⊢
  have hl : lv_has ls 3 [(0, .ref (τ.1 30))] := hl
  have hm30 := hMt.1
  have hl8 := hMl.1
  have hMt0 := hMt
  have hMl0 := hMl
  have hw0 := hts (.fieldLink RX12 283 "PostHouseModel" "mendings" "I") (by decide +kernel)
  have hiX12 : ∀ w ∈ u_ws RX12 TX12 71, w ∈ wsX12_findMendings := fun _ h => List.mem_cons_of_mem _ (List.mem_append_right _ h)
  have hw2 := hts (.fieldLink RX12 262 "PostHouseModel" "lines" "I") (by decide +kernel)
  have hw3 := hts (.fieldLink RX12 168 "PostHouseModel" "things" "I") (by decide +kernel)
  have hw4 := hts (.fieldLink RX12 7 "PostHouseModel" "code" "[I") (by decide +kernel)
  have hw5 := hts (.fieldLink RX12 65 "PostHouseModel" "lineCode" "[I") (by decide +kernel)
  have hw6 := hts (.fieldLink RX12 200 "PostHouseModel" "today" "I") (by decide +kernel)
  have hw7 := hts (.fieldLink RX12 272 "PostHouseModel" "sum" "I") (by decide +kernel)
  have hw8 := hts (.fieldLink RX12 293 "PostHouseModel" "mendLine" "I") (by decide +kernel)
  have hw9 := hts (.fieldLink RX12 296 "PostHouseModel" "mendCode" "I") (by decide +kernel)
  refine lv_aload_n hx hb dX12_findMendings_0 rfl (lv_at hl 0 rfl) ?_
  refine lv_iconst (v := nI 0) hx hb dX12_findMendings_1 (by decide) ?_
  refine zPutI (D := D) (ci := 12) (ty := .int) (C := RX12) (T := TX12) (N := 71) hx hb hts hiX12 tyX12 tyX12_ok nmX12 hown hH hS (zk_30 hF) rfl 31 (by decide) rfl hw0 (fun _ h9 => h9) rfl (by decide +kernel) rfl rfl dX12_findMendings_2 (fun H locs hH hS => ?_)
  obtain ⟨f101, ef101⟩ : ∃ f9 : zFi, f9 = zu fi 30 31 (nI 0) := ⟨_, rfl⟩
  rw [← ef101] at hH
  have q102 : f101 30 2 = nI n := by rw [ef101, zu_n (fun h9 => absurd h9.2 (by decide))]; exact hMt.2.1
  have q103 : f101 30 26 = nI l0 := by rw [ef101, zu_n (fun h9 => absurd h9.2 (by decide))]; exact hMl.2.1
  have q104 : f101 30 31 = nI 0 := by rw [ef101]; exact zu_s
  have hMt := zMt.ci (fi' := f101) hMt (fun i9 k9 h9 => by rw [ef101]; exact zu_n (by omega))
  have hMl := zMl.ci (fi' := f101) hMl (fun i9 k9 h9 => by rw [ef101]; exact zu_n (by omega))
  refine lv_iconst (v := nI 0) hx hb dX12_findMendings_5 (by decide) ?_
  refine lv_istore_n (lv' := [(1, .int (nI 0)), (0, .ref (τ.1 30))]) hx hb dX12_findMendings_6 rfl hl (by decide) rfl (fun ls hl => ?_)
  refine zLp (σ := Nat × zFi) (fun x9 k9 H locs ls => (fun (i : Nat) (f : zFi) => k9 = l0 - i ∧ (i ≤ l0 ∧ (f 30 31 = nI 0 ∨ ∃ k, k < 8 ∧ f 30 32 = nI k) ∧ ∀ a b, ¬ (a = 30 ∧ 31 ≤ b ∧ b ≤ 33) → f a b = fi a b) ∧ zH D A τ f fr ol s H ∧ va_S A s.heap H locs ∧ lv_has ls 3 [(0, .ref (τ.1 30)), (1, .int (nI i))]) x9.1 x9.2) (0, f101) (l0 - 0) (show l0 - 0 = l0 - 0 ∧ (0 ≤ l0 ∧ (f101 30 31 = nI 0 ∨ ∃ k, k < 8 ∧ f101 30 32 = nI k) ∧ ∀ a b, ¬ (a = 30 ∧ 31 ≤ b ∧ b ≤ 33) → f101 a b = fi a b) ∧ zH D A τ f101 fr ol s _ ∧ va_S A s.heap _ _ ∧ lv_has _ 3 [(0, .ref (τ.1 30)), (1, .int (nI 0))] from ⟨rfl, ⟨Nat.zero_le _, Or.inl q104, fun a b h => by rw [ef101, zu_n (by omega)]⟩, hH, hS, lv_sub hl [1, 0] rfl⟩) (fun k9 ih x9 H locs ls hv9 => ?_)
  obtain ⟨i, f⟩ := x9
  have hv9 : k9 = l0 - i ∧ (i ≤ l0 ∧ (f 30 31 = nI 0 ∨ ∃ k, k < 8 ∧ f 30 32 = nI k) ∧ ∀ a b, ¬ (a = 30 ∧ 31 ≤ b ∧ b ≤ 33) → f a b = fi a b) ∧ zH D A τ f fr ol s H ∧ va_S A s.heap H locs ∧ lv_has ls 3 [(0, .ref (τ.1 30)), (1, .int (nI i))] := hv9
  obtain ⟨hkih105, hv9, hH, hS, hl⟩ := hv9
  obtain ⟨h1, hp, hfr⟩ := hv9
  have ih105 := ih
  clear ih
  have hMt := zMt.ci (fi' := f) hMt0 (fun i9 k9 h9 => hfr i9 k9 (by omega))
  have hMl := zMl.ci (fi' := f) hMl0 (fun i9 k9 h9 => hfr i9 k9 (by omega))
  have p2 := hMt.2.1
  have p26 := hMl.2.1
  refine lv_iload_n hx hb dX12_findMendings_7 rfl (lv_at hl 1 rfl) ?_
  refine lv_aload_n hx hb dX12_findMendings_8 rfl (lv_at hl 0 rfl) ?_
  refine zGetI (D := D) (ci := 12) (C := RX12) (T := TX12) (N := 71) hx hb hts hiX12 hown hH (zk_30 hF) rfl 26 (by decide) rfl hw2 (fun _ h9 => h9) dX12_findMendings_9 p26 ?_
  refine lv_icmp_ge (tgt := 114) hx hb dX12_findMendings_12 (by decide) (fun c106 => ?_) (fun c106 => ?_)
  · have zc106 := c106
    replace zc106 := zc_le (nI_toInt (by omega)) (nI_toInt (by omega)) zc106
    refine W.widen (k := 0) (n := 0) (by decide) (by decide) ?_
    exact W.vret hx hb hr (fun t9 ht9 hW9 => ⟨⟨f, rfl, ⟨hp, hfr⟩, zEnd1 hH ht9 hW9⟩, hS.F ht9⟩) hS.2.2 dX12_findMendings_114
  · have zc106 := c106
    replace zc106 := zc_nle (nI_toInt (by omega)) (nI_toInt (by omega)) zc106
    refine lv_iconst (v := nI 0) hx hb dX12_findMendings_15 (by decide) ?_
    refine lv_istore_n (lv' := [(2, .int (nI 0)), (0, .ref (τ.1 30)), (1, .int (nI i))]) hx hb dX12_findMendings_16 rfl hl (by decide) rfl (fun ls hl => ?_)
    refine zLp (σ := Nat × zFi) (fun x9 k9 H locs ls => (fun (i2 : Nat) (f2 : zFi) => k9 = n - i2 ∧ (i2 ≤ n ∧ (f2 30 31 = nI 0 ∨ ∃ k, k < 8 ∧ f2 30 32 = nI k) ∧ ∀ a b, ¬ (a = 30 ∧ 31 ≤ b ∧ b ≤ 33) → f2 a b = fi a b) ∧ zH D A τ f2 fr ol s H ∧ va_S A s.heap H locs ∧ lv_has ls 3 [(0, .ref (τ.1 30)), (1, .int (nI i)), (2, .int (nI i2))]) x9.1 x9.2) (0, f) (n - 0) (show n - 0 = n - 0 ∧ (0 ≤ n ∧ (f 30 31 = nI 0 ∨ ∃ k, k < 8 ∧ f 30 32 = nI k) ∧ ∀ a b, ¬ (a = 30 ∧ 31 ≤ b ∧ b ≤ 33) → f a b = fi a b) ∧ zH D A τ f fr ol s _ ∧ va_S A s.heap _ _ ∧ lv_has _ 3 [(0, .ref (τ.1 30)), (1, .int (nI i)), (2, .int (nI 0))] from ⟨rfl, ⟨Nat.zero_le _, hp, hfr⟩, hH, hS, lv_sub hl [1, 2, 0] rfl⟩) (fun k9 ih x9 H locs ls hv9 => ?_)
    obtain ⟨i2, f2⟩ := x9
    have hv9 : k9 = n - i2 ∧ (i2 ≤ n ∧ (f2 30 31 = nI 0 ∨ ∃ k, k < 8 ∧ f2 30 32 = nI k) ∧ ∀ a b, ¬ (a = 30 ∧ 31 ≤ b ∧ b ≤ 33) → f2 a b = fi a b) ∧ zH D A τ f2 fr ol s H ∧ va_S A s.heap H locs ∧ lv_has ls 3 [(0, .ref (τ.1 30)), (1, .int (nI i)), (2, .int (nI i2))] := hv9
    obtain ⟨hkih107, hv9, hH, hS, hl⟩ := hv9
    obtain ⟨h2, hp2, hfr2⟩ := hv9
    have ih107 := ih
    clear ih
    have hMt := zMt.ci (fi' := f2) hMt0 (fun i9 k9 h9 => hfr2 i9 k9 (by omega))
    have hMl := zMl.ci (fi' := f2) hMl0 (fun i9 k9 h9 => hfr2 i9 k9 (by omega))
    have p2 := hMt.2.1
    have p26 := hMl.2.1
    refine lv_iload_n hx hb dX12_findMendings_17 rfl (lv_at hl 2 rfl) ?_
    refine lv_aload_n hx hb dX12_findMendings_18 rfl (lv_at hl 0 rfl) ?_
    refine zGetI (D := D) (ci := 12) (C := RX12) (T := TX12) (N := 71) hx hb hts hiX12 hown hH (zk_30 hF) rfl 2 (by decide) rfl hw3 (fun _ h9 => h9) dX12_findMendings_19 p2 ?_
    refine lv_icmp_ge (tgt := 108) hx hb dX12_findMendings_22 (by decide) (fun c108 => ?_) (fun c108 => ?_)
    · have zc108 := c108
      replace zc108 := zc_le (nI_toInt (by omega)) (nI_toInt (by omega)) zc108
      refine lv_iinc (v := nI (i + 1)) (lv' := [(1, .int (nI (i + 1))), (0, .ref (τ.1 30)), (2, .int (nI i2))]) hx hb dX12_findMendings_108 hl (k := 1) rfl (by rw [show (Int32.ofInt 1 : Int32) = nI 1 from by decide, nI_add]) (by decide) rfl (fun ls hl => ?_)
      refine lv_goto (tgt := 7) hx hb dX12_findMendings_111 (by decide) ?_
      exact ih105 (l0 - (i + 1)) (by omega) (i + 1, f2) _ _ _ (show l0 - (i + 1) = l0 - (i + 1) ∧ ((i + 1) ≤ l0 ∧ (f2 30 31 = nI 0 ∨ ∃ k, k < 8 ∧ f2 30 32 = nI k) ∧ ∀ a b, ¬ (a = 30 ∧ 31 ≤ b ∧ b ≤ 33) → f2 a b = fi a b) ∧ zH D A τ f2 fr ol s _ ∧ va_S A s.heap _ _ ∧ lv_has _ 3 [(0, .ref (τ.1 30)), (1, .int (nI (i + 1)))] from ⟨rfl, ⟨by omega, hp2, hfr2⟩, hH, hS, lv_sub hl [1, 0] rfl⟩)
    · have zc108 := c108
      replace zc108 := zc_nle (nI_toInt (by omega)) (nI_toInt (by omega)) zc108
      refine lv_aload_n hx hb dX12_findMendings_25 rfl (lv_at hl 0 rfl) ?_
      refine zGetR (D := D) (ci := 12) (C := RX12) (T := TX12) (N := 71) hx hb hts hiX12 hown hH (zk_30 hF) rfl 3 (by decide) rfl hw4 (fun _ h9 => h9) dX12_findMendings_26 (zr_30_3 hF) ?_
      refine lv_iload_n hx hb dX12_findMendings_29 rfl (lv_at hl 2 rfl) ?_
      refine zIaldN (D := D) hx hb hH (zk_31 hF) (zn_31 hF) (by omega) (by omega) rfl dX12_findMendings_30 ?_
      refine lv_aload_n hx hb dX12_findMendings_31 rfl (lv_at hl 0 rfl) ?_
      refine zGetR (D := D) (ci := 12) (C := RX12) (T := TX12) (N := 71) hx hb hts hiX12 hown hH (zk_30 hF) rfl 27 (by decide) rfl hw5 (fun _ h9 => h9) dX12_findMendings_32 (zr_30_27 hF) ?_
      refine lv_iload_n hx hb dX12_findMendings_35 rfl (lv_at hl 1 rfl) ?_
      refine zIaldN (D := D) hx hb hH (zk_48 hF) (zn_48 hF) (by omega) (by omega) rfl dX12_findMendings_36 ?_
      refine va_calli (va_runS (As := [.int (f2 31 i2), .int (f2 48 i)]) (rest := []) ⟨hx, hb, hml, hown, hts⟩ (m_oneDigit l hl0 D A sad τ f2 fr ol (f2 31 i2) (f2 48 i)) (cwS 2 hts gX12_findMendings_X12_oneDigit rfl rfl rfl (by decide +kernel) ⟨Nat.le_of_ble_eq_true rfl, Nat.le_of_ble_eq_true rfl⟩) ⟨zQc_bl, zQc_at hz hS hA hH⟩ rfl rfl hl.1 rfl (lv_room (Nat.le_of_ble_eq_true rfl)) dX12_findMendings_37 ⟨Nat.le_of_ble_eq_true rfl, Nat.le_of_ble_eq_true rfl⟩) hS (fun q _ h => h) (fun q h => h) (fun r109 u9 t9 H1 locs ht9 hvm9 hw hB hz1 hk1 hS => ?_)
      have hH := zMv ht9 hvm9 hB
      generalize H1 = H at hH hS ⊢
      refine lv_if_eq (tgt := 102) hx hb dX12_findMendings_40 (by decide) (fun c110 => ?_) (fun c110 => ?_)
      · have zc110 := c110
        replace zc110 := zc_eq (rfl) ((by decide : (0 : Int32).toInt = 0)) zc110
        refine lv_iinc (v := nI (i2 + 1)) (lv' := [(2, .int (nI (i2 + 1))), (0, .ref (τ.1 30)), (1, .int (nI i))]) hx hb dX12_findMendings_102 hl (k := 2) rfl (by rw [show (Int32.ofInt 1 : Int32) = nI 1 from by decide, nI_add]) (by decide) rfl (fun ls hl => ?_)
        refine lv_goto (tgt := 17) hx hb dX12_findMendings_105 (by decide) ?_
        exact ih107 (n - (i2 + 1)) (by omega) (i2 + 1, f2) _ _ _ (show n - (i2 + 1) = n - (i2 + 1) ∧ ((i2 + 1) ≤ n ∧ (f2 30 31 = nI 0 ∨ ∃ k, k < 8 ∧ f2 30 32 = nI k) ∧ ∀ a b, ¬ (a = 30 ∧ 31 ≤ b ∧ b ≤ 33) → f2 a b = fi a b) ∧ zH D A τ f2 fr ol s _ ∧ va_S A s.heap _ _ ∧ lv_has _ 3 [(0, .ref (τ.1 30)), (1, .int (nI i)), (2, .int (nI (i2 + 1)))] from ⟨rfl, ⟨by omega, hp2, fun a b h => hfr2 a b h⟩, hH, hS, lv_sub hl [1, 2, 0] rfl⟩)
      · have zc110 := c110
        replace zc110 := zc_neq (rfl) ((by decide : (0 : Int32).toInt = 0)) zc110
        refine lv_aload_n hx hb dX12_findMendings_43 rfl (lv_at hl 0 rfl) ?_
        refine lv_iload_n hx hb dX12_findMendings_44 rfl (lv_at hl 2 rfl) ?_
        refine lv_aload_n hx hb dX12_findMendings_45 rfl (lv_at hl 0 rfl) ?_
        refine zGetI (D := D) (ci := 12) (C := RX12) (T := TX12) (N := 71) hx hb hts hiX12 hown hH (zk_30 hF) rfl 1 (by decide) rfl hw6 (fun _ h9 => h9) dX12_findMendings_46 rfl ?_
        obtain ⟨k111, h4k111, h0k111⟩ := hMt.2.2 i2 (by omega)
        refine va_calli (va_runV (As := [.int (nI i2), .int (f2 30 1)]) (rest := []) ⟨hx, hb, hml, hown, hts⟩ (m_cost l hl0 D A sad τ f2 fr ol (f2 30 1) hF i2 k111 (by omega) h0k111 h4k111) (cwV 2 hts gX12_findMendings_X12_cost rfl rfl rfl (by decide +kernel) ⟨Nat.le_of_ble_eq_true rfl, Nat.le_of_ble_eq_true rfl⟩) ⟨zQc_bl, zRecv hH (zk_30 hF) rfl, zQc_at hz hS hA hH⟩ rfl rfl hl.1 rfl (lv_room (Nat.le_of_ble_eq_true rfl)) dX12_findMendings_49 ⟨Nat.le_of_ble_eq_true rfl, Nat.le_of_ble_eq_true rfl⟩) hS (fun q _ h => h) (fun q h => h) (fun r112 u9 t9 H1 locs ht9 hvm9 hw hB hz1 hk1 hS => ?_)
        have hH := zMv ht9 hvm9 hB
        generalize H1 = H at hH hS ⊢
        refine lv_iconst (v := (-1)) hx hb dX12_findMendings_52 (by decide) ?_
        refine lv_icmp_eq (tgt := 102) hx hb dX12_findMendings_53 (by decide) (fun c113 => ?_) (fun c113 => ?_)
        · have zc113 := c113
          replace zc113 := zc_eq (rfl) ((by decide : ((-1) : Int32).toInt = (-1))) zc113
          refine lv_iinc (v := nI (i2 + 1)) (lv' := [(2, .int (nI (i2 + 1))), (0, .ref (τ.1 30)), (1, .int (nI i))]) hx hb dX12_findMendings_102 hl (k := 2) rfl (by rw [show (Int32.ofInt 1 : Int32) = nI 1 from by decide, nI_add]) (by decide) rfl (fun ls hl => ?_)
          refine lv_goto (tgt := 17) hx hb dX12_findMendings_105 (by decide) ?_
          exact ih107 (n - (i2 + 1)) (by omega) (i2 + 1, f2) _ _ _ (show n - (i2 + 1) = n - (i2 + 1) ∧ ((i2 + 1) ≤ n ∧ (f2 30 31 = nI 0 ∨ ∃ k, k < 8 ∧ f2 30 32 = nI k) ∧ ∀ a b, ¬ (a = 30 ∧ 31 ≤ b ∧ b ≤ 33) → f2 a b = fi a b) ∧ zH D A τ f2 fr ol s _ ∧ va_S A s.heap _ _ ∧ lv_has _ 3 [(0, .ref (τ.1 30)), (1, .int (nI i)), (2, .int (nI (i2 + 1)))] from ⟨rfl, ⟨by omega, hp2, fun a b h => hfr2 a b h⟩, hH, hS, lv_sub hl [1, 2, 0] rfl⟩)
        · have zc113 := c113
          replace zc113 := zc_neq (rfl) ((by decide : ((-1) : Int32).toInt = (-1))) zc113
          refine lv_aload_n hx hb dX12_findMendings_56 rfl (lv_at hl 0 rfl) ?_
          refine lv_iload_n hx hb dX12_findMendings_57 rfl (lv_at hl 1 rfl) ?_
          refine lv_aload_n hx hb dX12_findMendings_58 rfl (lv_at hl 0 rfl) ?_
          refine zGetR (D := D) (ci := 12) (C := RX12) (T := TX12) (N := 71) hx hb hts hiX12 hown hH (zk_30 hF) rfl 3 (by decide) rfl hw4 (fun _ h9 => h9) dX12_findMendings_59 (zr_30_3 hF) ?_
          refine lv_iload_n hx hb dX12_findMendings_62 rfl (lv_at hl 2 rfl) ?_
          refine zIaldN (D := D) hx hb hH (zk_31 hF) (zn_31 hF) (by omega) (by omega) rfl dX12_findMendings_63 ?_
          refine va_calli (va_runV (As := [.int (nI i), .int (f2 31 i2)]) (rest := []) ⟨hx, hb, hml, hown, hts⟩ (m_total l hl0 D A sad τ f2 fr ol (nI i) (f2 31 i2) hF n hMt l0 hMl) (cwV 2 hts gX12_findMendings_X12_total rfl rfl rfl (by decide +kernel) ⟨Nat.le_of_ble_eq_true rfl, Nat.le_of_ble_eq_true rfl⟩) ⟨zQc_bl, zRecv hH (zk_30 hF) rfl, zQc_at hz hS hA hH⟩ rfl rfl hl.1 rfl (lv_room (Nat.le_of_ble_eq_true rfl)) dX12_findMendings_64 ⟨Nat.le_of_ble_eq_true rfl, Nat.le_of_ble_eq_true rfl⟩) hS (fun q _ h => h) (fun q h => h) (fun r114 u9 t9 H1 locs ht9 hvm9 hw hB hz1 hk1 hS => ?_)
          have hH := zMv ht9 hvm9 hB
          generalize H1 = H at hH hS ⊢
          refine lv_aload_n hx hb dX12_findMendings_67 rfl (lv_at hl 0 rfl) ?_
          refine zGetI (D := D) (ci := 12) (C := RX12) (T := TX12) (N := 71) hx hb hts hiX12 hown hH (zk_30 hF) rfl 29 (by decide) rfl hw7 (fun _ h9 => h9) dX12_findMendings_68 rfl ?_
          refine lv_icmp_eq (tgt := 77) hx hb dX12_findMendings_71 (by decide) (fun c115 => ?_) (fun c115 => ?_)
          · have zc115 := c115
            replace zc115 := zc_eq (rfl) (rfl) zc115
            refine lv_aload_n hx hb dX12_findMendings_77 rfl (lv_at hl 0 rfl) ?_
            refine lv_dup hx hb dX12_findMendings_78 rfl ?_
            refine zGetI (D := D) (ci := 12) (C := RX12) (T := TX12) (N := 71) hx hb hts hiX12 hown hH (zk_30 hF) rfl 31 (by decide) rfl hw0 (fun _ h9 => h9) dX12_findMendings_79 rfl ?_
            refine lv_iconst (v := nI 1) hx hb dX12_findMendings_82 (by decide) ?_
            refine lv_iadd hx hb dX12_findMendings_83 ?_
            refine lv_topi (fun v116 ev116 => ?_)
            refine zPutI (D := D) (ci := 12) (ty := .int) (C := RX12) (T := TX12) (N := 71) hx hb hts hiX12 tyX12 tyX12_ok nmX12 hown hH hS (zk_30 hF) rfl 31 (by decide) rfl hw0 (fun _ h9 => h9) rfl (by decide +kernel) rfl rfl dX12_findMendings_84 (fun H locs hH hS => ?_)
            obtain ⟨f117, ef117⟩ : ∃ f9 : zFi, f9 = zu f2 30 31 v116 := ⟨_, rfl⟩
            rw [← ef117] at hH
            have q118 : f117 30 2 = nI n := by rw [ef117, zu_n (fun h9 => absurd h9.2 (by decide))]; exact p2
            have q119 : f117 30 26 = nI l0 := by rw [ef117, zu_n (fun h9 => absurd h9.2 (by decide))]; exact p26
            have q120 : f117 30 31 = v116 := by rw [ef117]; exact zu_s
            have hMt := zMt.ci (fi' := f117) hMt (fun i9 k9 h9 => by rw [ef117]; exact zu_n (by omega))
            have hMl := zMl.ci (fi' := f117) hMl (fun i9 k9 h9 => by rw [ef117]; exact zu_n (by omega))
            refine lv_aload_n hx hb dX12_findMendings_87 rfl (lv_at hl 0 rfl) ?_
            refine lv_iload_n hx hb dX12_findMendings_88 rfl (lv_at hl 1 rfl) ?_
            refine zPutI (D := D) (ci := 12) (ty := .int) (C := RX12) (T := TX12) (N := 71) hx hb hts hiX12 tyX12 tyX12_ok nmX12 hown hH hS (zk_30 hF) rfl 32 (by decide) rfl hw8 (fun _ h9 => h9) rfl (by decide +kernel) rfl rfl dX12_findMendings_89 (fun H locs hH hS => ?_)
            obtain ⟨f121, ef121⟩ : ∃ f9 : zFi, f9 = zu f117 30 32 (nI i) := ⟨_, rfl⟩
            rw [← ef121] at hH
            have q122 : f121 30 2 = nI n := by rw [ef121, zu_n (fun h9 => absurd h9.2 (by decide))]; exact q118
            have q123 : f121 30 26 = nI l0 := by rw [ef121, zu_n (fun h9 => absurd h9.2 (by decide))]; exact q119
            have q124 : f121 30 31 = v116 := by rw [ef121, zu_n (fun h9 => absurd h9.2 (by decide))]; exact q120
            have q125 : f121 30 32 = nI i := by rw [ef121]; exact zu_s
            have hMt := zMt.ci (fi' := f121) hMt (fun i9 k9 h9 => by rw [ef121]; exact zu_n (by omega))
            have hMl := zMl.ci (fi' := f121) hMl (fun i9 k9 h9 => by rw [ef121]; exact zu_n (by omega))
            refine lv_aload_n hx hb dX12_findMendings_92 rfl (lv_at hl 0 rfl) ?_
            refine lv_aload_n hx hb dX12_findMendings_93 rfl (lv_at hl 0 rfl) ?_
            refine zGetR (D := D) (ci := 12) (C := RX12) (T := TX12) (N := 71) hx hb hts hiX12 hown hH (zk_30 hF) rfl 3 (by decide) rfl hw4 (fun _ h9 => h9) dX12_findMendings_94 (zr_30_3 hF) ?_
            refine lv_iload_n hx hb dX12_findMendings_97 rfl (lv_at hl 2 rfl) ?_
            refine zIaldN (D := D) hx hb hH (zk_31 hF) (zn_31 hF) (by omega) (by omega) rfl dX12_findMendings_98 ?_
            refine zPutI (D := D) (ci := 12) (ty := .int) (C := RX12) (T := TX12) (N := 71) hx hb hts hiX12 tyX12 tyX12_ok nmX12 hown hH hS (zk_30 hF) rfl 33 (by decide) rfl hw9 (fun _ h9 => h9) rfl (by decide +kernel) rfl rfl dX12_findMendings_99 (fun H locs hH hS => ?_)
            obtain ⟨f126, ef126⟩ : ∃ f9 : zFi, f9 = zu f121 30 33 (f121 31 i2) := ⟨_, rfl⟩
            rw [← ef126] at hH
            have q127 : f126 30 2 = nI n := by rw [ef126, zu_n (fun h9 => absurd h9.2 (by decide))]; exact q122
            have q128 : f126 30 26 = nI l0 := by rw [ef126, zu_n (fun h9 => absurd h9.2 (by decide))]; exact q123
            have q129 : f126 30 31 = v116 := by rw [ef126, zu_n (fun h9 => absurd h9.2 (by decide))]; exact q124
            have q130 : f126 30 32 = nI i := by rw [ef126, zu_n (fun h9 => absurd h9.2 (by decide))]; exact q125
            have q131 : f126 30 33 = f121 31 i2 := by rw [ef126]; exact zu_s
            have hMt := zMt.ci (fi' := f126) hMt (fun i9 k9 h9 => by rw [ef126]; exact zu_n (by omega))
            have hMl := zMl.ci (fi' := f126) hMl (fun i9 k9 h9 => by rw [ef126]; exact zu_n (by omega))
            refine lv_iinc (v := nI (i2 + 1)) (lv' := [(2, .int (nI (i2 + 1))), (0, .ref (τ.1 30)), (1, .int (nI i))]) hx hb dX12_findMendings_102 hl (k := 2) rfl (by rw [show (Int32.ofInt 1 : Int32) = nI 1 from by decide, nI_add]) (by decide) rfl (fun ls hl => ?_)
            refine lv_goto (tgt := 17) hx hb dX12_findMendings_105 (by decide) ?_
            exact ih107 (n - (i2 + 1)) (by omega) (i2 + 1, f126) _ _ _ (show n - (i2 + 1) = n - (i2 + 1) ∧ ((i2 + 1) ≤ n ∧ (f126 30 31 = nI 0 ∨ ∃ k, k < 8 ∧ f126 30 32 = nI k) ∧ ∀ a b, ¬ (a = 30 ∧ 31 ≤ b ∧ b ≤ 33) → f126 a b = fi a b) ∧ zH D A τ f126 fr ol s _ ∧ va_S A s.heap _ _ ∧ lv_has _ 3 [(0, .ref (τ.1 30)), (1, .int (nI i)), (2, .int (nI (i2 + 1)))] from ⟨rfl, ⟨by omega, Or.inr ⟨i, by omega, q130⟩, fun a b h => by rw [ef126, zu_n (by omega), ef121, zu_n (by omega), ef117, zu_n (by omega)]; exact hfr2 a b h⟩, hH, hS, lv_sub hl [1, 2, 0] rfl⟩)
          · have zc115 := c115
            replace zc115 := zc_neq (rfl) (rfl) zc115
            refine lv_goto (tgt := 102) hx hb dX12_findMendings_74 (by decide) ?_
            refine lv_iinc (v := nI (i2 + 1)) (lv' := [(2, .int (nI (i2 + 1))), (0, .ref (τ.1 30)), (1, .int (nI i))]) hx hb dX12_findMendings_102 hl (k := 2) rfl (by rw [show (Int32.ofInt 1 : Int32) = nI 1 from by decide, nI_add]) (by decide) rfl (fun ls hl => ?_)
            refine lv_goto (tgt := 17) hx hb dX12_findMendings_105 (by decide) ?_
            exact ih107 (n - (i2 + 1)) (by omega) (i2 + 1, f2) _ _ _ (show n - (i2 + 1) = n - (i2 + 1) ∧ ((i2 + 1) ≤ n ∧ (f2 30 31 = nI 0 ∨ ∃ k, k < 8 ∧ f2 30 32 = nI k) ∧ ∀ a b, ¬ (a = 30 ∧ 31 ≤ b ∧ b ≤ 33) → f2 a b = fi a b) ∧ zH D A τ f2 fr ol s _ ∧ va_S A s.heap _ _ ∧ lv_has _ 3 [(0, .ref (τ.1 30)), (1, .int (nI i)), (2, .int (nI (i2 + 1)))] from ⟨rfl, ⟨by omega, hp2, fun a b h => hfr2 a b h⟩, hH, hS, lv_sub hl [1, 2, 0] rfl⟩)
set_option maxHeartbeats 4000000 in
set_option maxRecDepth 100000 in
/-- readLine -/
theorem m_readLine (l : Launch) (hl0 : l.stackTraces = false) (D : va_G) (A : Nat → Prop) (sad : Nat → Nat) (τ : zTy) (fi : zFi) (fr : zFr) (ol : Int64) (L a : Nat) (hF : zFix τ fr) (he : fi 30 22 = nI L) (ha : fi 30 23 = nI a) (hL4 : L ≤ 400) (haL : a ≤ L) (l0 : Nat) (hMl : zMl fi l0) (hl7 : l0 < 8) : Met l yX12_readLine wsX12_readLine ({ frames := 3, cells := 0, slots := 0, locals := 70 }) (va_Pc [.ref (τ.1 30)] (zQc D A sad τ fi fr ol)) (va_Qi (fun (r : Int32) (u : zFi) => (r = 0 ∨ (r = 1 ∧ zMl u (l0 + 1))) ∧ (∃ c, a ≤ c ∧ c ≤ L ∧ u 30 23 = nI c ∧ True) ∧ ∀ a b, ¬ (a = 48 ∨ a = 49 ∨ (a = 30 ∧ 23 ≤ b ∧ b ≤ 26)) → u a b = fi a b) (fun (u : zFi) (t : State) => zH D A τ u fr ol t t.heap) A) 0 0 A := by
  refine Met.ofW (cc := cX12_readLine) (maxL := 1) (ret := (some .boolean)) (by decide) rfl ?_
  intro p9 e9 s m args below meth c9 s₁ B hml hv
  obtain ⟨rfl, hz, hH, hA⟩ := hv
  have hx := B.exec
  have hb := B.bytes
  have hr := B.returns
  have hts := atoms_spec (ws := wsX12_readLine) B.pre
  have hown : s.vm.findClass RX12 = some m.cls := findClass_of_methodNamed B.named
  have hlocks := B.notSynchronized
  have hS : va_S A s.heap s.heap [] := va_S.rf
  have hl := lv_entry ([.ref (τ.1 30)]) (n := 1) (Nat.le_of_ble_eq_true rfl)
  rw [lg_entry_eq]
  generalize (lg_sl ([.ref (τ.1 30)]) ++ List.replicate (1 - (lg_sl ([.ref (τ.1 30)])).length) Slot.unset).toArray = ls at hl ⊢
  have hl : lv_has ls 1 [(0, .ref (τ.1 30))] := hl
  have hMl0 := hMl
  have hiX12 : ∀ w ∈ u_ws RX12 TX12 71, w ∈ wsX12_readLine := fun _ h => List.mem_cons_of_mem _ (List.mem_append_right _ h)
  have hw1 := hts (.fieldLink RX12 65 "PostHouseModel" "lineCode" "[I") (by decide +kernel)
  have hw2 := hts (.fieldLink RX12 262 "PostHouseModel" "lines" "I") (by decide +kernel)
  have hw3 := hts (.fieldLink RX12 229 "PostHouseModel" "number" "I") (by decide +kernel)
  have hw4 := hts (.constantLong RX12 265 120) (by decide +kernel)
  have hw5 := hts (.fieldLink RX12 68 "PostHouseModel" "lineMany" "[I") (by decide +kernel)
  refine lv_aload_n hx hb dX12_readLine_0 rfl (lv_at hl 0 rfl) ?_
  refine lv_iconst (v := nI 4) hx hb dX12_readLine_1 (by decide) ?_
  refine lv_iconst (v := nI 4) hx hb dX12_readLine_2 (by decide) ?_
  refine lv_iconst (v := nI 0) hx hb dX12_readLine_3 (by decide) ?_
  refine lv_sipush (v := nI 9999) hx hb dX12_readLine_4 (by decide) ?_
  refine va_calli (va_runV (As := [.int (nI 4), .int (nI 4), .int (nI 0), .int (nI 9999)]) (rest := []) ⟨hx, hb, hml, hown, hts⟩ (m_digits l hl0 D A sad τ fi fr ol L a hF he ha (by omega) (by omega) (nI 4) (nI 4) (nI 0) (nI 9999)) (cwV 4 hts gX12_readLine_X12_digits rfl rfl rfl (by decide +kernel) ⟨Nat.le_of_ble_eq_true rfl, Nat.le_of_ble_eq_true rfl⟩) ⟨zQc_bl, zRecv hH (zk_30 hF) rfl, zQc_at hz hS hA hH⟩ rfl rfl hl.1 rfl (lv_room (Nat.le_of_ble_eq_true rfl)) dX12_readLine_7 ⟨Nat.le_of_ble_eq_true rfl, Nat.le_of_ble_eq_true rfl⟩) hS (fun q _ h => h) (fun q h => h) (fun r101 u9 t9 H1 locs ht9 hvm9 hw hB hz1 hk1 hS => ?_)
  have hH := zMv ht9 hvm9 hB
  clear hB
  generalize u9 = f102 at hw hH
  generalize H1 = H at hH hS ⊢
  obtain ⟨hr109, ⟨c103, hc104, hc105, q106, hx107⟩, hf108⟩ := hw
  have q110 : f102 30 22 = nI L := by rw [hf108 30 22 (by omega)]; exact he
  have q111 : f102 30 26 = nI l0 := by rw [hf108 30 26 (by omega)]; exact hMl.2.1
  rcases hr109 with rfl | ⟨rfl, hlo112, hhi113⟩
  · skip
    refine lv_if_ne (tgt := 15) hx hb dX12_readLine_10 (by decide) (fun c114 => absurd (by decide) c114) (fun c114 => ?_)
    refine lv_iconst (v := nI 0) hx hb dX12_readLine_13 (by decide) ?_
    refine W.widen (k := 0) (n := 0) (by decide) (by decide) ?_
    exact W.zret (v := nI 0) hx hb hr (by decide) (fun t9 ht9 hW9 => ⟨⟨nI 0, f102, rfl, ⟨Or.inl rfl, ⟨c103, by omega, by omega, q106, trivial⟩, fun a b h => by rw [hf108 a b (by omega)]⟩, zEnd1 hH ht9 hW9⟩, hS.F ht9⟩) hS.2.2 dX12_readLine_14
  · skip
    refine lv_if_ne (tgt := 15) hx hb dX12_readLine_10 (by decide) (fun c115 => ?_) (fun c115 => absurd c115 (by decide))
    refine lv_aload_n hx hb dX12_readLine_15 rfl (lv_at hl 0 rfl) ?_
    refine zGetR (D := D) (ci := 12) (C := RX12) (T := TX12) (N := 71) hx hb hts hiX12 hown hH (zk_30 hF) rfl 27 (by decide) rfl hw1 (fun _ h9 => h9) dX12_readLine_16 (zr_30_27 hF) ?_
    refine lv_aload_n hx hb dX12_readLine_19 rfl (lv_at hl 0 rfl) ?_
    refine zGetI (D := D) (ci := 12) (C := RX12) (T := TX12) (N := 71) hx hb hts hiX12 hown hH (zk_30 hF) rfl 26 (by decide) rfl hw2 (fun _ h9 => h9) dX12_readLine_20 q111 ?_
    refine lv_aload_n hx hb dX12_readLine_23 rfl (lv_at hl 0 rfl) ?_
    refine zGetI (D := D) (ci := 12) (C := RX12) (T := TX12) (N := 71) hx hb hts hiX12 hown hH (zk_30 hF) rfl 25 (by decide) rfl hw3 (fun _ h9 => h9) dX12_readLine_24 rfl ?_
    refine zIastN (D := D) hx hb hH hS (zk_48 hF) (zn_48 hF) (by omega) (by omega) dX12_readLine_27 (fun H locs hH hS => ?_)
    obtain ⟨f116, ef116⟩ : ∃ f9 : zFi, f9 = zu f102 48 l0 (f102 30 25) := ⟨_, rfl⟩
    rw [← ef116] at hH
    have q117 : f116 30 22 = nI L := by rw [ef116, zu_n (fun h9 => absurd h9.1 (by decide))]; exact q110
    have q118 : f116 30 26 = nI l0 := by rw [ef116, zu_n (fun h9 => absurd h9.1 (by decide))]; exact q111
    have q119 : f116 30 23 = nI c103 := by rw [ef116, zu_n (fun h9 => absurd h9.1 (by decide))]; exact q106
    have q120 : f116 48 l0 = f102 30 25 := by rw [ef116]; exact zu_s
    refine lv_aload_n hx hb dX12_readLine_28 rfl (lv_at hl 0 rfl) ?_
    refine lv_ldc2 (v := 120) hx hb hown hw4 dX12_readLine_29 ?_
    refine va_calli (va_runV (As := [.long 120]) (rest := []) ⟨hx, hb, hml, hown, hts⟩ (m_passes l hl0 D A sad τ f116 fr ol L c103 hF q117 q119 (by omega) (by omega) 120) (cwV 1 hts gX12_readLine_X12_passes rfl rfl rfl (by decide +kernel) ⟨Nat.le_of_ble_eq_true rfl, Nat.le_of_ble_eq_true rfl⟩) ⟨zQc_bl, zRecv hH (zk_30 hF) rfl, zQc_at hz hS hA hH⟩ rfl rfl hl.1 rfl (lv_room (Nat.le_of_ble_eq_true rfl)) dX12_readLine_32 ⟨Nat.le_of_ble_eq_true rfl, Nat.le_of_ble_eq_true rfl⟩) hS (fun q _ h => h) (fun q h => h) (fun r121 u9 t9 H1 locs ht9 hvm9 hw hB hz1 hk1 hS => ?_)
    have hH := zMv ht9 hvm9 hB
    clear hB
    generalize u9 = f122 at hw hH
    generalize H1 = H at hH hS ⊢
    obtain ⟨hr129, ⟨c123, hc124, hc125, q126, hx127⟩, hf128⟩ := hw
    have q130 : f122 30 22 = nI L := by rw [hf128 30 22 (by omega)]; exact q117
    have q131 : f122 30 26 = nI l0 := by rw [hf128 30 26 (by omega)]; exact q118
    have q132 : f122 48 l0 = f102 30 25 := by rw [hf128 48 l0 (by omega)]; exact q120
    rcases hr129 with rfl | rfl
    · skip
      refine lv_if_eq (tgt := 51) hx hb dX12_readLine_35 (by decide) (fun c133 => ?_) (fun c133 => absurd (by decide) c133)
      refine lv_iconst (v := nI 0) hx hb dX12_readLine_51 (by decide) ?_
      refine W.widen (k := 0) (n := 0) (by decide) (by decide) ?_
      exact W.zret (v := nI 0) hx hb hr (by decide) (fun t9 ht9 hW9 => ⟨⟨nI 0, f122, rfl, ⟨Or.inl rfl, ⟨c123, by omega, by omega, q126, trivial⟩, fun a b h => by rw [hf128 a b (by omega), ef116, zu_n (by omega), hf108 a b (by omega)]⟩, zEnd1 hH ht9 hW9⟩, hS.F ht9⟩) hS.2.2 dX12_readLine_52
    · skip
      refine lv_if_eq (tgt := 51) hx hb dX12_readLine_35 (by decide) (fun c134 => absurd c134 (by decide)) (fun c134 => ?_)
      refine lv_aload_n hx hb dX12_readLine_38 rfl (lv_at hl 0 rfl) ?_
      refine lv_iconst (v := nI 1) hx hb dX12_readLine_39 (by decide) ?_
      refine lv_bipush (v := nI 6) hx hb dX12_readLine_40 (by decide) ?_
      refine lv_iconst (v := nI 1) hx hb dX12_readLine_42 (by decide) ?_
      refine lv_bipush (v := nI 99) hx hb dX12_readLine_43 (by decide) ?_
      refine va_calli (va_runV (As := [.int (nI 1), .int (nI 6), .int (nI 1), .int (nI 99)]) (rest := []) ⟨hx, hb, hml, hown, hts⟩ (m_digits l hl0 D A sad τ f122 fr ol L c123 hF q130 q126 (by omega) (by omega) (nI 1) (nI 6) (nI 1) (nI 99)) (cwV 4 hts gX12_readLine_X12_digits rfl rfl rfl (by decide +kernel) ⟨Nat.le_of_ble_eq_true rfl, Nat.le_of_ble_eq_true rfl⟩) ⟨zQc_bl, zRecv hH (zk_30 hF) rfl, zQc_at hz hS hA hH⟩ rfl rfl hl.1 rfl (lv_room (Nat.le_of_ble_eq_true rfl)) dX12_readLine_45 ⟨Nat.le_of_ble_eq_true rfl, Nat.le_of_ble_eq_true rfl⟩) hS (fun q _ h => h) (fun q h => h) (fun r135 u9 t9 H1 locs ht9 hvm9 hw hB hz1 hk1 hS => ?_)
      have hH := zMv ht9 hvm9 hB
      clear hB
      generalize u9 = f136 at hw hH
      generalize H1 = H at hH hS ⊢
      obtain ⟨hr143, ⟨c137, hc138, hc139, q140, hx141⟩, hf142⟩ := hw
      have q144 : f136 30 22 = nI L := by rw [hf142 30 22 (by omega)]; exact q130
      have q145 : f136 30 26 = nI l0 := by rw [hf142 30 26 (by omega)]; exact q131
      have q146 : f136 48 l0 = f102 30 25 := by rw [hf142 48 l0 (by omega)]; exact q132
      rcases hr143 with rfl | ⟨rfl, hlo147, hhi148⟩
      · skip
        refine lv_if_ne (tgt := 53) hx hb dX12_readLine_48 (by decide) (fun c149 => absurd (by decide) c149) (fun c149 => ?_)
        refine lv_iconst (v := nI 0) hx hb dX12_readLine_51 (by decide) ?_
        refine W.widen (k := 0) (n := 0) (by decide) (by decide) ?_
        exact W.zret (v := nI 0) hx hb hr (by decide) (fun t9 ht9 hW9 => ⟨⟨nI 0, f136, rfl, ⟨Or.inl rfl, ⟨c137, by omega, by omega, q140, trivial⟩, fun a b h => by rw [hf142 a b (by omega), hf128 a b (by omega), ef116, zu_n (by omega), hf108 a b (by omega)]⟩, zEnd1 hH ht9 hW9⟩, hS.F ht9⟩) hS.2.2 dX12_readLine_52
      · skip
        refine lv_if_ne (tgt := 53) hx hb dX12_readLine_48 (by decide) (fun c150 => ?_) (fun c150 => absurd c150 (by decide))
        refine lv_aload_n hx hb dX12_readLine_53 rfl (lv_at hl 0 rfl) ?_
        refine zGetR (D := D) (ci := 12) (C := RX12) (T := TX12) (N := 71) hx hb hts hiX12 hown hH (zk_30 hF) rfl 28 (by decide) rfl hw5 (fun _ h9 => h9) dX12_readLine_54 (zr_30_28 hF) ?_
        refine lv_aload_n hx hb dX12_readLine_57 rfl (lv_at hl 0 rfl) ?_
        refine zGetI (D := D) (ci := 12) (C := RX12) (T := TX12) (N := 71) hx hb hts hiX12 hown hH (zk_30 hF) rfl 26 (by decide) rfl hw2 (fun _ h9 => h9) dX12_readLine_58 q145 ?_
        refine lv_aload_n hx hb dX12_readLine_61 rfl (lv_at hl 0 rfl) ?_
        refine zGetI (D := D) (ci := 12) (C := RX12) (T := TX12) (N := 71) hx hb hts hiX12 hown hH (zk_30 hF) rfl 25 (by decide) rfl hw3 (fun _ h9 => h9) dX12_readLine_62 rfl ?_
        refine zIastN (D := D) hx hb hH hS (zk_49 hF) (zn_49 hF) (by omega) (by omega) dX12_readLine_65 (fun H locs hH hS => ?_)
        obtain ⟨f151, ef151⟩ : ∃ f9 : zFi, f9 = zu f136 49 l0 (f136 30 25) := ⟨_, rfl⟩
        rw [← ef151] at hH
        have q152 : f151 30 22 = nI L := by rw [ef151, zu_n (fun h9 => absurd h9.1 (by decide))]; exact q144
        have q153 : f151 30 26 = nI l0 := by rw [ef151, zu_n (fun h9 => absurd h9.1 (by decide))]; exact q145
        have q154 : f151 48 l0 = f102 30 25 := by rw [ef151, zu_n (fun h9 => absurd h9.1 (by decide))]; exact q146
        have q155 : f151 30 23 = nI c137 := by rw [ef151, zu_n (fun h9 => absurd h9.1 (by decide))]; exact q140
        have q156 : f151 49 l0 = f136 30 25 := by rw [ef151]; exact zu_s
        refine lv_aload_n hx hb dX12_readLine_66 rfl (lv_at hl 0 rfl) ?_
        refine lv_dup hx hb dX12_readLine_67 rfl ?_
        refine zGetI (D := D) (ci := 12) (C := RX12) (T := TX12) (N := 71) hx hb hts hiX12 hown hH (zk_30 hF) rfl 26 (by decide) rfl hw2 (fun _ h9 => h9) dX12_readLine_68 q153 ?_
        refine lv_iconst (v := nI 1) hx hb dX12_readLine_71 (by decide) ?_
        refine lv_iadd hx hb dX12_readLine_72 ?_
        refine lv_topi (fun v157 ev157 => ?_)
        obtain rfl : v157 = nI (l0 + 1) := ev157.trans (nI_add _ _)
        refine zPutI (D := D) (ci := 12) (ty := .int) (C := RX12) (T := TX12) (N := 71) hx hb hts hiX12 tyX12 tyX12_ok nmX12 hown hH hS (zk_30 hF) rfl 26 (by decide) rfl hw2 (fun _ h9 => h9) rfl (by decide +kernel) rfl rfl dX12_readLine_73 (fun H locs hH hS => ?_)
        obtain ⟨f158, ef158⟩ : ∃ f9 : zFi, f9 = zu f151 30 26 (nI (l0 + 1)) := ⟨_, rfl⟩
        rw [← ef158] at hH
        have q159 : f158 30 22 = nI L := by rw [ef158, zu_n (fun h9 => absurd h9.2 (by decide))]; exact q152
        have q160 : f158 48 l0 = f102 30 25 := by rw [ef158, zu_n (fun h9 => absurd h9.1 (by decide))]; exact q154
        have q161 : f158 30 23 = nI c137 := by rw [ef158, zu_n (fun h9 => absurd h9.2 (by decide))]; exact q155
        have q162 : f158 49 l0 = f136 30 25 := by rw [ef158, zu_n (fun h9 => absurd h9.1 (by decide))]; exact q156
        have q163 : f158 30 26 = nI (l0 + 1) := by rw [ef158]; exact zu_s
        refine lv_iconst (v := nI 1) hx hb dX12_readLine_76 (by decide) ?_
        refine W.widen (k := 0) (n := 0) (by decide) (by decide) ?_
        exact W.zret (v := nI 1) hx hb hr (by decide) (fun t9 ht9 hW9 => ⟨⟨nI 1, f158, rfl, ⟨Or.inr ⟨rfl, hMl0.add hl7 q163 (by rw [q162]; exact hlo147) (by rw [q162]; exact hhi148) (fun j h => by rw [ef158, zu_n (by omega), ef151, zu_n (by omega), hf142 49 j (by omega), hf128 49 j (by omega), ef116, zu_n (by omega), hf108 49 j (by omega)])⟩, ⟨c137, by omega, by omega, q161, trivial⟩, fun a b h => by rw [ef158, zu_n (by omega), ef151, zu_n (by omega), hf142 a b (by omega), hf128 a b (by omega), ef116, zu_n (by omega), hf108 a b (by omega)]⟩, zEnd1 hH ht9 hW9⟩, hS.F ht9⟩) hS.2.2 dX12_readLine_77
set_option maxHeartbeats 4000000 in
set_option maxRecDepth 100000 in
/-- readLetter -/
theorem m_readLetter (l : Launch) (hl0 : l.stackTraces = false) (D : va_G) (A : Nat → Prop) (sad : Nat → Nat) (τ : zTy) (fi : zFi) (fr : zFr) (ol : Int64) (L a : Nat) (hF : zFix τ fr) (he : fi 30 22 = nI L) (ha : fi 30 23 = nI a) (hL4 : L ≤ 400) (haL : a ≤ L) : Met l yX12_readLetter wsX12_readLetter ({ frames := 4, cells := 0, slots := 0, locals := 90 }) (va_Pc [.ref (τ.1 30)] (zQc D A sad τ fi fr ol)) (va_Qi (fun (r : Int32) (u : zFi) => (r = 0 ∨ (r = 1 ∧ ∃ k, zMl u k)) ∧ ∀ a b, ¬ (a = 48 ∨ a = 49 ∨ (a = 30 ∧ 23 ≤ b ∧ b ≤ 30)) → u a b = fi a b) (fun (u : zFi) (t : State) => zH D A τ u fr ol t t.heap) A) 0 0 A := by
  refine Met.ofW (cc := cX12_readLetter) (maxL := 2) (ret := (some .boolean)) (by decide) rfl ?_
  intro p9 e9 s m args below meth c9 s₁ B hml hv
  obtain ⟨rfl, hz, hH, hA⟩ := hv
  have hx := B.exec
  have hb := B.bytes
  have hr := B.returns
  have hts := atoms_spec (ws := wsX12_readLetter) B.pre
  have hown : s.vm.findClass RX12 = some m.cls := findClass_of_methodNamed B.named
  have hlocks := B.notSynchronized
  have hS : va_S A s.heap s.heap [] := va_S.rf
  have hl := lv_entry ([.ref (τ.1 30)]) (n := 2) (Nat.le_of_ble_eq_true rfl)
  rw [lg_entry_eq]
  generalize (lg_sl ([.ref (τ.1 30)]) ++ List.replicate (2 - (lg_sl ([.ref (τ.1 30)])).length) Slot.unset).toArray = ls at hl ⊢
  have hl : lv_has ls 2 [(0, .ref (τ.1 30))] := hl
  have hw0 := hts (.fieldLink RX12 262 "PostHouseModel" "lines" "I") (by decide +kernel)
  have hiX12 : ∀ w ∈ u_ws RX12 TX12 71, w ∈ wsX12_readLetter := fun _ h => List.mem_cons_of_mem _ (List.mem_append_right _ h)
  have hw2 := hts (.constantLong RX12 270 7566701) (by decide +kernel)
  have hw3 := hts (.constant RX12 254 999999) (by decide +kernel)
  have hw4 := hts (.fieldLink RX12 229 "PostHouseModel" "number" "I") (by decide +kernel)
  have hw5 := hts (.fieldLink RX12 272 "PostHouseModel" "sum" "I") (by decide +kernel)
  have hw6 := hts (.fieldLink RX12 275 "PostHouseModel" "money" "I") (by decide +kernel)
  have hw7 := hts (.constantLong RX12 278 470020941177) (by decide +kernel)
  have hw8 := hts (.fieldLink RX12 206 "PostHouseModel" "at" "I") (by decide +kernel)
  refine lv_aload_n hx hb dX12_readLetter_0 rfl (lv_at hl 0 rfl) ?_
  refine lv_iconst (v := nI 0) hx hb dX12_readLetter_1 (by decide) ?_
  refine zPutI (D := D) (ci := 12) (ty := .int) (C := RX12) (T := TX12) (N := 71) hx hb hts hiX12 tyX12 tyX12_ok nmX12 hown hH hS (zk_30 hF) rfl 26 (by decide) rfl hw0 (fun _ h9 => h9) rfl (by decide +kernel) rfl rfl dX12_readLetter_2 (fun H locs hH hS => ?_)
  obtain ⟨f101, ef101⟩ : ∃ f9 : zFi, f9 = zu fi 30 26 (nI 0) := ⟨_, rfl⟩
  rw [← ef101] at hH
  have q102 : f101 30 22 = nI L := by rw [ef101, zu_n (fun h9 => absurd h9.2 (by decide))]; exact he
  have q103 : f101 30 23 = nI a := by rw [ef101, zu_n (fun h9 => absurd h9.2 (by decide))]; exact ha
  have q104 : f101 30 26 = nI 0 := by rw [ef101]; exact zu_s
  refine lv_iconst (v := nI 1) hx hb dX12_readLetter_5 (by decide) ?_
  refine lv_istore_n (lv' := [(1, .int (nI 1)), (0, .ref (τ.1 30))]) hx hb dX12_readLetter_6 rfl hl (by decide) rfl (fun ls hl => ?_)
  refine zLp (σ := Nat × Nat × Nat × zFi) (fun x9 k9 H locs ls => (fun (m1 : Nat) (c : Nat) (l0 : Nat) (f : zFi) => k9 = 2 * (L - c) + m1 ∧ (m1 ≤ 1 ∧ c ≤ L ∧ f 30 23 = nI c ∧ zMl f l0 ∧ (m1 = 1 → l0 < 8) ∧ f 30 22 = nI L ∧ ∀ a b, ¬ (a = 48 ∨ a = 49 ∨ (a = 30 ∧ 23 ≤ b ∧ b ≤ 30)) → f a b = fi a b) ∧ zH D A τ f fr ol s H ∧ va_S A s.heap H locs ∧ lv_has ls 2 [(0, .ref (τ.1 30)), (1, .int (nI m1))]) x9.1 x9.2.1 x9.2.2.1 x9.2.2.2) (1, a, 0, f101) (2 * (L - a) + 1) (show 2 * (L - a) + 1 = 2 * (L - a) + 1 ∧ (1 ≤ 1 ∧ a ≤ L ∧ f101 30 23 = nI a ∧ zMl f101 0 ∧ (1 = 1 → 0 < 8) ∧ f101 30 22 = nI L ∧ ∀ a b, ¬ (a = 48 ∨ a = 49 ∨ (a = 30 ∧ 23 ≤ b ∧ b ≤ 30)) → f101 a b = fi a b) ∧ zH D A τ f101 fr ol s _ ∧ va_S A s.heap _ _ ∧ lv_has _ 2 [(0, .ref (τ.1 30)), (1, .int (nI 1))] from ⟨rfl, ⟨by omega, haL, q103, ⟨by omega, q104, fun j h => absurd h (by omega)⟩, by omega, q102, fun a b h => by rw [ef101, zu_n (by omega)]⟩, hH, hS, lv_sub hl [1, 0] rfl⟩) (fun k9 ih x9 H locs ls hv9 => ?_)
  obtain ⟨m1, c, l0, f⟩ := x9
  have hv9 : k9 = 2 * (L - c) + m1 ∧ (m1 ≤ 1 ∧ c ≤ L ∧ f 30 23 = nI c ∧ zMl f l0 ∧ (m1 = 1 → l0 < 8) ∧ f 30 22 = nI L ∧ ∀ a b, ¬ (a = 48 ∨ a = 49 ∨ (a = 30 ∧ 23 ≤ b ∧ b ≤ 30)) → f a b = fi a b) ∧ zH D A τ f fr ol s H ∧ va_S A s.heap H locs ∧ lv_has ls 2 [(0, .ref (τ.1 30)), (1, .int (nI m1))] := hv9
  obtain ⟨hkih105, hv9, hH, hS, hl⟩ := hv9
  obtain ⟨h1, h2, p23, hMl, h8, p22, hfr⟩ := hv9
  have ih105 := ih
  clear ih
  have p26 := hMl.2.1
  refine lv_iload_n hx hb dX12_readLetter_7 rfl (lv_at hl 1 rfl) ?_
  refine lv_if_eq (tgt := 74) hx hb dX12_readLetter_8 (by decide) (fun c106 => ?_) (fun c106 => ?_)
  · have zc106 := c106
    replace zc106 := zc_eq (nI_toInt (by omega)) ((by decide : (0 : Int32).toInt = 0)) zc106
    refine lv_aload_n hx hb dX12_readLetter_74 rfl (lv_at hl 0 rfl) ?_
    refine lv_ldc2 (v := 7566701) hx hb hown hw2 dX12_readLetter_75 ?_
    refine va_calli (va_runV (As := [.long 7566701]) (rest := []) ⟨hx, hb, hml, hown, hts⟩ (m_passes l hl0 D A sad τ f fr ol L c hF p22 p23 (by omega) (by omega) 7566701) (cwV 1 hts gX12_readLetter_X12_passes rfl rfl rfl (by decide +kernel) ⟨Nat.le_of_ble_eq_true rfl, Nat.le_of_ble_eq_true rfl⟩) ⟨zQc_bl, zRecv hH (zk_30 hF) rfl, zQc_at hz hS hA hH⟩ rfl rfl hl.1 rfl (lv_room (Nat.le_of_ble_eq_true rfl)) dX12_readLetter_78 ⟨Nat.le_of_ble_eq_true rfl, Nat.le_of_ble_eq_true rfl⟩) hS (fun q _ h => h) (fun q h => h) (fun r107 u9 t9 H1 locs ht9 hvm9 hw hB hz1 hk1 hS => ?_)
    have hH := zMv ht9 hvm9 hB
    clear hB
    generalize u9 = f108 at hw hH
    generalize H1 = H at hH hS ⊢
    obtain ⟨hr115, ⟨c109, hc110, hc111, q112, hx113⟩, hf114⟩ := hw
    have q116 : f108 30 22 = nI L := by rw [hf114 30 22 (by omega)]; exact p22
    have q117 : f108 30 26 = nI l0 := by rw [hf114 30 26 (by omega)]; exact p26
    have hMl := zMl.ci (fi' := f108) hMl (fun i9 k9 h9 => hf114 i9 k9 (by omega))
    rcases hr115 with rfl | rfl
    · skip
      refine lv_if_eq (tgt := 97) hx hb dX12_readLetter_81 (by decide) (fun c118 => ?_) (fun c118 => absurd (by decide) c118)
      refine lv_iconst (v := nI 0) hx hb dX12_readLetter_97 (by decide) ?_
      refine W.widen (k := 0) (n := 0) (by decide) (by decide) ?_
      exact W.zret (v := nI 0) hx hb hr (by decide) (fun t9 ht9 hW9 => ⟨⟨nI 0, f108, rfl, ⟨Or.inl rfl, fun a b h => by rw [hf114 a b (by omega)]; exact hfr a b h⟩, zEnd1 hH ht9 hW9⟩, hS.F ht9⟩) hS.2.2 dX12_readLetter_98
    · skip
      refine lv_if_eq (tgt := 97) hx hb dX12_readLetter_81 (by decide) (fun c119 => absurd c119 (by decide)) (fun c119 => ?_)
      refine lv_aload_n hx hb dX12_readLetter_84 rfl (lv_at hl 0 rfl) ?_
      refine lv_iconst (v := nI 1) hx hb dX12_readLetter_85 (by decide) ?_
      refine lv_bipush (v := nI 6) hx hb dX12_readLetter_86 (by decide) ?_
      refine lv_iconst (v := nI 0) hx hb dX12_readLetter_88 (by decide) ?_
      refine lv_ldc (v := nI 999999) hx hb hown hw3 dX12_readLetter_89 ?_
      refine va_calli (va_runV (As := [.int (nI 1), .int (nI 6), .int (nI 0), .int (nI 999999)]) (rest := []) ⟨hx, hb, hml, hown, hts⟩ (m_digits l hl0 D A sad τ f108 fr ol L c109 hF q116 q112 (by omega) (by omega) (nI 1) (nI 6) (nI 0) (nI 999999)) (cwV 4 hts gX12_readLetter_X12_digits rfl rfl rfl (by decide +kernel) ⟨Nat.le_of_ble_eq_true rfl, Nat.le_of_ble_eq_true rfl⟩) ⟨zQc_bl, zRecv hH (zk_30 hF) rfl, zQc_at hz hS hA hH⟩ rfl rfl hl.1 rfl (lv_room (Nat.le_of_ble_eq_true rfl)) dX12_readLetter_91 ⟨Nat.le_of_ble_eq_true rfl, Nat.le_of_ble_eq_true rfl⟩) hS (fun q _ h => h) (fun q h => h) (fun r120 u9 t9 H1 locs ht9 hvm9 hw hB hz1 hk1 hS => ?_)
      have hH := zMv ht9 hvm9 hB
      clear hB
      generalize u9 = f121 at hw hH
      generalize H1 = H at hH hS ⊢
      obtain ⟨hr128, ⟨c122, hc123, hc124, q125, hx126⟩, hf127⟩ := hw
      have q129 : f121 30 22 = nI L := by rw [hf127 30 22 (by omega)]; exact q116
      have q130 : f121 30 26 = nI l0 := by rw [hf127 30 26 (by omega)]; exact q117
      have hMl := zMl.ci (fi' := f121) hMl (fun i9 k9 h9 => hf127 i9 k9 (by omega))
      rcases hr128 with rfl | ⟨rfl, hlo131, hhi132⟩
      · skip
        refine lv_if_ne (tgt := 99) hx hb dX12_readLetter_94 (by decide) (fun c133 => absurd (by decide) c133) (fun c133 => ?_)
        refine lv_iconst (v := nI 0) hx hb dX12_readLetter_97 (by decide) ?_
        refine W.widen (k := 0) (n := 0) (by decide) (by decide) ?_
        exact W.zret (v := nI 0) hx hb hr (by decide) (fun t9 ht9 hW9 => ⟨⟨nI 0, f121, rfl, ⟨Or.inl rfl, fun a b h => by rw [hf127 a b (by omega), hf114 a b (by omega)]; exact hfr a b h⟩, zEnd1 hH ht9 hW9⟩, hS.F ht9⟩) hS.2.2 dX12_readLetter_98
      · skip
        refine lv_if_ne (tgt := 99) hx hb dX12_readLetter_94 (by decide) (fun c134 => ?_) (fun c134 => absurd c134 (by decide))
        refine lv_aload_n hx hb dX12_readLetter_99 rfl (lv_at hl 0 rfl) ?_
        refine lv_aload_n hx hb dX12_readLetter_100 rfl (lv_at hl 0 rfl) ?_
        refine zGetI (D := D) (ci := 12) (C := RX12) (T := TX12) (N := 71) hx hb hts hiX12 hown hH (zk_30 hF) rfl 25 (by decide) rfl hw4 (fun _ h9 => h9) dX12_readLetter_101 rfl ?_
        refine zPutI (D := D) (ci := 12) (ty := .int) (C := RX12) (T := TX12) (N := 71) hx hb hts hiX12 tyX12 tyX12_ok nmX12 hown hH hS (zk_30 hF) rfl 29 (by decide) rfl hw5 (fun _ h9 => h9) rfl (by decide +kernel) rfl rfl dX12_readLetter_104 (fun H locs hH hS => ?_)
        obtain ⟨f135, ef135⟩ : ∃ f9 : zFi, f9 = zu f121 30 29 (f121 30 25) := ⟨_, rfl⟩
        rw [← ef135] at hH
        have q136 : f135 30 22 = nI L := by rw [ef135, zu_n (fun h9 => absurd h9.2 (by decide))]; exact q129
        have q137 : f135 30 26 = nI l0 := by rw [ef135, zu_n (fun h9 => absurd h9.2 (by decide))]; exact q130
        have q138 : f135 30 23 = nI c122 := by rw [ef135, zu_n (fun h9 => absurd h9.2 (by decide))]; exact q125
        have q139 : f135 30 29 = f121 30 25 := by rw [ef135]; exact zu_s
        have hMl := zMl.ci (fi' := f135) hMl (fun i9 k9 h9 => by rw [ef135]; exact zu_n (by omega))
        refine lv_aload_n hx hb dX12_readLetter_107 rfl (lv_at hl 0 rfl) ?_
        refine lv_aload_n hx hb dX12_readLetter_108 rfl (lv_at hl 0 rfl) ?_
        refine zGetI (D := D) (ci := 12) (C := RX12) (T := TX12) (N := 71) hx hb hts hiX12 hown hH (zk_30 hF) rfl 25 (by decide) rfl hw4 (fun _ h9 => h9) dX12_readLetter_109 rfl ?_
        refine zPutI (D := D) (ci := 12) (ty := .int) (C := RX12) (T := TX12) (N := 71) hx hb hts hiX12 tyX12 tyX12_ok nmX12 hown hH hS (zk_30 hF) rfl 30 (by decide) rfl hw6 (fun _ h9 => h9) rfl (by decide +kernel) rfl rfl dX12_readLetter_112 (fun H locs hH hS => ?_)
        obtain ⟨f140, ef140⟩ : ∃ f9 : zFi, f9 = zu f135 30 30 (f135 30 25) := ⟨_, rfl⟩
        rw [← ef140] at hH
        have q141 : f140 30 22 = nI L := by rw [ef140, zu_n (fun h9 => absurd h9.2 (by decide))]; exact q136
        have q142 : f140 30 26 = nI l0 := by rw [ef140, zu_n (fun h9 => absurd h9.2 (by decide))]; exact q137
        have q143 : f140 30 23 = nI c122 := by rw [ef140, zu_n (fun h9 => absurd h9.2 (by decide))]; exact q138
        have q144 : f140 30 29 = f121 30 25 := by rw [ef140, zu_n (fun h9 => absurd h9.2 (by decide))]; exact q139
        have q145 : f140 30 30 = f135 30 25 := by rw [ef140]; exact zu_s
        have hMl := zMl.ci (fi' := f140) hMl (fun i9 k9 h9 => by rw [ef140]; exact zu_n (by omega))
        refine lv_aload_n hx hb dX12_readLetter_115 rfl (lv_at hl 0 rfl) ?_
        refine va_calli (va_runV (As := []) (rest := []) ⟨hx, hb, hml, hown, hts⟩ (m_sign l hl0 D A sad τ f140 fr ol L c122 hF q141 q143 (by omega) (by omega)) (cwV 0 hts gX12_readLetter_X12_sign rfl rfl rfl (by decide +kernel) ⟨Nat.le_of_ble_eq_true rfl, Nat.le_of_ble_eq_true rfl⟩) ⟨zQc_bl, zRecv hH (zk_30 hF) rfl, zQc_at hz hS hA hH⟩ rfl rfl hl.1 rfl (lv_room (Nat.le_of_ble_eq_true rfl)) dX12_readLetter_116 ⟨Nat.le_of_ble_eq_true rfl, Nat.le_of_ble_eq_true rfl⟩) hS (fun q _ h => h) (fun q h => h) (fun r146 u9 t9 H1 locs ht9 hvm9 hw hB hz1 hk1 hS => ?_)
        have hH := zMv ht9 hvm9 hB
        clear hB
        generalize u9 = f147 at hw hH
        generalize H1 = H at hH hS ⊢
        obtain ⟨hr154, ⟨c148, hc149, hc150, q151, hx152⟩, hf153⟩ := hw
        have q155 : f147 30 22 = nI L := by rw [hf153 30 22 (by omega)]; exact q141
        have q156 : f147 30 26 = nI l0 := by rw [hf153 30 26 (by omega)]; exact q142
        have q157 : f147 30 29 = f121 30 25 := by rw [hf153 30 29 (by omega)]; exact q144
        have q158 : f147 30 30 = f135 30 25 := by rw [hf153 30 30 (by omega)]; exact q145
        have hMl := zMl.ci (fi' := f147) hMl (fun i9 k9 h9 => hf153 i9 k9 (by omega))
        refine lv_iconst (v := (-1)) hx hb dX12_readLetter_119 (by decide) ?_
        refine lv_icmp_ne (tgt := 125) hx hb dX12_readLetter_120 (by decide) (fun c159 => ?_) (fun c159 => ?_)
        · have zc159 := c159
          replace zc159 := zc_neq (rfl) ((by decide : ((-1) : Int32).toInt = (-1))) zc159
          refine lv_aload_n hx hb dX12_readLetter_125 rfl (lv_at hl 0 rfl) ?_
          refine lv_ldc2 (v := 470020941177) hx hb hown hw7 dX12_readLetter_126 ?_
          refine va_calli (va_runV (As := [.long 470020941177]) (rest := []) ⟨hx, hb, hml, hown, hts⟩ (m_passes l hl0 D A sad τ f147 fr ol L c148 hF q155 q151 (by omega) (by omega) 470020941177) (cwV 1 hts gX12_readLetter_X12_passes rfl rfl rfl (by decide +kernel) ⟨Nat.le_of_ble_eq_true rfl, Nat.le_of_ble_eq_true rfl⟩) ⟨zQc_bl, zRecv hH (zk_30 hF) rfl, zQc_at hz hS hA hH⟩ rfl rfl hl.1 rfl (lv_room (Nat.le_of_ble_eq_true rfl)) dX12_readLetter_129 ⟨Nat.le_of_ble_eq_true rfl, Nat.le_of_ble_eq_true rfl⟩) hS (fun q _ h => h) (fun q h => h) (fun r160 u9 t9 H1 locs ht9 hvm9 hw hB hz1 hk1 hS => ?_)
          have hH := zMv ht9 hvm9 hB
          clear hB
          generalize u9 = f161 at hw hH
          generalize H1 = H at hH hS ⊢
          obtain ⟨hr168, ⟨c162, hc163, hc164, q165, hx166⟩, hf167⟩ := hw
          have q169 : f161 30 22 = nI L := by rw [hf167 30 22 (by omega)]; exact q155
          have q170 : f161 30 26 = nI l0 := by rw [hf167 30 26 (by omega)]; exact q156
          have q171 : f161 30 29 = f121 30 25 := by rw [hf167 30 29 (by omega)]; exact q157
          have q172 : f161 30 30 = f135 30 25 := by rw [hf167 30 30 (by omega)]; exact q158
          have hMl := zMl.ci (fi' := f161) hMl (fun i9 k9 h9 => hf167 i9 k9 (by omega))
          rcases hr168 with rfl | rfl
          · skip
            refine lv_if_eq (tgt := 148) hx hb dX12_readLetter_132 (by decide) (fun c173 => ?_) (fun c173 => absurd (by decide) c173)
            refine lv_iconst (v := nI 0) hx hb dX12_readLetter_148 (by decide) ?_
            refine W.widen (k := 0) (n := 0) (by decide) (by decide) ?_
            exact W.zret (v := nI 0) hx hb hr (by decide) (fun t9 ht9 hW9 => ⟨⟨nI 0, f161, rfl, ⟨Or.inl rfl, fun a b h => by rw [hf167 a b (by omega), hf153 a b (by omega), ef140, zu_n (by omega), ef135, zu_n (by omega), hf127 a b (by omega), hf114 a b (by omega)]; exact hfr a b h⟩, zEnd1 hH ht9 hW9⟩, hS.F ht9⟩) hS.2.2 dX12_readLetter_149
          · skip
            refine lv_if_eq (tgt := 148) hx hb dX12_readLetter_132 (by decide) (fun c174 => absurd c174 (by decide)) (fun c174 => ?_)
            refine lv_aload_n hx hb dX12_readLetter_135 rfl (lv_at hl 0 rfl) ?_
            refine lv_iconst (v := nI 1) hx hb dX12_readLetter_136 (by decide) ?_
            refine lv_bipush (v := nI 6) hx hb dX12_readLetter_137 (by decide) ?_
            refine lv_iconst (v := nI 0) hx hb dX12_readLetter_139 (by decide) ?_
            refine lv_ldc (v := nI 999999) hx hb hown hw3 dX12_readLetter_140 ?_
            refine va_calli (va_runV (As := [.int (nI 1), .int (nI 6), .int (nI 0), .int (nI 999999)]) (rest := []) ⟨hx, hb, hml, hown, hts⟩ (m_digits l hl0 D A sad τ f161 fr ol L c162 hF q169 q165 (by omega) (by omega) (nI 1) (nI 6) (nI 0) (nI 999999)) (cwV 4 hts gX12_readLetter_X12_digits rfl rfl rfl (by decide +kernel) ⟨Nat.le_of_ble_eq_true rfl, Nat.le_of_ble_eq_true rfl⟩) ⟨zQc_bl, zRecv hH (zk_30 hF) rfl, zQc_at hz hS hA hH⟩ rfl rfl hl.1 rfl (lv_room (Nat.le_of_ble_eq_true rfl)) dX12_readLetter_142 ⟨Nat.le_of_ble_eq_true rfl, Nat.le_of_ble_eq_true rfl⟩) hS (fun q _ h => h) (fun q h => h) (fun r175 u9 t9 H1 locs ht9 hvm9 hw hB hz1 hk1 hS => ?_)
            have hH := zMv ht9 hvm9 hB
            clear hB
            generalize u9 = f176 at hw hH
            generalize H1 = H at hH hS ⊢
            obtain ⟨hr183, ⟨c177, hc178, hc179, q180, hx181⟩, hf182⟩ := hw
            have q184 : f176 30 22 = nI L := by rw [hf182 30 22 (by omega)]; exact q169
            have q185 : f176 30 26 = nI l0 := by rw [hf182 30 26 (by omega)]; exact q170
            have q186 : f176 30 29 = f121 30 25 := by rw [hf182 30 29 (by omega)]; exact q171
            have q187 : f176 30 30 = f135 30 25 := by rw [hf182 30 30 (by omega)]; exact q172
            have hMl := zMl.ci (fi' := f176) hMl (fun i9 k9 h9 => hf182 i9 k9 (by omega))
            rcases hr183 with rfl | ⟨rfl, hlo188, hhi189⟩
            · skip
              refine lv_if_ne (tgt := 150) hx hb dX12_readLetter_145 (by decide) (fun c190 => absurd (by decide) c190) (fun c190 => ?_)
              refine lv_iconst (v := nI 0) hx hb dX12_readLetter_148 (by decide) ?_
              refine W.widen (k := 0) (n := 0) (by decide) (by decide) ?_
              exact W.zret (v := nI 0) hx hb hr (by decide) (fun t9 ht9 hW9 => ⟨⟨nI 0, f176, rfl, ⟨Or.inl rfl, fun a b h => by rw [hf182 a b (by omega), hf167 a b (by omega), hf153 a b (by omega), ef140, zu_n (by omega), ef135, zu_n (by omega), hf127 a b (by omega), hf114 a b (by omega)]; exact hfr a b h⟩, zEnd1 hH ht9 hW9⟩, hS.F ht9⟩) hS.2.2 dX12_readLetter_149
            · skip
              refine lv_if_ne (tgt := 150) hx hb dX12_readLetter_145 (by decide) (fun c191 => ?_) (fun c191 => absurd c191 (by decide))
              refine lv_aload_n hx hb dX12_readLetter_150 rfl (lv_at hl 0 rfl) ?_
              refine lv_aload_n hx hb dX12_readLetter_151 rfl (lv_at hl 0 rfl) ?_
              refine zGetI (D := D) (ci := 12) (C := RX12) (T := TX12) (N := 71) hx hb hts hiX12 hown hH (zk_30 hF) rfl 25 (by decide) rfl hw4 (fun _ h9 => h9) dX12_readLetter_152 rfl ?_
              refine zPutI (D := D) (ci := 12) (ty := .int) (C := RX12) (T := TX12) (N := 71) hx hb hts hiX12 tyX12 tyX12_ok nmX12 hown hH hS (zk_30 hF) rfl 30 (by decide) rfl hw6 (fun _ h9 => h9) rfl (by decide +kernel) rfl rfl dX12_readLetter_155 (fun H locs hH hS => ?_)
              obtain ⟨f192, ef192⟩ : ∃ f9 : zFi, f9 = zu f176 30 30 (f176 30 25) := ⟨_, rfl⟩
              rw [← ef192] at hH
              have q193 : f192 30 22 = nI L := by rw [ef192, zu_n (fun h9 => absurd h9.2 (by decide))]; exact q184
              have q194 : f192 30 26 = nI l0 := by rw [ef192, zu_n (fun h9 => absurd h9.2 (by decide))]; exact q185
              have q195 : f192 30 29 = f121 30 25 := by rw [ef192, zu_n (fun h9 => absurd h9.2 (by decide))]; exact q186
              have q196 : f192 30 23 = nI c177 := by rw [ef192, zu_n (fun h9 => absurd h9.2 (by decide))]; exact q180
              have q197 : f192 30 30 = f176 30 25 := by rw [ef192]; exact zu_s
              have hMl := zMl.ci (fi' := f192) hMl (fun i9 k9 h9 => by rw [ef192]; exact zu_n (by omega))
              refine lv_aload_n hx hb dX12_readLetter_158 rfl (lv_at hl 0 rfl) ?_
              refine va_calli (va_runV (As := []) (rest := []) ⟨hx, hb, hml, hown, hts⟩ (m_sign l hl0 D A sad τ f192 fr ol L c177 hF q193 q196 (by omega) (by omega)) (cwV 0 hts gX12_readLetter_X12_sign rfl rfl rfl (by decide +kernel) ⟨Nat.le_of_ble_eq_true rfl, Nat.le_of_ble_eq_true rfl⟩) ⟨zQc_bl, zRecv hH (zk_30 hF) rfl, zQc_at hz hS hA hH⟩ rfl rfl hl.1 rfl (lv_room (Nat.le_of_ble_eq_true rfl)) dX12_readLetter_159 ⟨Nat.le_of_ble_eq_true rfl, Nat.le_of_ble_eq_true rfl⟩) hS (fun q _ h => h) (fun q h => h) (fun r198 u9 t9 H1 locs ht9 hvm9 hw hB hz1 hk1 hS => ?_)
              have hH := zMv ht9 hvm9 hB
              clear hB
              generalize u9 = f199 at hw hH
              generalize H1 = H at hH hS ⊢
              obtain ⟨hr206, ⟨c200, hc201, hc202, q203, hx204⟩, hf205⟩ := hw
              have q207 : f199 30 22 = nI L := by rw [hf205 30 22 (by omega)]; exact q193
              have q208 : f199 30 26 = nI l0 := by rw [hf205 30 26 (by omega)]; exact q194
              have q209 : f199 30 29 = f121 30 25 := by rw [hf205 30 29 (by omega)]; exact q195
              have q210 : f199 30 30 = f176 30 25 := by rw [hf205 30 30 (by omega)]; exact q197
              have hMl := zMl.ci (fi' := f199) hMl (fun i9 k9 h9 => hf205 i9 k9 (by omega))
              refine lv_iconst (v := (-1)) hx hb dX12_readLetter_162 (by decide) ?_
              refine lv_icmp_eq (tgt := 177) hx hb dX12_readLetter_163 (by decide) (fun c211 => ?_) (fun c211 => ?_)
              · have zc211 := c211
                replace zc211 := zc_eq (rfl) ((by decide : ((-1) : Int32).toInt = (-1))) zc211
                refine lv_iconst (v := nI 1) hx hb dX12_readLetter_177 (by decide) ?_
                refine lv_goto (tgt := 182) hx hb dX12_readLetter_178 (by decide) ?_
                refine W.widen (k := 0) (n := 0) (by decide) (by decide) ?_
                exact W.zret (v := nI 1) hx hb hr (by decide) (fun t9 ht9 hW9 => ⟨⟨nI 1, f199, rfl, ⟨Or.inr ⟨rfl, l0, hMl⟩, fun a b h => by rw [hf205 a b (by omega), ef192, zu_n (by omega), hf182 a b (by omega), hf167 a b (by omega), hf153 a b (by omega), ef140, zu_n (by omega), ef135, zu_n (by omega), hf127 a b (by omega), hf114 a b (by omega)]; exact hfr a b h⟩, zEnd1 hH ht9 hW9⟩, hS.F ht9⟩) hS.2.2 dX12_readLetter_182
              · have zc211 := c211
                replace zc211 := zc_neq (rfl) ((by decide : ((-1) : Int32).toInt = (-1))) zc211
                refine lv_aload_n hx hb dX12_readLetter_166 rfl (lv_at hl 0 rfl) ?_
                refine lv_aload_n hx hb dX12_readLetter_167 rfl (lv_at hl 0 rfl) ?_
                refine zGetI (D := D) (ci := 12) (C := RX12) (T := TX12) (N := 71) hx hb hts hiX12 hown hH (zk_30 hF) rfl 23 (by decide) rfl hw8 (fun _ h9 => h9) dX12_readLetter_168 q203 ?_
                refine va_calli (va_runV (As := [.int (nI c200)]) (rest := []) ⟨hx, hb, hml, hown, hts⟩ (m_wrong l hl0 D A sad τ f199 fr ol (nI c200) hF) (cwV 1 hts gX12_readLetter_X12_wrong rfl rfl rfl (by decide +kernel) ⟨Nat.le_of_ble_eq_true rfl, Nat.le_of_ble_eq_true rfl⟩) ⟨zQc_bl, zRecv hH (zk_30 hF) rfl, zQc_at hz hS hA hH⟩ rfl rfl hl.1 rfl (lv_room (Nat.le_of_ble_eq_true rfl)) dX12_readLetter_171 ⟨Nat.le_of_ble_eq_true rfl, Nat.le_of_ble_eq_true rfl⟩) hS (fun q _ h => h) (fun q h => h) (fun r212 u9 t9 H1 locs ht9 hvm9 hw hB hz1 hk1 hS => ?_)
                have hH := zMv ht9 hvm9 hB
                clear hB
                generalize u9 = f213 at hw hH
                generalize H1 = H at hH hS ⊢
                obtain ⟨rfl, hf214⟩ := hw
                have q215 : f213 30 22 = nI L := by rw [hf214 30 22 (by omega)]; exact q207
                have q216 : f213 30 26 = nI l0 := by rw [hf214 30 26 (by omega)]; exact q208
                have q217 : f213 30 29 = f121 30 25 := by rw [hf214 30 29 (by omega)]; exact q209
                have q218 : f213 30 30 = f176 30 25 := by rw [hf214 30 30 (by omega)]; exact q210
                have q219 : f213 30 23 = nI c200 := by rw [hf214 30 23 (by omega)]; exact q203
                have hMl := zMl.ci (fi' := f213) hMl (fun i9 k9 h9 => hf214 i9 k9 (by omega))
                refine lv_if_eq (tgt := 181) hx hb dX12_readLetter_174 (by decide) (fun c220 => ?_) (fun c220 => absurd (by decide) c220)
                refine lv_iconst (v := nI 0) hx hb dX12_readLetter_181 (by decide) ?_
                refine W.widen (k := 0) (n := 0) (by decide) (by decide) ?_
                exact W.zret (v := nI 0) hx hb hr (by decide) (fun t9 ht9 hW9 => ⟨⟨nI 0, f213, rfl, ⟨Or.inl rfl, fun a b h => by rw [hf214 a b (by omega), hf205 a b (by omega), ef192, zu_n (by omega), hf182 a b (by omega), hf167 a b (by omega), hf153 a b (by omega), ef140, zu_n (by omega), ef135, zu_n (by omega), hf127 a b (by omega), hf114 a b (by omega)]; exact hfr a b h⟩, zEnd1 hH ht9 hW9⟩, hS.F ht9⟩) hS.2.2 dX12_readLetter_182
        · have zc159 := c159
          replace zc159 := zc_eq (rfl) ((by decide : ((-1) : Int32).toInt = (-1))) zc159
          refine lv_iconst (v := nI 1) hx hb dX12_readLetter_123 (by decide) ?_
          refine W.widen (k := 0) (n := 0) (by decide) (by decide) ?_
          exact W.zret (v := nI 1) hx hb hr (by decide) (fun t9 ht9 hW9 => ⟨⟨nI 1, f147, rfl, ⟨Or.inr ⟨rfl, l0, hMl⟩, fun a b h => by rw [hf153 a b (by omega), ef140, zu_n (by omega), ef135, zu_n (by omega), hf127 a b (by omega), hf114 a b (by omega)]; exact hfr a b h⟩, zEnd1 hH ht9 hW9⟩, hS.F ht9⟩) hS.2.2 dX12_readLetter_124
  · have zc106 := c106
    replace zc106 := zc_neq (nI_toInt (by omega)) ((by decide : (0 : Int32).toInt = 0)) zc106
    refine lv_aload_n hx hb dX12_readLetter_11 rfl (lv_at hl 0 rfl) ?_
    refine va_calli (va_runV (As := []) (rest := []) ⟨hx, hb, hml, hown, hts⟩ (m_readLine l hl0 D A sad τ f fr ol L c hF p22 p23 (by omega) (by omega) l0 hMl (by omega)) (cwV 0 hts gX12_readLetter_X12_readLine rfl rfl rfl (by decide +kernel) ⟨Nat.le_of_ble_eq_true rfl, Nat.le_of_ble_eq_true rfl⟩) ⟨zQc_bl, zRecv hH (zk_30 hF) rfl, zQc_at hz hS hA hH⟩ rfl rfl hl.1 rfl (lv_room (Nat.le_of_ble_eq_true rfl)) dX12_readLetter_12 ⟨Nat.le_of_ble_eq_true rfl, Nat.le_of_ble_eq_true rfl⟩) hS (fun q _ h => h) (fun q h => h) (fun r221 u9 t9 H1 locs ht9 hvm9 hw hB hz1 hk1 hS => ?_)
    have hH := zMv ht9 hvm9 hB
    clear hB
    generalize u9 = f222 at hw hH
    generalize H1 = H at hH hS ⊢
    obtain ⟨hr229, ⟨c223, hc224, hc225, q226, hx227⟩, hf228⟩ := hw
    have q230 : f222 30 22 = nI L := by rw [hf228 30 22 (by omega)]; exact p22
    rcases hr229 with rfl | ⟨rfl, hml231⟩
    · skip
      refine lv_if_ne (tgt := 20) hx hb dX12_readLetter_15 (by decide) (fun c232 => absurd (by decide) c232) (fun c232 => ?_)
      refine lv_iconst (v := nI 0) hx hb dX12_readLetter_18 (by decide) ?_
      refine W.widen (k := 0) (n := 0) (by decide) (by decide) ?_
      exact W.zret (v := nI 0) hx hb hr (by decide) (fun t9 ht9 hW9 => ⟨⟨nI 0, f222, rfl, ⟨Or.inl rfl, fun a b h => by rw [hf228 a b (by omega)]; exact hfr a b h⟩, zEnd1 hH ht9 hW9⟩, hS.F ht9⟩) hS.2.2 dX12_readLetter_19
    · skip
      have hMl := hml231
      have hml231q := hMl.2.1
      refine lv_if_ne (tgt := 20) hx hb dX12_readLetter_15 (by decide) (fun c233 => ?_) (fun c233 => absurd c233 (by decide))
      refine lv_aload_n hx hb dX12_readLetter_20 rfl (lv_at hl 0 rfl) ?_
      refine va_calli (va_runV (As := []) (rest := []) ⟨hx, hb, hml, hown, hts⟩ (m_sign l hl0 D A sad τ f222 fr ol L c223 hF q230 q226 (by omega) (by omega)) (cwV 0 hts gX12_readLetter_X12_sign rfl rfl rfl (by decide +kernel) ⟨Nat.le_of_ble_eq_true rfl, Nat.le_of_ble_eq_true rfl⟩) ⟨zQc_bl, zRecv hH (zk_30 hF) rfl, zQc_at hz hS hA hH⟩ rfl rfl hl.1 rfl (lv_room (Nat.le_of_ble_eq_true rfl)) dX12_readLetter_21 ⟨Nat.le_of_ble_eq_true rfl, Nat.le_of_ble_eq_true rfl⟩) hS (fun q _ h => h) (fun q h => h) (fun r234 u9 t9 H1 locs ht9 hvm9 hw hB hz1 hk1 hS => ?_)
      have hH := zMv ht9 hvm9 hB
      clear hB
      generalize u9 = f235 at hw hH
      generalize H1 = H at hH hS ⊢
      obtain ⟨hr242, ⟨c236, hc237, hc238, q239, hx240⟩, hf241⟩ := hw
      have q243 : f235 30 22 = nI L := by rw [hf241 30 22 (by omega)]; exact q230
      have q244 : f235 30 26 = nI (l0 + 1) := by rw [hf241 30 26 (by omega)]; exact hml231q
      have hMl := zMl.ci (fi' := f235) hMl (fun i9 k9 h9 => hf241 i9 k9 (by omega))
      refine lv_bipush (v := nI 44) hx hb dX12_readLetter_24 (by decide) ?_
      refine lv_icmp_ne (tgt := 33) hx hb dX12_readLetter_26 (by decide) (fun c245 => ?_) (fun c245 => ?_)
      · have zc245 := c245
        replace zc245 := zc_neq (rfl) (nI_toInt (by omega)) zc245
        refine lv_iconst (v := nI 0) hx hb dX12_readLetter_33 (by decide) ?_
        refine lv_istore_n (lv' := [(1, .int (nI 0)), (0, .ref (τ.1 30))]) hx hb dX12_readLetter_34 rfl hl (by decide) rfl (fun ls hl => ?_)
        refine lv_iload_n hx hb dX12_readLetter_35 rfl (lv_at hl 0 rfl) ?_
        refine lv_if_eq (tgt := 57) hx hb dX12_readLetter_36 (by decide) (fun c246 => ?_) (fun c246 => absurd (by decide) c246)
        refine lv_iload_n hx hb dX12_readLetter_57 rfl (lv_at hl 0 rfl) ?_
        refine lv_if_eq (tgt := 7) hx hb dX12_readLetter_58 (by decide) (fun c247 => ?_) (fun c247 => absurd (by decide) c247)
        exact ih105 (2 * (L - c236) + 0) (by omega) (0, c236, l0 + 1, f235) _ _ _ (show 2 * (L - c236) + 0 = 2 * (L - c236) + 0 ∧ (0 ≤ 1 ∧ c236 ≤ L ∧ f235 30 23 = nI c236 ∧ zMl f235 (l0 + 1) ∧ (0 = 1 → (l0 + 1) < 8) ∧ f235 30 22 = nI L ∧ ∀ a b, ¬ (a = 48 ∨ a = 49 ∨ (a = 30 ∧ 23 ≤ b ∧ b ≤ 30)) → f235 a b = fi a b) ∧ zH D A τ f235 fr ol s _ ∧ va_S A s.heap _ _ ∧ lv_has _ 2 [(0, .ref (τ.1 30)), (1, .int (nI 0))] from ⟨rfl, ⟨by omega, by omega, q239, hMl, by omega, q243, fun a b h => by rw [hf241 a b (by omega), hf228 a b (by omega)]; exact hfr a b h⟩, hH, hS, lv_sub hl [1, 0] rfl⟩)
      · have zc245 := c245
        replace zc245 := zc_eq (rfl) (nI_toInt (by omega)) zc245
        have hcl : c236 < L := by rcases hx240 with h9 | h9; exact h9; (rw [h9] at zc245; exact absurd zc245 (by decide))
        refine lv_iconst (v := nI 1) hx hb dX12_readLetter_29 (by decide) ?_
        refine lv_goto (tgt := 34) hx hb dX12_readLetter_30 (by decide) ?_
        refine lv_istore_n (lv' := [(1, .int (nI 1)), (0, .ref (τ.1 30))]) hx hb dX12_readLetter_34 rfl hl (by decide) rfl (fun ls hl => ?_)
        refine lv_iload_n hx hb dX12_readLetter_35 rfl (lv_at hl 0 rfl) ?_
        refine lv_if_eq (tgt := 57) hx hb dX12_readLetter_36 (by decide) (fun c248 => absurd c248 (by decide)) (fun c248 => ?_)
        refine lv_aload_n hx hb dX12_readLetter_39 rfl (lv_at hl 1 rfl) ?_
        refine zGetI (D := D) (ci := 12) (C := RX12) (T := TX12) (N := 71) hx hb hts hiX12 hown hH (zk_30 hF) rfl 26 (by decide) rfl hw0 (fun _ h9 => h9) dX12_readLetter_40 q244 ?_
        refine lv_bipush (v := nI 8) hx hb dX12_readLetter_43 (by decide) ?_
        refine lv_icmp_ne (tgt := 57) hx hb dX12_readLetter_45 (by decide) (fun c249 => ?_) (fun c249 => ?_)
        · have zc249 := c249
          replace zc249 := zc_neq (nI_toInt (by omega)) (nI_toInt (by omega)) zc249
          refine lv_iload_n hx hb dX12_readLetter_57 rfl (lv_at hl 0 rfl) ?_
          refine lv_if_eq (tgt := 7) hx hb dX12_readLetter_58 (by decide) (fun c250 => absurd c250 (by decide)) (fun c250 => ?_)
          refine lv_aload_n hx hb dX12_readLetter_61 rfl (lv_at hl 1 rfl) ?_
          refine lv_dup hx hb dX12_readLetter_62 rfl ?_
          refine zGetI (D := D) (ci := 12) (C := RX12) (T := TX12) (N := 71) hx hb hts hiX12 hown hH (zk_30 hF) rfl 23 (by decide) rfl hw8 (fun _ h9 => h9) dX12_readLetter_63 q239 ?_
          refine lv_iconst (v := nI 1) hx hb dX12_readLetter_66 (by decide) ?_
          refine lv_iadd hx hb dX12_readLetter_67 ?_
          refine lv_topi (fun v251 ev251 => ?_)
          obtain rfl : v251 = nI (c236 + 1) := ev251.trans (nI_add _ _)
          refine zPutI (D := D) (ci := 12) (ty := .int) (C := RX12) (T := TX12) (N := 71) hx hb hts hiX12 tyX12 tyX12_ok nmX12 hown hH hS (zk_30 hF) rfl 23 (by decide) rfl hw8 (fun _ h9 => h9) rfl (by decide +kernel) rfl rfl dX12_readLetter_68 (fun H locs hH hS => ?_)
          obtain ⟨f252, ef252⟩ : ∃ f9 : zFi, f9 = zu f235 30 23 (nI (c236 + 1)) := ⟨_, rfl⟩
          rw [← ef252] at hH
          have q253 : f252 30 22 = nI L := by rw [ef252, zu_n (fun h9 => absurd h9.2 (by decide))]; exact q243
          have q254 : f252 30 26 = nI (l0 + 1) := by rw [ef252, zu_n (fun h9 => absurd h9.2 (by decide))]; exact q244
          have q255 : f252 30 23 = nI (c236 + 1) := by rw [ef252]; exact zu_s
          have hMl := zMl.ci (fi' := f252) hMl (fun i9 k9 h9 => by rw [ef252]; exact zu_n (by omega))
          refine lv_goto (tgt := 7) hx hb dX12_readLetter_71 (by decide) ?_
          exact ih105 (2 * (L - (c236 + 1)) + 1) (by omega) (1, c236 + 1, l0 + 1, f252) _ _ _ (show 2 * (L - (c236 + 1)) + 1 = 2 * (L - (c236 + 1)) + 1 ∧ (1 ≤ 1 ∧ (c236 + 1) ≤ L ∧ f252 30 23 = nI (c236 + 1) ∧ zMl f252 (l0 + 1) ∧ (1 = 1 → (l0 + 1) < 8) ∧ f252 30 22 = nI L ∧ ∀ a b, ¬ (a = 48 ∨ a = 49 ∨ (a = 30 ∧ 23 ≤ b ∧ b ≤ 30)) → f252 a b = fi a b) ∧ zH D A τ f252 fr ol s _ ∧ va_S A s.heap _ _ ∧ lv_has _ 2 [(0, .ref (τ.1 30)), (1, .int (nI 1))] from ⟨rfl, ⟨by omega, by omega, q255, hMl, by omega, q253, fun a b h => by rw [ef252, zu_n (by omega), hf241 a b (by omega), hf228 a b (by omega)]; exact hfr a b h⟩, hH, hS, lv_sub hl [1, 0] rfl⟩)
        · have zc249 := c249
          replace zc249 := zc_eq (nI_toInt (by omega)) (nI_toInt (by omega)) zc249
          refine lv_aload_n hx hb dX12_readLetter_48 rfl (lv_at hl 1 rfl) ?_
          refine lv_aload_n hx hb dX12_readLetter_49 rfl (lv_at hl 1 rfl) ?_
          refine zGetI (D := D) (ci := 12) (C := RX12) (T := TX12) (N := 71) hx hb hts hiX12 hown hH (zk_30 hF) rfl 23 (by decide) rfl hw8 (fun _ h9 => h9) dX12_readLetter_50 q239 ?_
          refine va_calli (va_runV (As := [.int (nI c236)]) (rest := []) ⟨hx, hb, hml, hown, hts⟩ (m_wrong l hl0 D A sad τ f235 fr ol (nI c236) hF) (cwV 1 hts gX12_readLetter_X12_wrong rfl rfl rfl (by decide +kernel) ⟨Nat.le_of_ble_eq_true rfl, Nat.le_of_ble_eq_true rfl⟩) ⟨zQc_bl, zRecv hH (zk_30 hF) rfl, zQc_at hz hS hA hH⟩ rfl rfl hl.1 rfl (lv_room (Nat.le_of_ble_eq_true rfl)) dX12_readLetter_53 ⟨Nat.le_of_ble_eq_true rfl, Nat.le_of_ble_eq_true rfl⟩) hS (fun q _ h => h) (fun q h => h) (fun r256 u9 t9 H1 locs ht9 hvm9 hw hB hz1 hk1 hS => ?_)
          have hH := zMv ht9 hvm9 hB
          clear hB
          generalize u9 = f257 at hw hH
          generalize H1 = H at hH hS ⊢
          obtain ⟨rfl, hf258⟩ := hw
          have q259 : f257 30 22 = nI L := by rw [hf258 30 22 (by omega)]; exact q243
          have q260 : f257 30 26 = nI (l0 + 1) := by rw [hf258 30 26 (by omega)]; exact q244
          have q261 : f257 30 23 = nI c236 := by rw [hf258 30 23 (by omega)]; exact q239
          have hMl := zMl.ci (fi' := f257) hMl (fun i9 k9 h9 => hf258 i9 k9 (by omega))
          refine W.widen (k := 0) (n := 0) (by decide) (by decide) ?_
          exact W.zret (v := 0) hx hb hr (by decide) (fun t9 ht9 hW9 => ⟨⟨0, f257, rfl, ⟨Or.inl rfl, fun a b h => by rw [hf258 a b (by omega), hf241 a b (by omega), hf228 a b (by omega)]; exact hfr a b h⟩, zEnd1 hH ht9 hW9⟩, hS.F ht9⟩) hS.2.2 dX12_readLetter_56
