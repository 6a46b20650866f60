theorem zCase4 (x : Int32) : x = nI 0 ∨ x = nI 1 ∨ x = nI 2 ∨ x = nI 3 ∨ x = nI 4 ∨ (x.toInt < 0 ∨ 4 < x.toInt) := by
  by_cases h : x.toInt < 0 ∨ 4 < x.toInt
  · simp [h]
  · have a : x.toInt = 0 ∨ x.toInt = 1 ∨ x.toInt = 2 ∨ x.toInt = 3 ∨ x.toInt = 4 := by omega
    have e : ∀ k : Int32, x.toInt = k.toInt → x = k := fun k q => Int32.toInt_inj.mp q
    rcases a with a | a | a | a | a
    · exact Or.inl (e (nI 0) a)
    · exact Or.inr (Or.inl (e (nI 1) a))
    · exact Or.inr (Or.inr (Or.inl (e (nI 2) a)))
    · exact Or.inr (Or.inr (Or.inr (Or.inl (e (nI 3) a))))
    · exact Or.inr (Or.inr (Or.inr (Or.inr (Or.inl (e (nI 4) a)))))
theorem zCase7 (x : Int32) : x = nI 0 ∨ x = nI 1 ∨ x = nI 2 ∨ x = nI 3 ∨ x = nI 4 ∨ x = nI 5 ∨ x = nI 6 ∨ x = nI 7 ∨ (x.toInt < 0 ∨ 7 < x.toInt) := by
  by_cases h : x.toInt < 0 ∨ 7 < x.toInt
  · simp [h]
  · have a : x.toInt = 0 ∨ x.toInt = 1 ∨ x.toInt = 2 ∨ x.toInt = 3 ∨ x.toInt = 4 ∨ x.toInt = 5 ∨ x.toInt = 6 ∨ x.toInt = 7 := by omega
    have e : ∀ k : Int32, x.toInt = k.toInt → x = k := fun k q => Int32.toInt_inj.mp q
    rcases a with a | a | a | a | a | a | a | a
    · exact Or.inl (e (nI 0) a)
    · exact Or.inr (Or.inl (e (nI 1) a))
    · exact Or.inr (Or.inr (Or.inl (e (nI 2) a)))
    · exact Or.inr (Or.inr (Or.inr (Or.inl (e (nI 3) a))))
    · exact Or.inr (Or.inr (Or.inr (Or.inr (Or.inl (e (nI 4) a)))))
    · exact Or.inr (Or.inr (Or.inr (Or.inr (Or.inr (Or.inl (e (nI 5) a))))))
    · exact Or.inr (Or.inr (Or.inr (Or.inr (Or.inr (Or.inr (Or.inl (e (nI 6) a)))))))
    · exact Or.inr (Or.inr (Or.inr (Or.inr (Or.inr (Or.inr (Or.inr (Or.inl (e (nI 7) a))))))))
/-- the model's picks -/
def zMp (fi : zFi) (n p : Nat) : Prop := p ≤ 10 ∧ fi 30 68 = nI p ∧ ∀ j, j < p → ∃ t, t < n ∧ fi 71 j = nI t
theorem zMp.ci {fi fi' : zFi} {n p : Nat} (h : zMp fi n p) (hi : ∀ i k, (i = 30 ∧ k = 68) ∨ i = 71 → fi' i k = fi i k) : zMp fi' n p := ⟨h.1, by rw [hi 30 68 (by omega)]; exact h.2.1, fun t q => by rw [hi 71 t (by omega)]; exact h.2.2 t q⟩
theorem zMp.add {fi fi' : zFi} {n p t : Nat} (h : zMp fi n p) (hc : p < 10) (ht : t < n) (e : fi' 30 68 = nI (p + 1)) (e2 : fi' 71 p = nI t) (ho : ∀ j, j ≠ p → fi' 71 j = fi 71 j) : zMp fi' n (p + 1) := ⟨by omega, e, fun j q => by
  by_cases hj : j = p
  · subst hj; exact ⟨t, ht, e2⟩
  · rw [ho j hj]; exact h.2.2 j (by omega)⟩
set_option maxHeartbeats 4000000 in
set_option maxRecDepth 100000 in
/-- isWant -/
theorem m_isWant (l : Launch) (hl0 : l.stackTraces = false) (D : va_G) (A : Nat → Prop) (sad : Nat → Nat) (τ : zTy) (fi : zFi) (fr : zFr) (ol : Int64) (x y : Int32) (hF : zFix τ fr) (n o : Nat) (hMo : zMo fi n o) : Met l yX12_isWant wsX12_isWant ({ frames := 1, cells := 0, slots := 0, locals := 21 }) (va_Pc [.ref (τ.1 30), .int x, .int y] (zQc D A sad τ fi fr ol)) (va_Qi (fun (r : Int32) (u : Unit) => (∃ q j w, q < o ∧ x = nI q ∧ w ≤ 8 ∧ fi 54 q = nI w ∧ j < w ∧ y = nI j ∧ r = 1) ∨ r = 0) (fun (u : Unit) (t : State) => zH D A τ fi fr ol t t.heap) A) 0 0 A := by
  refine Met.ofW (cc := cX12_isWant) (maxL := 3) (ret := (some .boolean)) (by decide) rfl ?_
  intro p9 e9 s m args below meth c9 s₁ B hml hv
  obtain ⟨rfl, hz, hH, hA⟩ := hv
  have hx := B.exec
  have hb := B.bytes
  have hr := B.returns
  have hts := atoms_spec (ws := wsX12_isWant) B.pre
  have hown : s.vm.findClass RX12 = some m.cls := findClass_of_methodNamed B.named
  have hlocks := B.notSynchronized
  have hS : va_S A s.heap s.heap [] := va_S.rf
  have hl := lv_entry ([.ref (τ.1 30), .int x, .int y]) (n := 3) (Nat.le_of_ble_eq_true rfl)
  rw [lg_entry_eq]
  generalize (lg_sl ([.ref (τ.1 30), .int x, .int y]) ++ List.replicate (3 - (lg_sl ([.ref (τ.1 30), .int x, .int y])).length) Slot.unset).toArray = ls at hl ⊢
  have hl : lv_has ls 3 [(0, .ref (τ.1 30)), (1, .int x), (2, .int y)] := hl
  have ho60 := hMo.1
  have hiX12 : ∀ w ∈ u_ws RX12 TX12 71, w ∈ wsX12_isWant := fun _ h => List.mem_cons_of_mem _ (List.mem_append_right _ h)
  have hw1 := hts (.fieldLink RX12 108 "PostHouseModel" "wants" "[I") (by decide +kernel)
  refine lv_aload_n hx hb dX12_isWant_0 rfl (lv_at hl 0 rfl) ?_
  refine lv_iload_n hx hb dX12_isWant_1 rfl (lv_at hl 1 rfl) ?_
  refine va_calli (va_runV (As := [.int x]) (rest := []) ⟨hx, hb, hml, hown, hts⟩ (m_isOrder l hl0 D A sad τ fi fr ol x o hF hMo.2.1 (by omega)) (cwV 1 hts gX12_isWant_X12_isOrder rfl rfl rfl (by decide +kernel) ⟨Nat.le_of_ble_eq_true rfl, Nat.le_of_ble_eq_true rfl⟩) ⟨zQc_bl, zRecv hH (zk_30 hF) rfl, zQc_at hz hS hA hH⟩ rfl rfl hl.1 rfl (lv_room (Nat.le_of_ble_eq_true rfl)) dX12_isWant_2 ⟨Nat.le_of_ble_eq_true rfl, Nat.le_of_ble_eq_true rfl⟩) hS (fun q _ h => h) (fun q h => h) (fun r101 u9 t9 H1 locs ht9 hvm9 hw hB hz1 hk1 hS => ?_)
  have hH := zMv ht9 hvm9 hB
  generalize H1 = H at hH hS ⊢
  rcases hw with ⟨o1, ho1, rfl, rfl⟩ | ⟨hno, rfl⟩
  · skip
    refine lv_if_eq (tgt := 26) hx hb dX12_isWant_5 (by decide) (fun c102 => absurd c102 (by decide)) (fun c102 => ?_)
    obtain ⟨wn, hvn8, hvn54, hwn⟩ := hMo.2.2 o1 (by omega)
    refine lv_iload_n hx hb dX12_isWant_8 rfl (lv_at hl 2 rfl) ?_
    refine lv_if_lt (tgt := 26) hx hb dX12_isWant_9 (by decide) (fun c103 => ?_) (fun c103 => ?_)
    · have zc103 := c103
      replace zc103 := zc_lt (rfl) ((by decide : (0 : Int32).toInt = 0)) zc103
      refine lv_iconst (v := nI 0) hx hb dX12_isWant_26 (by decide) ?_
      refine W.widen (k := 0) (n := 0) (by decide) (by decide) ?_
      exact W.zret (v := nI 0) hx hb hr (by decide) (fun t9 ht9 hW9 => ⟨⟨nI 0, (), rfl, Or.inr rfl, zEnd1 hH ht9 hW9⟩, hS.F ht9⟩) hS.2.2 dX12_isWant_27
    · have zc103 := c103
      replace zc103 := zc_nlt (rfl) ((by decide : (0 : Int32).toInt = 0)) zc103
      refine lv_iload_n hx hb dX12_isWant_12 rfl (lv_at hl 2 rfl) ?_
      refine lv_aload_n hx hb dX12_isWant_13 rfl (lv_at hl 0 rfl) ?_
      refine zGetR (D := D) (ci := 12) (C := RX12) (T := TX12) (N := 71) hx hb hts hiX12 hown hH (zk_30 hF) rfl 50 (by decide) rfl hw1 (fun _ h9 => h9) dX12_isWant_14 (zr_30_50 hF) ?_
      refine lv_iload_n hx hb dX12_isWant_17 rfl (lv_at hl 1 rfl) ?_
      refine zIaldN (D := D) hx hb hH (zk_54 hF) (zn_54 hF) (by omega) (by omega) hvn54 dX12_isWant_18 ?_
      refine lv_icmp_ge (tgt := 26) hx hb dX12_isWant_19 (by decide) (fun c104 => ?_) (fun c104 => ?_)
      · have zc104 := c104
        replace zc104 := zc_le (nI_toInt (by omega)) (rfl) zc104
        refine lv_iconst (v := nI 0) hx hb dX12_isWant_26 (by decide) ?_
        refine W.widen (k := 0) (n := 0) (by decide) (by decide) ?_
        exact W.zret (v := nI 0) hx hb hr (by decide) (fun t9 ht9 hW9 => ⟨⟨nI 0, (), rfl, Or.inr rfl, zEnd1 hH ht9 hW9⟩, hS.F ht9⟩) hS.2.2 dX12_isWant_27
      · have zc104 := c104
        replace zc104 := zc_nle (nI_toInt (by omega)) (rfl) zc104
        refine lv_iconst (v := nI 1) hx hb dX12_isWant_22 (by decide) ?_
        refine lv_goto (tgt := 27) hx hb dX12_isWant_23 (by decide) ?_
        refine W.widen (k := 0) (n := 0) (by decide) (by decide) ?_
        exact W.zret (v := nI 1) hx hb hr (by decide) (fun t9 ht9 hW9 => ⟨⟨nI 1, (), rfl, (by obtain ⟨j1, h91, h92⟩ := zNatB (x := y) (n := wn) (by omega) (by omega); exact Or.inl ⟨o1, j1, wn, ho1, rfl, hvn8, hvn54, h91, h92, rfl⟩), zEnd1 hH ht9 hW9⟩, hS.F ht9⟩) hS.2.2 dX12_isWant_27
  · skip
    refine lv_if_eq (tgt := 26) hx hb dX12_isWant_5 (by decide) (fun c105 => ?_) (fun c105 => absurd (by decide) c105)
    refine lv_iconst (v := nI 0) hx hb dX12_isWant_26 (by decide) ?_
    refine W.widen (k := 0) (n := 0) (by decide) (by decide) ?_
    exact W.zret (v := nI 0) hx hb hr (by decide) (fun t9 ht9 hW9 => ⟨⟨nI 0, (), rfl, Or.inr rfl, zEnd1 hH ht9 hW9⟩, hS.F ht9⟩) hS.2.2 dX12_isWant_27
set_option maxHeartbeats 4000000 in
set_option maxRecDepth 100000 in
/-- left -/
theorem m_left (l : Launch) (hl0 : l.stackTraces = false) (D : va_G) (A : Nat → Prop) (sad : Nat → Nat) (τ : zTy) (fi : zFi) (fr : zFr) (ol : Int64) (hF : zFix τ fr) (i : Nat) (hi4 : i < 480) : Met l yX12_left wsX12_left ({ frames := 0, cells := 0, slots := 0, locals := 0 }) (va_Pc [.ref (τ.1 30), .int (nI i)] (zQc D A sad τ fi fr ol)) (va_Qi (fun (r : Int32) (u : Unit) => True) (fun (u : Unit) (t : State) => zH D A τ fi fr ol t t.heap) A) 0 0 A := by
  refine Met.ofW (cc := cX12_left) (maxL := 2) (ret := (some .int)) (by decide) rfl ?_
  intro p9 e9 s m args below meth c9 s₁ B hml hv
  obtain ⟨rfl, hz, hH, hA⟩ := hv
  have hx := B.exec
  have hb := B.bytes
  have hr := B.returns
  have hts := atoms_spec (ws := wsX12_left) B.pre
  have hown : s.vm.findClass RX12 = some m.cls := findClass_of_methodNamed B.named
  have hlocks := B.notSynchronized
  have hS : va_S A s.heap s.heap [] := va_S.rf
  have hl := lv_entry ([.ref (τ.1 30), .int (nI i)]) (n := 2) (Nat.le_of_ble_eq_true rfl)
  rw [lg_entry_eq]
  generalize (lg_sl ([.ref (τ.1 30), .int (nI i)]) ++ List.replicate (2 - (lg_sl ([.ref (τ.1 30), .int (nI i)])).length) Slot.unset).toArray = ls at hl ⊢
  have hl : lv_has ls 2 [(0, .ref (τ.1 30)), (1, .int (nI i))] := hl
  have hiX12 : ∀ w ∈ u_ws RX12 TX12 71, w ∈ wsX12_left := fun _ h => List.mem_cons_of_mem _ (List.mem_append_right _ h)
  have hw1 := hts (.fieldLink RX12 114 "PostHouseModel" "wantMany" "[I") (by decide +kernel)
  have hw2 := hts (.fieldLink RX12 120 "PostHouseModel" "wantSent" "[I") (by decide +kernel)
  have hw3 := hts (.fieldLink RX12 123 "PostHouseModel" "wantPlaced" "[I") (by decide +kernel)
  have hw4 := hts (.fieldLink RX12 126 "PostHouseModel" "wantCancelled" "[I") (by decide +kernel)
  refine lv_aload_n hx hb dX12_left_0 rfl (lv_at hl 0 rfl) ?_
  refine zGetR (D := D) (ci := 12) (C := RX12) (T := TX12) (N := 71) hx hb hts hiX12 hown hH (zk_30 hF) rfl 52 (by decide) rfl hw1 (fun _ h9 => h9) dX12_left_1 (zr_30_52 hF) ?_
  refine lv_iload_n hx hb dX12_left_4 rfl (lv_at hl 1 rfl) ?_
  refine zIaldN (D := D) hx hb hH (zk_56 hF) (zn_56 hF) (by omega) (by omega) rfl dX12_left_5 ?_
  refine lv_aload_n hx hb dX12_left_6 rfl (lv_at hl 0 rfl) ?_
  refine zGetR (D := D) (ci := 12) (C := RX12) (T := TX12) (N := 71) hx hb hts hiX12 hown hH (zk_30 hF) rfl 54 (by decide) rfl hw2 (fun _ h9 => h9) dX12_left_7 (zr_30_54 hF) ?_
  refine lv_iload_n hx hb dX12_left_10 rfl (lv_at hl 1 rfl) ?_
  refine zIaldN (D := D) hx hb hH (zk_58 hF) (zn_58 hF) (by omega) (by omega) rfl dX12_left_11 ?_
  refine lv_isub hx hb dX12_left_12 ?_
  refine lv_topi (fun v101 ev101 => ?_)
  refine lv_aload_n hx hb dX12_left_13 rfl (lv_at hl 0 rfl) ?_
  refine zGetR (D := D) (ci := 12) (C := RX12) (T := TX12) (N := 71) hx hb hts hiX12 hown hH (zk_30 hF) rfl 55 (by decide) rfl hw3 (fun _ h9 => h9) dX12_left_14 (zr_30_55 hF) ?_
  refine lv_iload_n hx hb dX12_left_17 rfl (lv_at hl 1 rfl) ?_
  refine zIaldN (D := D) hx hb hH (zk_59 hF) (zn_59 hF) (by omega) (by omega) rfl dX12_left_18 ?_
  refine lv_isub hx hb dX12_left_19 ?_
  refine lv_topi (fun v102 ev102 => ?_)
  refine lv_aload_n hx hb dX12_left_20 rfl (lv_at hl 0 rfl) ?_
  refine zGetR (D := D) (ci := 12) (C := RX12) (T := TX12) (N := 71) hx hb hts hiX12 hown hH (zk_30 hF) rfl 56 (by decide) rfl hw4 (fun _ h9 => h9) dX12_left_21 (zr_30_56 hF) ?_
  refine lv_iload_n hx hb dX12_left_24 rfl (lv_at hl 1 rfl) ?_
  refine zIaldN (D := D) hx hb hH (zk_60 hF) (zn_60 hF) (by omega) (by omega) rfl dX12_left_25 ?_
  refine lv_isub hx hb dX12_left_26 ?_
  refine lv_topi (fun v103 ev103 => ?_)
  refine W.widen (k := 0) (n := 0) (by decide) (by decide) ?_
  exact W.iret (v := v103) hx hb hr (fun t9 ht9 hW9 => ⟨⟨v103, (), rfl, trivial, zEnd1 hH ht9 hW9⟩, hS.F ht9⟩) hS.2.2 dX12_left_27
set_option maxHeartbeats 4000000 in
set_option maxRecDepth 100000 in
/-- order -/
theorem m_order (l : Launch) (hl0 : l.stackTraces = false) (D : va_G) (A : Nat → Prop) (sad : Nat → Nat) (τ : zTy) (fi : zFi) (fr : zFr) (ol : Int64) (x y : Int32) (hF : zFix τ fr) (n o : Nat) (hMo : zMo fi n o) : Met l yX12_order wsX12_order ({ frames := 1, cells := 0, slots := 0, locals := 22 }) (va_Pc [.ref (τ.1 30), .int x, .int y] (zQc D A sad τ fi fr ol)) (va_Qi (fun (r : Int32) (u : zFi) => ∀ a b, ¬ (a = 30 ∧ b = 0) → u a b = fi a b) (fun (u : zFi) (t : State) => zH D A τ u fr ol t t.heap) A) 0 0 A := by
  refine Met.ofW (cc := cX12_order) (maxL := 5) (ret := (some .int)) (by decide) rfl ?_
  intro p9 e9 s m args below meth c9 s₁ B hml hv
  obtain ⟨rfl, hz, hH, hA⟩ := hv
  have hx := B.exec
  have hb := B.bytes
  have hr := B.returns
  have hts := atoms_spec (ws := wsX12_order) B.pre
  have hown : s.vm.findClass RX12 = some m.cls := findClass_of_methodNamed B.named
  have hlocks := B.notSynchronized
  have hS : va_S A s.heap s.heap [] := va_S.rf
  have hl := lv_entry ([.ref (τ.1 30), .int x, .int y]) (n := 5) (Nat.le_of_ble_eq_true rfl)
  rw [lg_entry_eq]
  generalize (lg_sl ([.ref (τ.1 30), .int x, .int y]) ++ List.replicate (5 - (lg_sl ([.ref (τ.1 30), .int x, .int y])).length) Slot.unset).toArray = ls at hl ⊢
  have hl : lv_has ls 5 [(0, .ref (τ.1 30)), (1, .int x), (2, .int y)] := hl
  have ho60 := hMo.1
  have hw0 := hts (.fieldLink RX12 165 "PostHouseModel" "thrown" "I") (by decide +kernel)
  have hiX12 : ∀ w ∈ u_ws RX12 TX12 71, w ∈ wsX12_order := fun _ h => List.mem_cons_of_mem _ (List.mem_append_right _ h)
  have hw2 := hts (.fieldLink RX12 108 "PostHouseModel" "wants" "[I") (by decide +kernel)
  have hw3 := hts (.fieldLink RX12 96 "PostHouseModel" "orderDay" "[I") (by decide +kernel)
  have hw4 := hts (.fieldLink RX12 99 "PostHouseModel" "orderMoney" "[I") (by decide +kernel)
  have hw5 := hts (.fieldLink RX12 102 "PostHouseModel" "orderCredit" "[I") (by decide +kernel)
  have hw6 := hts (.fieldLink RX12 105 "PostHouseModel" "orderPost" "[I") (by decide +kernel)
  refine lv_aload_n hx hb dX12_order_0 rfl (lv_at hl 0 rfl) ?_
  refine lv_aload_n hx hb dX12_order_1 rfl (lv_at hl 0 rfl) ?_
  refine lv_iload_n hx hb dX12_order_2 rfl (lv_at hl 1 rfl) ?_
  refine va_calli (va_runV (As := [.int x]) (rest := [.ref (τ.1 30)]) ⟨hx, hb, hml, hown, hts⟩ (m_isOrder l hl0 D A sad τ fi fr ol x o hF hMo.2.1 (by omega)) (cwV 1 hts gX12_order_X12_isOrder rfl rfl rfl (by decide +kernel) ⟨Nat.le_of_ble_eq_true rfl, Nat.le_of_ble_eq_true rfl⟩) ⟨zQc_bl, zRecv hH (zk_30 hF) rfl, zQc_at hz hS hA hH⟩ rfl rfl hl.1 rfl (lv_room (Nat.le_of_ble_eq_true rfl)) dX12_order_3 ⟨Nat.le_of_ble_eq_true rfl, Nat.le_of_ble_eq_true rfl⟩) hS (fun q _ h => h) (fun q h => h) (fun r101 u9 t9 H1 locs ht9 hvm9 hw hB hz1 hk1 hS => ?_)
  have hH := zMv ht9 hvm9 hB
  generalize H1 = H at hH hS ⊢
  rcases hw with ⟨o1, ho1, rfl, rfl⟩ | ⟨hno, rfl⟩
  · skip
    refine lv_if_ne (tgt := 13) hx hb dX12_order_6 (by decide) (fun c102 => ?_) (fun c102 => absurd c102 (by decide))
    refine lv_iload_n hx hb dX12_order_13 rfl (lv_at hl 2 rfl) ?_
    refine lv_iconst (v := nI 0) hx hb dX12_order_14 (by decide) ?_
    refine lv_iconst (v := nI 5) hx hb dX12_order_15 (by decide) ?_
    refine va_calli (va_runS (As := [.int y, .int (nI 0), .int (nI 5)]) (rest := [.ref (τ.1 30)]) ⟨hx, hb, hml, hown, hts⟩ (m_isIn l hl0 D A sad τ fi fr ol y (nI 0) (nI 5)) (cwS 3 hts gX12_order_X12_isIn rfl rfl rfl (by decide +kernel) ⟨Nat.le_of_ble_eq_true rfl, Nat.le_of_ble_eq_true rfl⟩) ⟨zQc_bl, zQc_at hz hS hA hH⟩ rfl rfl hl.1 rfl (lv_room (Nat.le_of_ble_eq_true rfl)) dX12_order_16 ⟨Nat.le_of_ble_eq_true rfl, Nat.le_of_ble_eq_true rfl⟩) hS (fun q _ h => h) (fun q h => h) (fun r103 u9 t9 H1 locs ht9 hvm9 hw hB hz1 hk1 hS => ?_)
    have hH := zMv ht9 hvm9 hB
    generalize H1 = H at hH hS ⊢
    rcases hw with ⟨rfl, hy104⟩ | ⟨rfl, hn105⟩
    · skip
      replace hy104 := zWi1 (rfl) (nI_toInt (by omega)) (nI_toInt (by omega)) hy104
      refine lv_if_ne (tgt := 26) hx hb dX12_order_19 (by decide) (fun c106 => ?_) (fun c106 => absurd c106 (by decide))
      refine lv_iconst (v := nI 0) hx hb dX12_order_26 (by decide) ?_
      refine zPutI (D := D) (ci := 12) (ty := .int) (C := RX12) (T := TX12) (N := 71) hx hb hts hiX12 tyX12 tyX12_ok nmX12 hown hH hS (zk_30 hF) rfl 0 (by decide) rfl hw0 (fun _ h9 => h9) rfl (by decide +kernel) rfl rfl dX12_order_27 (fun H locs hH hS => ?_)
      obtain ⟨f107, ef107⟩ : ∃ f9 : zFi, f9 = zu fi 30 0 (nI 0) := ⟨_, rfl⟩
      rw [← ef107] at hH
      have q108 : f107 30 45 = nI o := by rw [ef107, zu_n (fun h9 => absurd h9.2 (by decide))]; exact hMo.2.1
      have q109 : f107 30 0 = nI 0 := by rw [ef107]; exact zu_s
      have hMo := zMo.ci (fi' := f107) hMo (fun i9 k9 h9 => by rw [ef107]; exact zu_n (by omega))
      refine lv_aload_n hx hb dX12_order_30 rfl (lv_at hl 0 rfl) ?_
      refine zGetI (D := D) (ci := 12) (C := RX12) (T := TX12) (N := 71) hx hb hts hiX12 hown hH (zk_30 hF) rfl 0 (by decide) rfl hw0 (fun _ h9 => h9) dX12_order_31 q109 ?_
      refine lv_if_le (tgt := 39) hx hb dX12_order_34 (by decide) (fun c110 => ?_) (fun c110 => absurd (by decide) c110)
      obtain ⟨wn, hvn8, hvn54, hwn⟩ := hMo.2.2 o1 (by omega)
      refine lv_iconst (v := nI 0) hx hb dX12_order_39 (by decide) ?_
      refine lv_istore_n (lv' := [(3, .int (nI 0)), (0, .ref (τ.1 30)), (1, .int (nI o1)), (2, .int y)]) hx hb dX12_order_40 rfl hl (by decide) rfl (fun ls hl => ?_)
      refine lv_bipush (v := nI 8) hx hb dX12_order_41 (by decide) ?_
      refine lv_iload_n hx hb dX12_order_43 rfl (lv_at hl 2 rfl) ?_
      refine lv_imul hx hb dX12_order_44 ?_
      refine lv_topi (fun v111 ev111 => ?_)
      obtain rfl : v111 = nI (8 * o1) := ev111.trans (pk_mul _ _)
      refine lv_istore (lv' := [(4, .int (nI (8 * o1))), (3, .int (nI 0)), (0, .ref (τ.1 30)), (1, .int (nI o1)), (2, .int y)]) hx hb dX12_order_45 hl (by decide) rfl (fun ls hl => ?_)
      refine zLp (σ := Nat × Int32) (fun x9 k9 H locs ls => (fun (i : Nat) (yy : Int32) => k9 = 8 * o1 + wn - i ∧ (8 * o1 ≤ i ∧ i ≤ 8 * o1 + wn) ∧ zH D A τ f107 fr ol s H ∧ va_S A s.heap H locs ∧ lv_has ls 5 [(0, .ref (τ.1 30)), (1, .int (nI o1)), (2, .int y), (3, .int yy), (4, .int (nI i))]) x9.1 x9.2) (8 * o1, nI 0) (8 * o1 + wn - (8 * o1)) (show 8 * o1 + wn - (8 * o1) = 8 * o1 + wn - (8 * o1) ∧ (8 * o1 ≤ (8 * o1) ∧ (8 * o1) ≤ 8 * o1 + wn) ∧ zH D A τ f107 fr ol s _ ∧ va_S A s.heap _ _ ∧ lv_has _ 5 [(0, .ref (τ.1 30)), (1, .int (nI o1)), (2, .int y), (3, .int (nI 0)), (4, .int (nI (8 * o1)))] from ⟨rfl, ⟨Nat.le_refl _, by omega⟩, hH, hS, lv_sub hl [2, 3, 4, 1, 0] rfl⟩) (fun k9 ih x9 H locs ls hv9 => ?_)
      obtain ⟨i, yy⟩ := x9
      have hv9 : k9 = 8 * o1 + wn - i ∧ (8 * o1 ≤ i ∧ i ≤ 8 * o1 + wn) ∧ zH D A τ f107 fr ol s H ∧ va_S A s.heap H locs ∧ lv_has ls 5 [(0, .ref (τ.1 30)), (1, .int (nI o1)), (2, .int y), (3, .int yy), (4, .int (nI i))] := hv9
      obtain ⟨hkih112, hv9, hH, hS, hl⟩ := hv9
      obtain ⟨h1, h2⟩ := hv9
      have ih112 := ih
      clear ih
      refine lv_iload hx hb dX12_order_47 (lv_at hl 4 rfl) ?_
      refine lv_bipush (v := nI 8) hx hb dX12_order_49 (by decide) ?_
      refine lv_iload_n hx hb dX12_order_51 rfl (lv_at hl 1 rfl) ?_
      refine lv_imul hx hb dX12_order_52 ?_
      refine lv_topi (fun v113 ev113 => ?_)
      obtain rfl : v113 = nI (8 * o1) := ev113.trans (pk_mul _ _)
      refine lv_aload_n hx hb dX12_order_53 rfl (lv_at hl 0 rfl) ?_
      refine zGetR (D := D) (ci := 12) (C := RX12) (T := TX12) (N := 71) hx hb hts hiX12 hown hH (zk_30 hF) rfl 50 (by decide) rfl hw2 (fun _ h9 => h9) dX12_order_54 (zr_30_50 hF) ?_
      refine lv_iload_n hx hb dX12_order_57 rfl (lv_at hl 1 rfl) ?_
      refine zIaldN (D := D) hx hb hH (zk_54 hF) (zn_54 hF) (by omega) (by omega) hvn54 dX12_order_58 ?_
      refine lv_iadd hx hb dX12_order_59 ?_
      refine lv_topi (fun v114 ev114 => ?_)
      obtain rfl : v114 = nI (8 * o1 + wn) := ev114.trans (nI_add _ _)
      refine lv_icmp_ge (tgt := 78) hx hb dX12_order_60 (by decide) (fun c115 => ?_) (fun c115 => ?_)
      · have zc115 := c115
        replace zc115 := zc_le (nI_toInt (by omega)) (nI_toInt (by omega)) zc115
        refine lv_iload_n hx hb dX12_order_78 rfl (lv_at hl 2 rfl) ?_
        rcases zCase4 y with c116 | c116 | c116 | c116 | c116 | c116
        · subst c116
          refine lv_tableIn (tgt := 112) (off := 33) hx hb dX12_order_79 (by decide) (by decide) rfl (by decide) ?_
          refine lv_aload_n hx hb dX12_order_112 rfl (lv_at hl 0 rfl) ?_
          refine zGetR (D := D) (ci := 12) (C := RX12) (T := TX12) (N := 71) hx hb hts hiX12 hown hH (zk_30 hF) rfl 46 (by decide) rfl hw3 (fun _ h9 => h9) dX12_order_113 (zr_30_46 hF) ?_
          refine lv_iload_n hx hb dX12_order_116 rfl (lv_at hl 1 rfl) ?_
          refine zIaldN (D := D) hx hb hH (zk_50 hF) (zn_50 hF) (by omega) (by omega) rfl dX12_order_117 ?_
          refine W.widen (k := 0) (n := 0) (by decide) (by decide) ?_
          exact W.iret (v := f107 50 o1) hx hb hr (fun t9 ht9 hW9 => ⟨⟨f107 50 o1, f107, rfl, fun a b h => by rw [ef107, zu_n (by omega)], zEnd1 hH ht9 hW9⟩, hS.F ht9⟩) hS.2.2 dX12_order_118
        · subst c116
          refine lv_tableIn (tgt := 119) (off := 40) hx hb dX12_order_79 (by decide) (by decide) rfl (by decide) ?_
          refine lv_aload_n hx hb dX12_order_119 rfl (lv_at hl 0 rfl) ?_
          refine zGetR (D := D) (ci := 12) (C := RX12) (T := TX12) (N := 71) hx hb hts hiX12 hown hH (zk_30 hF) rfl 50 (by decide) rfl hw2 (fun _ h9 => h9) dX12_order_120 (zr_30_50 hF) ?_
          refine lv_iload_n hx hb dX12_order_123 rfl (lv_at hl 1 rfl) ?_
          refine zIaldN (D := D) hx hb hH (zk_54 hF) (zn_54 hF) (by omega) (by omega) hvn54 dX12_order_124 ?_
          refine W.widen (k := 0) (n := 0) (by decide) (by decide) ?_
          exact W.iret (v := nI wn) hx hb hr (fun t9 ht9 hW9 => ⟨⟨nI wn, f107, rfl, fun a b h => by rw [ef107, zu_n (by omega)], zEnd1 hH ht9 hW9⟩, hS.F ht9⟩) hS.2.2 dX12_order_125
        · subst c116
          refine lv_tableIn (tgt := 126) (off := 47) hx hb dX12_order_79 (by decide) (by decide) rfl (by decide) ?_
          refine lv_aload_n hx hb dX12_order_126 rfl (lv_at hl 0 rfl) ?_
          refine zGetR (D := D) (ci := 12) (C := RX12) (T := TX12) (N := 71) hx hb hts hiX12 hown hH (zk_30 hF) rfl 47 (by decide) rfl hw4 (fun _ h9 => h9) dX12_order_127 (zr_30_47 hF) ?_
          refine lv_iload_n hx hb dX12_order_130 rfl (lv_at hl 1 rfl) ?_
          refine zIaldN (D := D) hx hb hH (zk_51 hF) (zn_51 hF) (by omega) (by omega) rfl dX12_order_131 ?_
          refine W.widen (k := 0) (n := 0) (by decide) (by decide) ?_
          exact W.iret (v := f107 51 o1) hx hb hr (fun t9 ht9 hW9 => ⟨⟨f107 51 o1, f107, rfl, fun a b h => by rw [ef107, zu_n (by omega)], zEnd1 hH ht9 hW9⟩, hS.F ht9⟩) hS.2.2 dX12_order_132
        · subst c116
          refine lv_tableIn (tgt := 133) (off := 54) hx hb dX12_order_79 (by decide) (by decide) rfl (by decide) ?_
          refine lv_aload_n hx hb dX12_order_133 rfl (lv_at hl 0 rfl) ?_
          refine zGetR (D := D) (ci := 12) (C := RX12) (T := TX12) (N := 71) hx hb hts hiX12 hown hH (zk_30 hF) rfl 48 (by decide) rfl hw5 (fun _ h9 => h9) dX12_order_134 (zr_30_48 hF) ?_
          refine lv_iload_n hx hb dX12_order_137 rfl (lv_at hl 1 rfl) ?_
          refine zIaldN (D := D) hx hb hH (zk_52 hF) (zn_52 hF) (by omega) (by omega) rfl dX12_order_138 ?_
          refine W.widen (k := 0) (n := 0) (by decide) (by decide) ?_
          exact W.iret (v := f107 52 o1) hx hb hr (fun t9 ht9 hW9 => ⟨⟨f107 52 o1, f107, rfl, fun a b h => by rw [ef107, zu_n (by omega)], zEnd1 hH ht9 hW9⟩, hS.F ht9⟩) hS.2.2 dX12_order_139
        · subst c116
          refine lv_tableIn (tgt := 140) (off := 61) hx hb dX12_order_79 (by decide) (by decide) rfl (by decide) ?_
          refine lv_iload_n hx hb dX12_order_140 rfl (lv_at hl 3 rfl) ?_
          refine W.widen (k := 0) (n := 0) (by decide) (by decide) ?_
          exact W.iret (v := yy) hx hb hr (fun t9 ht9 hW9 => ⟨⟨yy, f107, rfl, fun a b h => by rw [ef107, zu_n (by omega)], zEnd1 hH ht9 hW9⟩, hS.F ht9⟩) hS.2.2 dX12_order_141
        · refine lv_tableOut (tgt := 142) hx hb dX12_order_79 c116 (by decide) ?_
          refine lv_aload_n hx hb dX12_order_142 rfl (lv_at hl 0 rfl) ?_
          refine zGetR (D := D) (ci := 12) (C := RX12) (T := TX12) (N := 71) hx hb hts hiX12 hown hH (zk_30 hF) rfl 49 (by decide) rfl hw6 (fun _ h9 => h9) dX12_order_143 (zr_30_49 hF) ?_
          refine lv_iload_n hx hb dX12_order_146 rfl (lv_at hl 1 rfl) ?_
          refine zIaldN (D := D) hx hb hH (zk_53 hF) (zn_53 hF) (by omega) (by omega) rfl dX12_order_147 ?_
          refine W.widen (k := 0) (n := 0) (by decide) (by decide) ?_
          exact W.iret (v := f107 53 o1) hx hb hr (fun t9 ht9 hW9 => ⟨⟨f107 53 o1, f107, rfl, fun a b h => by rw [ef107, zu_n (by omega)], zEnd1 hH ht9 hW9⟩, hS.F ht9⟩) hS.2.2 dX12_order_148
      · have zc115 := c115
        replace zc115 := zc_nle (nI_toInt (by omega)) (nI_toInt (by omega)) zc115
        refine lv_iload_n hx hb dX12_order_63 rfl (lv_at hl 3 rfl) ?_
        refine lv_aload_n hx hb dX12_order_64 rfl (lv_at hl 0 rfl) ?_
        refine lv_iload hx hb dX12_order_65 (lv_at hl 4 rfl) ?_
        refine va_calli (va_runV (As := [.int (nI i)]) (rest := [.int yy]) ⟨hx, hb, hml, hown, hts⟩ (m_left l hl0 D A sad τ f107 fr ol hF i (by omega)) (cwV 1 hts gX12_order_X12_left rfl rfl rfl (by decide +kernel) ⟨Nat.le_of_ble_eq_true rfl, Nat.le_of_ble_eq_true rfl⟩) ⟨zQc_bl, zRecv hH (zk_30 hF) rfl, zQc_at hz hS hA hH⟩ rfl rfl hl.1 rfl (lv_room (Nat.le_of_ble_eq_true rfl)) dX12_order_67 ⟨Nat.le_of_ble_eq_true rfl, Nat.le_of_ble_eq_true rfl⟩) hS (fun q _ h => h) (fun q h => h) (fun r117 u9 t9 H1 locs ht9 hvm9 hw hB hz1 hk1 hS => ?_)
        have hH := zMv ht9 hvm9 hB
        generalize H1 = H at hH hS ⊢
        refine lv_iadd hx hb dX12_order_70 ?_
        refine lv_topi (fun v118 ev118 => ?_)
        refine lv_istore_n (lv' := [(3, .int v118), (0, .ref (τ.1 30)), (1, .int (nI o1)), (2, .int y), (4, .int (nI i))]) hx hb dX12_order_71 rfl hl (by decide) rfl (fun ls hl => ?_)
        refine lv_iinc (v := nI (i + 1)) (lv' := [(4, .int (nI (i + 1))), (3, .int v118), (0, .ref (τ.1 30)), (1, .int (nI o1)), (2, .int y)]) hx hb dX12_order_72 hl (k := 4) rfl (by rw [show (Int32.ofInt 1 : Int32) = nI 1 from by decide, nI_add]) (by decide) rfl (fun ls hl => ?_)
        refine lv_goto (tgt := 47) hx hb dX12_order_75 (by decide) ?_
        exact ih112 (8 * o1 + wn - (i + 1)) (by omega) (i + 1, _) _ _ _ (show 8 * o1 + wn - (i + 1) = 8 * o1 + wn - (i + 1) ∧ (8 * o1 ≤ (i + 1) ∧ (i + 1) ≤ 8 * o1 + wn) ∧ zH D A τ f107 fr ol s _ ∧ va_S A s.heap _ _ ∧ lv_has _ 5 [(0, .ref (τ.1 30)), (1, .int (nI o1)), (2, .int y), (3, .int _), (4, .int (nI (i + 1)))] from ⟨rfl, ⟨by omega, by omega⟩, hH, hS, lv_sub hl [2, 3, 4, 1, 0] rfl⟩)
    · skip
      replace hn105 := zWi0 (rfl) (nI_toInt (by omega)) (nI_toInt (by omega)) hn105
      refine lv_if_ne (tgt := 26) hx hb dX12_order_19 (by decide) (fun c119 => absurd (by decide) c119) (fun c119 => ?_)
      refine lv_iconst (v := nI 2) hx hb dX12_order_22 (by decide) ?_
      refine lv_goto (tgt := 27) hx hb dX12_order_23 (by decide) ?_
      refine zPutI (D := D) (ci := 12) (ty := .int) (C := RX12) (T := TX12) (N := 71) hx hb hts hiX12 tyX12 tyX12_ok nmX12 hown hH hS (zk_30 hF) rfl 0 (by decide) rfl hw0 (fun _ h9 => h9) rfl (by decide +kernel) rfl rfl dX12_order_27 (fun H locs hH hS => ?_)
      obtain ⟨f120, ef120⟩ : ∃ f9 : zFi, f9 = zu fi 30 0 (nI 2) := ⟨_, rfl⟩
      rw [← ef120] at hH
      have q121 : f120 30 45 = nI o := by rw [ef120, zu_n (fun h9 => absurd h9.2 (by decide))]; exact hMo.2.1
      have q122 : f120 30 0 = nI 2 := by rw [ef120]; exact zu_s
      have hMo := zMo.ci (fi' := f120) hMo (fun i9 k9 h9 => by rw [ef120]; exact zu_n (by omega))
      refine lv_aload_n hx hb dX12_order_30 rfl (lv_at hl 0 rfl) ?_
      refine zGetI (D := D) (ci := 12) (C := RX12) (T := TX12) (N := 71) hx hb hts hiX12 hown hH (zk_30 hF) rfl 0 (by decide) rfl hw0 (fun _ h9 => h9) dX12_order_31 q122 ?_
      refine lv_if_le (tgt := 39) hx hb dX12_order_34 (by decide) (fun c123 => absurd c123 (by decide)) (fun c123 => ?_)
      refine lv_iconst (v := nI 0) hx hb dX12_order_37 (by decide) ?_
      refine W.widen (k := 0) (n := 0) (by decide) (by decide) ?_
      exact W.iret (v := nI 0) hx hb hr (fun t9 ht9 hW9 => ⟨⟨nI 0, f120, rfl, fun a b h => by rw [ef120, zu_n (by omega)], zEnd1 hH ht9 hW9⟩, hS.F ht9⟩) hS.2.2 dX12_order_38
  · skip
    refine lv_if_ne (tgt := 13) hx hb dX12_order_6 (by decide) (fun c124 => absurd (by decide) c124) (fun c124 => ?_)
    refine lv_iconst (v := nI 1) hx hb dX12_order_9 (by decide) ?_
    refine lv_goto (tgt := 27) hx hb dX12_order_10 (by decide) ?_
    refine zPutI (D := D) (ci := 12) (ty := .int) (C := RX12) (T := TX12) (N := 71) hx hb hts hiX12 tyX12 tyX12_ok nmX12 hown hH hS (zk_30 hF) rfl 0 (by decide) rfl hw0 (fun _ h9 => h9) rfl (by decide +kernel) rfl rfl dX12_order_27 (fun H locs hH hS => ?_)
    obtain ⟨f125, ef125⟩ : ∃ f9 : zFi, f9 = zu fi 30 0 (nI 1) := ⟨_, rfl⟩
    rw [← ef125] at hH
    have q126 : f125 30 45 = nI o := by rw [ef125, zu_n (fun h9 => absurd h9.2 (by decide))]; exact hMo.2.1
    have q127 : f125 30 0 = nI 1 := by rw [ef125]; exact zu_s
    have hMo := zMo.ci (fi' := f125) hMo (fun i9 k9 h9 => by rw [ef125]; exact zu_n (by omega))
    refine lv_aload_n hx hb dX12_order_30 rfl (lv_at hl 0 rfl) ?_
    refine zGetI (D := D) (ci := 12) (C := RX12) (T := TX12) (N := 71) hx hb hts hiX12 hown hH (zk_30 hF) rfl 0 (by decide) rfl hw0 (fun _ h9 => h9) dX12_order_31 q127 ?_
    refine lv_if_le (tgt := 39) hx hb dX12_order_34 (by decide) (fun c128 => absurd c128 (by decide)) (fun c128 => ?_)
    refine lv_iconst (v := nI 0) hx hb dX12_order_37 (by decide) ?_
    refine W.widen (k := 0) (n := 0) (by decide) (by decide) ?_
    exact W.iret (v := nI 0) hx hb hr (fun t9 ht9 hW9 => ⟨⟨nI 0, f125, rfl, fun a b h => by rw [ef125, zu_n (by omega)], zEnd1 hH ht9 hW9⟩, hS.F ht9⟩) hS.2.2 dX12_order_38
set_option maxHeartbeats 4000000 in
set_option maxRecDepth 100000 in
/-- want -/
theorem m_want (l : Launch) (hl0 : l.stackTraces = false) (D : va_G) (A : Nat → Prop) (sad : Nat → Nat) (τ : zTy) (fi : zFi) (fr : zFr) (ol : Int64) (x y z : Int32) (hF : zFix τ fr) (n o : Nat) (hMo : zMo fi n o) : Met l yX12_want wsX12_want ({ frames := 2, cells := 0, slots := 0, locals := 43 }) (va_Pc [.ref (τ.1 30), .int x, .int y, .int z] (zQc D A sad τ fi fr ol)) (va_Qi (fun (r : Int32) (u : zFi) => ∀ a b, ¬ (a = 30 ∧ b = 0) → u a b = fi a b) (fun (u : zFi) (t : State) => zH D A τ u fr ol t t.heap) A) 0 0 A := by
  refine Met.ofW (cc := cX12_want) (maxL := 5) (ret := (some .int)) (by decide) rfl ?_
  intro p9 e9 s m args below meth c9 s₁ B hml hv
  obtain ⟨rfl, hz, hH, hA⟩ := hv
  have hx := B.exec
  have hb := B.bytes
  have hr := B.returns
  have hts := atoms_spec (ws := wsX12_want) B.pre
  have hown : s.vm.findClass RX12 = some m.cls := findClass_of_methodNamed B.named
  have hlocks := B.notSynchronized
  have hS : va_S A s.heap s.heap [] := va_S.rf
  have hl := lv_entry ([.ref (τ.1 30), .int x, .int y, .int z]) (n := 5) (Nat.le_of_ble_eq_true rfl)
  rw [lg_entry_eq]
  generalize (lg_sl ([.ref (τ.1 30), .int x, .int y, .int z]) ++ List.replicate (5 - (lg_sl ([.ref (τ.1 30), .int x, .int y, .int z])).length) Slot.unset).toArray = ls at hl ⊢
  have hl : lv_has ls 5 [(0, .ref (τ.1 30)), (1, .int x), (2, .int y), (3, .int z)] := hl
  have ho60 := hMo.1
  have hw0 := hts (.fieldLink RX12 165 "PostHouseModel" "thrown" "I") (by decide +kernel)
  have hiX12 : ∀ w ∈ u_ws RX12 TX12 71, w ∈ wsX12_want := fun _ h => List.mem_cons_of_mem _ (List.mem_append_right _ h)
  have hw2 := hts (.fieldLink RX12 111 "PostHouseModel" "wantThing" "[I") (by decide +kernel)
  have hw3 := hts (.fieldLink RX12 114 "PostHouseModel" "wantMany" "[I") (by decide +kernel)
  have hw4 := hts (.fieldLink RX12 117 "PostHouseModel" "wantPrice" "[I") (by decide +kernel)
  have hw5 := hts (.fieldLink RX12 120 "PostHouseModel" "wantSent" "[I") (by decide +kernel)
  have hw6 := hts (.fieldLink RX12 123 "PostHouseModel" "wantPlaced" "[I") (by decide +kernel)
  have hw7 := hts (.fieldLink RX12 126 "PostHouseModel" "wantCancelled" "[I") (by decide +kernel)
  have hw8 := hts (.fieldLink RX12 129 "PostHouseModel" "wantReturned" "[I") (by decide +kernel)
  have hw9 := hts (.fieldLink RX12 135 "PostHouseModel" "wantDay" "[I") (by decide +kernel)
  have hw10 := hts (.fieldLink RX12 138 "PostHouseModel" "wantOther" "[I") (by decide +kernel)
  refine lv_aload_n hx hb dX12_want_0 rfl (lv_at hl 0 rfl) ?_
  refine lv_aload_n hx hb dX12_want_1 rfl (lv_at hl 0 rfl) ?_
  refine lv_iload_n hx hb dX12_want_2 rfl (lv_at hl 1 rfl) ?_
  refine lv_iload_n hx hb dX12_want_3 rfl (lv_at hl 2 rfl) ?_
  refine va_calli (va_runV (As := [.int x, .int y]) (rest := [.ref (τ.1 30)]) ⟨hx, hb, hml, hown, hts⟩ (m_isWant l hl0 D A sad τ fi fr ol x y hF n o hMo) (cwV 2 hts gX12_want_X12_isWant rfl rfl rfl (by decide +kernel) ⟨Nat.le_of_ble_eq_true rfl, Nat.le_of_ble_eq_true rfl⟩) ⟨zQc_bl, zRecv hH (zk_30 hF) rfl, zQc_at hz hS hA hH⟩ rfl rfl hl.1 rfl (lv_room (Nat.le_of_ble_eq_true rfl)) dX12_want_4 ⟨Nat.le_of_ble_eq_true rfl, Nat.le_of_ble_eq_true rfl⟩) hS (fun q _ h => h) (fun q h => h) (fun r101 u9 t9 H1 locs ht9 hvm9 hw hB hz1 hk1 hS => ?_)
  have hH := zMv ht9 hvm9 hB
  generalize H1 = H at hH hS ⊢
  rcases hw with ⟨o1, j1, wn, ho1, rfl, hvn8, hvn54, hj1, rfl, rfl⟩ | rfl
  · skip
    refine lv_if_ne (tgt := 14) hx hb dX12_want_7 (by decide) (fun c102 => ?_) (fun c102 => absurd c102 (by decide))
    refine lv_iload_n hx hb dX12_want_14 rfl (lv_at hl 3 rfl) ?_
    refine lv_iconst (v := nI 0) hx hb dX12_want_15 (by decide) ?_
    refine lv_bipush (v := nI 8) hx hb dX12_want_16 (by decide) ?_
    refine va_calli (va_runS (As := [.int z, .int (nI 0), .int (nI 8)]) (rest := [.ref (τ.1 30)]) ⟨hx, hb, hml, hown, hts⟩ (m_isIn l hl0 D A sad τ fi fr ol z (nI 0) (nI 8)) (cwS 3 hts gX12_want_X12_isIn rfl rfl rfl (by decide +kernel) ⟨Nat.le_of_ble_eq_true rfl, Nat.le_of_ble_eq_true rfl⟩) ⟨zQc_bl, zQc_at hz hS hA hH⟩ rfl rfl hl.1 rfl (lv_room (Nat.le_of_ble_eq_true rfl)) dX12_want_18 ⟨Nat.le_of_ble_eq_true rfl, Nat.le_of_ble_eq_true rfl⟩) hS (fun q _ h => h) (fun q h => h) (fun r103 u9 t9 H1 locs ht9 hvm9 hw hB hz1 hk1 hS => ?_)
    have hH := zMv ht9 hvm9 hB
    generalize H1 = H at hH hS ⊢
    rcases hw with ⟨rfl, hy104⟩ | ⟨rfl, hn105⟩
    · skip
      replace hy104 := zWi1 (rfl) (nI_toInt (by omega)) (nI_toInt (by omega)) hy104
      refine lv_if_ne (tgt := 28) hx hb dX12_want_21 (by decide) (fun c106 => ?_) (fun c106 => absurd c106 (by decide))
      refine lv_iconst (v := nI 0) hx hb dX12_want_28 (by decide) ?_
      refine zPutI (D := D) (ci := 12) (ty := .int) (C := RX12) (T := TX12) (N := 71) hx hb hts hiX12 tyX12 tyX12_ok nmX12 hown hH hS (zk_30 hF) rfl 0 (by decide) rfl hw0 (fun _ h9 => h9) rfl (by decide +kernel) rfl rfl dX12_want_29 (fun H locs hH hS => ?_)
      obtain ⟨f107, ef107⟩ : ∃ f9 : zFi, f9 = zu fi 30 0 (nI 0) := ⟨_, rfl⟩
      rw [← ef107] at hH
      have q108 : f107 30 45 = nI o := by rw [ef107, zu_n (fun h9 => absurd h9.2 (by decide))]; exact hMo.2.1
      have q109 : f107 54 o1 = nI wn := by rw [ef107, zu_n (fun h9 => absurd h9.1 (by decide))]; exact hvn54
      have q110 : f107 30 0 = nI 0 := by rw [ef107]; exact zu_s
      have hMo := zMo.ci (fi' := f107) hMo (fun i9 k9 h9 => by rw [ef107]; exact zu_n (by omega))
      refine lv_aload_n hx hb dX12_want_32 rfl (lv_at hl 0 rfl) ?_
      refine zGetI (D := D) (ci := 12) (C := RX12) (T := TX12) (N := 71) hx hb hts hiX12 hown hH (zk_30 hF) rfl 0 (by decide) rfl hw0 (fun _ h9 => h9) dX12_want_33 q110 ?_
      refine lv_if_le (tgt := 41) hx hb dX12_want_36 (by decide) (fun c111 => ?_) (fun c111 => absurd (by decide) c111)
      refine lv_bipush (v := nI 8) hx hb dX12_want_41 (by decide) ?_
      refine lv_iload_n hx hb dX12_want_43 rfl (lv_at hl 1 rfl) ?_
      refine lv_imul hx hb dX12_want_44 ?_
      refine lv_topi (fun v112 ev112 => ?_)
      obtain rfl : v112 = nI (8 * o1) := ev112.trans (pk_mul _ _)
      refine lv_iload_n hx hb dX12_want_45 rfl (lv_at hl 2 rfl) ?_
      refine lv_iadd hx hb dX12_want_46 ?_
      refine lv_topi (fun v113 ev113 => ?_)
      obtain rfl : v113 = nI (8 * o1 + j1) := ev113.trans (nI_add _ _)
      refine lv_istore (lv' := [(4, .int (nI (8 * o1 + j1))), (0, .ref (τ.1 30)), (1, .int (nI o1)), (2, .int (nI j1)), (3, .int z)]) hx hb dX12_want_47 hl (by decide) rfl (fun ls hl => ?_)
      refine lv_iload_n hx hb dX12_want_49 rfl (lv_at hl 4 rfl) ?_
      rcases zCase7 z with c114 | c114 | c114 | c114 | c114 | c114 | c114 | c114 | c114
      · subst c114
        refine lv_tableIn (tgt := 96) (off := 46) hx hb dX12_want_50 (by decide) (by decide) rfl (by decide) ?_
        refine lv_aload_n hx hb dX12_want_96 rfl (lv_at hl 1 rfl) ?_
        refine zGetR (D := D) (ci := 12) (C := RX12) (T := TX12) (N := 71) hx hb hts hiX12 hown hH (zk_30 hF) rfl 51 (by decide) rfl hw2 (fun _ h9 => h9) dX12_want_97 (zr_30_51 hF) ?_
        refine lv_iload hx hb dX12_want_100 (lv_at hl 0 rfl) ?_
        refine zIaldN (D := D) hx hb hH (zk_55 hF) (zn_55 hF) (by omega) (by omega) rfl dX12_want_102 ?_
        refine W.widen (k := 0) (n := 0) (by decide) (by decide) ?_
        exact W.iret (v := f107 55 (8 * o1 + j1)) hx hb hr (fun t9 ht9 hW9 => ⟨⟨f107 55 (8 * o1 + j1), f107, rfl, fun a b h => by rw [ef107, zu_n (by omega)], zEnd1 hH ht9 hW9⟩, hS.F ht9⟩) hS.2.2 dX12_want_103
      · subst c114
        refine lv_tableIn (tgt := 104) (off := 54) hx hb dX12_want_50 (by decide) (by decide) rfl (by decide) ?_
        refine lv_aload_n hx hb dX12_want_104 rfl (lv_at hl 1 rfl) ?_
        refine zGetR (D := D) (ci := 12) (C := RX12) (T := TX12) (N := 71) hx hb hts hiX12 hown hH (zk_30 hF) rfl 52 (by decide) rfl hw3 (fun _ h9 => h9) dX12_want_105 (zr_30_52 hF) ?_
        refine lv_iload hx hb dX12_want_108 (lv_at hl 0 rfl) ?_
        refine zIaldN (D := D) hx hb hH (zk_56 hF) (zn_56 hF) (by omega) (by omega) rfl dX12_want_110 ?_
        refine W.widen (k := 0) (n := 0) (by decide) (by decide) ?_
        exact W.iret (v := f107 56 (8 * o1 + j1)) hx hb hr (fun t9 ht9 hW9 => ⟨⟨f107 56 (8 * o1 + j1), f107, rfl, fun a b h => by rw [ef107, zu_n (by omega)], zEnd1 hH ht9 hW9⟩, hS.F ht9⟩) hS.2.2 dX12_want_111
      · subst c114
        refine lv_tableIn (tgt := 112) (off := 62) hx hb dX12_want_50 (by decide) (by decide) rfl (by decide) ?_
        refine lv_aload_n hx hb dX12_want_112 rfl (lv_at hl 1 rfl) ?_
        refine zGetR (D := D) (ci := 12) (C := RX12) (T := TX12) (N := 71) hx hb hts hiX12 hown hH (zk_30 hF) rfl 53 (by decide) rfl hw4 (fun _ h9 => h9) dX12_want_113 (zr_30_53 hF) ?_
        refine lv_iload hx hb dX12_want_116 (lv_at hl 0 rfl) ?_
        refine zIaldN (D := D) hx hb hH (zk_57 hF) (zn_57 hF) (by omega) (by omega) rfl dX12_want_118 ?_
        refine W.widen (k := 0) (n := 0) (by decide) (by decide) ?_
        exact W.iret (v := f107 57 (8 * o1 + j1)) hx hb hr (fun t9 ht9 hW9 => ⟨⟨f107 57 (8 * o1 + j1), f107, rfl, fun a b h => by rw [ef107, zu_n (by omega)], zEnd1 hH ht9 hW9⟩, hS.F ht9⟩) hS.2.2 dX12_want_119
      · subst c114
        refine lv_tableIn (tgt := 120) (off := 70) hx hb dX12_want_50 (by decide) (by decide) rfl (by decide) ?_
        refine lv_aload_n hx hb dX12_want_120 rfl (lv_at hl 1 rfl) ?_
        refine zGetR (D := D) (ci := 12) (C := RX12) (T := TX12) (N := 71) hx hb hts hiX12 hown hH (zk_30 hF) rfl 54 (by decide) rfl hw5 (fun _ h9 => h9) dX12_want_121 (zr_30_54 hF) ?_
        refine lv_iload hx hb dX12_want_124 (lv_at hl 0 rfl) ?_
        refine zIaldN (D := D) hx hb hH (zk_58 hF) (zn_58 hF) (by omega) (by omega) rfl dX12_want_126 ?_
        refine W.widen (k := 0) (n := 0) (by decide) (by decide) ?_
        exact W.iret (v := f107 58 (8 * o1 + j1)) hx hb hr (fun t9 ht9 hW9 => ⟨⟨f107 58 (8 * o1 + j1), f107, rfl, fun a b h => by rw [ef107, zu_n (by omega)], zEnd1 hH ht9 hW9⟩, hS.F ht9⟩) hS.2.2 dX12_want_127
      · subst c114
        refine lv_tableIn (tgt := 128) (off := 78) hx hb dX12_want_50 (by decide) (by decide) rfl (by decide) ?_
        refine lv_aload_n hx hb dX12_want_128 rfl (lv_at hl 1 rfl) ?_
        refine zGetR (D := D) (ci := 12) (C := RX12) (T := TX12) (N := 71) hx hb hts hiX12 hown hH (zk_30 hF) rfl 55 (by decide) rfl hw6 (fun _ h9 => h9) dX12_want_129 (zr_30_55 hF) ?_
        refine lv_iload hx hb dX12_want_132 (lv_at hl 0 rfl) ?_
        refine zIaldN (D := D) hx hb hH (zk_59 hF) (zn_59 hF) (by omega) (by omega) rfl dX12_want_134 ?_
        refine W.widen (k := 0) (n := 0) (by decide) (by decide) ?_
        exact W.iret (v := f107 59 (8 * o1 + j1)) hx hb hr (fun t9 ht9 hW9 => ⟨⟨f107 59 (8 * o1 + j1), f107, rfl, fun a b h => by rw [ef107, zu_n (by omega)], zEnd1 hH ht9 hW9⟩, hS.F ht9⟩) hS.2.2 dX12_want_135
      · subst c114
        refine lv_tableIn (tgt := 136) (off := 86) hx hb dX12_want_50 (by decide) (by decide) rfl (by decide) ?_
        refine lv_aload_n hx hb dX12_want_136 rfl (lv_at hl 1 rfl) ?_
        refine zGetR (D := D) (ci := 12) (C := RX12) (T := TX12) (N := 71) hx hb hts hiX12 hown hH (zk_30 hF) rfl 56 (by decide) rfl hw7 (fun _ h9 => h9) dX12_want_137 (zr_30_56 hF) ?_
        refine lv_iload hx hb dX12_want_140 (lv_at hl 0 rfl) ?_
        refine zIaldN (D := D) hx hb hH (zk_60 hF) (zn_60 hF) (by omega) (by omega) rfl dX12_want_142 ?_
        refine W.widen (k := 0) (n := 0) (by decide) (by decide) ?_
        exact W.iret (v := f107 60 (8 * o1 + j1)) hx hb hr (fun t9 ht9 hW9 => ⟨⟨f107 60 (8 * o1 + j1), f107, rfl, fun a b h => by rw [ef107, zu_n (by omega)], zEnd1 hH ht9 hW9⟩, hS.F ht9⟩) hS.2.2 dX12_want_143
      · subst c114
        refine lv_tableIn (tgt := 144) (off := 94) hx hb dX12_want_50 (by decide) (by decide) rfl (by decide) ?_
        refine lv_aload_n hx hb dX12_want_144 rfl (lv_at hl 1 rfl) ?_
        refine zGetR (D := D) (ci := 12) (C := RX12) (T := TX12) (N := 71) hx hb hts hiX12 hown hH (zk_30 hF) rfl 57 (by decide) rfl hw8 (fun _ h9 => h9) dX12_want_145 (zr_30_57 hF) ?_
        refine lv_iload hx hb dX12_want_148 (lv_at hl 0 rfl) ?_
        refine zIaldN (D := D) hx hb hH (zk_61 hF) (zn_61 hF) (by omega) (by omega) rfl dX12_want_150 ?_
        refine W.widen (k := 0) (n := 0) (by decide) (by decide) ?_
        exact W.iret (v := f107 61 (8 * o1 + j1)) hx hb hr (fun t9 ht9 hW9 => ⟨⟨f107 61 (8 * o1 + j1), f107, rfl, fun a b h => by rw [ef107, zu_n (by omega)], zEnd1 hH ht9 hW9⟩, hS.F ht9⟩) hS.2.2 dX12_want_151
      · subst c114
        refine lv_tableIn (tgt := 152) (off := 102) hx hb dX12_want_50 (by decide) (by decide) rfl (by decide) ?_
        refine lv_aload_n hx hb dX12_want_152 rfl (lv_at hl 1 rfl) ?_
        refine zGetR (D := D) (ci := 12) (C := RX12) (T := TX12) (N := 71) hx hb hts hiX12 hown hH (zk_30 hF) rfl 59 (by decide) rfl hw9 (fun _ h9 => h9) dX12_want_153 (zr_30_59 hF) ?_
        refine lv_iload hx hb dX12_want_156 (lv_at hl 0 rfl) ?_
        refine zIaldN (D := D) hx hb hH (zk_63 hF) (zn_63 hF) (by omega) (by omega) rfl dX12_want_158 ?_
        refine W.widen (k := 0) (n := 0) (by decide) (by decide) ?_
        exact W.iret (v := f107 63 (8 * o1 + j1)) hx hb hr (fun t9 ht9 hW9 => ⟨⟨f107 63 (8 * o1 + j1), f107, rfl, fun a b h => by rw [ef107, zu_n (by omega)], zEnd1 hH ht9 hW9⟩, hS.F ht9⟩) hS.2.2 dX12_want_159
      · refine lv_tableOut (tgt := 160) hx hb dX12_want_50 c114 (by decide) ?_
        refine lv_aload_n hx hb dX12_want_160 rfl (lv_at hl 1 rfl) ?_
        refine zGetR (D := D) (ci := 12) (C := RX12) (T := TX12) (N := 71) hx hb hts hiX12 hown hH (zk_30 hF) rfl 60 (by decide) rfl hw10 (fun _ h9 => h9) dX12_want_161 (zr_30_60 hF) ?_
        refine lv_iload hx hb dX12_want_164 (lv_at hl 0 rfl) ?_
        refine zIaldN (D := D) hx hb hH (zk_64 hF) (zn_64 hF) (by omega) (by omega) rfl dX12_want_166 ?_
        refine W.widen (k := 0) (n := 0) (by decide) (by decide) ?_
        exact W.iret (v := f107 64 (8 * o1 + j1)) hx hb hr (fun t9 ht9 hW9 => ⟨⟨f107 64 (8 * o1 + j1), f107, rfl, fun a b h => by rw [ef107, zu_n (by omega)], zEnd1 hH ht9 hW9⟩, hS.F ht9⟩) hS.2.2 dX12_want_167
    · skip
      replace hn105 := zWi0 (rfl) (nI_toInt (by omega)) (nI_toInt (by omega)) hn105
      refine lv_if_ne (tgt := 28) hx hb dX12_want_21 (by decide) (fun c115 => absurd (by decide) c115) (fun c115 => ?_)
      refine lv_iconst (v := nI 2) hx hb dX12_want_24 (by decide) ?_
      refine lv_goto (tgt := 29) hx hb dX12_want_25 (by decide) ?_
      refine zPutI (D := D) (ci := 12) (ty := .int) (C := RX12) (T := TX12) (N := 71) hx hb hts hiX12 tyX12 tyX12_ok nmX12 hown hH hS (zk_30 hF) rfl 0 (by decide) rfl hw0 (fun _ h9 => h9) rfl (by decide +kernel) rfl rfl dX12_want_29 (fun H locs hH hS => ?_)
      obtain ⟨f116, ef116⟩ : ∃ f9 : zFi, f9 = zu fi 30 0 (nI 2) := ⟨_, rfl⟩
      rw [← ef116] at hH
      have q117 : f116 30 45 = nI o := by rw [ef116, zu_n (fun h9 => absurd h9.2 (by decide))]; exact hMo.2.1
      have q118 : f116 54 o1 = nI wn := by rw [ef116, zu_n (fun h9 => absurd h9.1 (by decide))]; exact hvn54
      have q119 : f116 30 0 = nI 2 := by rw [ef116]; exact zu_s
      have hMo := zMo.ci (fi' := f116) hMo (fun i9 k9 h9 => by rw [ef116]; exact zu_n (by omega))
      refine lv_aload_n hx hb dX12_want_32 rfl (lv_at hl 0 rfl) ?_
      refine zGetI (D := D) (ci := 12) (C := RX12) (T := TX12) (N := 71) hx hb hts hiX12 hown hH (zk_30 hF) rfl 0 (by decide) rfl hw0 (fun _ h9 => h9) dX12_want_33 q119 ?_
      refine lv_if_le (tgt := 41) hx hb dX12_want_36 (by decide) (fun c120 => absurd c120 (by decide)) (fun c120 => ?_)
      refine lv_iconst (v := nI 0) hx hb dX12_want_39 (by decide) ?_
      refine W.widen (k := 0) (n := 0) (by decide) (by decide) ?_
      exact W.iret (v := nI 0) hx hb hr (fun t9 ht9 hW9 => ⟨⟨nI 0, f116, rfl, fun a b h => by rw [ef116, zu_n (by omega)], zEnd1 hH ht9 hW9⟩, hS.F ht9⟩) hS.2.2 dX12_want_40
  · skip
    refine lv_if_ne (tgt := 14) hx hb dX12_want_7 (by decide) (fun c121 => absurd (by decide) c121) (fun c121 => ?_)
    refine lv_iconst (v := nI 1) hx hb dX12_want_10 (by decide) ?_
    refine lv_goto (tgt := 29) hx hb dX12_want_11 (by decide) ?_
    refine zPutI (D := D) (ci := 12) (ty := .int) (C := RX12) (T := TX12) (N := 71) hx hb hts hiX12 tyX12 tyX12_ok nmX12 hown hH hS (zk_30 hF) rfl 0 (by decide) rfl hw0 (fun _ h9 => h9) rfl (by decide +kernel) rfl rfl dX12_want_29 (fun H locs hH hS => ?_)
    obtain ⟨f122, ef122⟩ : ∃ f9 : zFi, f9 = zu fi 30 0 (nI 1) := ⟨_, rfl⟩
    rw [← ef122] at hH
    have q123 : f122 30 45 = nI o := by rw [ef122, zu_n (fun h9 => absurd h9.2 (by decide))]; exact hMo.2.1
    have q124 : f122 30 0 = nI 1 := by rw [ef122]; exact zu_s
    have hMo := zMo.ci (fi' := f122) hMo (fun i9 k9 h9 => by rw [ef122]; exact zu_n (by omega))
    refine lv_aload_n hx hb dX12_want_32 rfl (lv_at hl 0 rfl) ?_
    refine zGetI (D := D) (ci := 12) (C := RX12) (T := TX12) (N := 71) hx hb hts hiX12 hown hH (zk_30 hF) rfl 0 (by decide) rfl hw0 (fun _ h9 => h9) dX12_want_33 q124 ?_
    refine lv_if_le (tgt := 41) hx hb dX12_want_36 (by decide) (fun c125 => absurd c125 (by decide)) (fun c125 => ?_)
    refine lv_iconst (v := nI 0) hx hb dX12_want_39 (by decide) ?_
    refine W.widen (k := 0) (n := 0) (by decide) (by decide) ?_
    exact W.iret (v := nI 0) hx hb hr (fun t9 ht9 hW9 => ⟨⟨nI 0, f122, rfl, fun a b h => by rw [ef122, zu_n (by omega)], zEnd1 hH ht9 hW9⟩, hS.F ht9⟩) hS.2.2 dX12_want_40
set_option maxHeartbeats 4000000 in
set_option maxRecDepth 100000 in
/-- sending -/
theorem m_sending (l : Launch) (hl0 : l.stackTraces = false) (D : va_G) (A : Nat → Prop) (sad : Nat → Nat) (τ : zTy) (fi : zFi) (fr : zFr) (ol : Int64) (x y : Int32) (hF : zFix τ fr) (sn : Nat) (hsn : fi 30 61 = nI sn) (hs3 : sn ≤ 300) : Met l yX12_sending wsX12_sending ({ frames := 1, cells := 0, slots := 0, locals := 22 }) (va_Pc [.ref (τ.1 30), .int x, .int y] (zQc D A sad τ fi fr ol)) (va_Qi (fun (r : Int32) (u : zFi) => ∀ a b, ¬ (a = 30 ∧ b = 0) → u a b = fi a b) (fun (u : zFi) (t : State) => zH D A τ u fr ol t t.heap) A) 0 0 A := by
  refine Met.ofW (cc := cX12_sending) (maxL := 3) (ret := (some .int)) (by decide) rfl ?_
  intro p9 e9 s m args below meth c9 s₁ B hml hv
  obtain ⟨rfl, hz, hH, hA⟩ := hv
  have hx := B.exec
  have hb := B.bytes
  have hr := B.returns
  have hts := atoms_spec (ws := wsX12_sending) B.pre
  have hown : s.vm.findClass RX12 = some m.cls := findClass_of_methodNamed B.named
  have hlocks := B.notSynchronized
  have hS : va_S A s.heap s.heap [] := va_S.rf
  have hl := lv_entry ([.ref (τ.1 30), .int x, .int y]) (n := 3) (Nat.le_of_ble_eq_true rfl)
  rw [lg_entry_eq]
  generalize (lg_sl ([.ref (τ.1 30), .int x, .int y]) ++ List.replicate (3 - (lg_sl ([.ref (τ.1 30), .int x, .int y])).length) Slot.unset).toArray = ls at hl ⊢
  have hl : lv_has ls 3 [(0, .ref (τ.1 30)), (1, .int x), (2, .int y)] := hl
  have hw0 := hts (.fieldLink RX12 165 "PostHouseModel" "thrown" "I") (by decide +kernel)
  have hiX12 : ∀ w ∈ u_ws RX12 TX12 71, w ∈ wsX12_sending := fun _ h => List.mem_cons_of_mem _ (List.mem_append_right _ h)
  have hw2 := hts (.fieldLink RX12 342 "PostHouseModel" "sendings" "I") (by decide +kernel)
  have hw3 := hts (.fieldLink RX12 150 "PostHouseModel" "sendingParcels" "[I") (by decide +kernel)
  have hw4 := hts (.fieldLink RX12 147 "PostHouseModel" "sendingPieces" "[I") (by decide +kernel)
  have hw5 := hts (.fieldLink RX12 144 "PostHouseModel" "sendingDay" "[I") (by decide +kernel)
  have hw6 := hts (.fieldLink RX12 141 "PostHouseModel" "sendingOrder" "[I") (by decide +kernel)
  refine lv_aload_n hx hb dX12_sending_0 rfl (lv_at hl 0 rfl) ?_
  refine lv_iload_n hx hb dX12_sending_1 rfl (lv_at hl 1 rfl) ?_
  refine lv_if_lt (tgt := 13) hx hb dX12_sending_2 (by decide) (fun c101 => ?_) (fun c101 => ?_)
  · have zc101 := c101
    replace zc101 := zc_lt (rfl) ((by decide : (0 : Int32).toInt = 0)) zc101
    refine lv_iconst (v := nI 1) hx hb dX12_sending_13 (by decide) ?_
    refine lv_goto (tgt := 31) hx hb dX12_sending_14 (by decide) ?_
    refine zPutI (D := D) (ci := 12) (ty := .int) (C := RX12) (T := TX12) (N := 71) hx hb hts hiX12 tyX12 tyX12_ok nmX12 hown hH hS (zk_30 hF) rfl 0 (by decide) rfl hw0 (fun _ h9 => h9) rfl (by decide +kernel) rfl rfl dX12_sending_31 (fun H locs hH hS => ?_)
    obtain ⟨f102, ef102⟩ : ∃ f9 : zFi, f9 = zu fi 30 0 (nI 1) := ⟨_, rfl⟩
    rw [← ef102] at hH
    have q103 : f102 30 61 = nI sn := by rw [ef102, zu_n (fun h9 => absurd h9.2 (by decide))]; exact hsn
    have q104 : f102 30 0 = nI 1 := by rw [ef102]; exact zu_s
    refine lv_aload_n hx hb dX12_sending_34 rfl (lv_at hl 0 rfl) ?_
    refine zGetI (D := D) (ci := 12) (C := RX12) (T := TX12) (N := 71) hx hb hts hiX12 hown hH (zk_30 hF) rfl 0 (by decide) rfl hw0 (fun _ h9 => h9) dX12_sending_35 q104 ?_
    refine lv_if_le (tgt := 43) hx hb dX12_sending_38 (by decide) (fun c105 => absurd c105 (by decide)) (fun c105 => ?_)
    refine lv_iconst (v := nI 0) hx hb dX12_sending_41 (by decide) ?_
    refine W.widen (k := 0) (n := 0) (by decide) (by decide) ?_
    exact W.iret (v := nI 0) hx hb hr (fun t9 ht9 hW9 => ⟨⟨nI 0, f102, rfl, fun a b h => by rw [ef102, zu_n (by omega)], zEnd1 hH ht9 hW9⟩, hS.F ht9⟩) hS.2.2 dX12_sending_42
  · have zc101 := c101
    replace zc101 := zc_nlt (rfl) ((by decide : (0 : Int32).toInt = 0)) zc101
    refine lv_iload_n hx hb dX12_sending_5 rfl (lv_at hl 1 rfl) ?_
    refine lv_aload_n hx hb dX12_sending_6 rfl (lv_at hl 0 rfl) ?_
    refine zGetI (D := D) (ci := 12) (C := RX12) (T := TX12) (N := 71) hx hb hts hiX12 hown hH (zk_30 hF) rfl 61 (by decide) rfl hw2 (fun _ h9 => h9) dX12_sending_7 hsn ?_
    refine lv_icmp_lt (tgt := 17) hx hb dX12_sending_10 (by decide) (fun c106 => ?_) (fun c106 => ?_)
    · have zc106 := c106
      replace zc106 := zc_lt (rfl) (nI_toInt (by omega)) zc106
      refine lv_iload_n hx hb dX12_sending_17 rfl (lv_at hl 2 rfl) ?_
      refine lv_iconst (v := nI 0) hx hb dX12_sending_18 (by decide) ?_
      refine lv_iconst (v := nI 3) hx hb dX12_sending_19 (by decide) ?_
      refine va_calli (va_runS (As := [.int y, .int (nI 0), .int (nI 3)]) (rest := [.ref (τ.1 30)]) ⟨hx, hb, hml, hown, hts⟩ (m_isIn l hl0 D A sad τ fi fr ol y (nI 0) (nI 3)) (cwS 3 hts gX12_sending_X12_isIn rfl rfl rfl (by decide +kernel) ⟨Nat.le_of_ble_eq_true rfl, Nat.le_of_ble_eq_true rfl⟩) ⟨zQc_bl, zQc_at hz hS hA hH⟩ rfl rfl hl.1 rfl (lv_room (Nat.le_of_ble_eq_true rfl)) dX12_sending_20 ⟨Nat.le_of_ble_eq_true rfl, Nat.le_of_ble_eq_true rfl⟩) hS (fun q _ h => h) (fun q h => h) (fun r107 u9 t9 H1 locs ht9 hvm9 hw hB hz1 hk1 hS => ?_)
      have hH := zMv ht9 hvm9 hB
      generalize H1 = H at hH hS ⊢
      rcases hw with ⟨rfl, hy108⟩ | ⟨rfl, hn109⟩
      · skip
        replace hy108 := zWi1 (rfl) (nI_toInt (by omega)) (nI_toInt (by omega)) hy108
        refine lv_if_ne (tgt := 30) hx hb dX12_sending_23 (by decide) (fun c110 => ?_) (fun c110 => absurd c110 (by decide))
        refine lv_iconst (v := nI 0) hx hb dX12_sending_30 (by decide) ?_
        refine zPutI (D := D) (ci := 12) (ty := .int) (C := RX12) (T := TX12) (N := 71) hx hb hts hiX12 tyX12 tyX12_ok nmX12 hown hH hS (zk_30 hF) rfl 0 (by decide) rfl hw0 (fun _ h9 => h9) rfl (by decide +kernel) rfl rfl dX12_sending_31 (fun H locs hH hS => ?_)
        obtain ⟨f111, ef111⟩ : ∃ f9 : zFi, f9 = zu fi 30 0 (nI 0) := ⟨_, rfl⟩
        rw [← ef111] at hH
        have q112 : f111 30 61 = nI sn := by rw [ef111, zu_n (fun h9 => absurd h9.2 (by decide))]; exact hsn
        have q113 : f111 30 0 = nI 0 := by rw [ef111]; exact zu_s
        refine lv_aload_n hx hb dX12_sending_34 rfl (lv_at hl 0 rfl) ?_
        refine zGetI (D := D) (ci := 12) (C := RX12) (T := TX12) (N := 71) hx hb hts hiX12 hown hH (zk_30 hF) rfl 0 (by decide) rfl hw0 (fun _ h9 => h9) dX12_sending_35 q113 ?_
        refine lv_if_le (tgt := 43) hx hb dX12_sending_38 (by decide) (fun c114 => ?_) (fun c114 => absurd (by decide) c114)
        refine lv_iload_n hx hb dX12_sending_43 rfl (lv_at hl 2 rfl) ?_
        refine lv_if_ne (tgt := 56) hx hb dX12_sending_44 (by decide) (fun c115 => ?_) (fun c115 => ?_)
        · have zc115 := c115
          replace zc115 := zc_neq (rfl) ((by decide : (0 : Int32).toInt = 0)) zc115
          refine lv_iload_n hx hb dX12_sending_56 rfl (lv_at hl 2 rfl) ?_
          refine lv_iconst (v := nI 1) hx hb dX12_sending_57 (by decide) ?_
          refine lv_icmp_ne (tgt := 70) hx hb dX12_sending_58 (by decide) (fun c116 => ?_) (fun c116 => ?_)
          · have zc116 := c116
            replace zc116 := zc_neq (rfl) (nI_toInt (by omega)) zc116
            refine lv_iload_n hx hb dX12_sending_70 rfl (lv_at hl 2 rfl) ?_
            refine lv_iconst (v := nI 2) hx hb dX12_sending_71 (by decide) ?_
            refine lv_icmp_ne (tgt := 84) hx hb dX12_sending_72 (by decide) (fun c117 => ?_) (fun c117 => ?_)
            · have zc117 := c117
              replace zc117 := zc_neq (rfl) (nI_toInt (by omega)) zc117
              refine lv_aload_n hx hb dX12_sending_84 rfl (lv_at hl 0 rfl) ?_
              refine zGetR (D := D) (ci := 12) (C := RX12) (T := TX12) (N := 71) hx hb hts hiX12 hown hH (zk_30 hF) rfl 65 (by decide) rfl hw3 (fun _ h9 => h9) dX12_sending_85 (zr_30_65 hF) ?_
              refine lv_iload_n hx hb dX12_sending_88 rfl (lv_at hl 1 rfl) ?_
              obtain ⟨x1, hx1, rfl⟩ : ∃ x1 : Nat, x1 < sn ∧ x = nI x1 := zNatB (by omega) (by omega)
              refine zIaldN (D := D) hx hb hH (zk_68 hF) (zn_68 hF) (by omega) (by omega) rfl dX12_sending_89 ?_
              refine W.widen (k := 0) (n := 0) (by decide) (by decide) ?_
              exact W.iret (v := f111 68 x1) hx hb hr (fun t9 ht9 hW9 => ⟨⟨f111 68 x1, f111, rfl, fun a b h => by rw [ef111, zu_n (by omega)], zEnd1 hH ht9 hW9⟩, hS.F ht9⟩) hS.2.2 dX12_sending_90
            · have zc117 := c117
              replace zc117 := zc_eq (rfl) (nI_toInt (by omega)) zc117
              refine lv_aload_n hx hb dX12_sending_75 rfl (lv_at hl 0 rfl) ?_
              refine zGetR (D := D) (ci := 12) (C := RX12) (T := TX12) (N := 71) hx hb hts hiX12 hown hH (zk_30 hF) rfl 64 (by decide) rfl hw4 (fun _ h9 => h9) dX12_sending_76 (zr_30_64 hF) ?_
              refine lv_iload_n hx hb dX12_sending_79 rfl (lv_at hl 1 rfl) ?_
              obtain ⟨x1, hx1, rfl⟩ : ∃ x1 : Nat, x1 < sn ∧ x = nI x1 := zNatB (by omega) (by omega)
              refine zIaldN (D := D) hx hb hH (zk_67 hF) (zn_67 hF) (by omega) (by omega) rfl dX12_sending_80 ?_
              refine lv_goto (tgt := 90) hx hb dX12_sending_81 (by decide) ?_
              refine W.widen (k := 0) (n := 0) (by decide) (by decide) ?_
              exact W.iret (v := f111 67 x1) hx hb hr (fun t9 ht9 hW9 => ⟨⟨f111 67 x1, f111, rfl, fun a b h => by rw [ef111, zu_n (by omega)], zEnd1 hH ht9 hW9⟩, hS.F ht9⟩) hS.2.2 dX12_sending_90
          · have zc116 := c116
            replace zc116 := zc_eq (rfl) (nI_toInt (by omega)) zc116
            refine lv_aload_n hx hb dX12_sending_61 rfl (lv_at hl 0 rfl) ?_
            refine zGetR (D := D) (ci := 12) (C := RX12) (T := TX12) (N := 71) hx hb hts hiX12 hown hH (zk_30 hF) rfl 63 (by decide) rfl hw5 (fun _ h9 => h9) dX12_sending_62 (zr_30_63 hF) ?_
            refine lv_iload_n hx hb dX12_sending_65 rfl (lv_at hl 1 rfl) ?_
            obtain ⟨x1, hx1, rfl⟩ : ∃ x1 : Nat, x1 < sn ∧ x = nI x1 := zNatB (by omega) (by omega)
            refine zIaldN (D := D) hx hb hH (zk_66 hF) (zn_66 hF) (by omega) (by omega) rfl dX12_sending_66 ?_
            refine lv_goto (tgt := 90) hx hb dX12_sending_67 (by decide) ?_
            refine W.widen (k := 0) (n := 0) (by decide) (by decide) ?_
            exact W.iret (v := f111 66 x1) hx hb hr (fun t9 ht9 hW9 => ⟨⟨f111 66 x1, f111, rfl, fun a b h => by rw [ef111, zu_n (by omega)], zEnd1 hH ht9 hW9⟩, hS.F ht9⟩) hS.2.2 dX12_sending_90
        · have zc115 := c115
          replace zc115 := zc_eq (rfl) ((by decide : (0 : Int32).toInt = 0)) zc115
          refine lv_aload_n hx hb dX12_sending_47 rfl (lv_at hl 0 rfl) ?_
          refine zGetR (D := D) (ci := 12) (C := RX12) (T := TX12) (N := 71) hx hb hts hiX12 hown hH (zk_30 hF) rfl 62 (by decide) rfl hw6 (fun _ h9 => h9) dX12_sending_48 (zr_30_62 hF) ?_
          refine lv_iload_n hx hb dX12_sending_51 rfl (lv_at hl 1 rfl) ?_
          obtain ⟨x1, hx1, rfl⟩ : ∃ x1 : Nat, x1 < sn ∧ x = nI x1 := zNatB (by omega) (by omega)
          refine zIaldN (D := D) hx hb hH (zk_65 hF) (zn_65 hF) (by omega) (by omega) rfl dX12_sending_52 ?_
          refine lv_goto (tgt := 90) hx hb dX12_sending_53 (by decide) ?_
          refine W.widen (k := 0) (n := 0) (by decide) (by decide) ?_
          exact W.iret (v := f111 65 x1) hx hb hr (fun t9 ht9 hW9 => ⟨⟨f111 65 x1, f111, rfl, fun a b h => by rw [ef111, zu_n (by omega)], zEnd1 hH ht9 hW9⟩, hS.F ht9⟩) hS.2.2 dX12_sending_90
      · skip
        replace hn109 := zWi0 (rfl) (nI_toInt (by omega)) (nI_toInt (by omega)) hn109
        refine lv_if_ne (tgt := 30) hx hb dX12_sending_23 (by decide) (fun c118 => absurd (by decide) c118) (fun c118 => ?_)
        refine lv_iconst (v := nI 2) hx hb dX12_sending_26 (by decide) ?_
        refine lv_goto (tgt := 31) hx hb dX12_sending_27 (by decide) ?_
        refine zPutI (D := D) (ci := 12) (ty := .int) (C := RX12) (T := TX12) (N := 71) hx hb hts hiX12 tyX12 tyX12_ok nmX12 hown hH hS (zk_30 hF) rfl 0 (by decide) rfl hw0 (fun _ h9 => h9) rfl (by decide +kernel) rfl rfl dX12_sending_31 (fun H locs hH hS => ?_)
        obtain ⟨f119, ef119⟩ : ∃ f9 : zFi, f9 = zu fi 30 0 (nI 2) := ⟨_, rfl⟩
        rw [← ef119] at hH
        have q120 : f119 30 61 = nI sn := by rw [ef119, zu_n (fun h9 => absurd h9.2 (by decide))]; exact hsn
        have q121 : f119 30 0 = nI 2 := by rw [ef119]; exact zu_s
        refine lv_aload_n hx hb dX12_sending_34 rfl (lv_at hl 0 rfl) ?_
        refine zGetI (D := D) (ci := 12) (C := RX12) (T := TX12) (N := 71) hx hb hts hiX12 hown hH (zk_30 hF) rfl 0 (by decide) rfl hw0 (fun _ h9 => h9) dX12_sending_35 q121 ?_
        refine lv_if_le (tgt := 43) hx hb dX12_sending_38 (by decide) (fun c122 => absurd c122 (by decide)) (fun c122 => ?_)
        refine lv_iconst (v := nI 0) hx hb dX12_sending_41 (by decide) ?_
        refine W.widen (k := 0) (n := 0) (by decide) (by decide) ?_
        exact W.iret (v := nI 0) hx hb hr (fun t9 ht9 hW9 => ⟨⟨nI 0, f119, rfl, fun a b h => by rw [ef119, zu_n (by omega)], zEnd1 hH ht9 hW9⟩, hS.F ht9⟩) hS.2.2 dX12_sending_42
    · have zc106 := c106
      replace zc106 := zc_nlt (rfl) (nI_toInt (by omega)) zc106
      refine lv_iconst (v := nI 1) hx hb dX12_sending_13 (by decide) ?_
      refine lv_goto (tgt := 31) hx hb dX12_sending_14 (by decide) ?_
      refine zPutI (D := D) (ci := 12) (ty := .int) (C := RX12) (T := TX12) (N := 71) hx hb hts hiX12 tyX12 tyX12_ok nmX12 hown hH hS (zk_30 hF) rfl 0 (by decide) rfl hw0 (fun _ h9 => h9) rfl (by decide +kernel) rfl rfl dX12_sending_31 (fun H locs hH hS => ?_)
      obtain ⟨f123, ef123⟩ : ∃ f9 : zFi, f9 = zu fi 30 0 (nI 1) := ⟨_, rfl⟩
      rw [← ef123] at hH
      have q124 : f123 30 61 = nI sn := by rw [ef123, zu_n (fun h9 => absurd h9.2 (by decide))]; exact hsn
      have q125 : f123 30 0 = nI 1 := by rw [ef123]; exact zu_s
      refine lv_aload_n hx hb dX12_sending_34 rfl (lv_at hl 0 rfl) ?_
      refine zGetI (D := D) (ci := 12) (C := RX12) (T := TX12) (N := 71) hx hb hts hiX12 hown hH (zk_30 hF) rfl 0 (by decide) rfl hw0 (fun _ h9 => h9) dX12_sending_35 q125 ?_
      refine lv_if_le (tgt := 43) hx hb dX12_sending_38 (by decide) (fun c126 => absurd c126 (by decide)) (fun c126 => ?_)
      refine lv_iconst (v := nI 0) hx hb dX12_sending_41 (by decide) ?_
      refine W.widen (k := 0) (n := 0) (by decide) (by decide) ?_
      exact W.iret (v := nI 0) hx hb hr (fun t9 ht9 hW9 => ⟨⟨nI 0, f123, rfl, fun a b h => by rw [ef123, zu_n (by omega)], zEnd1 hH ht9 hW9⟩, hS.F ht9⟩) hS.2.2 dX12_sending_42
set_option maxHeartbeats 4000000 in
set_option maxRecDepth 100000 in
/-- pick -/
theorem m_pick (l : Launch) (hl0 : l.stackTraces = false) (D : va_G) (A : Nat → Prop) (sad : Nat → Nat) (τ : zTy) (fi : zFi) (fr : zFr) (ol : Int64) (x : Int32) (hF : zFix τ fr) (n : Nat) (hMt : zMt fi n) (p : Nat) (hMp : zMp fi n p) : Met l yX12_pick wsX12_pick ({ frames := 1, cells := 0, slots := 0, locals := 21 }) (va_Pc [.ref (τ.1 30), .int x] (zQc D A sad τ fi fr ol)) (va_Qi (fun (r : Int32) (u : zFi) => (∃ k, zMp u n k) ∧ ∀ a b, ¬ (a = 71 ∨ (a = 30 ∧ (b = 0 ∨ b = 68))) → u a b = fi a b) (fun (u : zFi) (t : State) => zH D A τ u fr ol t t.heap) A) 0 0 A := by
  refine Met.ofW (cc := cX12_pick) (maxL := 3) (ret := (some .int)) (by decide) rfl ?_
  intro p9 e9 s m args below meth c9 s₁ B hml hv
  obtain ⟨rfl, hz, hH, hA⟩ := hv
  have hx := B.exec
  have hb := B.bytes
  have hr := B.returns
  have hts := atoms_spec (ws := wsX12_pick) B.pre
  have hown : s.vm.findClass RX12 = some m.cls := findClass_of_methodNamed B.named
  have hlocks := B.notSynchronized
  have hS : va_S A s.heap s.heap [] := va_S.rf
  have hl := lv_entry ([.ref (τ.1 30), .int x]) (n := 3) (Nat.le_of_ble_eq_true rfl)
  rw [lg_entry_eq]
  generalize (lg_sl ([.ref (τ.1 30), .int x]) ++ List.replicate (3 - (lg_sl ([.ref (τ.1 30), .int x])).length) Slot.unset).toArray = ls at hl ⊢
  have hl : lv_has ls 3 [(0, .ref (τ.1 30)), (1, .int x)] := hl
  have hm30 := hMt.1
  have hp10 := hMp.1
  have hMp0 := hMp
  have hw0 := hts (.fieldLink RX12 165 "PostHouseModel" "thrown" "I") (by decide +kernel)
  have hiX12 : ∀ w ∈ u_ws RX12 TX12 71, w ∈ wsX12_pick := fun _ h => List.mem_cons_of_mem _ (List.mem_append_right _ h)
  have hw2 := hts (.fieldLink RX12 351 "PostHouseModel" "picks" "I") (by decide +kernel)
  have hw3 := hts (.fieldLink RX12 159 "PostHouseModel" "pick" "[I") (by decide +kernel)
  refine lv_aload_n hx hb dX12_pick_0 rfl (lv_at hl 0 rfl) ?_
  refine lv_aload_n hx hb dX12_pick_1 rfl (lv_at hl 0 rfl) ?_
  refine lv_iload_n hx hb dX12_pick_2 rfl (lv_at hl 1 rfl) ?_
  refine va_calli (va_runV (As := [.int x]) (rest := [.ref (τ.1 30)]) ⟨hx, hb, hml, hown, hts⟩ (m_isThing l hl0 D A sad τ fi fr ol x n hF hMt.2.1 (by omega)) (cwV 1 hts gX12_pick_X12_isThing rfl rfl rfl (by decide +kernel) ⟨Nat.le_of_ble_eq_true rfl, Nat.le_of_ble_eq_true rfl⟩) ⟨zQc_bl, zRecv hH (zk_30 hF) rfl, zQc_at hz hS hA hH⟩ rfl rfl hl.1 rfl (lv_room (Nat.le_of_ble_eq_true rfl)) dX12_pick_3 ⟨Nat.le_of_ble_eq_true rfl, Nat.le_of_ble_eq_true rfl⟩) hS (fun q _ h => h) (fun q h => h) (fun r101 u9 t9 H1 locs ht9 hvm9 hw hB hz1 hk1 hS => ?_)
  have hH := zMv ht9 hvm9 hB
  generalize H1 = H at hH hS ⊢
  rcases hw with ⟨t, ht, rfl, rfl⟩ | ⟨hno, rfl⟩
  · skip
    refine lv_if_ne (tgt := 13) hx hb dX12_pick_6 (by decide) (fun c102 => ?_) (fun c102 => absurd c102 (by decide))
    refine lv_iconst (v := nI 0) hx hb dX12_pick_13 (by decide) ?_
    refine zPutI (D := D) (ci := 12) (ty := .int) (C := RX12) (T := TX12) (N := 71) hx hb hts hiX12 tyX12 tyX12_ok nmX12 hown hH hS (zk_30 hF) rfl 0 (by decide) rfl hw0 (fun _ h9 => h9) rfl (by decide +kernel) rfl rfl dX12_pick_14 (fun H locs hH hS => ?_)
    obtain ⟨f103, ef103⟩ : ∃ f9 : zFi, f9 = zu fi 30 0 (nI 0) := ⟨_, rfl⟩
    rw [← ef103] at hH
    have q104 : f103 30 2 = nI n := by rw [ef103, zu_n (fun h9 => absurd h9.2 (by decide))]; exact hMt.2.1
    have q105 : f103 30 68 = nI p := by rw [ef103, zu_n (fun h9 => absurd h9.2 (by decide))]; exact hMp.2.1
    have q106 : f103 30 0 = nI 0 := by rw [ef103]; exact zu_s
    have hMp := zMp.ci (fi' := f103) hMp (fun i9 k9 h9 => by rw [ef103]; exact zu_n (by omega))
    refine lv_aload_n hx hb dX12_pick_17 rfl (lv_at hl 0 rfl) ?_
    refine zGetI (D := D) (ci := 12) (C := RX12) (T := TX12) (N := 71) hx hb hts hiX12 hown hH (zk_30 hF) rfl 0 (by decide) rfl hw0 (fun _ h9 => h9) dX12_pick_18 q106 ?_
    refine lv_if_le (tgt := 26) hx hb dX12_pick_21 (by decide) (fun c107 => ?_) (fun c107 => absurd (by decide) c107)
    refine lv_iconst (v := nI 0) hx hb dX12_pick_26 (by decide) ?_
    refine lv_istore_n (lv' := [(2, .int (nI 0)), (0, .ref (τ.1 30)), (1, .int (nI t))]) hx hb dX12_pick_27 rfl hl (by decide) rfl (fun ls hl => ?_)
    refine zLp (σ := Nat) (fun x9 k9 H locs ls => (fun (i : Nat) => k9 = p - i ∧ (i ≤ p) ∧ zH D A τ f103 fr ol s H ∧ va_S A s.heap H locs ∧ lv_has ls 3 [(0, .ref (τ.1 30)), (1, .int (nI t)), (2, .int (nI i))]) x9) 0 (p - 0) (show p - 0 = p - 0 ∧ (0 ≤ p) ∧ zH D A τ f103 fr ol s _ ∧ va_S A s.heap _ _ ∧ lv_has _ 3 [(0, .ref (τ.1 30)), (1, .int (nI t)), (2, .int (nI 0))] from ⟨rfl, Nat.zero_le _, hH, hS, lv_sub hl [1, 2, 0] rfl⟩) (fun k9 ih x9 H locs ls hv9 => ?_)
    generalize x9 = i at hv9
    have hv9 : k9 = p - i ∧ (i ≤ p) ∧ zH D A τ f103 fr ol s H ∧ va_S A s.heap H locs ∧ lv_has ls 3 [(0, .ref (τ.1 30)), (1, .int (nI t)), (2, .int (nI i))] := hv9
    obtain ⟨hkih108, hv9, hH, hS, hl⟩ := hv9
    obtain h1 := hv9
    have ih108 := ih
    clear ih
    refine lv_iload_n hx hb dX12_pick_28 rfl (lv_at hl 2 rfl) ?_
    refine lv_aload_n hx hb dX12_pick_29 rfl (lv_at hl 0 rfl) ?_
    refine zGetI (D := D) (ci := 12) (C := RX12) (T := TX12) (N := 71) hx hb hts hiX12 hown hH (zk_30 hF) rfl 68 (by decide) rfl hw2 (fun _ h9 => h9) dX12_pick_30 q105 ?_
    refine lv_icmp_ge (tgt := 54) hx hb dX12_pick_33 (by decide) (fun c109 => ?_) (fun c109 => ?_)
    · have zc109 := c109
      replace zc109 := zc_le (nI_toInt (by omega)) (nI_toInt (by omega)) zc109
      refine lv_aload_n hx hb dX12_pick_54 rfl (lv_at hl 0 rfl) ?_
      refine zGetI (D := D) (ci := 12) (C := RX12) (T := TX12) (N := 71) hx hb hts hiX12 hown hH (zk_30 hF) rfl 68 (by decide) rfl hw2 (fun _ h9 => h9) dX12_pick_55 q105 ?_
      refine lv_bipush (v := nI 10) hx hb dX12_pick_58 (by decide) ?_
      refine lv_icmp_ne (tgt := 65) hx hb dX12_pick_60 (by decide) (fun c110 => ?_) (fun c110 => ?_)
      · have zc110 := c110
        replace zc110 := zc_neq (nI_toInt (by omega)) (nI_toInt (by omega)) zc110
        refine lv_aload_n hx hb dX12_pick_65 rfl (lv_at hl 0 rfl) ?_
        refine zGetR (D := D) (ci := 12) (C := RX12) (T := TX12) (N := 71) hx hb hts hiX12 hown hH (zk_30 hF) rfl 69 (by decide) rfl hw3 (fun _ h9 => h9) dX12_pick_66 (zr_30_69 hF) ?_
        refine lv_aload_n hx hb dX12_pick_69 rfl (lv_at hl 0 rfl) ?_
        refine zGetI (D := D) (ci := 12) (C := RX12) (T := TX12) (N := 71) hx hb hts hiX12 hown hH (zk_30 hF) rfl 68 (by decide) rfl hw2 (fun _ h9 => h9) dX12_pick_70 q105 ?_
        refine lv_iload_n hx hb dX12_pick_73 rfl (lv_at hl 1 rfl) ?_
        refine zIastN (D := D) hx hb hH hS (zk_71 hF) (zn_71 hF) (by omega) (by omega) dX12_pick_74 (fun H locs hH hS => ?_)
        obtain ⟨f111, ef111⟩ : ∃ f9 : zFi, f9 = zu f103 71 p (nI t) := ⟨_, rfl⟩
        rw [← ef111] at hH
        have q112 : f111 30 2 = nI n := by rw [ef111, zu_n (fun h9 => absurd h9.1 (by decide))]; exact q104
        have q113 : f111 30 68 = nI p := by rw [ef111, zu_n (fun h9 => absurd h9.1 (by decide))]; exact q105
        have q114 : f111 30 0 = nI 0 := by rw [ef111, zu_n (fun h9 => absurd h9.1 (by decide))]; exact q106
        have q115 : f111 71 p = nI t := by rw [ef111]; exact zu_s
        refine lv_aload_n hx hb dX12_pick_75 rfl (lv_at hl 0 rfl) ?_
        refine lv_dup hx hb dX12_pick_76 rfl ?_
        refine zGetI (D := D) (ci := 12) (C := RX12) (T := TX12) (N := 71) hx hb hts hiX12 hown hH (zk_30 hF) rfl 68 (by decide) rfl hw2 (fun _ h9 => h9) dX12_pick_77 q113 ?_
        refine lv_iconst (v := nI 1) hx hb dX12_pick_80 (by decide) ?_
        refine lv_iadd hx hb dX12_pick_81 ?_
        refine lv_topi (fun v116 ev116 => ?_)
        obtain rfl : v116 = nI (p + 1) := ev116.trans (nI_add _ _)
        refine zPutI (D := D) (ci := 12) (ty := .int) (C := RX12) (T := TX12) (N := 71) hx hb hts hiX12 tyX12 tyX12_ok nmX12 hown hH hS (zk_30 hF) rfl 68 (by decide) rfl hw2 (fun _ h9 => h9) rfl (by decide +kernel) rfl rfl dX12_pick_82 (fun H locs hH hS => ?_)
        obtain ⟨f117, ef117⟩ : ∃ f9 : zFi, f9 = zu f111 30 68 (nI (p + 1)) := ⟨_, rfl⟩
        rw [← ef117] at hH
        have q118 : f117 30 2 = nI n := by rw [ef117, zu_n (fun h9 => absurd h9.2 (by decide))]; exact q112
        have q119 : f117 30 0 = nI 0 := by rw [ef117, zu_n (fun h9 => absurd h9.2 (by decide))]; exact q114
        have q120 : f117 71 p = nI t := by rw [ef117, zu_n (fun h9 => absurd h9.1 (by decide))]; exact q115
        have q121 : f117 30 68 = nI (p + 1) := by rw [ef117]; exact zu_s
        refine lv_aload_n hx hb dX12_pick_85 rfl (lv_at hl 0 rfl) ?_
        refine zGetI (D := D) (ci := 12) (C := RX12) (T := TX12) (N := 71) hx hb hts hiX12 hown hH (zk_30 hF) rfl 68 (by decide) rfl hw2 (fun _ h9 => h9) dX12_pick_86 q121 ?_
        refine W.widen (k := 0) (n := 0) (by decide) (by decide) ?_
        exact W.iret (v := nI (p + 1)) hx hb hr (fun t9 ht9 hW9 => ⟨⟨nI (p + 1), f117, rfl, ⟨⟨p + 1, hMp0.add (by omega) ht q121 (by rw [ef117, zu_n (by omega), ef111]; exact zu_s) (fun j h => by rw [ef117, zu_n (by omega), ef111, zu_n (by omega), ef103, zu_n (by omega)])⟩, fun a b h => by rw [ef117, zu_n (by omega), ef111, zu_n (by omega), ef103, zu_n (by omega)]⟩, zEnd1 hH ht9 hW9⟩, hS.F ht9⟩) hS.2.2 dX12_pick_89
      · have zc110 := c110
        replace zc110 := zc_eq (nI_toInt (by omega)) (nI_toInt (by omega)) zc110
        refine lv_iconst (v := (-1)) hx hb dX12_pick_63 (by decide) ?_
        refine W.widen (k := 0) (n := 0) (by decide) (by decide) ?_
        exact W.iret (v := (-1)) hx hb hr (fun t9 ht9 hW9 => ⟨⟨(-1), f103, rfl, ⟨⟨p, hMp⟩, fun a b h => by rw [ef103, zu_n (by omega)]⟩, zEnd1 hH ht9 hW9⟩, hS.F ht9⟩) hS.2.2 dX12_pick_64
    · have zc109 := c109
      replace zc109 := zc_nle (nI_toInt (by omega)) (nI_toInt (by omega)) zc109
      refine lv_aload_n hx hb dX12_pick_36 rfl (lv_at hl 0 rfl) ?_
      refine zGetR (D := D) (ci := 12) (C := RX12) (T := TX12) (N := 71) hx hb hts hiX12 hown hH (zk_30 hF) rfl 69 (by decide) rfl hw3 (fun _ h9 => h9) dX12_pick_37 (zr_30_69 hF) ?_
      refine lv_iload_n hx hb dX12_pick_40 rfl (lv_at hl 2 rfl) ?_
      refine zIaldN (D := D) hx hb hH (zk_71 hF) (zn_71 hF) (by omega) (by omega) rfl dX12_pick_41 ?_
      refine lv_iload_n hx hb dX12_pick_42 rfl (lv_at hl 1 rfl) ?_
      refine lv_icmp_ne (tgt := 48) hx hb dX12_pick_43 (by decide) (fun c122 => ?_) (fun c122 => ?_)
      · have zc122 := c122
        replace zc122 := zc_neq (rfl) (nI_toInt (by omega)) zc122
        refine lv_iinc (v := nI (i + 1)) (lv' := [(2, .int (nI (i + 1))), (0, .ref (τ.1 30)), (1, .int (nI t))]) hx hb dX12_pick_48 hl (k := 2) rfl (by rw [show (Int32.ofInt 1 : Int32) = nI 1 from by decide, nI_add]) (by decide) rfl (fun ls hl => ?_)
        refine lv_goto (tgt := 28) hx hb dX12_pick_51 (by decide) ?_
        exact ih108 (p - (i + 1)) (by omega) (i + 1) _ _ _ (show p - (i + 1) = p - (i + 1) ∧ ((i + 1) ≤ p) ∧ zH D A τ f103 fr ol s _ ∧ va_S A s.heap _ _ ∧ lv_has _ 3 [(0, .ref (τ.1 30)), (1, .int (nI t)), (2, .int (nI (i + 1)))] from ⟨rfl, (by omega), hH, hS, lv_sub hl [1, 2, 0] rfl⟩)
      · have zc122 := c122
        replace zc122 := zc_eq (rfl) (nI_toInt (by omega)) zc122
        refine lv_iconst (v := (-1)) hx hb dX12_pick_46 (by decide) ?_
        refine W.widen (k := 0) (n := 0) (by decide) (by decide) ?_
        exact W.iret (v := (-1)) hx hb hr (fun t9 ht9 hW9 => ⟨⟨(-1), f103, rfl, ⟨⟨p, hMp⟩, fun a b h => by rw [ef103, zu_n (by omega)]⟩, zEnd1 hH ht9 hW9⟩, hS.F ht9⟩) hS.2.2 dX12_pick_47
  · skip
    refine lv_if_ne (tgt := 13) hx hb dX12_pick_6 (by decide) (fun c123 => absurd (by decide) c123) (fun c123 => ?_)
    refine lv_iconst (v := nI 1) hx hb dX12_pick_9 (by decide) ?_
    refine lv_goto (tgt := 14) hx hb dX12_pick_10 (by decide) ?_
    refine zPutI (D := D) (ci := 12) (ty := .int) (C := RX12) (T := TX12) (N := 71) hx hb hts hiX12 tyX12 tyX12_ok nmX12 hown hH hS (zk_30 hF) rfl 0 (by decide) rfl hw0 (fun _ h9 => h9) rfl (by decide +kernel) rfl rfl dX12_pick_14 (fun H locs hH hS => ?_)
    obtain ⟨f124, ef124⟩ : ∃ f9 : zFi, f9 = zu fi 30 0 (nI 1) := ⟨_, rfl⟩
    rw [← ef124] at hH
    have q125 : f124 30 2 = nI n := by rw [ef124, zu_n (fun h9 => absurd h9.2 (by decide))]; exact hMt.2.1
    have q126 : f124 30 68 = nI p := by rw [ef124, zu_n (fun h9 => absurd h9.2 (by decide))]; exact hMp.2.1
    have q127 : f124 30 0 = nI 1 := by rw [ef124]; exact zu_s
    have hMp := zMp.ci (fi' := f124) hMp (fun i9 k9 h9 => by rw [ef124]; exact zu_n (by omega))
    refine lv_aload_n hx hb dX12_pick_17 rfl (lv_at hl 0 rfl) ?_
    refine zGetI (D := D) (ci := 12) (C := RX12) (T := TX12) (N := 71) hx hb hts hiX12 hown hH (zk_30 hF) rfl 0 (by decide) rfl hw0 (fun _ h9 => h9) dX12_pick_18 q127 ?_
    refine lv_if_le (tgt := 26) hx hb dX12_pick_21 (by decide) (fun c128 => absurd c128 (by decide)) (fun c128 => ?_)
    refine lv_iconst (v := nI 0) hx hb dX12_pick_24 (by decide) ?_
    refine W.widen (k := 0) (n := 0) (by decide) (by decide) ?_
    exact W.iret (v := nI 0) hx hb hr (fun t9 ht9 hW9 => ⟨⟨nI 0, f124, rfl, ⟨⟨p, hMp⟩, fun a b h => by rw [ef124, zu_n (by omega)]⟩, zEnd1 hH ht9 hW9⟩, hS.F ht9⟩) hS.2.2 dX12_pick_25
set_option maxHeartbeats 4000000 in
set_option maxRecDepth 100000 in
/-- count -/
theorem m_count (l : Launch) (hl0 : l.stackTraces = false) (D : va_G) (A : Nat → Prop) (sad : Nat → Nat) (τ : zTy) (fi : zFi) (fr : zFr) (ol : Int64) (x : Int32) (hF : zFix τ fr) (n o : Nat) (hMo : zMo fi n o) (c : Nat) (hMc : zMc fi n c) : Met l yX12_count wsX12_count ({ frames := 0, cells := 0, slots := 0, locals := 0 }) (va_Pc [.ref (τ.1 30), .int x] (zQc D A sad τ fi fr ol)) (va_Qi (fun (r : Int32) (u : zFi) => ∀ a b, ¬ (a = 30 ∧ b = 0) → u a b = fi a b) (fun (u : zFi) (t : State) => zH D A τ u fr ol t t.heap) A) 0 0 A := by
  refine Met.ofW (cc := cX12_count) (maxL := 4) (ret := (some .int)) (by decide) rfl ?_
  intro p9 e9 s m args below meth c9 s₁ B hml hv
  obtain ⟨rfl, hz, hH, hA⟩ := hv
  have hx := B.exec
  have hb := B.bytes
  have hr := B.returns
  have hts := atoms_spec (ws := wsX12_count) B.pre
  have hown : s.vm.findClass RX12 = some m.cls := findClass_of_methodNamed B.named
  have hlocks := B.notSynchronized
  have hS : va_S A s.heap s.heap [] := va_S.rf
  have hl := lv_entry ([.ref (τ.1 30), .int x]) (n := 4) (Nat.le_of_ble_eq_true rfl)
  rw [lg_entry_eq]
  generalize (lg_sl ([.ref (τ.1 30), .int x]) ++ List.replicate (4 - (lg_sl ([.ref (τ.1 30), .int x])).length) Slot.unset).toArray = ls at hl ⊢
  have hl : lv_has ls 4 [(0, .ref (τ.1 30)), (1, .int x)] := hl
  have ho60 := hMo.1
  have hc60 := hMc.1
  have hw0 := hts (.fieldLink RX12 165 "PostHouseModel" "thrown" "I") (by decide +kernel)
  have hiX12 : ∀ w ∈ u_ws RX12 TX12 71, w ∈ wsX12_count := fun _ h => List.mem_cons_of_mem _ (List.mem_append_right _ h)
  have hw2 := hts (.fieldLink RX12 200 "PostHouseModel" "today" "I") (by decide +kernel)
  have hw3 := hts (.fieldLink RX12 168 "PostHouseModel" "things" "I") (by decide +kernel)
  have hw4 := hts (.fieldLink RX12 171 "PostHouseModel" "orders" "I") (by decide +kernel)
  have hw5 := hts (.fieldLink RX12 311 "PostHouseModel" "waiting" "I") (by decide +kernel)
  have hw6 := hts (.fieldLink RX12 342 "PostHouseModel" "sendings" "I") (by decide +kernel)
  have hw7 := hts (.fieldLink RX12 351 "PostHouseModel" "picks" "I") (by decide +kernel)
  have hw8 := hts (.fieldLink RX12 314 "PostHouseModel" "mended" "I") (by decide +kernel)
  have hw9 := hts (.fieldLink RX12 99 "PostHouseModel" "orderMoney" "[I") (by decide +kernel)
  have hw10 := hts (.fieldLink RX12 102 "PostHouseModel" "orderCredit" "[I") (by decide +kernel)
  have hw11 := hts (.fieldLink RX12 203 "PostHouseModel" "comings" "I") (by decide +kernel)
  have hw12 := hts (.fieldLink RX12 46 "PostHouseModel" "comingMany" "[I") (by decide +kernel)
  refine lv_aload_n hx hb dX12_count_0 rfl (lv_at hl 0 rfl) ?_
  refine lv_iconst (v := nI 0) hx hb dX12_count_1 (by decide) ?_
  refine zPutI (D := D) (ci := 12) (ty := .int) (C := RX12) (T := TX12) (N := 71) hx hb hts hiX12 tyX12 tyX12_ok nmX12 hown hH hS (zk_30 hF) rfl 0 (by decide) rfl hw0 (fun _ h9 => h9) rfl (by decide +kernel) rfl rfl dX12_count_2 (fun H locs hH hS => ?_)
  obtain ⟨f101, ef101⟩ : ∃ f9 : zFi, f9 = zu fi 30 0 (nI 0) := ⟨_, rfl⟩
  rw [← ef101] at hH
  have q102 : f101 30 45 = nI o := by rw [ef101, zu_n (fun h9 => absurd h9.2 (by decide))]; exact hMo.2.1
  have q103 : f101 30 13 = nI c := by rw [ef101, zu_n (fun h9 => absurd h9.2 (by decide))]; exact hMc.2.1
  have q104 : f101 30 0 = nI 0 := by rw [ef101]; exact zu_s
  refine lv_iconst (v := nI 0) hx hb dX12_count_5 (by decide) ?_
  refine lv_istore_n (lv' := [(2, .int (nI 0)), (0, .ref (τ.1 30)), (1, .int x)]) hx hb dX12_count_6 rfl hl (by decide) rfl (fun ls hl => ?_)
  refine lv_iload_n hx hb dX12_count_7 rfl (lv_at hl 2 rfl) ?_
  rcases zCase9 x with c105 | c105 | c105 | c105 | c105 | c105 | c105 | c105 | c105 | c105 | c105
  · subst c105
    refine lv_tableIn (tgt := 64) (off := 56) hx hb dX12_count_8 (by decide) (by decide) rfl (by decide) ?_
    refine lv_aload_n hx hb dX12_count_64 rfl (lv_at hl 1 rfl) ?_
    refine zGetI (D := D) (ci := 12) (C := RX12) (T := TX12) (N := 71) hx hb hts hiX12 hown hH (zk_30 hF) rfl 1 (by decide) rfl hw2 (fun _ h9 => h9) dX12_count_65 rfl ?_
    refine W.widen (k := 0) (n := 0) (by decide) (by decide) ?_
    exact W.iret (v := f101 30 1) hx hb hr (fun t9 ht9 hW9 => ⟨⟨f101 30 1, f101, rfl, fun a b h => by rw [ef101, zu_n (by omega)], zEnd1 hH ht9 hW9⟩, hS.F ht9⟩) hS.2.2 dX12_count_68
  · subst c105
    refine lv_tableIn (tgt := 69) (off := 61) hx hb dX12_count_8 (by decide) (by decide) rfl (by decide) ?_
    refine lv_aload_n hx hb dX12_count_69 rfl (lv_at hl 1 rfl) ?_
    refine zGetI (D := D) (ci := 12) (C := RX12) (T := TX12) (N := 71) hx hb hts hiX12 hown hH (zk_30 hF) rfl 2 (by decide) rfl hw3 (fun _ h9 => h9) dX12_count_70 rfl ?_
    refine W.widen (k := 0) (n := 0) (by decide) (by decide) ?_
    exact W.iret (v := f101 30 2) hx hb hr (fun t9 ht9 hW9 => ⟨⟨f101 30 2, f101, rfl, fun a b h => by rw [ef101, zu_n (by omega)], zEnd1 hH ht9 hW9⟩, hS.F ht9⟩) hS.2.2 dX12_count_73
  · subst c105
    refine lv_tableIn (tgt := 74) (off := 66) hx hb dX12_count_8 (by decide) (by decide) rfl (by decide) ?_
    refine lv_aload_n hx hb dX12_count_74 rfl (lv_at hl 1 rfl) ?_
    refine zGetI (D := D) (ci := 12) (C := RX12) (T := TX12) (N := 71) hx hb hts hiX12 hown hH (zk_30 hF) rfl 45 (by decide) rfl hw4 (fun _ h9 => h9) dX12_count_75 q102 ?_
    refine W.widen (k := 0) (n := 0) (by decide) (by decide) ?_
    exact W.iret (v := nI o) hx hb hr (fun t9 ht9 hW9 => ⟨⟨nI o, f101, rfl, fun a b h => by rw [ef101, zu_n (by omega)], zEnd1 hH ht9 hW9⟩, hS.F ht9⟩) hS.2.2 dX12_count_78
  · subst c105
    refine lv_tableIn (tgt := 79) (off := 71) hx hb dX12_count_8 (by decide) (by decide) rfl (by decide) ?_
    refine lv_aload_n hx hb dX12_count_79 rfl (lv_at hl 1 rfl) ?_
    refine zGetI (D := D) (ci := 12) (C := RX12) (T := TX12) (N := 71) hx hb hts hiX12 hown hH (zk_30 hF) rfl 36 (by decide) rfl hw5 (fun _ h9 => h9) dX12_count_80 rfl ?_
    refine W.widen (k := 0) (n := 0) (by decide) (by decide) ?_
    exact W.iret (v := f101 30 36) hx hb hr (fun t9 ht9 hW9 => ⟨⟨f101 30 36, f101, rfl, fun a b h => by rw [ef101, zu_n (by omega)], zEnd1 hH ht9 hW9⟩, hS.F ht9⟩) hS.2.2 dX12_count_83
  · subst c105
    refine lv_tableIn (tgt := 84) (off := 76) hx hb dX12_count_8 (by decide) (by decide) rfl (by decide) ?_
    refine lv_aload_n hx hb dX12_count_84 rfl (lv_at hl 1 rfl) ?_
    refine zGetI (D := D) (ci := 12) (C := RX12) (T := TX12) (N := 71) hx hb hts hiX12 hown hH (zk_30 hF) rfl 61 (by decide) rfl hw6 (fun _ h9 => h9) dX12_count_85 rfl ?_
    refine W.widen (k := 0) (n := 0) (by decide) (by decide) ?_
    exact W.iret (v := f101 30 61) hx hb hr (fun t9 ht9 hW9 => ⟨⟨f101 30 61, f101, rfl, fun a b h => by rw [ef101, zu_n (by omega)], zEnd1 hH ht9 hW9⟩, hS.F ht9⟩) hS.2.2 dX12_count_88
  · subst c105
    refine lv_tableIn (tgt := 89) (off := 81) hx hb dX12_count_8 (by decide) (by decide) rfl (by decide) ?_
    refine lv_aload_n hx hb dX12_count_89 rfl (lv_at hl 1 rfl) ?_
    refine zGetI (D := D) (ci := 12) (C := RX12) (T := TX12) (N := 71) hx hb hts hiX12 hown hH (zk_30 hF) rfl 68 (by decide) rfl hw7 (fun _ h9 => h9) dX12_count_90 rfl ?_
    refine W.widen (k := 0) (n := 0) (by decide) (by decide) ?_
    exact W.iret (v := f101 30 68) hx hb hr (fun t9 ht9 hW9 => ⟨⟨f101 30 68, f101, rfl, fun a b h => by rw [ef101, zu_n (by omega)], zEnd1 hH ht9 hW9⟩, hS.F ht9⟩) hS.2.2 dX12_count_93
  · subst c105
    refine lv_tableIn (tgt := 94) (off := 86) hx hb dX12_count_8 (by decide) (by decide) rfl (by decide) ?_
    refine lv_aload_n hx hb dX12_count_94 rfl (lv_at hl 1 rfl) ?_
    refine zGetI (D := D) (ci := 12) (C := RX12) (T := TX12) (N := 71) hx hb hts hiX12 hown hH (zk_30 hF) rfl 34 (by decide) rfl hw8 (fun _ h9 => h9) dX12_count_95 rfl ?_
    refine W.widen (k := 0) (n := 0) (by decide) (by decide) ?_
    exact W.iret (v := f101 30 34) hx hb hr (fun t9 ht9 hW9 => ⟨⟨f101 30 34, f101, rfl, fun a b h => by rw [ef101, zu_n (by omega)], zEnd1 hH ht9 hW9⟩, hS.F ht9⟩) hS.2.2 dX12_count_98
  · subst c105
    refine lv_tableIn (tgt := 99) (off := 91) hx hb dX12_count_8 (by decide) (by decide) rfl (by decide) ?_
    refine lv_iconst (v := nI 0) hx hb dX12_count_99 (by decide) ?_
    refine lv_istore_n (lv' := [(3, .int (nI 0)), (2, .int (nI 0)), (0, .ref (τ.1 30)), (1, .int (nI 7))]) hx hb dX12_count_100 rfl hl (by decide) rfl (fun ls hl => ?_)
    refine zLp (σ := Nat × Int32) (fun x9 k9 H locs ls => (fun (i : Nat) (yy : Int32) => k9 = o - i ∧ (i ≤ o) ∧ zH D A τ f101 fr ol s H ∧ va_S A s.heap H locs ∧ lv_has ls 4 [(0, .ref (τ.1 30)), (2, .int yy), (3, .int (nI i))]) x9.1 x9.2) (0, nI 0) (o - 0) (show o - 0 = o - 0 ∧ (0 ≤ o) ∧ zH D A τ f101 fr ol s _ ∧ va_S A s.heap _ _ ∧ lv_has _ 4 [(0, .ref (τ.1 30)), (2, .int (nI 0)), (3, .int (nI 0))] from ⟨rfl, Nat.zero_le _, hH, hS, lv_sub hl [2, 1, 0] rfl⟩) (fun k9 ih x9 H locs ls hv9 => ?_)
    obtain ⟨i, yy⟩ := x9
    have hv9 : k9 = o - i ∧ (i ≤ o) ∧ zH D A τ f101 fr ol s H ∧ va_S A s.heap H locs ∧ lv_has ls 4 [(0, .ref (τ.1 30)), (2, .int yy), (3, .int (nI i))] := hv9
    obtain ⟨hkih106, hv9, hH, hS, hl⟩ := hv9
    obtain h1 := hv9
    have ih106 := ih
    clear ih
    refine lv_iload_n hx hb dX12_count_101 rfl (lv_at hl 2 rfl) ?_
    refine lv_aload_n hx hb dX12_count_102 rfl (lv_at hl 0 rfl) ?_
    refine zGetI (D := D) (ci := 12) (C := RX12) (T := TX12) (N := 71) hx hb hts hiX12 hown hH (zk_30 hF) rfl 45 (by decide) rfl hw4 (fun _ h9 => h9) dX12_count_103 q102 ?_
    refine lv_icmp_ge (tgt := 124) hx hb dX12_count_106 (by decide) (fun c107 => ?_) (fun c107 => ?_)
    · have zc107 := c107
      replace zc107 := zc_le (nI_toInt (by omega)) (nI_toInt (by omega)) zc107
      refine lv_iload_n hx hb dX12_count_124 rfl (lv_at hl 1 rfl) ?_
      refine W.widen (k := 0) (n := 0) (by decide) (by decide) ?_
      exact W.iret (v := yy) hx hb hr (fun t9 ht9 hW9 => ⟨⟨yy, f101, rfl, fun a b h => by rw [ef101, zu_n (by omega)], zEnd1 hH ht9 hW9⟩, hS.F ht9⟩) hS.2.2 dX12_count_125
    · have zc107 := c107
      replace zc107 := zc_nle (nI_toInt (by omega)) (nI_toInt (by omega)) zc107
      refine lv_iload_n hx hb dX12_count_109 rfl (lv_at hl 1 rfl) ?_
      refine lv_aload_n hx hb dX12_count_110 rfl (lv_at hl 0 rfl) ?_
      refine zGetR (D := D) (ci := 12) (C := RX12) (T := TX12) (N := 71) hx hb hts hiX12 hown hH (zk_30 hF) rfl 47 (by decide) rfl hw9 (fun _ h9 => h9) dX12_count_111 (zr_30_47 hF) ?_
      refine lv_iload_n hx hb dX12_count_114 rfl (lv_at hl 2 rfl) ?_
      refine zIaldN (D := D) hx hb hH (zk_51 hF) (zn_51 hF) (by omega) (by omega) rfl dX12_count_115 ?_
      refine lv_iadd hx hb dX12_count_116 ?_
      refine lv_topi (fun v108 ev108 => ?_)
      refine lv_istore_n (lv' := [(2, .int v108), (0, .ref (τ.1 30)), (3, .int (nI i))]) hx hb dX12_count_117 rfl hl (by decide) rfl (fun ls hl => ?_)
      refine lv_iinc (v := nI (i + 1)) (lv' := [(3, .int (nI (i + 1))), (2, .int v108), (0, .ref (τ.1 30))]) hx hb dX12_count_118 hl (k := 2) rfl (by rw [show (Int32.ofInt 1 : Int32) = nI 1 from by decide, nI_add]) (by decide) rfl (fun ls hl => ?_)
      refine lv_goto (tgt := 101) hx hb dX12_count_121 (by decide) ?_
      exact ih106 (o - (i + 1)) (by omega) (i + 1, _) _ _ _ (show o - (i + 1) = o - (i + 1) ∧ ((i + 1) ≤ o) ∧ zH D A τ f101 fr ol s _ ∧ va_S A s.heap _ _ ∧ lv_has _ 4 [(0, .ref (τ.1 30)), (2, .int _), (3, .int (nI (i + 1)))] from ⟨rfl, (by omega), hH, hS, lv_sub hl [2, 1, 0] rfl⟩)
  · subst c105
    refine lv_tableIn (tgt := 126) (off := 118) hx hb dX12_count_8 (by decide) (by decide) rfl (by decide) ?_
    refine lv_iconst (v := nI 0) hx hb dX12_count_126 (by decide) ?_
    refine lv_istore_n (lv' := [(3, .int (nI 0)), (2, .int (nI 0)), (0, .ref (τ.1 30)), (1, .int (nI 8))]) hx hb dX12_count_127 rfl hl (by decide) rfl (fun ls hl => ?_)
    refine zLp (σ := Nat × Int32) (fun x9 k9 H locs ls => (fun (i : Nat) (yy : Int32) => k9 = o - i ∧ (i ≤ o) ∧ zH D A τ f101 fr ol s H ∧ va_S A s.heap H locs ∧ lv_has ls 4 [(0, .ref (τ.1 30)), (2, .int yy), (3, .int (nI i))]) x9.1 x9.2) (0, nI 0) (o - 0) (show o - 0 = o - 0 ∧ (0 ≤ o) ∧ zH D A τ f101 fr ol s _ ∧ va_S A s.heap _ _ ∧ lv_has _ 4 [(0, .ref (τ.1 30)), (2, .int (nI 0)), (3, .int (nI 0))] from ⟨rfl, Nat.zero_le _, hH, hS, lv_sub hl [2, 1, 0] rfl⟩) (fun k9 ih x9 H locs ls hv9 => ?_)
    obtain ⟨i, yy⟩ := x9
    have hv9 : k9 = o - i ∧ (i ≤ o) ∧ zH D A τ f101 fr ol s H ∧ va_S A s.heap H locs ∧ lv_has ls 4 [(0, .ref (τ.1 30)), (2, .int yy), (3, .int (nI i))] := hv9
    obtain ⟨hkih109, hv9, hH, hS, hl⟩ := hv9
    obtain h1 := hv9
    have ih109 := ih
    clear ih
    refine lv_iload_n hx hb dX12_count_128 rfl (lv_at hl 2 rfl) ?_
    refine lv_aload_n hx hb dX12_count_129 rfl (lv_at hl 0 rfl) ?_
    refine zGetI (D := D) (ci := 12) (C := RX12) (T := TX12) (N := 71) hx hb hts hiX12 hown hH (zk_30 hF) rfl 45 (by decide) rfl hw4 (fun _ h9 => h9) dX12_count_130 q102 ?_
    refine lv_icmp_ge (tgt := 151) hx hb dX12_count_133 (by decide) (fun c110 => ?_) (fun c110 => ?_)
    · have zc110 := c110
      replace zc110 := zc_le (nI_toInt (by omega)) (nI_toInt (by omega)) zc110
      refine lv_iload_n hx hb dX12_count_151 rfl (lv_at hl 1 rfl) ?_
      refine W.widen (k := 0) (n := 0) (by decide) (by decide) ?_
      exact W.iret (v := yy) hx hb hr (fun t9 ht9 hW9 => ⟨⟨yy, f101, rfl, fun a b h => by rw [ef101, zu_n (by omega)], zEnd1 hH ht9 hW9⟩, hS.F ht9⟩) hS.2.2 dX12_count_152
    · have zc110 := c110
      replace zc110 := zc_nle (nI_toInt (by omega)) (nI_toInt (by omega)) zc110
      refine lv_iload_n hx hb dX12_count_136 rfl (lv_at hl 1 rfl) ?_
      refine lv_aload_n hx hb dX12_count_137 rfl (lv_at hl 0 rfl) ?_
      refine zGetR (D := D) (ci := 12) (C := RX12) (T := TX12) (N := 71) hx hb hts hiX12 hown hH (zk_30 hF) rfl 48 (by decide) rfl hw10 (fun _ h9 => h9) dX12_count_138 (zr_30_48 hF) ?_
      refine lv_iload_n hx hb dX12_count_141 rfl (lv_at hl 2 rfl) ?_
      refine zIaldN (D := D) hx hb hH (zk_52 hF) (zn_52 hF) (by omega) (by omega) rfl dX12_count_142 ?_
      refine lv_iadd hx hb dX12_count_143 ?_
      refine lv_topi (fun v111 ev111 => ?_)
      refine lv_istore_n (lv' := [(2, .int v111), (0, .ref (τ.1 30)), (3, .int (nI i))]) hx hb dX12_count_144 rfl hl (by decide) rfl (fun ls hl => ?_)
      refine lv_iinc (v := nI (i + 1)) (lv' := [(3, .int (nI (i + 1))), (2, .int v111), (0, .ref (τ.1 30))]) hx hb dX12_count_145 hl (k := 2) rfl (by rw [show (Int32.ofInt 1 : Int32) = nI 1 from by decide, nI_add]) (by decide) rfl (fun ls hl => ?_)
      refine lv_goto (tgt := 128) hx hb dX12_count_148 (by decide) ?_
      exact ih109 (o - (i + 1)) (by omega) (i + 1, _) _ _ _ (show o - (i + 1) = o - (i + 1) ∧ ((i + 1) ≤ o) ∧ zH D A τ f101 fr ol s _ ∧ va_S A s.heap _ _ ∧ lv_has _ 4 [(0, .ref (τ.1 30)), (2, .int _), (3, .int (nI (i + 1)))] from ⟨rfl, (by omega), hH, hS, lv_sub hl [2, 1, 0] rfl⟩)
  · subst c105
    refine lv_tableIn (tgt := 153) (off := 145) hx hb dX12_count_8 (by decide) (by decide) rfl (by decide) ?_
    refine lv_iconst (v := nI 0) hx hb dX12_count_153 (by decide) ?_
    refine lv_istore_n (lv' := [(3, .int (nI 0)), (2, .int (nI 0)), (0, .ref (τ.1 30)), (1, .int (nI 9))]) hx hb dX12_count_154 rfl hl (by decide) rfl (fun ls hl => ?_)
    refine zLp (σ := Nat × Int32) (fun x9 k9 H locs ls => (fun (i : Nat) (yy : Int32) => k9 = c - i ∧ (i ≤ c) ∧ zH D A τ f101 fr ol s H ∧ va_S A s.heap H locs ∧ lv_has ls 4 [(0, .ref (τ.1 30)), (2, .int yy), (3, .int (nI i))]) x9.1 x9.2) (0, nI 0) (c - 0) (show c - 0 = c - 0 ∧ (0 ≤ c) ∧ zH D A τ f101 fr ol s _ ∧ va_S A s.heap _ _ ∧ lv_has _ 4 [(0, .ref (τ.1 30)), (2, .int (nI 0)), (3, .int (nI 0))] from ⟨rfl, Nat.zero_le _, hH, hS, lv_sub hl [2, 1, 0] rfl⟩) (fun k9 ih x9 H locs ls hv9 => ?_)
    obtain ⟨i, yy⟩ := x9
    have hv9 : k9 = c - i ∧ (i ≤ c) ∧ zH D A τ f101 fr ol s H ∧ va_S A s.heap H locs ∧ lv_has ls 4 [(0, .ref (τ.1 30)), (2, .int yy), (3, .int (nI i))] := hv9
    obtain ⟨hkih112, hv9, hH, hS, hl⟩ := hv9
    obtain h1 := hv9
    have ih112 := ih
    clear ih
    refine lv_iload_n hx hb dX12_count_155 rfl (lv_at hl 2 rfl) ?_
    refine lv_aload_n hx hb dX12_count_156 rfl (lv_at hl 0 rfl) ?_
    refine zGetI (D := D) (ci := 12) (C := RX12) (T := TX12) (N := 71) hx hb hts hiX12 hown hH (zk_30 hF) rfl 13 (by decide) rfl hw11 (fun _ h9 => h9) dX12_count_157 q103 ?_
    refine lv_icmp_ge (tgt := 178) hx hb dX12_count_160 (by decide) (fun c113 => ?_) (fun c113 => ?_)
    · have zc113 := c113
      replace zc113 := zc_le (nI_toInt (by omega)) (nI_toInt (by omega)) zc113
      refine lv_iload_n hx hb dX12_count_178 rfl (lv_at hl 1 rfl) ?_
      refine W.widen (k := 0) (n := 0) (by decide) (by decide) ?_
      exact W.iret (v := yy) hx hb hr (fun t9 ht9 hW9 => ⟨⟨yy, f101, rfl, fun a b h => by rw [ef101, zu_n (by omega)], zEnd1 hH ht9 hW9⟩, hS.F ht9⟩) hS.2.2 dX12_count_179
    · have zc113 := c113
      replace zc113 := zc_nle (nI_toInt (by omega)) (nI_toInt (by omega)) zc113
      refine lv_iload_n hx hb dX12_count_163 rfl (lv_at hl 1 rfl) ?_
      refine lv_aload_n hx hb dX12_count_164 rfl (lv_at hl 0 rfl) ?_
      refine zGetR (D := D) (ci := 12) (C := RX12) (T := TX12) (N := 71) hx hb hts hiX12 hown hH (zk_30 hF) rfl 16 (by decide) rfl hw12 (fun _ h9 => h9) dX12_count_165 (zr_30_16 hF) ?_
      refine lv_iload_n hx hb dX12_count_168 rfl (lv_at hl 2 rfl) ?_
      refine zIaldN (D := D) hx hb hH (zk_43 hF) (zn_43 hF) (by omega) (by omega) rfl dX12_count_169 ?_
      refine lv_iadd hx hb dX12_count_170 ?_
      refine lv_topi (fun v114 ev114 => ?_)
      refine lv_istore_n (lv' := [(2, .int v114), (0, .ref (τ.1 30)), (3, .int (nI i))]) hx hb dX12_count_171 rfl hl (by decide) rfl (fun ls hl => ?_)
      refine lv_iinc (v := nI (i + 1)) (lv' := [(3, .int (nI (i + 1))), (2, .int v114), (0, .ref (τ.1 30))]) hx hb dX12_count_172 hl (k := 2) rfl (by rw [show (Int32.ofInt 1 : Int32) = nI 1 from by decide, nI_add]) (by decide) rfl (fun ls hl => ?_)
      refine lv_goto (tgt := 155) hx hb dX12_count_175 (by decide) ?_
      exact ih112 (c - (i + 1)) (by omega) (i + 1, _) _ _ _ (show c - (i + 1) = c - (i + 1) ∧ ((i + 1) ≤ c) ∧ zH D A τ f101 fr ol s _ ∧ va_S A s.heap _ _ ∧ lv_has _ 4 [(0, .ref (τ.1 30)), (2, .int _), (3, .int (nI (i + 1)))] from ⟨rfl, (by omega), hH, hS, lv_sub hl [2, 1, 0] rfl⟩)
  · refine lv_tableOut (tgt := 180) hx hb dX12_count_8 c105 (by decide) ?_
    refine lv_iconst (v := (-1)) hx hb dX12_count_180 (by decide) ?_
    refine W.widen (k := 0) (n := 0) (by decide) (by decide) ?_
    exact W.iret (v := (-1)) hx hb hr (fun t9 ht9 hW9 => ⟨⟨(-1), f101, rfl, fun a b h => by rw [ef101, zu_n (by omega)], zEnd1 hH ht9 hW9⟩, hS.F ht9⟩) hS.2.2 dX12_count_181
set_option maxHeartbeats 4000000 in
set_option maxRecDepth 100000 in
/-- far -/
theorem m_far (l : Launch) (hl0 : l.stackTraces = false) (D : va_G) (A : Nat → Prop) (sad : Nat → Nat) (τ : zTy) (fi : zFi) (fr : zFr) (ol : Int64) (x y z w : Int32) : Met l yX12_far wsX12_far ({ frames := 0, cells := 0, slots := 0, locals := 0 }) (va_Pc [.int x, .int y, .int z, .int w] (zQc D A sad τ fi fr ol)) (va_Qi (fun (r : Int32) (u : Unit) => True) (fun (u : Unit) (t : State) => zH D A τ fi fr ol t t.heap) A) 0 0 A := by
  refine Met.ofW (cc := cX12_far) (maxL := 7) (ret := (some .int)) (by decide) rfl ?_
  intro p9 e9 s m args below meth c9 s₁ B hml hv
  obtain ⟨rfl, hz, hH, hA⟩ := hv
  have hx := B.exec
  have hb := B.bytes
  have hr := B.returns
  have hts := atoms_spec (ws := wsX12_far) B.pre
  have hown : s.vm.findClass RX12 = some m.cls := findClass_of_methodNamed B.named
  have hlocks := B.notSynchronized
  have hS : va_S A s.heap s.heap [] := va_S.rf
  have hl := lv_entry ([.int x, .int y, .int z, .int w]) (n := 7) (Nat.le_of_ble_eq_true rfl)
  rw [lg_entry_eq]
  generalize (lg_sl ([.int x, .int y, .int z, .int w]) ++ List.replicate (7 - (lg_sl ([.int x, .int y, .int z, .int w])).length) Slot.unset).toArray = ls at hl ⊢
  have hl : lv_has ls 7 [(0, .int x), (1, .int y), (2, .int z), (3, .int w)] := hl
  refine lv_iload_n hx hb dX12_far_0 rfl (lv_at hl 0 rfl) ?_
  refine lv_iload_n hx hb dX12_far_1 rfl (lv_at hl 2 rfl) ?_
  refine lv_icmp_le (tgt := 11) hx hb dX12_far_2 (by decide) (fun c101 => ?_) (fun c101 => ?_)
  · have zc101 := c101
    replace zc101 := zc_le (rfl) (rfl) zc101
    refine lv_iload_n hx hb dX12_far_11 rfl (lv_at hl 2 rfl) ?_
    refine lv_iload_n hx hb dX12_far_12 rfl (lv_at hl 0 rfl) ?_
    refine lv_isub hx hb dX12_far_13 ?_
    refine lv_topi (fun v102 ev102 => ?_)
    refine lv_istore (lv' := [(4, .int v102), (0, .int x), (1, .int y), (2, .int z), (3, .int w)]) hx hb dX12_far_14 hl (by decide) rfl (fun ls hl => ?_)
    refine lv_iload hx hb dX12_far_16 (lv_at hl 0 rfl) ?_
    refine lv_if_ne (tgt := 36) hx hb dX12_far_18 (by decide) (fun c103 => ?_) (fun c103 => ?_)
    · have zc103 := c103
      replace zc103 := zc_neq (rfl) ((by decide : (0 : Int32).toInt = 0)) zc103
      refine lv_iload_n hx hb dX12_far_36 rfl (lv_at hl 2 rfl) ?_
      refine lv_iload_n hx hb dX12_far_37 rfl (lv_at hl 4 rfl) ?_
      refine lv_iadd hx hb dX12_far_38 ?_
      refine lv_topi (fun v104 ev104 => ?_)
      refine lv_istore (lv' := [(5, .int v104), (4, .int v102), (0, .int x), (1, .int y), (2, .int z), (3, .int w)]) hx hb dX12_far_39 hl (by decide) rfl (fun ls hl => ?_)
      refine lv_bipush (v := nI 42) hx hb dX12_far_41 (by decide) ?_
      refine lv_iload_n hx hb dX12_far_43 rfl (lv_at hl 3 rfl) ?_
      refine lv_isub hx hb dX12_far_44 ?_
      refine lv_topi (fun v105 ev105 => ?_)
      refine lv_iload_n hx hb dX12_far_45 rfl (lv_at hl 5 rfl) ?_
      refine lv_isub hx hb dX12_far_46 ?_
      refine lv_topi (fun v106 ev106 => ?_)
      refine lv_istore (lv' := [(6, .int v106), (5, .int v104), (4, .int v102), (0, .int x), (1, .int y), (2, .int z), (3, .int w)]) hx hb dX12_far_47 hl (by decide) rfl (fun ls hl => ?_)
      refine lv_bipush (v := nI 6) hx hb dX12_far_49 (by decide) ?_
      refine lv_iload hx hb dX12_far_51 (lv_at hl 2 rfl) ?_
      refine lv_imul hx hb dX12_far_53 ?_
      refine lv_topi (fun v107 ev107 => ?_)
      refine lv_iload hx hb dX12_far_54 (lv_at hl 1 rfl) ?_
      refine lv_iload hx hb dX12_far_56 (lv_at hl 0 rfl) ?_
      refine lv_icmp_ge (tgt := 66) hx hb dX12_far_58 (by decide) (fun c108 => ?_) (fun c108 => ?_)
      · have zc108 := c108
        replace zc108 := zc_le (rfl) (rfl) zc108
        refine lv_iload hx hb dX12_far_66 (lv_at hl 0 rfl) ?_
        refine lv_iadd hx hb dX12_far_68 ?_
        refine lv_topi (fun v109 ev109 => ?_)
        refine W.widen (k := 0) (n := 0) (by decide) (by decide) ?_
        exact W.iret (v := v109) hx hb hr (fun t9 ht9 hW9 => ⟨⟨v109, (), rfl, trivial, zEnd1 hH ht9 hW9⟩, hS.F ht9⟩) hS.2.2 dX12_far_69
      · have zc108 := c108
        replace zc108 := zc_nle (rfl) (rfl) zc108
        refine lv_iload hx hb dX12_far_61 (lv_at hl 1 rfl) ?_
        refine lv_goto (tgt := 68) hx hb dX12_far_63 (by decide) ?_
        refine lv_iadd hx hb dX12_far_68 ?_
        refine lv_topi (fun v110 ev110 => ?_)
        refine W.widen (k := 0) (n := 0) (by decide) (by decide) ?_
        exact W.iret (v := v110) hx hb hr (fun t9 ht9 hW9 => ⟨⟨v110, (), rfl, trivial, zEnd1 hH ht9 hW9⟩, hS.F ht9⟩) hS.2.2 dX12_far_69
    · have zc103 := c103
      replace zc103 := zc_eq (rfl) ((by decide : (0 : Int32).toInt = 0)) zc103
      refine lv_iload_n hx hb dX12_far_21 rfl (lv_at hl 2 rfl) ?_
      refine lv_iload_n hx hb dX12_far_22 rfl (lv_at hl 4 rfl) ?_
      refine lv_icmp_le (tgt := 32) hx hb dX12_far_23 (by decide) (fun c111 => ?_) (fun c111 => ?_)
      · have zc111 := c111
        replace zc111 := zc_le (rfl) (rfl) zc111
        refine lv_iload_n hx hb dX12_far_32 rfl (lv_at hl 4 rfl) ?_
        refine lv_iload_n hx hb dX12_far_33 rfl (lv_at hl 2 rfl) ?_
        refine lv_isub hx hb dX12_far_34 ?_
        refine lv_topi (fun v112 ev112 => ?_)
        refine W.widen (k := 0) (n := 0) (by decide) (by decide) ?_
        exact W.iret (v := v112) hx hb hr (fun t9 ht9 hW9 => ⟨⟨v112, (), rfl, trivial, zEnd1 hH ht9 hW9⟩, hS.F ht9⟩) hS.2.2 dX12_far_35
      · have zc111 := c111
        replace zc111 := zc_nle (rfl) (rfl) zc111
        refine lv_iload_n hx hb dX12_far_26 rfl (lv_at hl 2 rfl) ?_
        refine lv_iload_n hx hb dX12_far_27 rfl (lv_at hl 4 rfl) ?_
        refine lv_isub hx hb dX12_far_28 ?_
        refine lv_topi (fun v113 ev113 => ?_)
        refine lv_goto (tgt := 35) hx hb dX12_far_29 (by decide) ?_
        refine W.widen (k := 0) (n := 0) (by decide) (by decide) ?_
        exact W.iret (v := v113) hx hb hr (fun t9 ht9 hW9 => ⟨⟨v113, (), rfl, trivial, zEnd1 hH ht9 hW9⟩, hS.F ht9⟩) hS.2.2 dX12_far_35
  · have zc101 := c101
    replace zc101 := zc_nle (rfl) (rfl) zc101
    refine lv_iload_n hx hb dX12_far_5 rfl (lv_at hl 0 rfl) ?_
    refine lv_iload_n hx hb dX12_far_6 rfl (lv_at hl 2 rfl) ?_
    refine lv_isub hx hb dX12_far_7 ?_
    refine lv_topi (fun v114 ev114 => ?_)
    refine lv_goto (tgt := 14) hx hb dX12_far_8 (by decide) ?_
    refine lv_istore (lv' := [(4, .int v114), (0, .int x), (1, .int y), (2, .int z), (3, .int w)]) hx hb dX12_far_14 hl (by decide) rfl (fun ls hl => ?_)
    refine lv_iload hx hb dX12_far_16 (lv_at hl 0 rfl) ?_
    refine lv_if_ne (tgt := 36) hx hb dX12_far_18 (by decide) (fun c115 => ?_) (fun c115 => ?_)
    · have zc115 := c115
      replace zc115 := zc_neq (rfl) ((by decide : (0 : Int32).toInt = 0)) zc115
      refine lv_iload_n hx hb dX12_far_36 rfl (lv_at hl 2 rfl) ?_
      refine lv_iload_n hx hb dX12_far_37 rfl (lv_at hl 4 rfl) ?_
      refine lv_iadd hx hb dX12_far_38 ?_
      refine lv_topi (fun v116 ev116 => ?_)
      refine lv_istore (lv' := [(5, .int v116), (4, .int v114), (0, .int x), (1, .int y), (2, .int z), (3, .int w)]) hx hb dX12_far_39 hl (by decide) rfl (fun ls hl => ?_)
      refine lv_bipush (v := nI 42) hx hb dX12_far_41 (by decide) ?_
      refine lv_iload_n hx hb dX12_far_43 rfl (lv_at hl 3 rfl) ?_
      refine lv_isub hx hb dX12_far_44 ?_
      refine lv_topi (fun v117 ev117 => ?_)
      refine lv_iload_n hx hb dX12_far_45 rfl (lv_at hl 5 rfl) ?_
      refine lv_isub hx hb dX12_far_46 ?_
      refine lv_topi (fun v118 ev118 => ?_)
      refine lv_istore (lv' := [(6, .int v118), (5, .int v116), (4, .int v114), (0, .int x), (1, .int y), (2, .int z), (3, .int w)]) hx hb dX12_far_47 hl (by decide) rfl (fun ls hl => ?_)
      refine lv_bipush (v := nI 6) hx hb dX12_far_49 (by decide) ?_
      refine lv_iload hx hb dX12_far_51 (lv_at hl 2 rfl) ?_
      refine lv_imul hx hb dX12_far_53 ?_
      refine lv_topi (fun v119 ev119 => ?_)
      refine lv_iload hx hb dX12_far_54 (lv_at hl 1 rfl) ?_
      refine lv_iload hx hb dX12_far_56 (lv_at hl 0 rfl) ?_
      refine lv_icmp_ge (tgt := 66) hx hb dX12_far_58 (by decide) (fun c120 => ?_) (fun c120 => ?_)
      · have zc120 := c120
        replace zc120 := zc_le (rfl) (rfl) zc120
        refine lv_iload hx hb dX12_far_66 (lv_at hl 0 rfl) ?_
        refine lv_iadd hx hb dX12_far_68 ?_
        refine lv_topi (fun v121 ev121 => ?_)
        refine W.widen (k := 0) (n := 0) (by decide) (by decide) ?_
        exact W.iret (v := v121) hx hb hr (fun t9 ht9 hW9 => ⟨⟨v121, (), rfl, trivial, zEnd1 hH ht9 hW9⟩, hS.F ht9⟩) hS.2.2 dX12_far_69
      · have zc120 := c120
        replace zc120 := zc_nle (rfl) (rfl) zc120
        refine lv_iload hx hb dX12_far_61 (lv_at hl 1 rfl) ?_
        refine lv_goto (tgt := 68) hx hb dX12_far_63 (by decide) ?_
        refine lv_iadd hx hb dX12_far_68 ?_
        refine lv_topi (fun v122 ev122 => ?_)
        refine W.widen (k := 0) (n := 0) (by decide) (by decide) ?_
        exact W.iret (v := v122) hx hb hr (fun t9 ht9 hW9 => ⟨⟨v122, (), rfl, trivial, zEnd1 hH ht9 hW9⟩, hS.F ht9⟩) hS.2.2 dX12_far_69
    · have zc115 := c115
      replace zc115 := zc_eq (rfl) ((by decide : (0 : Int32).toInt = 0)) zc115
      refine lv_iload_n hx hb dX12_far_21 rfl (lv_at hl 2 rfl) ?_
      refine lv_iload_n hx hb dX12_far_22 rfl (lv_at hl 4 rfl) ?_
      refine lv_icmp_le (tgt := 32) hx hb dX12_far_23 (by decide) (fun c123 => ?_) (fun c123 => ?_)
      · have zc123 := c123
        replace zc123 := zc_le (rfl) (rfl) zc123
        refine lv_iload_n hx hb dX12_far_32 rfl (lv_at hl 4 rfl) ?_
        refine lv_iload_n hx hb dX12_far_33 rfl (lv_at hl 2 rfl) ?_
        refine lv_isub hx hb dX12_far_34 ?_
        refine lv_topi (fun v124 ev124 => ?_)
        refine W.widen (k := 0) (n := 0) (by decide) (by decide) ?_
        exact W.iret (v := v124) hx hb hr (fun t9 ht9 hW9 => ⟨⟨v124, (), rfl, trivial, zEnd1 hH ht9 hW9⟩, hS.F ht9⟩) hS.2.2 dX12_far_35
      · have zc123 := c123
        replace zc123 := zc_nle (rfl) (rfl) zc123
        refine lv_iload_n hx hb dX12_far_26 rfl (lv_at hl 2 rfl) ?_
        refine lv_iload_n hx hb dX12_far_27 rfl (lv_at hl 4 rfl) ?_
        refine lv_isub hx hb dX12_far_28 ?_
        refine lv_topi (fun v125 ev125 => ?_)
        refine lv_goto (tgt := 35) hx hb dX12_far_29 (by decide) ?_
        refine W.widen (k := 0) (n := 0) (by decide) (by decide) ?_
        exact W.iret (v := v125) hx hb hr (fun t9 ht9 hW9 => ⟨⟨v125, (), rfl, trivial, zEnd1 hH ht9 hW9⟩, hS.F ht9⟩) hS.2.2 dX12_far_35
set_option maxHeartbeats 4000000 in
set_option maxRecDepth 100000 in
/-- between -/
theorem m_between (l : Launch) (hl0 : l.stackTraces = false) (D : va_G) (A : Nat → Prop) (sad : Nat → Nat) (τ : zTy) (fi : zFi) (fr : zFr) (ol : Int64) (hF : zFix τ fr) (p : Nat) (hp10 : p ≤ 10) (n : Nat) (hn3 : n ≤ 30) (hMp : ∀ j, j < p → ∃ t, t < n ∧ fi 71 j = nI t) (a1 b1 : Nat) (ha1 : a1 < p) (hb1 : b1 < p) : Met l yX12_between wsX12_between ({ frames := 1, cells := 0, slots := 0, locals := 26 }) (va_Pc [.ref (τ.1 30), .int (nI a1), .int (nI b1)] (zQc D A sad τ fi fr ol)) (va_Qi (fun (r : Int32) (u : Unit) => True) (fun (u : Unit) (t : State) => zH D A τ fi fr ol t t.heap) A) 0 0 A := by
  refine Met.ofW (cc := cX12_between) (maxL := 3) (ret := (some .int)) (by decide) rfl ?_
  intro p9 e9 s m args below meth c9 s₁ B hml hv
  obtain ⟨rfl, hz, hH, hA⟩ := hv
  have hx := B.exec
  have hb := B.bytes
  have hr := B.returns
  have hts := atoms_spec (ws := wsX12_between) B.pre
  have hown : s.vm.findClass RX12 = some m.cls := findClass_of_methodNamed B.named
  have hlocks := B.notSynchronized
  have hS : va_S A s.heap s.heap [] := va_S.rf
  have hl := lv_entry ([.ref (τ.1 30), .int (nI a1), .int (nI b1)]) (n := 3) (Nat.le_of_ble_eq_true rfl)
  rw [lg_entry_eq]
  generalize (lg_sl ([.ref (τ.1 30), .int (nI a1), .int (nI b1)]) ++ List.replicate (3 - (lg_sl ([.ref (τ.1 30), .int (nI a1), .int (nI b1)])).length) Slot.unset).toArray = ls at hl ⊢
  have hl : lv_has ls 3 [(0, .ref (τ.1 30)), (1, .int (nI a1)), (2, .int (nI b1))] := hl
  obtain ⟨ta1, hta1, gta1⟩ := hMp a1 (by omega)
  obtain ⟨tb1, htb1, gtb1⟩ := hMp b1 (by omega)
  have hiX12 : ∀ w ∈ u_ws RX12 TX12 71, w ∈ wsX12_between := fun _ h => List.mem_cons_of_mem _ (List.mem_append_right _ h)
  have hw1 := hts (.fieldLink RX12 16 "PostHouseModel" "street" "[I") (by decide +kernel)
  have hw2 := hts (.fieldLink RX12 159 "PostHouseModel" "pick" "[I") (by decide +kernel)
  have hw3 := hts (.fieldLink RX12 19 "PostHouseModel" "place" "[I") (by decide +kernel)
  refine lv_aload_n hx hb dX12_between_0 rfl (lv_at hl 0 rfl) ?_
  refine zGetR (D := D) (ci := 12) (C := RX12) (T := TX12) (N := 71) hx hb hts hiX12 hown hH (zk_30 hF) rfl 5 (by decide) rfl hw1 (fun _ h9 => h9) dX12_between_1 (zr_30_5 hF) ?_
  refine lv_aload_n hx hb dX12_between_4 rfl (lv_at hl 0 rfl) ?_
  refine zGetR (D := D) (ci := 12) (C := RX12) (T := TX12) (N := 71) hx hb hts hiX12 hown hH (zk_30 hF) rfl 69 (by decide) rfl hw2 (fun _ h9 => h9) dX12_between_5 (zr_30_69 hF) ?_
  refine lv_iload_n hx hb dX12_between_8 rfl (lv_at hl 1 rfl) ?_
  refine zIaldN (D := D) hx hb hH (zk_71 hF) (zn_71 hF) (by omega) (by omega) gta1 dX12_between_9 ?_
  refine zIaldN (D := D) hx hb hH (zk_33 hF) (zn_33 hF) (by omega) (by omega) rfl dX12_between_10 ?_
  refine lv_aload_n hx hb dX12_between_11 rfl (lv_at hl 0 rfl) ?_
  refine zGetR (D := D) (ci := 12) (C := RX12) (T := TX12) (N := 71) hx hb hts hiX12 hown hH (zk_30 hF) rfl 6 (by decide) rfl hw3 (fun _ h9 => h9) dX12_between_12 (zr_30_6 hF) ?_
  refine lv_aload_n hx hb dX12_between_15 rfl (lv_at hl 0 rfl) ?_
  refine zGetR (D := D) (ci := 12) (C := RX12) (T := TX12) (N := 71) hx hb hts hiX12 hown hH (zk_30 hF) rfl 69 (by decide) rfl hw2 (fun _ h9 => h9) dX12_between_16 (zr_30_69 hF) ?_
  refine lv_iload_n hx hb dX12_between_19 rfl (lv_at hl 1 rfl) ?_
  refine zIaldN (D := D) hx hb hH (zk_71 hF) (zn_71 hF) (by omega) (by omega) gta1 dX12_between_20 ?_
  refine zIaldN (D := D) hx hb hH (zk_34 hF) (zn_34 hF) (by omega) (by omega) rfl dX12_between_21 ?_
  refine lv_aload_n hx hb dX12_between_22 rfl (lv_at hl 0 rfl) ?_
  refine zGetR (D := D) (ci := 12) (C := RX12) (T := TX12) (N := 71) hx hb hts hiX12 hown hH (zk_30 hF) rfl 5 (by decide) rfl hw1 (fun _ h9 => h9) dX12_between_23 (zr_30_5 hF) ?_
  refine lv_aload_n hx hb dX12_between_26 rfl (lv_at hl 0 rfl) ?_
  refine zGetR (D := D) (ci := 12) (C := RX12) (T := TX12) (N := 71) hx hb hts hiX12 hown hH (zk_30 hF) rfl 69 (by decide) rfl hw2 (fun _ h9 => h9) dX12_between_27 (zr_30_69 hF) ?_
  refine lv_iload_n hx hb dX12_between_30 rfl (lv_at hl 2 rfl) ?_
  refine zIaldN (D := D) hx hb hH (zk_71 hF) (zn_71 hF) (by omega) (by omega) gtb1 dX12_between_31 ?_
  refine zIaldN (D := D) hx hb hH (zk_33 hF) (zn_33 hF) (by omega) (by omega) rfl dX12_between_32 ?_
  refine lv_aload_n hx hb dX12_between_33 rfl (lv_at hl 0 rfl) ?_
  refine zGetR (D := D) (ci := 12) (C := RX12) (T := TX12) (N := 71) hx hb hts hiX12 hown hH (zk_30 hF) rfl 6 (by decide) rfl hw3 (fun _ h9 => h9) dX12_between_34 (zr_30_6 hF) ?_
  refine lv_aload_n hx hb dX12_between_37 rfl (lv_at hl 0 rfl) ?_
  refine zGetR (D := D) (ci := 12) (C := RX12) (T := TX12) (N := 71) hx hb hts hiX12 hown hH (zk_30 hF) rfl 69 (by decide) rfl hw2 (fun _ h9 => h9) dX12_between_38 (zr_30_69 hF) ?_
  refine lv_iload_n hx hb dX12_between_41 rfl (lv_at hl 2 rfl) ?_
  refine zIaldN (D := D) hx hb hH (zk_71 hF) (zn_71 hF) (by omega) (by omega) gtb1 dX12_between_42 ?_
  refine zIaldN (D := D) hx hb hH (zk_34 hF) (zn_34 hF) (by omega) (by omega) rfl dX12_between_43 ?_
  refine va_calli (va_runS (As := [.int (fi 33 ta1), .int (fi 34 ta1), .int (fi 33 tb1), .int (fi 34 tb1)]) (rest := []) ⟨hx, hb, hml, hown, hts⟩ (m_far l hl0 D A sad τ fi fr ol (fi 33 ta1) (fi 34 ta1) (fi 33 tb1) (fi 34 tb1)) (cwS 4 hts gX12_between_X12_far rfl rfl rfl (by decide +kernel) ⟨Nat.le_of_ble_eq_true rfl, Nat.le_of_ble_eq_true rfl⟩) ⟨zQc_bl, zQc_at hz hS hA hH⟩ rfl rfl hl.1 rfl (lv_room (Nat.le_of_ble_eq_true rfl)) dX12_between_44 ⟨Nat.le_of_ble_eq_true rfl, Nat.le_of_ble_eq_true rfl⟩) hS (fun q _ h => h) (fun q h => h) (fun r101 u9 t9 H1 locs ht9 hvm9 hw hB hz1 hk1 hS => ?_)
  have hH := zMv ht9 hvm9 hB
  generalize H1 = H at hH hS ⊢
  refine W.widen (k := 0) (n := 0) (by decide) (by decide) ?_
  exact W.iret (v := r101) hx hb hr (fun t9 ht9 hW9 => ⟨⟨r101, (), rfl, trivial, zEnd1 hH ht9 hW9⟩, hS.F ht9⟩) hS.2.2 dX12_between_47
set_option maxHeartbeats 4000000 in
set_option maxRecDepth 100000 in
/-- home -/
theorem m_home (l : Launch) (hl0 : l.stackTraces = false) (D : va_G) (A : Nat → Prop) (sad : Nat → Nat) (τ : zTy) (fi : zFi) (fr : zFr) (ol : Int64) (hF : zFix τ fr) (p : Nat) (hp10 : p ≤ 10) (n : Nat) (hn3 : n ≤ 30) (hMp : ∀ j, j < p → ∃ t, t < n ∧ fi 71 j = nI t) (a1 : Nat) (ha1 : a1 < p) : Met l yX12_home wsX12_home ({ frames := 1, cells := 0, slots := 0, locals := 26 }) (va_Pc [.ref (τ.1 30), .int (nI a1)] (zQc D A sad τ fi fr ol)) (va_Qi (fun (r : Int32) (u : Unit) => True) (fun (u : Unit) (t : State) => zH D A τ fi fr ol t t.heap) A) 0 0 A := by
  refine Met.ofW (cc := cX12_home) (maxL := 2) (ret := (some .int)) (by decide) rfl ?_
  intro p9 e9 s m args below meth c9 s₁ B hml hv
  obtain ⟨rfl, hz, hH, hA⟩ := hv
  have hx := B.exec
  have hb := B.bytes
  have hr := B.returns
  have hts := atoms_spec (ws := wsX12_home) B.pre
  have hown : s.vm.findClass RX12 = some m.cls := findClass_of_methodNamed B.named
  have hlocks := B.notSynchronized
  have hS : va_S A s.heap s.heap [] := va_S.rf
  have hl := lv_entry ([.ref (τ.1 30), .int (nI a1)]) (n := 2) (Nat.le_of_ble_eq_true rfl)
  rw [lg_entry_eq]
  generalize (lg_sl ([.ref (τ.1 30), .int (nI a1)]) ++ List.replicate (2 - (lg_sl ([.ref (τ.1 30), .int (nI a1)])).length) Slot.unset).toArray = ls at hl ⊢
  have hl : lv_has ls 2 [(0, .ref (τ.1 30)), (1, .int (nI a1))] := hl
  obtain ⟨ta1, hta1, gta1⟩ := hMp a1 (by omega)
  have hiX12 : ∀ w ∈ u_ws RX12 TX12 71, w ∈ wsX12_home := fun _ h => List.mem_cons_of_mem _ (List.mem_append_right _ h)
  have hw1 := hts (.fieldLink RX12 16 "PostHouseModel" "street" "[I") (by decide +kernel)
  have hw2 := hts (.fieldLink RX12 159 "PostHouseModel" "pick" "[I") (by decide +kernel)
  have hw3 := hts (.fieldLink RX12 19 "PostHouseModel" "place" "[I") (by decide +kernel)
  refine lv_iconst (v := nI 0) hx hb dX12_home_0 (by decide) ?_
  refine lv_iconst (v := nI 0) hx hb dX12_home_1 (by decide) ?_
  refine lv_aload_n hx hb dX12_home_2 rfl (lv_at hl 0 rfl) ?_
  refine zGetR (D := D) (ci := 12) (C := RX12) (T := TX12) (N := 71) hx hb hts hiX12 hown hH (zk_30 hF) rfl 5 (by decide) rfl hw1 (fun _ h9 => h9) dX12_home_3 (zr_30_5 hF) ?_
  refine lv_aload_n hx hb dX12_home_6 rfl (lv_at hl 0 rfl) ?_
  refine zGetR (D := D) (ci := 12) (C := RX12) (T := TX12) (N := 71) hx hb hts hiX12 hown hH (zk_30 hF) rfl 69 (by decide) rfl hw2 (fun _ h9 => h9) dX12_home_7 (zr_30_69 hF) ?_
  refine lv_iload_n hx hb dX12_home_10 rfl (lv_at hl 1 rfl) ?_
  refine zIaldN (D := D) hx hb hH (zk_71 hF) (zn_71 hF) (by omega) (by omega) gta1 dX12_home_11 ?_
  refine zIaldN (D := D) hx hb hH (zk_33 hF) (zn_33 hF) (by omega) (by omega) rfl dX12_home_12 ?_
  refine lv_aload_n hx hb dX12_home_13 rfl (lv_at hl 0 rfl) ?_
  refine zGetR (D := D) (ci := 12) (C := RX12) (T := TX12) (N := 71) hx hb hts hiX12 hown hH (zk_30 hF) rfl 6 (by decide) rfl hw3 (fun _ h9 => h9) dX12_home_14 (zr_30_6 hF) ?_
  refine lv_aload_n hx hb dX12_home_17 rfl (lv_at hl 0 rfl) ?_
  refine zGetR (D := D) (ci := 12) (C := RX12) (T := TX12) (N := 71) hx hb hts hiX12 hown hH (zk_30 hF) rfl 69 (by decide) rfl hw2 (fun _ h9 => h9) dX12_home_18 (zr_30_69 hF) ?_
  refine lv_iload_n hx hb dX12_home_21 rfl (lv_at hl 1 rfl) ?_
  refine zIaldN (D := D) hx hb hH (zk_71 hF) (zn_71 hF) (by omega) (by omega) gta1 dX12_home_22 ?_
  refine zIaldN (D := D) hx hb hH (zk_34 hF) (zn_34 hF) (by omega) (by omega) rfl dX12_home_23 ?_
  refine va_calli (va_runS (As := [.int (nI 0), .int (nI 0), .int (fi 33 ta1), .int (fi 34 ta1)]) (rest := []) ⟨hx, hb, hml, hown, hts⟩ (m_far l hl0 D A sad τ fi fr ol (nI 0) (nI 0) (fi 33 ta1) (fi 34 ta1)) (cwS 4 hts gX12_home_X12_far rfl rfl rfl (by decide +kernel) ⟨Nat.le_of_ble_eq_true rfl, Nat.le_of_ble_eq_true rfl⟩) ⟨zQc_bl, zQc_at hz hS hA hH⟩ rfl rfl hl.1 rfl (lv_room (Nat.le_of_ble_eq_true rfl)) dX12_home_24 ⟨Nat.le_of_ble_eq_true rfl, Nat.le_of_ble_eq_true rfl⟩) hS (fun q _ h => h) (fun q h => h) (fun r101 u9 t9 H1 locs ht9 hvm9 hw hB hz1 hk1 hS => ?_)
  have hH := zMv ht9 hvm9 hB
  generalize H1 = H at hH hS ⊢
  refine W.widen (k := 0) (n := 0) (by decide) (by decide) ?_
  exact W.iret (v := r101) hx hb hr (fun t9 ht9 hW9 => ⟨⟨r101, (), rfl, trivial, zEnd1 hH ht9 hW9⟩, hS.F ht9⟩) hS.2.2 dX12_home_27
