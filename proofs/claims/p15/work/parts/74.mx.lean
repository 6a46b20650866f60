/-- of the reference's prices that hold on a day the one told last -/
def zMonM (fi : zFi) (t k : Nat) (x r : Int32) : Prop := (∃ j, j < k ∧ ((fi 38 (4 * t + j)).toInt ≤ x.toInt ∧ x.toInt ≤ (fi 39 (4 * t + j)).toInt) ∧ (∀ i, j < i → i < k → ¬ ((fi 38 (4 * t + i)).toInt ≤ x.toInt ∧ x.toInt ≤ (fi 39 (4 * t + i)).toInt)) ∧ r = fi 37 (4 * t + j)) ∨ ((∀ j, j < k → ¬ ((fi 38 (4 * t + j)).toInt ≤ x.toInt ∧ x.toInt ≤ (fi 39 (4 * t + j)).toInt)) ∧ r = -1)
theorem zMonM.y {fi : zFi} {t m : Nat} {x : Int32} (h : (fi 38 (4 * t + m)).toInt ≤ x.toInt ∧ x.toInt ≤ (fi 39 (4 * t + m)).toInt) : zMonM fi t (m + 1) x (fi 37 (4 * t + m)) := Or.inl ⟨m, by omega, h, fun i a b => absurd b (by omega), rfl⟩
theorem zMonM.n {fi : zFi} {t m : Nat} {x r : Int32} (h : zMonM fi t m x r) (hn : ¬ ((fi 38 (4 * t + m)).toInt ≤ x.toInt ∧ x.toInt ≤ (fi 39 (4 * t + m)).toInt)) : zMonM fi t (m + 1) x r := by
  rcases h with ⟨j, a, b, c, d⟩ | ⟨a, b⟩
  · exact Or.inl ⟨j, by omega, b, fun i p q => by by_cases e : i = m; (subst e; exact hn); exact c i p (by omega), d⟩
  · exact Or.inr ⟨fun j p => by by_cases e : j = m; (subst e; exact hn); exact a j (by omega), b⟩
theorem zMonM.z {fi : zFi} {t : Nat} {x : Int32} : zMonM fi t 0 x (-1) := Or.inr ⟨fun j h => absurd h (by omega), rfl⟩
set_option maxHeartbeats 4000000 in
set_option maxRecDepth 100000 in
/-- cost -/
theorem m_costX (l : Launch) (hl0 : l.stackTraces = false) (D : va_G) (A : Nat → Prop) (sad : Nat → Nat) (τ : zTy) (fi : zFi) (fr : zFr) (ol : Int64) (y : Int32) (hF : zFix τ fr) (t k0 : Nat) (ht : t < 30) (hk0 : fi 36 t = nI k0) (hk4 : k0 ≤ 4) : Met l yX12_cost wsX12_cost ({ frames := 0, cells := 0, slots := 0, locals := 0 }) (va_Pc [.ref (τ.1 30), .int (nI t), .int y] (zQc D A sad τ fi fr ol)) (va_Qi (fun (r : Int32) (u : Unit) => zMonM fi t k0 y r) (fun (u : Unit) (t : State) => zH D A τ fi fr ol t t.heap) A) 0 0 A := by
  refine Met.ofW (cc := cX12_cost) (maxL := 5) (ret := (some .int)) (by decide) rfl ?_
  intro p9 e9 s m args below meth c9 s₁ B hml hv
  obtain ⟨rfl, hz, hH, hA⟩ := hv
  have hx := B.exec
  have hb := B.bytes
  have hr := B.returns
  have hts := atoms_spec (ws := wsX12_cost) B.pre
  have hown : s.vm.findClass RX12 = some m.cls := findClass_of_methodNamed B.named
  have hlocks := B.notSynchronized
  have hS : va_S A s.heap s.heap [] := va_S.rf
  have hl := lv_entry ([.ref (τ.1 30), .int (nI t), .int y]) (n := 5) (Nat.le_of_ble_eq_true rfl)
  rw [lg_entry_eq]
  generalize (lg_sl ([.ref (τ.1 30), .int (nI t), .int y]) ++ List.replicate (5 - (lg_sl ([.ref (τ.1 30), .int (nI t), .int y])).length) Slot.unset).toArray = ls at hl ⊢
  have hl : lv_has ls 5 [(0, .ref (τ.1 30)), (1, .int (nI t)), (2, .int y)] := hl
  have hiX12 : ∀ w ∈ u_ws RX12 TX12 71, w ∈ wsX12_cost := fun _ h => List.mem_cons_of_mem _ (List.mem_append_right _ h)
  have hw1 := hts (.fieldLink RX12 25 "PostHouseModel" "prices" "[I") (by decide +kernel)
  have hw2 := hts (.fieldLink RX12 31 "PostHouseModel" "priceFrom" "[I") (by decide +kernel)
  have hw3 := hts (.fieldLink RX12 34 "PostHouseModel" "priceTo" "[I") (by decide +kernel)
  have hw4 := hts (.fieldLink RX12 28 "PostHouseModel" "priceMoney" "[I") (by decide +kernel)
  refine lv_iconst (v := (-1)) hx hb dX12_cost_0 (by decide) ?_
  refine lv_istore_n (lv' := [(3, .int ((-1))), (0, .ref (τ.1 30)), (1, .int (nI t)), (2, .int y)]) hx hb dX12_cost_1 rfl hl (by decide) rfl (fun ls hl => ?_)
  refine lv_iconst (v := nI 4) hx hb dX12_cost_2 (by decide) ?_
  refine lv_iload_n hx hb dX12_cost_3 rfl (lv_at hl 2 rfl) ?_
  refine lv_imul hx hb dX12_cost_4 ?_
  refine lv_topi (fun v101 ev101 => ?_)
  obtain rfl : v101 = nI (4 * t) := ev101.trans (pk_mul _ _)
  refine lv_istore (lv' := [(4, .int (nI (4 * t))), (3, .int ((-1))), (0, .ref (τ.1 30)), (1, .int (nI t)), (2, .int y)]) hx hb dX12_cost_5 hl (by decide) rfl (fun ls hl => ?_)
  refine zLp (σ := Nat × Int32) (fun x9 k9 H locs ls => (fun (m9 : Nat) (v : Int32) => k9 = k0 - m9 ∧ (m9 ≤ k0 ∧ zMonM fi t m9 y v) ∧ zH D A τ fi fr ol s H ∧ va_S A s.heap H locs ∧ lv_has ls 5 [(0, .ref (τ.1 30)), (1, .int (nI t)), (2, .int y), (3, .int v), (4, .int (nI (4 * t + m9)))]) x9.1 x9.2) (0, (-1)) (k0 - 0) (show k0 - 0 = k0 - 0 ∧ (0 ≤ k0 ∧ zMonM fi t 0 y ((-1))) ∧ zH D A τ fi fr ol s _ ∧ va_S A s.heap _ _ ∧ lv_has _ 5 [(0, .ref (τ.1 30)), (1, .int (nI t)), (2, .int y), (3, .int ((-1))), (4, .int (nI (4 * t + 0)))] from ⟨rfl, ⟨Nat.zero_le _, zMonM.z⟩, hH, hS, lv_sub hl [2, 3, 4, 1, 0] rfl⟩) (fun k9 ih x9 H locs ls hv9 => ?_)
  obtain ⟨m9, v⟩ := x9
  have hv9 : k9 = k0 - m9 ∧ (m9 ≤ k0 ∧ zMonM fi t m9 y v) ∧ zH D A τ fi fr ol s H ∧ va_S A s.heap H locs ∧ lv_has ls 5 [(0, .ref (τ.1 30)), (1, .int (nI t)), (2, .int y), (3, .int v), (4, .int (nI (4 * t + m9)))] := hv9
  obtain ⟨hkih102, hv9, hH, hS, hl⟩ := hv9
  obtain ⟨h1, hmm⟩ := hv9
  have ih102 := ih
  clear ih
  refine lv_iload hx hb dX12_cost_7 (lv_at hl 4 rfl) ?_
  refine lv_iconst (v := nI 4) hx hb dX12_cost_9 (by decide) ?_
  refine lv_iload_n hx hb dX12_cost_10 rfl (lv_at hl 1 rfl) ?_
  refine lv_imul hx hb dX12_cost_11 ?_
  refine lv_topi (fun v103 ev103 => ?_)
  obtain rfl : v103 = nI (4 * t) := ev103.trans (pk_mul _ _)
  refine lv_aload_n hx hb dX12_cost_12 rfl (lv_at hl 0 rfl) ?_
  refine zGetR (D := D) (ci := 12) (C := RX12) (T := TX12) (N := 71) hx hb hts hiX12 hown hH (zk_30 hF) rfl 8 (by decide) rfl hw1 (fun _ h9 => h9) dX12_cost_13 (zr_30_8 hF) ?_
  refine lv_iload_n hx hb dX12_cost_16 rfl (lv_at hl 1 rfl) ?_
  refine zIaldN (D := D) hx hb hH (zk_36 hF) (zn_36 hF) (by omega) (by omega) hk0 dX12_cost_17 ?_
  refine lv_iadd hx hb dX12_cost_18 ?_
  refine lv_topi (fun v104 ev104 => ?_)
  obtain rfl : v104 = nI (4 * t + k0) := ev104.trans (nI_add _ _)
  refine lv_icmp_ge (tgt := 58) hx hb dX12_cost_19 (by decide) (fun c105 => ?_) (fun c105 => ?_)
  · have zc105 := c105
    replace zc105 := zc_le (nI_toInt (by omega)) (nI_toInt (by omega)) zc105
    refine lv_iload_n hx hb dX12_cost_58 rfl (lv_at hl 3 rfl) ?_
    refine W.widen (k := 0) (n := 0) (by decide) (by decide) ?_
    exact W.iret (v := v) hx hb hr (fun t9 ht9 hW9 => ⟨⟨v, (), rfl, by rw [show k0 = m9 by omega]; exact hmm, zEnd1 hH ht9 hW9⟩, hS.F ht9⟩) hS.2.2 dX12_cost_59
  · have zc105 := c105
    replace zc105 := zc_nle (nI_toInt (by omega)) (nI_toInt (by omega)) zc105
    refine lv_iload_n hx hb dX12_cost_22 rfl (lv_at hl 2 rfl) ?_
    refine lv_aload_n hx hb dX12_cost_23 rfl (lv_at hl 0 rfl) ?_
    refine zGetR (D := D) (ci := 12) (C := RX12) (T := TX12) (N := 71) hx hb hts hiX12 hown hH (zk_30 hF) rfl 10 (by decide) rfl hw2 (fun _ h9 => h9) dX12_cost_24 (zr_30_10 hF) ?_
    refine lv_iload hx hb dX12_cost_27 (lv_at hl 4 rfl) ?_
    refine zIaldN (D := D) hx hb hH (zk_38 hF) (zn_38 hF) (by omega) (by omega) rfl dX12_cost_29 ?_
    refine lv_icmp_lt (tgt := 52) hx hb dX12_cost_30 (by decide) (fun c106 => ?_) (fun c106 => ?_)
    · have zc106 := c106
      replace zc106 := zc_lt (rfl) (rfl) zc106
      refine lv_iinc (v := nI (4 * t + m9 + 1)) (lv' := [(4, .int (nI (4 * t + m9 + 1))), (0, .ref (τ.1 30)), (1, .int (nI t)), (2, .int y), (3, .int v)]) hx hb dX12_cost_52 hl (k := 4) rfl (by rw [show (Int32.ofInt 1 : Int32) = nI 1 from by decide, nI_add]) (by decide) rfl (fun ls hl => ?_)
      refine lv_goto (tgt := 7) hx hb dX12_cost_55 (by decide) ?_
      exact ih102 (k0 - (m9 + 1)) (by omega) (m9 + 1, v) _ _ _ (show k0 - (m9 + 1) = k0 - (m9 + 1) ∧ ((m9 + 1) ≤ k0 ∧ zMonM fi t (m9 + 1) y v) ∧ zH D A τ fi fr ol s _ ∧ va_S A s.heap _ _ ∧ lv_has _ 5 [(0, .ref (τ.1 30)), (1, .int (nI t)), (2, .int y), (3, .int v), (4, .int (nI (4 * t + (m9 + 1))))] from ⟨rfl, ⟨by omega, hmm.n (fun h9 => by have h91 := h9.1; have h92 := h9.2; omega)⟩, hH, hS, lv_sub hl [1, 2, 3, 4, 0] rfl⟩)
    · have zc106 := c106
      replace zc106 := zc_nlt (rfl) (rfl) zc106
      refine lv_iload_n hx hb dX12_cost_33 rfl (lv_at hl 2 rfl) ?_
      refine lv_aload_n hx hb dX12_cost_34 rfl (lv_at hl 0 rfl) ?_
      refine zGetR (D := D) (ci := 12) (C := RX12) (T := TX12) (N := 71) hx hb hts hiX12 hown hH (zk_30 hF) rfl 11 (by decide) rfl hw3 (fun _ h9 => h9) dX12_cost_35 (zr_30_11 hF) ?_
      refine lv_iload hx hb dX12_cost_38 (lv_at hl 4 rfl) ?_
      refine zIaldN (D := D) hx hb hH (zk_39 hF) (zn_39 hF) (by omega) (by omega) rfl dX12_cost_40 ?_
      refine lv_icmp_gt (tgt := 52) hx hb dX12_cost_41 (by decide) (fun c107 => ?_) (fun c107 => ?_)
      · have zc107 := c107
        replace zc107 := zc_lt (rfl) (rfl) zc107
        refine lv_iinc (v := nI (4 * t + m9 + 1)) (lv' := [(4, .int (nI (4 * t + m9 + 1))), (0, .ref (τ.1 30)), (1, .int (nI t)), (2, .int y), (3, .int v)]) hx hb dX12_cost_52 hl (k := 4) rfl (by rw [show (Int32.ofInt 1 : Int32) = nI 1 from by decide, nI_add]) (by decide) rfl (fun ls hl => ?_)
        refine lv_goto (tgt := 7) hx hb dX12_cost_55 (by decide) ?_
        exact ih102 (k0 - (m9 + 1)) (by omega) (m9 + 1, v) _ _ _ (show k0 - (m9 + 1) = k0 - (m9 + 1) ∧ ((m9 + 1) ≤ k0 ∧ zMonM fi t (m9 + 1) y v) ∧ zH D A τ fi fr ol s _ ∧ va_S A s.heap _ _ ∧ lv_has _ 5 [(0, .ref (τ.1 30)), (1, .int (nI t)), (2, .int y), (3, .int v), (4, .int (nI (4 * t + (m9 + 1))))] from ⟨rfl, ⟨by omega, hmm.n (fun h9 => by have h91 := h9.1; have h92 := h9.2; omega)⟩, hH, hS, lv_sub hl [1, 2, 3, 4, 0] rfl⟩)
      · have zc107 := c107
        replace zc107 := zc_nlt (rfl) (rfl) zc107
        refine lv_aload_n hx hb dX12_cost_44 rfl (lv_at hl 0 rfl) ?_
        refine zGetR (D := D) (ci := 12) (C := RX12) (T := TX12) (N := 71) hx hb hts hiX12 hown hH (zk_30 hF) rfl 9 (by decide) rfl hw4 (fun _ h9 => h9) dX12_cost_45 (zr_30_9 hF) ?_
        refine lv_iload hx hb dX12_cost_48 (lv_at hl 4 rfl) ?_
        refine zIaldN (D := D) hx hb hH (zk_37 hF) (zn_37 hF) (by omega) (by omega) rfl dX12_cost_50 ?_
        refine lv_istore_n (lv' := [(3, .int (fi 37 (4 * t + m9))), (0, .ref (τ.1 30)), (1, .int (nI t)), (2, .int y), (4, .int (nI (4 * t + m9)))]) hx hb dX12_cost_51 rfl hl (by decide) rfl (fun ls hl => ?_)
        refine lv_iinc (v := nI (4 * t + m9 + 1)) (lv' := [(4, .int (nI (4 * t + m9 + 1))), (3, .int (fi 37 (4 * t + m9))), (0, .ref (τ.1 30)), (1, .int (nI t)), (2, .int y)]) hx hb dX12_cost_52 hl (k := 4) rfl (by rw [show (Int32.ofInt 1 : Int32) = nI 1 from by decide, nI_add]) (by decide) rfl (fun ls hl => ?_)
        refine lv_goto (tgt := 7) hx hb dX12_cost_55 (by decide) ?_
        exact ih102 (k0 - (m9 + 1)) (by omega) (m9 + 1, fi 37 (4 * t + m9)) _ _ _ (show k0 - (m9 + 1) = k0 - (m9 + 1) ∧ ((m9 + 1) ≤ k0 ∧ zMonM fi t (m9 + 1) y (fi 37 (4 * t + m9))) ∧ zH D A τ fi fr ol s _ ∧ va_S A s.heap _ _ ∧ lv_has _ 5 [(0, .ref (τ.1 30)), (1, .int (nI t)), (2, .int y), (3, .int (fi 37 (4 * t + m9))), (4, .int (nI (4 * t + (m9 + 1))))] from ⟨rfl, ⟨by omega, zMonM.y ⟨by omega, by omega⟩⟩, hH, hS, lv_sub hl [2, 3, 4, 1, 0] rfl⟩)
theorem zMonM.cg {fi fi' : zFi} {t k : Nat} {x r : Int32} (h : zMonM fi' t k x r) (hf : ∀ i j, i = 37 ∨ i = 38 ∨ i = 39 → fi' i j = fi i j) : zMonM fi t k x r := by
  rcases h with ⟨j, a, b, c, d⟩ | ⟨a, b⟩
  · rw [hf 38 _ (by omega), hf 39 _ (by omega)] at b
    refine Or.inl ⟨j, a, b, fun i p q => ?_, by rw [d]; exact hf _ _ (by omega)⟩
    have h9 := c i p q
    rw [hf 38 _ (by omega), hf 39 _ (by omega)] at h9
    exact h9
  · refine Or.inr ⟨fun j p => ?_, b⟩
    have h9 := a j p
    rw [hf 38 _ (by omega), hf 39 _ (by omega)] at h9
    exact h9
theorem zMonM.cg0 {fi : zFi} {t k b : Nat} {v x r : Int32} (h : zMonM (zu fi 30 b v) t k x r) : zMonM fi t k x r := h.cg (fun i j q => zu_n (by omega))
set_option maxHeartbeats 4000000 in
set_option maxRecDepth 100000 in
/-- costs -/
theorem m_costsX (l : Launch) (hl0 : l.stackTraces = false) (D : va_G) (A : Nat → Prop) (sad : Nat → Nat) (τ : zTy) (fi : zFi) (fr : zFr) (ol : Int64) (x y : Int32) (hF : zFix τ fr) (n : Nat) (hMt : zMt fi n) : Met l yX12_costs wsX12_costs ({ frames := 1, cells := 0, slots := 0, locals := 24 }) (va_Pc [.ref (τ.1 30), .int x, .int y] (zQc D A sad τ fi fr ol)) (va_Qi (fun (r : Int32) (u : zFi) => (∃ t k, t < n ∧ x = nI t ∧ fi 36 t = nI k ∧ k ≤ 4 ∧ zMonM fi t k y r ∧ u = zu fi 30 0 (nI 0)) ∨ (¬ (0 ≤ x.toInt ∧ x.toInt < (n : Int)) ∧ r = nI 0 ∧ u = zu fi 30 0 (nI 1))) (fun (u : zFi) (t : State) => zH D A τ u fr ol t t.heap) A) 0 0 A := by
  refine Met.ofW (cc := cX12_costs) (maxL := 3) (ret := (some .int)) (by decide) rfl ?_
  intro p9 e9 s m args below meth c9 s₁ B hml hv
  obtain ⟨rfl, hz, hH, hA⟩ := hv
  have hx := B.exec
  have hb := B.bytes
  have hr := B.returns
  have hts := atoms_spec (ws := wsX12_costs) B.pre
  have hown : s.vm.findClass RX12 = some m.cls := findClass_of_methodNamed B.named
  have hlocks := B.notSynchronized
  have hS : va_S A s.heap s.heap [] := va_S.rf
  have hl := lv_entry ([.ref (τ.1 30), .int x, .int y]) (n := 3) (Nat.le_of_ble_eq_true rfl)
  rw [lg_entry_eq]
  generalize (lg_sl ([.ref (τ.1 30), .int x, .int y]) ++ List.replicate (3 - (lg_sl ([.ref (τ.1 30), .int x, .int y])).length) Slot.unset).toArray = ls at hl ⊢
  have hl : lv_has ls 3 [(0, .ref (τ.1 30)), (1, .int x), (2, .int y)] := hl
  have hm30 := hMt.1
  have hw0 := hts (.fieldLink RX12 165 "PostHouseModel" "thrown" "I") (by decide +kernel)
  have hiX12 : ∀ w ∈ u_ws RX12 TX12 71, w ∈ wsX12_costs := fun _ h => List.mem_cons_of_mem _ (List.mem_append_right _ h)
  refine lv_aload_n hx hb dX12_costs_0 rfl (lv_at hl 0 rfl) ?_
  refine lv_aload_n hx hb dX12_costs_1 rfl (lv_at hl 0 rfl) ?_
  refine lv_iload_n hx hb dX12_costs_2 rfl (lv_at hl 1 rfl) ?_
  refine va_calli (va_runV (As := [.int x]) (rest := [.ref (τ.1 30)]) ⟨hx, hb, hml, hown, hts⟩ (m_isThing l hl0 D A sad τ fi fr ol x n hF hMt.2.1 (by omega)) (cwV 1 hts gX12_costs_X12_isThing rfl rfl rfl (by decide +kernel) ⟨Nat.le_of_ble_eq_true rfl, Nat.le_of_ble_eq_true rfl⟩) ⟨zQc_bl, zRecv hH (zk_30 hF) rfl, zQc_at hz hS hA hH⟩ rfl rfl hl.1 rfl (lv_room (Nat.le_of_ble_eq_true rfl)) dX12_costs_3 ⟨Nat.le_of_ble_eq_true rfl, Nat.le_of_ble_eq_true rfl⟩) hS (fun q _ h => h) (fun q h => h) (fun r101 u9 t9 H1 locs ht9 hvm9 hw hB hz1 hk1 hS => ?_)
  have hH := zMv ht9 hvm9 hB
  generalize H1 = H at hH hS ⊢
  rcases hw with ⟨t, ht, rfl, rfl⟩ | ⟨hno, rfl⟩
  · skip
    refine lv_if_ne (tgt := 13) hx hb dX12_costs_6 (by decide) (fun c102 => ?_) (fun c102 => absurd c102 (by decide))
    refine lv_iconst (v := nI 0) hx hb dX12_costs_13 (by decide) ?_
    refine zPutI (D := D) (ci := 12) (ty := .int) (C := RX12) (T := TX12) (N := 71) hx hb hts hiX12 tyX12 tyX12_ok nmX12 hown hH hS (zk_30 hF) rfl 0 (by decide) rfl hw0 (fun _ h9 => h9) rfl (by decide +kernel) rfl rfl dX12_costs_14 (fun H locs hH hS => ?_)
    obtain ⟨f103, ef103⟩ : ∃ f9 : zFi, f9 = zu fi 30 0 (nI 0) := ⟨_, rfl⟩
    rw [← ef103] at hH
    have q104 : f103 30 2 = nI n := by rw [ef103, zu_n (fun h9 => absurd h9.2 (by decide))]; exact hMt.2.1
    have q105 : f103 30 0 = nI 0 := by rw [ef103]; exact zu_s
    have hMt := zMt.ci (fi' := f103) hMt (fun i9 k9 h9 => by rw [ef103]; exact zu_n (by omega))
    refine lv_aload_n hx hb dX12_costs_17 rfl (lv_at hl 0 rfl) ?_
    refine zGetI (D := D) (ci := 12) (C := RX12) (T := TX12) (N := 71) hx hb hts hiX12 hown hH (zk_30 hF) rfl 0 (by decide) rfl hw0 (fun _ h9 => h9) dX12_costs_18 q105 ?_
    refine lv_if_le (tgt := 28) hx hb dX12_costs_21 (by decide) (fun c106 => ?_) (fun c106 => absurd (by decide) c106)
    refine lv_aload_n hx hb dX12_costs_28 rfl (lv_at hl 0 rfl) ?_
    refine lv_iload_n hx hb dX12_costs_29 rfl (lv_at hl 1 rfl) ?_
    refine lv_iload_n hx hb dX12_costs_30 rfl (lv_at hl 2 rfl) ?_
    obtain ⟨k107, h4k107, h0k107⟩ := hMt.2.2 t (by omega)
    refine va_calli (va_runV (As := [.int (nI t), .int y]) (rest := []) ⟨hx, hb, hml, hown, hts⟩ (m_costX l hl0 D A sad τ f103 fr ol y hF t k107 (by omega) h0k107 h4k107) (cwV 2 hts gX12_costs_X12_cost rfl rfl rfl (by decide +kernel) ⟨Nat.le_of_ble_eq_true rfl, Nat.le_of_ble_eq_true rfl⟩) ⟨zQc_bl, zRecv hH (zk_30 hF) rfl, zQc_at hz hS hA hH⟩ rfl rfl hl.1 rfl (lv_room (Nat.le_of_ble_eq_true rfl)) dX12_costs_31 ⟨Nat.le_of_ble_eq_true rfl, Nat.le_of_ble_eq_true rfl⟩) hS (fun q _ h => h) (fun q h => h) (fun r108 u9 t9 H1 locs ht9 hvm9 hw hB hz1 hk1 hS => ?_)
    have hH := zMv ht9 hvm9 hB
    generalize H1 = H at hH hS ⊢
    have hmon := hw
    clear hw
    refine W.widen (k := 0) (n := 0) (by decide) (by decide) ?_
    exact W.iret (v := r108) hx hb hr (fun t9 ht9 hW9 => ⟨⟨r108, f103, rfl, Or.inl ⟨t, k107, ht, rfl, by rw [← h0k107, ef103, zu_n (by omega)], h4k107, by rw [ef103] at hmon; exact zMonM.cg0 hmon, by rw [ef103]⟩, zEnd1 hH ht9 hW9⟩, hS.F ht9⟩) hS.2.2 dX12_costs_34
  · skip
    refine lv_if_ne (tgt := 13) hx hb dX12_costs_6 (by decide) (fun c109 => absurd (by decide) c109) (fun c109 => ?_)
    refine lv_iconst (v := nI 1) hx hb dX12_costs_9 (by decide) ?_
    refine lv_goto (tgt := 14) hx hb dX12_costs_10 (by decide) ?_
    refine zPutI (D := D) (ci := 12) (ty := .int) (C := RX12) (T := TX12) (N := 71) hx hb hts hiX12 tyX12 tyX12_ok nmX12 hown hH hS (zk_30 hF) rfl 0 (by decide) rfl hw0 (fun _ h9 => h9) rfl (by decide +kernel) rfl rfl dX12_costs_14 (fun H locs hH hS => ?_)
    obtain ⟨f110, ef110⟩ : ∃ f9 : zFi, f9 = zu fi 30 0 (nI 1) := ⟨_, rfl⟩
    rw [← ef110] at hH
    have q111 : f110 30 2 = nI n := by rw [ef110, zu_n (fun h9 => absurd h9.2 (by decide))]; exact hMt.2.1
    have q112 : f110 30 0 = nI 1 := by rw [ef110]; exact zu_s
    have hMt := zMt.ci (fi' := f110) hMt (fun i9 k9 h9 => by rw [ef110]; exact zu_n (by omega))
    refine lv_aload_n hx hb dX12_costs_17 rfl (lv_at hl 0 rfl) ?_
    refine zGetI (D := D) (ci := 12) (C := RX12) (T := TX12) (N := 71) hx hb hts hiX12 hown hH (zk_30 hF) rfl 0 (by decide) rfl hw0 (fun _ h9 => h9) dX12_costs_18 q112 ?_
    refine lv_if_le (tgt := 28) hx hb dX12_costs_21 (by decide) (fun c113 => absurd c113 (by decide)) (fun c113 => ?_)
    refine lv_iconst (v := nI 0) hx hb dX12_costs_24 (by decide) ?_
    refine lv_goto (tgt := 34) hx hb dX12_costs_25 (by decide) ?_
    refine W.widen (k := 0) (n := 0) (by decide) (by decide) ?_
    exact W.iret (v := nI 0) hx hb hr (fun t9 ht9 hW9 => ⟨⟨nI 0, f110, rfl, Or.inr ⟨hno, rfl, by rw [ef110]⟩, zEnd1 hH ht9 hW9⟩, hS.F ht9⟩) hS.2.2 dX12_costs_34
set_option maxHeartbeats 4000000 in
set_option maxRecDepth 100000 in
/-- price -/
theorem m_priceX (l : Launch) (hl0 : l.stackTraces = false) (D : va_G) (A : Nat → Prop) (sad : Nat → Nat) (τ : zTy) (fi : zFi) (fr : zFr) (ol : Int64) (x y z w : Int32) (hF : zFix τ fr) (n : Nat) (hMt : zMt fi n) : Met l yX12_price wsX12_price ({ frames := 1, cells := 0, slots := 0, locals := 22 }) (va_Pc [.ref (τ.1 30), .int x, .int y, .int z, .int w] (zQc D A sad τ fi fr ol)) (va_Qi (fun (r : Int32) (u : zFi) => (∃ t k, t < n ∧ x = nI t ∧ (1 ≤ y.toInt ∧ y.toInt ≤ 10000 ∧ 0 ≤ z.toInt ∧ z.toInt ≤ 999 ∧ z.toInt ≤ w.toInt ∧ w.toInt ≤ 999) ∧ fi 36 t = nI k ∧ k < 4 ∧ r = nI (k + 1) ∧ u = zu (zu (zu (zu (zu fi 30 0 (nI 0)) 37 (4 * t + k) y) 38 (4 * t + k) z) 39 (4 * t + k) w) 36 t (nI (k + 1))) ∨ (¬ (0 ≤ x.toInt ∧ x.toInt < (n : Int)) ∧ r = nI 0 ∧ u = zu fi 30 0 (nI 1)) ∨ ((∃ t, t < n ∧ x = nI t) ∧ ¬ (1 ≤ y.toInt ∧ y.toInt ≤ 10000 ∧ 0 ≤ z.toInt ∧ z.toInt ≤ 999 ∧ z.toInt ≤ w.toInt ∧ w.toInt ≤ 999) ∧ r = nI 0 ∧ u = zu fi 30 0 (nI 2)) ∨ (∃ t, t < n ∧ x = nI t ∧ (1 ≤ y.toInt ∧ y.toInt ≤ 10000 ∧ 0 ≤ z.toInt ∧ z.toInt ≤ 999 ∧ z.toInt ≤ w.toInt ∧ w.toInt ≤ 999) ∧ fi 36 t = nI 4 ∧ r = nI 0 ∧ u = zu fi 30 0 (nI 3))) (fun (u : zFi) (t : State) => zH D A τ u fr ol t t.heap) A) 0 0 A := by
  refine Met.ofW (cc := cX12_price) (maxL := 7) (ret := (some .int)) (by decide) rfl ?_
  intro p9 e9 s m args below meth c9 s₁ B hml hv
  obtain ⟨rfl, hz, hH, hA⟩ := hv
  have hx := B.exec
  have hb := B.bytes
  have hr := B.returns
  have hts := atoms_spec (ws := wsX12_price) B.pre
  have hown : s.vm.findClass RX12 = some m.cls := findClass_of_methodNamed B.named
  have hlocks := B.notSynchronized
  have hS : va_S A s.heap s.heap [] := va_S.rf
  have hl := lv_entry ([.ref (τ.1 30), .int x, .int y, .int z, .int w]) (n := 7) (Nat.le_of_ble_eq_true rfl)
  rw [lg_entry_eq]
  generalize (lg_sl ([.ref (τ.1 30), .int x, .int y, .int z, .int w]) ++ List.replicate (7 - (lg_sl ([.ref (τ.1 30), .int x, .int y, .int z, .int w])).length) Slot.unset).toArray = ls at hl ⊢
  have hl : lv_has ls 7 [(0, .ref (τ.1 30)), (1, .int x), (2, .int y), (3, .int z), (4, .int w)] := hl
  have hm30 := hMt.1
  have hw0 := hts (.fieldLink RX12 165 "PostHouseModel" "thrown" "I") (by decide +kernel)
  have hiX12 : ∀ w ∈ u_ws RX12 TX12 71, w ∈ wsX12_price := fun _ h => List.mem_cons_of_mem _ (List.mem_append_right _ h)
  have hw2 := hts (.fieldLink RX12 25 "PostHouseModel" "prices" "[I") (by decide +kernel)
  have hw3 := hts (.fieldLink RX12 28 "PostHouseModel" "priceMoney" "[I") (by decide +kernel)
  have hw4 := hts (.fieldLink RX12 31 "PostHouseModel" "priceFrom" "[I") (by decide +kernel)
  have hw5 := hts (.fieldLink RX12 34 "PostHouseModel" "priceTo" "[I") (by decide +kernel)
  refine lv_iload_n hx hb dX12_price_0 rfl (lv_at hl 2 rfl) ?_
  refine lv_iconst (v := nI 1) hx hb dX12_price_1 (by decide) ?_
  refine lv_sipush (v := nI 10000) hx hb dX12_price_2 (by decide) ?_
  refine va_calli (va_runS (As := [.int y, .int (nI 1), .int (nI 10000)]) (rest := []) ⟨hx, hb, hml, hown, hts⟩ (m_isIn l hl0 D A sad τ fi fr ol y (nI 1) (nI 10000)) (cwS 3 hts gX12_price_X12_isIn rfl rfl rfl (by decide +kernel) ⟨Nat.le_of_ble_eq_true rfl, Nat.le_of_ble_eq_true rfl⟩) ⟨zQc_bl, zQc_at hz hS hA hH⟩ rfl rfl hl.1 rfl (lv_room (Nat.le_of_ble_eq_true rfl)) dX12_price_5 ⟨Nat.le_of_ble_eq_true rfl, Nat.le_of_ble_eq_true rfl⟩) hS (fun q _ h => h) (fun q h => h) (fun r101 u9 t9 H1 locs ht9 hvm9 hw hB hz1 hk1 hS => ?_)
  have hH := zMv ht9 hvm9 hB
  generalize H1 = H at hH hS ⊢
  rcases hw with ⟨rfl, hy102⟩ | ⟨rfl, hn103⟩
  · skip
    replace hy102 := zWi1 (rfl) (nI_toInt (by omega)) (nI_toInt (by omega)) hy102
    refine lv_if_eq (tgt := 44) hx hb dX12_price_8 (by decide) (fun c104 => absurd c104 (by decide)) (fun c104 => ?_)
    refine lv_iload_n hx hb dX12_price_11 rfl (lv_at hl 3 rfl) ?_
    refine lv_iconst (v := nI 0) hx hb dX12_price_12 (by decide) ?_
    refine lv_sipush (v := nI 999) hx hb dX12_price_13 (by decide) ?_
    refine va_calli (va_runS (As := [.int z, .int (nI 0), .int (nI 999)]) (rest := []) ⟨hx, hb, hml, hown, hts⟩ (m_isIn l hl0 D A sad τ fi fr ol z (nI 0) (nI 999)) (cwS 3 hts gX12_price_X12_isIn rfl rfl rfl (by decide +kernel) ⟨Nat.le_of_ble_eq_true rfl, Nat.le_of_ble_eq_true rfl⟩) ⟨zQc_bl, zQc_at hz hS hA hH⟩ rfl rfl hl.1 rfl (lv_room (Nat.le_of_ble_eq_true rfl)) dX12_price_16 ⟨Nat.le_of_ble_eq_true rfl, Nat.le_of_ble_eq_true rfl⟩) hS (fun q _ h => h) (fun q h => h) (fun r105 u9 t9 H1 locs ht9 hvm9 hw hB hz1 hk1 hS => ?_)
    have hH := zMv ht9 hvm9 hB
    generalize H1 = H at hH hS ⊢
    rcases hw with ⟨rfl, hy106⟩ | ⟨rfl, hn107⟩
    · skip
      replace hy106 := zWi1 (rfl) (nI_toInt (by omega)) (nI_toInt (by omega)) hy106
      refine lv_if_eq (tgt := 44) hx hb dX12_price_19 (by decide) (fun c108 => absurd c108 (by decide)) (fun c108 => ?_)
      refine lv_iload hx hb dX12_price_22 (lv_at hl 4 rfl) ?_
      refine lv_iconst (v := nI 0) hx hb dX12_price_24 (by decide) ?_
      refine lv_sipush (v := nI 999) hx hb dX12_price_25 (by decide) ?_
      refine va_calli (va_runS (As := [.int w, .int (nI 0), .int (nI 999)]) (rest := []) ⟨hx, hb, hml, hown, hts⟩ (m_isIn l hl0 D A sad τ fi fr ol w (nI 0) (nI 999)) (cwS 3 hts gX12_price_X12_isIn rfl rfl rfl (by decide +kernel) ⟨Nat.le_of_ble_eq_true rfl, Nat.le_of_ble_eq_true rfl⟩) ⟨zQc_bl, zQc_at hz hS hA hH⟩ rfl rfl hl.1 rfl (lv_room (Nat.le_of_ble_eq_true rfl)) dX12_price_28 ⟨Nat.le_of_ble_eq_true rfl, Nat.le_of_ble_eq_true rfl⟩) hS (fun q _ h => h) (fun q h => h) (fun r109 u9 t9 H1 locs ht9 hvm9 hw hB hz1 hk1 hS => ?_)
      have hH := zMv ht9 hvm9 hB
      generalize H1 = H at hH hS ⊢
      rcases hw with ⟨rfl, hy110⟩ | ⟨rfl, hn111⟩
      · skip
        replace hy110 := zWi1 (rfl) (nI_toInt (by omega)) (nI_toInt (by omega)) hy110
        refine lv_if_eq (tgt := 44) hx hb dX12_price_31 (by decide) (fun c112 => absurd c112 (by decide)) (fun c112 => ?_)
        refine lv_iload_n hx hb dX12_price_34 rfl (lv_at hl 3 rfl) ?_
        refine lv_iload hx hb dX12_price_35 (lv_at hl 4 rfl) ?_
        refine lv_icmp_gt (tgt := 44) hx hb dX12_price_37 (by decide) (fun c113 => ?_) (fun c113 => ?_)
        · have zc113 := c113
          replace zc113 := zc_lt (rfl) (rfl) zc113
          refine lv_iconst (v := nI 0) hx hb dX12_price_44 (by decide) ?_
          refine lv_istore (lv' := [(5, .int (nI 0)), (0, .ref (τ.1 30)), (1, .int x), (2, .int y), (3, .int z), (4, .int w)]) hx hb dX12_price_45 hl (by decide) rfl (fun ls hl => ?_)
          refine lv_aload_n hx hb dX12_price_47 rfl (lv_at hl 1 rfl) ?_
          refine lv_aload_n hx hb dX12_price_48 rfl (lv_at hl 1 rfl) ?_
          refine lv_iload_n hx hb dX12_price_49 rfl (lv_at hl 2 rfl) ?_
          refine va_calli (va_runV (As := [.int x]) (rest := [.ref (τ.1 30)]) ⟨hx, hb, hml, hown, hts⟩ (m_isThing l hl0 D A sad τ fi fr ol x n hF hMt.2.1 (by omega)) (cwV 1 hts gX12_price_X12_isThing rfl rfl rfl (by decide +kernel) ⟨Nat.le_of_ble_eq_true rfl, Nat.le_of_ble_eq_true rfl⟩) ⟨zQc_bl, zRecv hH (zk_30 hF) rfl, zQc_at hz hS hA hH⟩ rfl rfl hl.1 rfl (lv_room (Nat.le_of_ble_eq_true rfl)) dX12_price_50 ⟨Nat.le_of_ble_eq_true rfl, Nat.le_of_ble_eq_true rfl⟩) hS (fun q _ h => h) (fun q h => h) (fun r114 u9 t9 H1 locs ht9 hvm9 hw hB hz1 hk1 hS => ?_)
          have hH := zMv ht9 hvm9 hB
          generalize H1 = H at hH hS ⊢
          rcases hw with ⟨t, ht, rfl, rfl⟩ | ⟨hno, rfl⟩
          · skip
            refine lv_if_ne (tgt := 60) hx hb dX12_price_53 (by decide) (fun c115 => ?_) (fun c115 => absurd c115 (by decide))
            refine lv_iload hx hb dX12_price_60 (lv_at hl 0 rfl) ?_
            refine lv_if_ne (tgt := 69) hx hb dX12_price_62 (by decide) (fun c116 => absurd (by decide) c116) (fun c116 => ?_)
            refine lv_iconst (v := nI 2) hx hb dX12_price_65 (by decide) ?_
            refine lv_goto (tgt := 84) hx hb dX12_price_66 (by decide) ?_
            refine zPutI (D := D) (ci := 12) (ty := .int) (C := RX12) (T := TX12) (N := 71) hx hb hts hiX12 tyX12 tyX12_ok nmX12 hown hH hS (zk_30 hF) rfl 0 (by decide) rfl hw0 (fun _ h9 => h9) rfl (by decide +kernel) rfl rfl dX12_price_84 (fun H locs hH hS => ?_)
            obtain ⟨f117, ef117⟩ : ∃ f9 : zFi, f9 = zu fi 30 0 (nI 2) := ⟨_, rfl⟩
            rw [← ef117] at hH
            have q118 : f117 30 2 = nI n := by rw [ef117, zu_n (fun h9 => absurd h9.2 (by decide))]; exact hMt.2.1
            have q119 : f117 30 0 = nI 2 := by rw [ef117]; exact zu_s
            have hMt := zMt.ci (fi' := f117) hMt (fun i9 k9 h9 => by rw [ef117]; exact zu_n (by omega))
            refine lv_aload_n hx hb dX12_price_87 rfl (lv_at hl 1 rfl) ?_
            refine zGetI (D := D) (ci := 12) (C := RX12) (T := TX12) (N := 71) hx hb hts hiX12 hown hH (zk_30 hF) rfl 0 (by decide) rfl hw0 (fun _ h9 => h9) dX12_price_88 q119 ?_
            refine lv_if_le (tgt := 96) hx hb dX12_price_91 (by decide) (fun c120 => absurd c120 (by decide)) (fun c120 => ?_)
            refine lv_iconst (v := nI 0) hx hb dX12_price_94 (by decide) ?_
            refine W.widen (k := 0) (n := 0) (by decide) (by decide) ?_
            exact W.iret (v := nI 0) hx hb hr (fun t9 ht9 hW9 => ⟨⟨nI 0, f117, rfl, Or.inr (Or.inr (Or.inl ⟨⟨t, ht, rfl⟩, fun h9 => by obtain ⟨a1, a2, a3, a4, a5, a6⟩ := h9; have k09 := hy102; have k19 := hy106; have k29 := hy110; omega, rfl, by rw [ef117]⟩)), zEnd1 hH ht9 hW9⟩, hS.F ht9⟩) hS.2.2 dX12_price_95
          · skip
            refine lv_if_ne (tgt := 60) hx hb dX12_price_53 (by decide) (fun c121 => absurd (by decide) c121) (fun c121 => ?_)
            refine lv_iconst (v := nI 1) hx hb dX12_price_56 (by decide) ?_
            refine lv_goto (tgt := 84) hx hb dX12_price_57 (by decide) ?_
            refine zPutI (D := D) (ci := 12) (ty := .int) (C := RX12) (T := TX12) (N := 71) hx hb hts hiX12 tyX12 tyX12_ok nmX12 hown hH hS (zk_30 hF) rfl 0 (by decide) rfl hw0 (fun _ h9 => h9) rfl (by decide +kernel) rfl rfl dX12_price_84 (fun H locs hH hS => ?_)
            obtain ⟨f122, ef122⟩ : ∃ f9 : zFi, f9 = zu fi 30 0 (nI 1) := ⟨_, rfl⟩
            rw [← ef122] at hH
            have q123 : f122 30 2 = nI n := by rw [ef122, zu_n (fun h9 => absurd h9.2 (by decide))]; exact hMt.2.1
            have q124 : f122 30 0 = nI 1 := by rw [ef122]; exact zu_s
            have hMt := zMt.ci (fi' := f122) hMt (fun i9 k9 h9 => by rw [ef122]; exact zu_n (by omega))
            refine lv_aload_n hx hb dX12_price_87 rfl (lv_at hl 1 rfl) ?_
            refine zGetI (D := D) (ci := 12) (C := RX12) (T := TX12) (N := 71) hx hb hts hiX12 hown hH (zk_30 hF) rfl 0 (by decide) rfl hw0 (fun _ h9 => h9) dX12_price_88 q124 ?_
            refine lv_if_le (tgt := 96) hx hb dX12_price_91 (by decide) (fun c125 => absurd c125 (by decide)) (fun c125 => ?_)
            refine lv_iconst (v := nI 0) hx hb dX12_price_94 (by decide) ?_
            refine W.widen (k := 0) (n := 0) (by decide) (by decide) ?_
            exact W.iret (v := nI 0) hx hb hr (fun t9 ht9 hW9 => ⟨⟨nI 0, f122, rfl, Or.inr (Or.inl ⟨hno, rfl, by rw [ef122]⟩), zEnd1 hH ht9 hW9⟩, hS.F ht9⟩) hS.2.2 dX12_price_95
        · have zc113 := c113
          replace zc113 := zc_nlt (rfl) (rfl) zc113
          refine lv_iconst (v := nI 1) hx hb dX12_price_40 (by decide) ?_
          refine lv_goto (tgt := 45) hx hb dX12_price_41 (by decide) ?_
          refine lv_istore (lv' := [(5, .int (nI 1)), (0, .ref (τ.1 30)), (1, .int x), (2, .int y), (3, .int z), (4, .int w)]) hx hb dX12_price_45 hl (by decide) rfl (fun ls hl => ?_)
          refine lv_aload_n hx hb dX12_price_47 rfl (lv_at hl 1 rfl) ?_
          refine lv_aload_n hx hb dX12_price_48 rfl (lv_at hl 1 rfl) ?_
          refine lv_iload_n hx hb dX12_price_49 rfl (lv_at hl 2 rfl) ?_
          refine va_calli (va_runV (As := [.int x]) (rest := [.ref (τ.1 30)]) ⟨hx, hb, hml, hown, hts⟩ (m_isThing l hl0 D A sad τ fi fr ol x n hF hMt.2.1 (by omega)) (cwV 1 hts gX12_price_X12_isThing rfl rfl rfl (by decide +kernel) ⟨Nat.le_of_ble_eq_true rfl, Nat.le_of_ble_eq_true rfl⟩) ⟨zQc_bl, zRecv hH (zk_30 hF) rfl, zQc_at hz hS hA hH⟩ rfl rfl hl.1 rfl (lv_room (Nat.le_of_ble_eq_true rfl)) dX12_price_50 ⟨Nat.le_of_ble_eq_true rfl, Nat.le_of_ble_eq_true rfl⟩) hS (fun q _ h => h) (fun q h => h) (fun r126 u9 t9 H1 locs ht9 hvm9 hw hB hz1 hk1 hS => ?_)
          have hH := zMv ht9 hvm9 hB
          generalize H1 = H at hH hS ⊢
          rcases hw with ⟨t, ht, rfl, rfl⟩ | ⟨hno, rfl⟩
          · skip
            refine lv_if_ne (tgt := 60) hx hb dX12_price_53 (by decide) (fun c127 => ?_) (fun c127 => absurd c127 (by decide))
            refine lv_iload hx hb dX12_price_60 (lv_at hl 0 rfl) ?_
            refine lv_if_ne (tgt := 69) hx hb dX12_price_62 (by decide) (fun c128 => ?_) (fun c128 => absurd c128 (by decide))
            obtain ⟨k0, hk4, hk0⟩ := hMt.2.2 t ht
            refine lv_aload_n hx hb dX12_price_69 rfl (lv_at hl 1 rfl) ?_
            refine zGetR (D := D) (ci := 12) (C := RX12) (T := TX12) (N := 71) hx hb hts hiX12 hown hH (zk_30 hF) rfl 8 (by decide) rfl hw2 (fun _ h9 => h9) dX12_price_70 (zr_30_8 hF) ?_
            refine lv_iload_n hx hb dX12_price_73 rfl (lv_at hl 2 rfl) ?_
            refine zIaldN (D := D) hx hb hH (zk_36 hF) (zn_36 hF) (by omega) (by omega) hk0 dX12_price_74 ?_
            refine lv_iconst (v := nI 4) hx hb dX12_price_75 (by decide) ?_
            refine lv_icmp_ne (tgt := 83) hx hb dX12_price_76 (by decide) (fun c129 => ?_) (fun c129 => ?_)
            · have zc129 := c129
              replace zc129 := zc_neq (nI_toInt (by omega)) (nI_toInt (by omega)) zc129
              refine lv_iconst (v := nI 0) hx hb dX12_price_83 (by decide) ?_
              refine zPutI (D := D) (ci := 12) (ty := .int) (C := RX12) (T := TX12) (N := 71) hx hb hts hiX12 tyX12 tyX12_ok nmX12 hown hH hS (zk_30 hF) rfl 0 (by decide) rfl hw0 (fun _ h9 => h9) rfl (by decide +kernel) rfl rfl dX12_price_84 (fun H locs hH hS => ?_)
              obtain ⟨f130, ef130⟩ : ∃ f9 : zFi, f9 = zu fi 30 0 (nI 0) := ⟨_, rfl⟩
              rw [← ef130] at hH
              have q131 : f130 30 2 = nI n := by rw [ef130, zu_n (fun h9 => absurd h9.2 (by decide))]; exact hMt.2.1
              have q132 : f130 36 t = nI k0 := by rw [ef130, zu_n (fun h9 => absurd h9.1 (by decide))]; exact hk0
              have q133 : f130 30 0 = nI 0 := by rw [ef130]; exact zu_s
              have hMt := zMt.ci (fi' := f130) hMt (fun i9 k9 h9 => by rw [ef130]; exact zu_n (by omega))
              refine lv_aload_n hx hb dX12_price_87 rfl (lv_at hl 1 rfl) ?_
              refine zGetI (D := D) (ci := 12) (C := RX12) (T := TX12) (N := 71) hx hb hts hiX12 hown hH (zk_30 hF) rfl 0 (by decide) rfl hw0 (fun _ h9 => h9) dX12_price_88 q133 ?_
              refine lv_if_le (tgt := 96) hx hb dX12_price_91 (by decide) (fun c134 => ?_) (fun c134 => absurd (by decide) c134)
              refine lv_iconst (v := nI 4) hx hb dX12_price_96 (by decide) ?_
              refine lv_iload_n hx hb dX12_price_97 rfl (lv_at hl 2 rfl) ?_
              refine lv_imul hx hb dX12_price_98 ?_
              refine lv_topi (fun v135 ev135 => ?_)
              obtain rfl : v135 = nI (4 * t) := ev135.trans (pk_mul _ _)
              refine lv_aload_n hx hb dX12_price_99 rfl (lv_at hl 1 rfl) ?_
              refine zGetR (D := D) (ci := 12) (C := RX12) (T := TX12) (N := 71) hx hb hts hiX12 hown hH (zk_30 hF) rfl 8 (by decide) rfl hw2 (fun _ h9 => h9) dX12_price_100 (zr_30_8 hF) ?_
              refine lv_iload_n hx hb dX12_price_103 rfl (lv_at hl 2 rfl) ?_
              refine zIaldN (D := D) hx hb hH (zk_36 hF) (zn_36 hF) (by omega) (by omega) q132 dX12_price_104 ?_
              refine lv_iadd hx hb dX12_price_105 ?_
              refine lv_topi (fun v136 ev136 => ?_)
              obtain rfl : v136 = nI (4 * t + k0) := ev136.trans (nI_add _ _)
              refine lv_istore (lv' := [(6, .int (nI (4 * t + k0))), (5, .int (nI 1)), (0, .ref (τ.1 30)), (1, .int (nI t)), (2, .int y), (3, .int z), (4, .int w)]) hx hb dX12_price_106 hl (by decide) rfl (fun ls hl => ?_)
              refine lv_aload_n hx hb dX12_price_108 rfl (lv_at hl 2 rfl) ?_
              refine zGetR (D := D) (ci := 12) (C := RX12) (T := TX12) (N := 71) hx hb hts hiX12 hown hH (zk_30 hF) rfl 9 (by decide) rfl hw3 (fun _ h9 => h9) dX12_price_109 (zr_30_9 hF) ?_
              refine lv_iload hx hb dX12_price_112 (lv_at hl 0 rfl) ?_
              refine lv_iload_n hx hb dX12_price_114 rfl (lv_at hl 4 rfl) ?_
              refine zIastN (D := D) hx hb hH hS (zk_37 hF) (zn_37 hF) (by omega) (by omega) dX12_price_115 (fun H locs hH hS => ?_)
              obtain ⟨f137, ef137⟩ : ∃ f9 : zFi, f9 = zu f130 37 (4 * t + k0) y := ⟨_, rfl⟩
              rw [← ef137] at hH
              have q138 : f137 30 2 = nI n := by rw [ef137, zu_n (fun h9 => absurd h9.1 (by decide))]; exact q131
              have q139 : f137 36 t = nI k0 := by rw [ef137, zu_n (fun h9 => absurd h9.1 (by decide))]; exact q132
              have q140 : f137 30 0 = nI 0 := by rw [ef137, zu_n (fun h9 => absurd h9.1 (by decide))]; exact q133
              have q141 : f137 37 (4 * t + k0) = y := by rw [ef137]; exact zu_s
              have hMt := zMt.ci (fi' := f137) hMt (fun i9 k9 h9 => by rw [ef137]; exact zu_n (by omega))
              refine lv_aload_n hx hb dX12_price_116 rfl (lv_at hl 2 rfl) ?_
              refine zGetR (D := D) (ci := 12) (C := RX12) (T := TX12) (N := 71) hx hb hts hiX12 hown hH (zk_30 hF) rfl 10 (by decide) rfl hw4 (fun _ h9 => h9) dX12_price_117 (zr_30_10 hF) ?_
              refine lv_iload hx hb dX12_price_120 (lv_at hl 0 rfl) ?_
              refine lv_iload_n hx hb dX12_price_122 rfl (lv_at hl 5 rfl) ?_
              refine zIastN (D := D) hx hb hH hS (zk_38 hF) (zn_38 hF) (by omega) (by omega) dX12_price_123 (fun H locs hH hS => ?_)
              obtain ⟨f142, ef142⟩ : ∃ f9 : zFi, f9 = zu f137 38 (4 * t + k0) z := ⟨_, rfl⟩
              rw [← ef142] at hH
              have q143 : f142 30 2 = nI n := by rw [ef142, zu_n (fun h9 => absurd h9.1 (by decide))]; exact q138
              have q144 : f142 36 t = nI k0 := by rw [ef142, zu_n (fun h9 => absurd h9.1 (by decide))]; exact q139
              have q145 : f142 30 0 = nI 0 := by rw [ef142, zu_n (fun h9 => absurd h9.1 (by decide))]; exact q140
              have q146 : f142 37 (4 * t + k0) = y := by rw [ef142, zu_n (fun h9 => absurd h9.1 (by decide))]; exact q141
              have q147 : f142 38 (4 * t + k0) = z := by rw [ef142]; exact zu_s
              have hMt := zMt.ci (fi' := f142) hMt (fun i9 k9 h9 => by rw [ef142]; exact zu_n (by omega))
              refine lv_aload_n hx hb dX12_price_124 rfl (lv_at hl 2 rfl) ?_
              refine zGetR (D := D) (ci := 12) (C := RX12) (T := TX12) (N := 71) hx hb hts hiX12 hown hH (zk_30 hF) rfl 11 (by decide) rfl hw5 (fun _ h9 => h9) dX12_price_125 (zr_30_11 hF) ?_
              refine lv_iload hx hb dX12_price_128 (lv_at hl 0 rfl) ?_
              refine lv_iload hx hb dX12_price_130 (lv_at hl 6 rfl) ?_
              refine zIastN (D := D) hx hb hH hS (zk_39 hF) (zn_39 hF) (by omega) (by omega) dX12_price_132 (fun H locs hH hS => ?_)
              obtain ⟨f148, ef148⟩ : ∃ f9 : zFi, f9 = zu f142 39 (4 * t + k0) w := ⟨_, rfl⟩
              rw [← ef148] at hH
              have q149 : f148 30 2 = nI n := by rw [ef148, zu_n (fun h9 => absurd h9.1 (by decide))]; exact q143
              have q150 : f148 36 t = nI k0 := by rw [ef148, zu_n (fun h9 => absurd h9.1 (by decide))]; exact q144
              have q151 : f148 30 0 = nI 0 := by rw [ef148, zu_n (fun h9 => absurd h9.1 (by decide))]; exact q145
              have q152 : f148 37 (4 * t + k0) = y := by rw [ef148, zu_n (fun h9 => absurd h9.1 (by decide))]; exact q146
              have q153 : f148 38 (4 * t + k0) = z := by rw [ef148, zu_n (fun h9 => absurd h9.1 (by decide))]; exact q147
              have q154 : f148 39 (4 * t + k0) = w := by rw [ef148]; exact zu_s
              have hMt := zMt.ci (fi' := f148) hMt (fun i9 k9 h9 => by rw [ef148]; exact zu_n (by omega))
              refine lv_aload_n hx hb dX12_price_133 rfl (lv_at hl 2 rfl) ?_
              refine zGetR (D := D) (ci := 12) (C := RX12) (T := TX12) (N := 71) hx hb hts hiX12 hown hH (zk_30 hF) rfl 8 (by decide) rfl hw2 (fun _ h9 => h9) dX12_price_134 (zr_30_8 hF) ?_
              refine lv_iload_n hx hb dX12_price_137 rfl (lv_at hl 3 rfl) ?_
              refine lv_dup2_11 hx hb dX12_price_138 rfl rfl ?_
              refine zIaldN (D := D) hx hb hH (zk_36 hF) (zn_36 hF) (by omega) (by omega) q150 dX12_price_139 ?_
              refine lv_iconst (v := nI 1) hx hb dX12_price_140 (by decide) ?_
              refine lv_iadd hx hb dX12_price_141 ?_
              refine lv_topi (fun v155 ev155 => ?_)
              obtain rfl : v155 = nI (k0 + 1) := ev155.trans (nI_add _ _)
              refine zIastN (D := D) hx hb hH hS (zk_36 hF) (zn_36 hF) (by omega) (by omega) dX12_price_142 (fun H locs hH hS => ?_)
              obtain ⟨f156, ef156⟩ : ∃ f9 : zFi, f9 = zu f148 36 t (nI (k0 + 1)) := ⟨_, rfl⟩
              rw [← ef156] at hH
              have q157 : f156 30 2 = nI n := by rw [ef156, zu_n (fun h9 => absurd h9.1 (by decide))]; exact q149
              have q158 : f156 30 0 = nI 0 := by rw [ef156, zu_n (fun h9 => absurd h9.1 (by decide))]; exact q151
              have q159 : f156 37 (4 * t + k0) = y := by rw [ef156, zu_n (fun h9 => absurd h9.1 (by decide))]; exact q152
              have q160 : f156 38 (4 * t + k0) = z := by rw [ef156, zu_n (fun h9 => absurd h9.1 (by decide))]; exact q153
              have q161 : f156 39 (4 * t + k0) = w := by rw [ef156, zu_n (fun h9 => absurd h9.1 (by decide))]; exact q154
              have q162 : f156 36 t = nI (k0 + 1) := by rw [ef156]; exact zu_s
              refine lv_aload_n hx hb dX12_price_143 rfl (lv_at hl 2 rfl) ?_
              refine zGetR (D := D) (ci := 12) (C := RX12) (T := TX12) (N := 71) hx hb hts hiX12 hown hH (zk_30 hF) rfl 8 (by decide) rfl hw2 (fun _ h9 => h9) dX12_price_144 (zr_30_8 hF) ?_
              refine lv_iload_n hx hb dX12_price_147 rfl (lv_at hl 3 rfl) ?_
              refine zIaldN (D := D) hx hb hH (zk_36 hF) (zn_36 hF) (by omega) (by omega) q162 dX12_price_148 ?_
              refine W.widen (k := 0) (n := 0) (by decide) (by decide) ?_
              exact W.iret (v := nI (k0 + 1)) hx hb hr (fun t9 ht9 hW9 => ⟨⟨nI (k0 + 1), f156, rfl, Or.inl ⟨t, k0, ht, rfl, (by have k09 := hy102; have k19 := hy106; have k29 := hy110; omega), hk0, by omega, rfl, by rw [ef156, ef148, ef142, ef137, ef130]⟩, zEnd1 hH ht9 hW9⟩, hS.F ht9⟩) hS.2.2 dX12_price_149
            · have zc129 := c129
              replace zc129 := zc_eq (nI_toInt (by omega)) (nI_toInt (by omega)) zc129
              refine lv_iconst (v := nI 3) hx hb dX12_price_79 (by decide) ?_
              refine lv_goto (tgt := 84) hx hb dX12_price_80 (by decide) ?_
              refine zPutI (D := D) (ci := 12) (ty := .int) (C := RX12) (T := TX12) (N := 71) hx hb hts hiX12 tyX12 tyX12_ok nmX12 hown hH hS (zk_30 hF) rfl 0 (by decide) rfl hw0 (fun _ h9 => h9) rfl (by decide +kernel) rfl rfl dX12_price_84 (fun H locs hH hS => ?_)
              obtain ⟨f163, ef163⟩ : ∃ f9 : zFi, f9 = zu fi 30 0 (nI 3) := ⟨_, rfl⟩
              rw [← ef163] at hH
              have q164 : f163 30 2 = nI n := by rw [ef163, zu_n (fun h9 => absurd h9.2 (by decide))]; exact hMt.2.1
              have q165 : f163 36 t = nI k0 := by rw [ef163, zu_n (fun h9 => absurd h9.1 (by decide))]; exact hk0
              have q166 : f163 30 0 = nI 3 := by rw [ef163]; exact zu_s
              have hMt := zMt.ci (fi' := f163) hMt (fun i9 k9 h9 => by rw [ef163]; exact zu_n (by omega))
              refine lv_aload_n hx hb dX12_price_87 rfl (lv_at hl 1 rfl) ?_
              refine zGetI (D := D) (ci := 12) (C := RX12) (T := TX12) (N := 71) hx hb hts hiX12 hown hH (zk_30 hF) rfl 0 (by decide) rfl hw0 (fun _ h9 => h9) dX12_price_88 q166 ?_
              refine lv_if_le (tgt := 96) hx hb dX12_price_91 (by decide) (fun c167 => absurd c167 (by decide)) (fun c167 => ?_)
              refine lv_iconst (v := nI 0) hx hb dX12_price_94 (by decide) ?_
              refine W.widen (k := 0) (n := 0) (by decide) (by decide) ?_
              exact W.iret (v := nI 0) hx hb hr (fun t9 ht9 hW9 => ⟨⟨nI 0, f163, rfl, Or.inr (Or.inr (Or.inr ⟨t, ht, rfl, (by have k09 := hy102; have k19 := hy106; have k29 := hy110; omega), by rw [hk0, show k0 = 4 by omega], rfl, by rw [ef163]⟩)), zEnd1 hH ht9 hW9⟩, hS.F ht9⟩) hS.2.2 dX12_price_95
          · skip
            refine lv_if_ne (tgt := 60) hx hb dX12_price_53 (by decide) (fun c168 => absurd (by decide) c168) (fun c168 => ?_)
            refine lv_iconst (v := nI 1) hx hb dX12_price_56 (by decide) ?_
            refine lv_goto (tgt := 84) hx hb dX12_price_57 (by decide) ?_
            refine zPutI (D := D) (ci := 12) (ty := .int) (C := RX12) (T := TX12) (N := 71) hx hb hts hiX12 tyX12 tyX12_ok nmX12 hown hH hS (zk_30 hF) rfl 0 (by decide) rfl hw0 (fun _ h9 => h9) rfl (by decide +kernel) rfl rfl dX12_price_84 (fun H locs hH hS => ?_)
            obtain ⟨f169, ef169⟩ : ∃ f9 : zFi, f9 = zu fi 30 0 (nI 1) := ⟨_, rfl⟩
            rw [← ef169] at hH
            have q170 : f169 30 2 = nI n := by rw [ef169, zu_n (fun h9 => absurd h9.2 (by decide))]; exact hMt.2.1
            have q171 : f169 30 0 = nI 1 := by rw [ef169]; exact zu_s
            have hMt := zMt.ci (fi' := f169) hMt (fun i9 k9 h9 => by rw [ef169]; exact zu_n (by omega))
            refine lv_aload_n hx hb dX12_price_87 rfl (lv_at hl 1 rfl) ?_
            refine zGetI (D := D) (ci := 12) (C := RX12) (T := TX12) (N := 71) hx hb hts hiX12 hown hH (zk_30 hF) rfl 0 (by decide) rfl hw0 (fun _ h9 => h9) dX12_price_88 q171 ?_
            refine lv_if_le (tgt := 96) hx hb dX12_price_91 (by decide) (fun c172 => absurd c172 (by decide)) (fun c172 => ?_)
            refine lv_iconst (v := nI 0) hx hb dX12_price_94 (by decide) ?_
            refine W.widen (k := 0) (n := 0) (by decide) (by decide) ?_
            exact W.iret (v := nI 0) hx hb hr (fun t9 ht9 hW9 => ⟨⟨nI 0, f169, rfl, Or.inr (Or.inl ⟨hno, rfl, by rw [ef169]⟩), zEnd1 hH ht9 hW9⟩, hS.F ht9⟩) hS.2.2 dX12_price_95
      · skip
        replace hn111 := zWi0 (rfl) (nI_toInt (by omega)) (nI_toInt (by omega)) hn111
        refine lv_if_eq (tgt := 44) hx hb dX12_price_31 (by decide) (fun c173 => ?_) (fun c173 => absurd (by decide) c173)
        refine lv_iconst (v := nI 0) hx hb dX12_price_44 (by decide) ?_
        refine lv_istore (lv' := [(5, .int (nI 0)), (0, .ref (τ.1 30)), (1, .int x), (2, .int y), (3, .int z), (4, .int w)]) hx hb dX12_price_45 hl (by decide) rfl (fun ls hl => ?_)
        refine lv_aload_n hx hb dX12_price_47 rfl (lv_at hl 1 rfl) ?_
        refine lv_aload_n hx hb dX12_price_48 rfl (lv_at hl 1 rfl) ?_
        refine lv_iload_n hx hb dX12_price_49 rfl (lv_at hl 2 rfl) ?_
        refine va_calli (va_runV (As := [.int x]) (rest := [.ref (τ.1 30)]) ⟨hx, hb, hml, hown, hts⟩ (m_isThing l hl0 D A sad τ fi fr ol x n hF hMt.2.1 (by omega)) (cwV 1 hts gX12_price_X12_isThing rfl rfl rfl (by decide +kernel) ⟨Nat.le_of_ble_eq_true rfl, Nat.le_of_ble_eq_true rfl⟩) ⟨zQc_bl, zRecv hH (zk_30 hF) rfl, zQc_at hz hS hA hH⟩ rfl rfl hl.1 rfl (lv_room (Nat.le_of_ble_eq_true rfl)) dX12_price_50 ⟨Nat.le_of_ble_eq_true rfl, Nat.le_of_ble_eq_true rfl⟩) hS (fun q _ h => h) (fun q h => h) (fun r174 u9 t9 H1 locs ht9 hvm9 hw hB hz1 hk1 hS => ?_)
        have hH := zMv ht9 hvm9 hB
        generalize H1 = H at hH hS ⊢
        rcases hw with ⟨t, ht, rfl, rfl⟩ | ⟨hno, rfl⟩
        · skip
          refine lv_if_ne (tgt := 60) hx hb dX12_price_53 (by decide) (fun c175 => ?_) (fun c175 => absurd c175 (by decide))
          refine lv_iload hx hb dX12_price_60 (lv_at hl 0 rfl) ?_
          refine lv_if_ne (tgt := 69) hx hb dX12_price_62 (by decide) (fun c176 => absurd (by decide) c176) (fun c176 => ?_)
          refine lv_iconst (v := nI 2) hx hb dX12_price_65 (by decide) ?_
          refine lv_goto (tgt := 84) hx hb dX12_price_66 (by decide) ?_
          refine zPutI (D := D) (ci := 12) (ty := .int) (C := RX12) (T := TX12) (N := 71) hx hb hts hiX12 tyX12 tyX12_ok nmX12 hown hH hS (zk_30 hF) rfl 0 (by decide) rfl hw0 (fun _ h9 => h9) rfl (by decide +kernel) rfl rfl dX12_price_84 (fun H locs hH hS => ?_)
          obtain ⟨f177, ef177⟩ : ∃ f9 : zFi, f9 = zu fi 30 0 (nI 2) := ⟨_, rfl⟩
          rw [← ef177] at hH
          have q178 : f177 30 2 = nI n := by rw [ef177, zu_n (fun h9 => absurd h9.2 (by decide))]; exact hMt.2.1
          have q179 : f177 30 0 = nI 2 := by rw [ef177]; exact zu_s
          have hMt := zMt.ci (fi' := f177) hMt (fun i9 k9 h9 => by rw [ef177]; exact zu_n (by omega))
          refine lv_aload_n hx hb dX12_price_87 rfl (lv_at hl 1 rfl) ?_
          refine zGetI (D := D) (ci := 12) (C := RX12) (T := TX12) (N := 71) hx hb hts hiX12 hown hH (zk_30 hF) rfl 0 (by decide) rfl hw0 (fun _ h9 => h9) dX12_price_88 q179 ?_
          refine lv_if_le (tgt := 96) hx hb dX12_price_91 (by decide) (fun c180 => absurd c180 (by decide)) (fun c180 => ?_)
          refine lv_iconst (v := nI 0) hx hb dX12_price_94 (by decide) ?_
          refine W.widen (k := 0) (n := 0) (by decide) (by decide) ?_
          exact W.iret (v := nI 0) hx hb hr (fun t9 ht9 hW9 => ⟨⟨nI 0, f177, rfl, Or.inr (Or.inr (Or.inl ⟨⟨t, ht, rfl⟩, fun h9 => by obtain ⟨a1, a2, a3, a4, a5, a6⟩ := h9; have k09 := hy102; have k19 := hy106; have k29 := hn111; omega, rfl, by rw [ef177]⟩)), zEnd1 hH ht9 hW9⟩, hS.F ht9⟩) hS.2.2 dX12_price_95
        · skip
          refine lv_if_ne (tgt := 60) hx hb dX12_price_53 (by decide) (fun c181 => absurd (by decide) c181) (fun c181 => ?_)
          refine lv_iconst (v := nI 1) hx hb dX12_price_56 (by decide) ?_
          refine lv_goto (tgt := 84) hx hb dX12_price_57 (by decide) ?_
          refine zPutI (D := D) (ci := 12) (ty := .int) (C := RX12) (T := TX12) (N := 71) hx hb hts hiX12 tyX12 tyX12_ok nmX12 hown hH hS (zk_30 hF) rfl 0 (by decide) rfl hw0 (fun _ h9 => h9) rfl (by decide +kernel) rfl rfl dX12_price_84 (fun H locs hH hS => ?_)
          obtain ⟨f182, ef182⟩ : ∃ f9 : zFi, f9 = zu fi 30 0 (nI 1) := ⟨_, rfl⟩
          rw [← ef182] at hH
          have q183 : f182 30 2 = nI n := by rw [ef182, zu_n (fun h9 => absurd h9.2 (by decide))]; exact hMt.2.1
          have q184 : f182 30 0 = nI 1 := by rw [ef182]; exact zu_s
          have hMt := zMt.ci (fi' := f182) hMt (fun i9 k9 h9 => by rw [ef182]; exact zu_n (by omega))
          refine lv_aload_n hx hb dX12_price_87 rfl (lv_at hl 1 rfl) ?_
          refine zGetI (D := D) (ci := 12) (C := RX12) (T := TX12) (N := 71) hx hb hts hiX12 hown hH (zk_30 hF) rfl 0 (by decide) rfl hw0 (fun _ h9 => h9) dX12_price_88 q184 ?_
          refine lv_if_le (tgt := 96) hx hb dX12_price_91 (by decide) (fun c185 => absurd c185 (by decide)) (fun c185 => ?_)
          refine lv_iconst (v := nI 0) hx hb dX12_price_94 (by decide) ?_
          refine W.widen (k := 0) (n := 0) (by decide) (by decide) ?_
          exact W.iret (v := nI 0) hx hb hr (fun t9 ht9 hW9 => ⟨⟨nI 0, f182, rfl, Or.inr (Or.inl ⟨hno, rfl, by rw [ef182]⟩), zEnd1 hH ht9 hW9⟩, hS.F ht9⟩) hS.2.2 dX12_price_95
    · skip
      replace hn107 := zWi0 (rfl) (nI_toInt (by omega)) (nI_toInt (by omega)) hn107
      refine lv_if_eq (tgt := 44) hx hb dX12_price_19 (by decide) (fun c186 => ?_) (fun c186 => absurd (by decide) c186)
      refine lv_iconst (v := nI 0) hx hb dX12_price_44 (by decide) ?_
      refine lv_istore (lv' := [(5, .int (nI 0)), (0, .ref (τ.1 30)), (1, .int x), (2, .int y), (3, .int z), (4, .int w)]) hx hb dX12_price_45 hl (by decide) rfl (fun ls hl => ?_)
      refine lv_aload_n hx hb dX12_price_47 rfl (lv_at hl 1 rfl) ?_
      refine lv_aload_n hx hb dX12_price_48 rfl (lv_at hl 1 rfl) ?_
      refine lv_iload_n hx hb dX12_price_49 rfl (lv_at hl 2 rfl) ?_
      refine va_calli (va_runV (As := [.int x]) (rest := [.ref (τ.1 30)]) ⟨hx, hb, hml, hown, hts⟩ (m_isThing l hl0 D A sad τ fi fr ol x n hF hMt.2.1 (by omega)) (cwV 1 hts gX12_price_X12_isThing rfl rfl rfl (by decide +kernel) ⟨Nat.le_of_ble_eq_true rfl, Nat.le_of_ble_eq_true rfl⟩) ⟨zQc_bl, zRecv hH (zk_30 hF) rfl, zQc_at hz hS hA hH⟩ rfl rfl hl.1 rfl (lv_room (Nat.le_of_ble_eq_true rfl)) dX12_price_50 ⟨Nat.le_of_ble_eq_true rfl, Nat.le_of_ble_eq_true rfl⟩) hS (fun q _ h => h) (fun q h => h) (fun r187 u9 t9 H1 locs ht9 hvm9 hw hB hz1 hk1 hS => ?_)
      have hH := zMv ht9 hvm9 hB
      generalize H1 = H at hH hS ⊢
      rcases hw with ⟨t, ht, rfl, rfl⟩ | ⟨hno, rfl⟩
      · skip
        refine lv_if_ne (tgt := 60) hx hb dX12_price_53 (by decide) (fun c188 => ?_) (fun c188 => absurd c188 (by decide))
        refine lv_iload hx hb dX12_price_60 (lv_at hl 0 rfl) ?_
        refine lv_if_ne (tgt := 69) hx hb dX12_price_62 (by decide) (fun c189 => absurd (by decide) c189) (fun c189 => ?_)
        refine lv_iconst (v := nI 2) hx hb dX12_price_65 (by decide) ?_
        refine lv_goto (tgt := 84) hx hb dX12_price_66 (by decide) ?_
        refine zPutI (D := D) (ci := 12) (ty := .int) (C := RX12) (T := TX12) (N := 71) hx hb hts hiX12 tyX12 tyX12_ok nmX12 hown hH hS (zk_30 hF) rfl 0 (by decide) rfl hw0 (fun _ h9 => h9) rfl (by decide +kernel) rfl rfl dX12_price_84 (fun H locs hH hS => ?_)
        obtain ⟨f190, ef190⟩ : ∃ f9 : zFi, f9 = zu fi 30 0 (nI 2) := ⟨_, rfl⟩
        rw [← ef190] at hH
        have q191 : f190 30 2 = nI n := by rw [ef190, zu_n (fun h9 => absurd h9.2 (by decide))]; exact hMt.2.1
        have q192 : f190 30 0 = nI 2 := by rw [ef190]; exact zu_s
        have hMt := zMt.ci (fi' := f190) hMt (fun i9 k9 h9 => by rw [ef190]; exact zu_n (by omega))
        refine lv_aload_n hx hb dX12_price_87 rfl (lv_at hl 1 rfl) ?_
        refine zGetI (D := D) (ci := 12) (C := RX12) (T := TX12) (N := 71) hx hb hts hiX12 hown hH (zk_30 hF) rfl 0 (by decide) rfl hw0 (fun _ h9 => h9) dX12_price_88 q192 ?_
        refine lv_if_le (tgt := 96) hx hb dX12_price_91 (by decide) (fun c193 => absurd c193 (by decide)) (fun c193 => ?_)
        refine lv_iconst (v := nI 0) hx hb dX12_price_94 (by decide) ?_
        refine W.widen (k := 0) (n := 0) (by decide) (by decide) ?_
        exact W.iret (v := nI 0) hx hb hr (fun t9 ht9 hW9 => ⟨⟨nI 0, f190, rfl, Or.inr (Or.inr (Or.inl ⟨⟨t, ht, rfl⟩, fun h9 => by obtain ⟨a1, a2, a3, a4, a5, a6⟩ := h9; have k09 := hy102; have k19 := hn107; omega, rfl, by rw [ef190]⟩)), zEnd1 hH ht9 hW9⟩, hS.F ht9⟩) hS.2.2 dX12_price_95
      · skip
        refine lv_if_ne (tgt := 60) hx hb dX12_price_53 (by decide) (fun c194 => absurd (by decide) c194) (fun c194 => ?_)
        refine lv_iconst (v := nI 1) hx hb dX12_price_56 (by decide) ?_
        refine lv_goto (tgt := 84) hx hb dX12_price_57 (by decide) ?_
        refine zPutI (D := D) (ci := 12) (ty := .int) (C := RX12) (T := TX12) (N := 71) hx hb hts hiX12 tyX12 tyX12_ok nmX12 hown hH hS (zk_30 hF) rfl 0 (by decide) rfl hw0 (fun _ h9 => h9) rfl (by decide +kernel) rfl rfl dX12_price_84 (fun H locs hH hS => ?_)
        obtain ⟨f195, ef195⟩ : ∃ f9 : zFi, f9 = zu fi 30 0 (nI 1) := ⟨_, rfl⟩
        rw [← ef195] at hH
        have q196 : f195 30 2 = nI n := by rw [ef195, zu_n (fun h9 => absurd h9.2 (by decide))]; exact hMt.2.1
        have q197 : f195 30 0 = nI 1 := by rw [ef195]; exact zu_s
        have hMt := zMt.ci (fi' := f195) hMt (fun i9 k9 h9 => by rw [ef195]; exact zu_n (by omega))
        refine lv_aload_n hx hb dX12_price_87 rfl (lv_at hl 1 rfl) ?_
        refine zGetI (D := D) (ci := 12) (C := RX12) (T := TX12) (N := 71) hx hb hts hiX12 hown hH (zk_30 hF) rfl 0 (by decide) rfl hw0 (fun _ h9 => h9) dX12_price_88 q197 ?_
        refine lv_if_le (tgt := 96) hx hb dX12_price_91 (by decide) (fun c198 => absurd c198 (by decide)) (fun c198 => ?_)
        refine lv_iconst (v := nI 0) hx hb dX12_price_94 (by decide) ?_
        refine W.widen (k := 0) (n := 0) (by decide) (by decide) ?_
        exact W.iret (v := nI 0) hx hb hr (fun t9 ht9 hW9 => ⟨⟨nI 0, f195, rfl, Or.inr (Or.inl ⟨hno, rfl, by rw [ef195]⟩), zEnd1 hH ht9 hW9⟩, hS.F ht9⟩) hS.2.2 dX12_price_95
  · skip
    replace hn103 := zWi0 (rfl) (nI_toInt (by omega)) (nI_toInt (by omega)) hn103
    refine lv_if_eq (tgt := 44) hx hb dX12_price_8 (by decide) (fun c199 => ?_) (fun c199 => absurd (by decide) c199)
    refine lv_iconst (v := nI 0) hx hb dX12_price_44 (by decide) ?_
    refine lv_istore (lv' := [(5, .int (nI 0)), (0, .ref (τ.1 30)), (1, .int x), (2, .int y), (3, .int z), (4, .int w)]) hx hb dX12_price_45 hl (by decide) rfl (fun ls hl => ?_)
    refine lv_aload_n hx hb dX12_price_47 rfl (lv_at hl 1 rfl) ?_
    refine lv_aload_n hx hb dX12_price_48 rfl (lv_at hl 1 rfl) ?_
    refine lv_iload_n hx hb dX12_price_49 rfl (lv_at hl 2 rfl) ?_
    refine va_calli (va_runV (As := [.int x]) (rest := [.ref (τ.1 30)]) ⟨hx, hb, hml, hown, hts⟩ (m_isThing l hl0 D A sad τ fi fr ol x n hF hMt.2.1 (by omega)) (cwV 1 hts gX12_price_X12_isThing rfl rfl rfl (by decide +kernel) ⟨Nat.le_of_ble_eq_true rfl, Nat.le_of_ble_eq_true rfl⟩) ⟨zQc_bl, zRecv hH (zk_30 hF) rfl, zQc_at hz hS hA hH⟩ rfl rfl hl.1 rfl (lv_room (Nat.le_of_ble_eq_true rfl)) dX12_price_50 ⟨Nat.le_of_ble_eq_true rfl, Nat.le_of_ble_eq_true rfl⟩) hS (fun q _ h => h) (fun q h => h) (fun r200 u9 t9 H1 locs ht9 hvm9 hw hB hz1 hk1 hS => ?_)
    have hH := zMv ht9 hvm9 hB
    generalize H1 = H at hH hS ⊢
    rcases hw with ⟨t, ht, rfl, rfl⟩ | ⟨hno, rfl⟩
    · skip
      refine lv_if_ne (tgt := 60) hx hb dX12_price_53 (by decide) (fun c201 => ?_) (fun c201 => absurd c201 (by decide))
      refine lv_iload hx hb dX12_price_60 (lv_at hl 0 rfl) ?_
      refine lv_if_ne (tgt := 69) hx hb dX12_price_62 (by decide) (fun c202 => absurd (by decide) c202) (fun c202 => ?_)
      refine lv_iconst (v := nI 2) hx hb dX12_price_65 (by decide) ?_
      refine lv_goto (tgt := 84) hx hb dX12_price_66 (by decide) ?_
      refine zPutI (D := D) (ci := 12) (ty := .int) (C := RX12) (T := TX12) (N := 71) hx hb hts hiX12 tyX12 tyX12_ok nmX12 hown hH hS (zk_30 hF) rfl 0 (by decide) rfl hw0 (fun _ h9 => h9) rfl (by decide +kernel) rfl rfl dX12_price_84 (fun H locs hH hS => ?_)
      obtain ⟨f203, ef203⟩ : ∃ f9 : zFi, f9 = zu fi 30 0 (nI 2) := ⟨_, rfl⟩
      rw [← ef203] at hH
      have q204 : f203 30 2 = nI n := by rw [ef203, zu_n (fun h9 => absurd h9.2 (by decide))]; exact hMt.2.1
      have q205 : f203 30 0 = nI 2 := by rw [ef203]; exact zu_s
      have hMt := zMt.ci (fi' := f203) hMt (fun i9 k9 h9 => by rw [ef203]; exact zu_n (by omega))
      refine lv_aload_n hx hb dX12_price_87 rfl (lv_at hl 1 rfl) ?_
      refine zGetI (D := D) (ci := 12) (C := RX12) (T := TX12) (N := 71) hx hb hts hiX12 hown hH (zk_30 hF) rfl 0 (by decide) rfl hw0 (fun _ h9 => h9) dX12_price_88 q205 ?_
      refine lv_if_le (tgt := 96) hx hb dX12_price_91 (by decide) (fun c206 => absurd c206 (by decide)) (fun c206 => ?_)
      refine lv_iconst (v := nI 0) hx hb dX12_price_94 (by decide) ?_
      refine W.widen (k := 0) (n := 0) (by decide) (by decide) ?_
      exact W.iret (v := nI 0) hx hb hr (fun t9 ht9 hW9 => ⟨⟨nI 0, f203, rfl, Or.inr (Or.inr (Or.inl ⟨⟨t, ht, rfl⟩, fun h9 => by obtain ⟨a1, a2, a3, a4, a5, a6⟩ := h9; have k09 := hn103; omega, rfl, by rw [ef203]⟩)), zEnd1 hH ht9 hW9⟩, hS.F ht9⟩) hS.2.2 dX12_price_95
    · skip
      refine lv_if_ne (tgt := 60) hx hb dX12_price_53 (by decide) (fun c207 => absurd (by decide) c207) (fun c207 => ?_)
      refine lv_iconst (v := nI 1) hx hb dX12_price_56 (by decide) ?_
      refine lv_goto (tgt := 84) hx hb dX12_price_57 (by decide) ?_
      refine zPutI (D := D) (ci := 12) (ty := .int) (C := RX12) (T := TX12) (N := 71) hx hb hts hiX12 tyX12 tyX12_ok nmX12 hown hH hS (zk_30 hF) rfl 0 (by decide) rfl hw0 (fun _ h9 => h9) rfl (by decide +kernel) rfl rfl dX12_price_84 (fun H locs hH hS => ?_)
      obtain ⟨f208, ef208⟩ : ∃ f9 : zFi, f9 = zu fi 30 0 (nI 1) := ⟨_, rfl⟩
      rw [← ef208] at hH
      have q209 : f208 30 2 = nI n := by rw [ef208, zu_n (fun h9 => absurd h9.2 (by decide))]; exact hMt.2.1
      have q210 : f208 30 0 = nI 1 := by rw [ef208]; exact zu_s
      have hMt := zMt.ci (fi' := f208) hMt (fun i9 k9 h9 => by rw [ef208]; exact zu_n (by omega))
      refine lv_aload_n hx hb dX12_price_87 rfl (lv_at hl 1 rfl) ?_
      refine zGetI (D := D) (ci := 12) (C := RX12) (T := TX12) (N := 71) hx hb hts hiX12 hown hH (zk_30 hF) rfl 0 (by decide) rfl hw0 (fun _ h9 => h9) dX12_price_88 q210 ?_
      refine lv_if_le (tgt := 96) hx hb dX12_price_91 (by decide) (fun c211 => absurd c211 (by decide)) (fun c211 => ?_)
      refine lv_iconst (v := nI 0) hx hb dX12_price_94 (by decide) ?_
      refine W.widen (k := 0) (n := 0) (by decide) (by decide) ?_
      exact W.iret (v := nI 0) hx hb hr (fun t9 ht9 hW9 => ⟨⟨nI 0, f208, rfl, Or.inr (Or.inl ⟨hno, rfl, by rw [ef208]⟩), zEnd1 hH ht9 hW9⟩, hS.F ht9⟩) hS.2.2 dX12_price_95
set_option maxHeartbeats 4000000 in
set_option maxRecDepth 100000 in
/-- pick -/
theorem m_pickX (l : Launch) (hl0 : l.stackTraces = false) (D : va_G) (A : Nat → Prop) (sad : Nat → Nat) (τ : zTy) (fi : zFi) (fr : zFr) (ol : Int64) (x : Int32) (hF : zFix τ fr) (n : Nat) (hMt : zMt fi n) (p : Nat) (hMp : zMp fi n p) : Met l yX12_pick wsX12_pick ({ frames := 1, cells := 0, slots := 0, locals := 21 }) (va_Pc [.ref (τ.1 30), .int x] (zQc D A sad τ fi fr ol)) (va_Qi (fun (r : Int32) (u : zFi) => (∃ t, t < n ∧ x = nI t ∧ ((r = -1 ∧ u = zu fi 30 0 (nI 0) ∧ ((∃ j, j < p ∧ fi 71 j = nI t) ∨ p = 10)) ∨ (p < 10 ∧ (∀ j, j < p → ¬ fi 71 j = nI t) ∧ r = nI (p + 1) ∧ u = zu (zu (zu fi 30 0 (nI 0)) 71 p (nI t)) 30 68 (nI (p + 1))))) ∨ (¬ (0 ≤ x.toInt ∧ x.toInt < (n : Int)) ∧ r = nI 0 ∧ u = zu fi 30 0 (nI 1))) (fun (u : zFi) (t : State) => zH D A τ u fr ol t t.heap) A) 0 0 A := by
  refine Met.ofW (cc := cX12_pick) (maxL := 3) (ret := (some .int)) (by decide) rfl ?_
  intro p9 e9 s m args below meth c9 s₁ B hml hv
  obtain ⟨rfl, hz, hH, hA⟩ := hv
  have hx := B.exec
  have hb := B.bytes
  have hr := B.returns
  have hts := atoms_spec (ws := wsX12_pick) B.pre
  have hown : s.vm.findClass RX12 = some m.cls := findClass_of_methodNamed B.named
  have hlocks := B.notSynchronized
  have hS : va_S A s.heap s.heap [] := va_S.rf
  have hl := lv_entry ([.ref (τ.1 30), .int x]) (n := 3) (Nat.le_of_ble_eq_true rfl)
  rw [lg_entry_eq]
  generalize (lg_sl ([.ref (τ.1 30), .int x]) ++ List.replicate (3 - (lg_sl ([.ref (τ.1 30), .int x])).length) Slot.unset).toArray = ls at hl ⊢
  have hl : lv_has ls 3 [(0, .ref (τ.1 30)), (1, .int x)] := hl
  have hm30 := hMt.1
  have hp10 := hMp.1
  have hw0 := hts (.fieldLink RX12 165 "PostHouseModel" "thrown" "I") (by decide +kernel)
  have hiX12 : ∀ w ∈ u_ws RX12 TX12 71, w ∈ wsX12_pick := fun _ h => List.mem_cons_of_mem _ (List.mem_append_right _ h)
  have hw2 := hts (.fieldLink RX12 351 "PostHouseModel" "picks" "I") (by decide +kernel)
  have hw3 := hts (.fieldLink RX12 159 "PostHouseModel" "pick" "[I") (by decide +kernel)
  refine lv_aload_n hx hb dX12_pick_0 rfl (lv_at hl 0 rfl) ?_
  refine lv_aload_n hx hb dX12_pick_1 rfl (lv_at hl 0 rfl) ?_
  refine lv_iload_n hx hb dX12_pick_2 rfl (lv_at hl 1 rfl) ?_
  refine va_calli (va_runV (As := [.int x]) (rest := [.ref (τ.1 30)]) ⟨hx, hb, hml, hown, hts⟩ (m_isThing l hl0 D A sad τ fi fr ol x n hF hMt.2.1 (by omega)) (cwV 1 hts gX12_pick_X12_isThing rfl rfl rfl (by decide +kernel) ⟨Nat.le_of_ble_eq_true rfl, Nat.le_of_ble_eq_true rfl⟩) ⟨zQc_bl, zRecv hH (zk_30 hF) rfl, zQc_at hz hS hA hH⟩ rfl rfl hl.1 rfl (lv_room (Nat.le_of_ble_eq_true rfl)) dX12_pick_3 ⟨Nat.le_of_ble_eq_true rfl, Nat.le_of_ble_eq_true rfl⟩) hS (fun q _ h => h) (fun q h => h) (fun r101 u9 t9 H1 locs ht9 hvm9 hw hB hz1 hk1 hS => ?_)
  have hH := zMv ht9 hvm9 hB
  generalize H1 = H at hH hS ⊢
  rcases hw with ⟨t, ht, rfl, rfl⟩ | ⟨hno, rfl⟩
  · skip
    refine lv_if_ne (tgt := 13) hx hb dX12_pick_6 (by decide) (fun c102 => ?_) (fun c102 => absurd c102 (by decide))
    refine lv_iconst (v := nI 0) hx hb dX12_pick_13 (by decide) ?_
    refine zPutI (D := D) (ci := 12) (ty := .int) (C := RX12) (T := TX12) (N := 71) hx hb hts hiX12 tyX12 tyX12_ok nmX12 hown hH hS (zk_30 hF) rfl 0 (by decide) rfl hw0 (fun _ h9 => h9) rfl (by decide +kernel) rfl rfl dX12_pick_14 (fun H locs hH hS => ?_)
    obtain ⟨f103, ef103⟩ : ∃ f9 : zFi, f9 = zu fi 30 0 (nI 0) := ⟨_, rfl⟩
    rw [← ef103] at hH
    have q104 : f103 30 2 = nI n := by rw [ef103, zu_n (fun h9 => absurd h9.2 (by decide))]; exact hMt.2.1
    have q105 : f103 30 68 = nI p := by rw [ef103, zu_n (fun h9 => absurd h9.2 (by decide))]; exact hMp.2.1
    have q106 : f103 30 0 = nI 0 := by rw [ef103]; exact zu_s
    refine lv_aload_n hx hb dX12_pick_17 rfl (lv_at hl 0 rfl) ?_
    refine zGetI (D := D) (ci := 12) (C := RX12) (T := TX12) (N := 71) hx hb hts hiX12 hown hH (zk_30 hF) rfl 0 (by decide) rfl hw0 (fun _ h9 => h9) dX12_pick_18 q106 ?_
    refine lv_if_le (tgt := 26) hx hb dX12_pick_21 (by decide) (fun c107 => ?_) (fun c107 => absurd (by decide) c107)
    refine lv_iconst (v := nI 0) hx hb dX12_pick_26 (by decide) ?_
    refine lv_istore_n (lv' := [(2, .int (nI 0)), (0, .ref (τ.1 30)), (1, .int (nI t))]) hx hb dX12_pick_27 rfl hl (by decide) rfl (fun ls hl => ?_)
    refine zLp (σ := Nat) (fun x9 k9 H locs ls => (fun (i : Nat) => k9 = p - i ∧ (i ≤ p ∧ ∀ j, j < i → ¬ f103 71 j = nI t) ∧ zH D A τ f103 fr ol s H ∧ va_S A s.heap H locs ∧ lv_has ls 3 [(0, .ref (τ.1 30)), (1, .int (nI t)), (2, .int (nI i))]) x9) 0 (p - 0) (show p - 0 = p - 0 ∧ (0 ≤ p ∧ ∀ j, j < 0 → ¬ f103 71 j = nI t) ∧ zH D A τ f103 fr ol s _ ∧ va_S A s.heap _ _ ∧ lv_has _ 3 [(0, .ref (τ.1 30)), (1, .int (nI t)), (2, .int (nI 0))] from ⟨rfl, ⟨Nat.zero_le _, fun j h => absurd h (by omega)⟩, hH, hS, lv_sub hl [1, 2, 0] rfl⟩) (fun k9 ih x9 H locs ls hv9 => ?_)
    generalize x9 = i at hv9
    have hv9 : k9 = p - i ∧ (i ≤ p ∧ ∀ j, j < i → ¬ f103 71 j = nI t) ∧ zH D A τ f103 fr ol s H ∧ va_S A s.heap H locs ∧ lv_has ls 3 [(0, .ref (τ.1 30)), (1, .int (nI t)), (2, .int (nI i))] := hv9
    obtain ⟨hkih108, hv9, hH, hS, hl⟩ := hv9
    obtain ⟨h1, hj⟩ := hv9
    have ih108 := ih
    clear ih
    refine lv_iload_n hx hb dX12_pick_28 rfl (lv_at hl 2 rfl) ?_
    refine lv_aload_n hx hb dX12_pick_29 rfl (lv_at hl 0 rfl) ?_
    refine zGetI (D := D) (ci := 12) (C := RX12) (T := TX12) (N := 71) hx hb hts hiX12 hown hH (zk_30 hF) rfl 68 (by decide) rfl hw2 (fun _ h9 => h9) dX12_pick_30 q105 ?_
    refine lv_icmp_ge (tgt := 54) hx hb dX12_pick_33 (by decide) (fun c109 => ?_) (fun c109 => ?_)
    · have zc109 := c109
      replace zc109 := zc_le (nI_toInt (by omega)) (nI_toInt (by omega)) zc109
      refine lv_aload_n hx hb dX12_pick_54 rfl (lv_at hl 0 rfl) ?_
      refine zGetI (D := D) (ci := 12) (C := RX12) (T := TX12) (N := 71) hx hb hts hiX12 hown hH (zk_30 hF) rfl 68 (by decide) rfl hw2 (fun _ h9 => h9) dX12_pick_55 q105 ?_
      refine lv_bipush (v := nI 10) hx hb dX12_pick_58 (by decide) ?_
      refine lv_icmp_ne (tgt := 65) hx hb dX12_pick_60 (by decide) (fun c110 => ?_) (fun c110 => ?_)
      · have zc110 := c110
        replace zc110 := zc_neq (nI_toInt (by omega)) (nI_toInt (by omega)) zc110
        refine lv_aload_n hx hb dX12_pick_65 rfl (lv_at hl 0 rfl) ?_
        refine zGetR (D := D) (ci := 12) (C := RX12) (T := TX12) (N := 71) hx hb hts hiX12 hown hH (zk_30 hF) rfl 69 (by decide) rfl hw3 (fun _ h9 => h9) dX12_pick_66 (zr_30_69 hF) ?_
        refine lv_aload_n hx hb dX12_pick_69 rfl (lv_at hl 0 rfl) ?_
        refine zGetI (D := D) (ci := 12) (C := RX12) (T := TX12) (N := 71) hx hb hts hiX12 hown hH (zk_30 hF) rfl 68 (by decide) rfl hw2 (fun _ h9 => h9) dX12_pick_70 q105 ?_
        refine lv_iload_n hx hb dX12_pick_73 rfl (lv_at hl 1 rfl) ?_
        refine zIastN (D := D) hx hb hH hS (zk_71 hF) (zn_71 hF) (by omega) (by omega) dX12_pick_74 (fun H locs hH hS => ?_)
        obtain ⟨f111, ef111⟩ : ∃ f9 : zFi, f9 = zu f103 71 p (nI t) := ⟨_, rfl⟩
        rw [← ef111] at hH
        have q112 : f111 30 2 = nI n := by rw [ef111, zu_n (fun h9 => absurd h9.1 (by decide))]; exact q104
        have q113 : f111 30 68 = nI p := by rw [ef111, zu_n (fun h9 => absurd h9.1 (by decide))]; exact q105
        have q114 : f111 30 0 = nI 0 := by rw [ef111, zu_n (fun h9 => absurd h9.1 (by decide))]; exact q106
        have q115 : f111 71 p = nI t := by rw [ef111]; exact zu_s
        refine lv_aload_n hx hb dX12_pick_75 rfl (lv_at hl 0 rfl) ?_
        refine lv_dup hx hb dX12_pick_76 rfl ?_
        refine zGetI (D := D) (ci := 12) (C := RX12) (T := TX12) (N := 71) hx hb hts hiX12 hown hH (zk_30 hF) rfl 68 (by decide) rfl hw2 (fun _ h9 => h9) dX12_pick_77 q113 ?_
        refine lv_iconst (v := nI 1) hx hb dX12_pick_80 (by decide) ?_
        refine lv_iadd hx hb dX12_pick_81 ?_
        refine lv_topi (fun v116 ev116 => ?_)
        obtain rfl : v116 = nI (p + 1) := ev116.trans (nI_add _ _)
        refine zPutI (D := D) (ci := 12) (ty := .int) (C := RX12) (T := TX12) (N := 71) hx hb hts hiX12 tyX12 tyX12_ok nmX12 hown hH hS (zk_30 hF) rfl 68 (by decide) rfl hw2 (fun _ h9 => h9) rfl (by decide +kernel) rfl rfl dX12_pick_82 (fun H locs hH hS => ?_)
        obtain ⟨f117, ef117⟩ : ∃ f9 : zFi, f9 = zu f111 30 68 (nI (p + 1)) := ⟨_, rfl⟩
        rw [← ef117] at hH
        have q118 : f117 30 2 = nI n := by rw [ef117, zu_n (fun h9 => absurd h9.2 (by decide))]; exact q112
        have q119 : f117 30 0 = nI 0 := by rw [ef117, zu_n (fun h9 => absurd h9.2 (by decide))]; exact q114
        have q120 : f117 71 p = nI t := by rw [ef117, zu_n (fun h9 => absurd h9.1 (by decide))]; exact q115
        have q121 : f117 30 68 = nI (p + 1) := by rw [ef117]; exact zu_s
        refine lv_aload_n hx hb dX12_pick_85 rfl (lv_at hl 0 rfl) ?_
        refine zGetI (D := D) (ci := 12) (C := RX12) (T := TX12) (N := 71) hx hb hts hiX12 hown hH (zk_30 hF) rfl 68 (by decide) rfl hw2 (fun _ h9 => h9) dX12_pick_86 q121 ?_
        refine W.widen (k := 0) (n := 0) (by decide) (by decide) ?_
        exact W.iret (v := nI (p + 1)) hx hb hr (fun t9 ht9 hW9 => ⟨⟨nI (p + 1), f117, rfl, Or.inl ⟨t, ht, rfl, Or.inr ⟨by omega, fun j h => by have h9 := hj j (by omega); rw [ef103, zu_n (by omega)] at h9; exact h9, rfl, by rw [ef117, ef111, ef103]⟩⟩, zEnd1 hH ht9 hW9⟩, hS.F ht9⟩) hS.2.2 dX12_pick_89
      · have zc110 := c110
        replace zc110 := zc_eq (nI_toInt (by omega)) (nI_toInt (by omega)) zc110
        refine lv_iconst (v := (-1)) hx hb dX12_pick_63 (by decide) ?_
        refine W.widen (k := 0) (n := 0) (by decide) (by decide) ?_
        exact W.iret (v := (-1)) hx hb hr (fun t9 ht9 hW9 => ⟨⟨(-1), f103, rfl, Or.inl ⟨t, ht, rfl, Or.inl ⟨rfl, by rw [ef103], Or.inr (by omega)⟩⟩, zEnd1 hH ht9 hW9⟩, hS.F ht9⟩) hS.2.2 dX12_pick_64
    · have zc109 := c109
      replace zc109 := zc_nle (nI_toInt (by omega)) (nI_toInt (by omega)) zc109
      refine lv_aload_n hx hb dX12_pick_36 rfl (lv_at hl 0 rfl) ?_
      refine zGetR (D := D) (ci := 12) (C := RX12) (T := TX12) (N := 71) hx hb hts hiX12 hown hH (zk_30 hF) rfl 69 (by decide) rfl hw3 (fun _ h9 => h9) dX12_pick_37 (zr_30_69 hF) ?_
      refine lv_iload_n hx hb dX12_pick_40 rfl (lv_at hl 2 rfl) ?_
      refine zIaldN (D := D) hx hb hH (zk_71 hF) (zn_71 hF) (by omega) (by omega) rfl dX12_pick_41 ?_
      refine lv_iload_n hx hb dX12_pick_42 rfl (lv_at hl 1 rfl) ?_
      refine lv_icmp_ne (tgt := 48) hx hb dX12_pick_43 (by decide) (fun c122 => ?_) (fun c122 => ?_)
      · have zc122 := c122
        replace zc122 := zc_neq (rfl) (nI_toInt (by omega)) zc122
        refine lv_iinc (v := nI (i + 1)) (lv' := [(2, .int (nI (i + 1))), (0, .ref (τ.1 30)), (1, .int (nI t))]) hx hb dX12_pick_48 hl (k := 2) rfl (by rw [show (Int32.ofInt 1 : Int32) = nI 1 from by decide, nI_add]) (by decide) rfl (fun ls hl => ?_)
        refine lv_goto (tgt := 28) hx hb dX12_pick_51 (by decide) ?_
        exact ih108 (p - (i + 1)) (by omega) (i + 1) _ _ _ (show p - (i + 1) = p - (i + 1) ∧ ((i + 1) ≤ p ∧ ∀ j, j < (i + 1) → ¬ f103 71 j = nI t) ∧ zH D A τ f103 fr ol s _ ∧ va_S A s.heap _ _ ∧ lv_has _ 3 [(0, .ref (τ.1 30)), (1, .int (nI t)), (2, .int (nI (i + 1)))] from ⟨rfl, ⟨by omega, fun j h => by by_cases h7 : j = i; (subst h7; exact c122); exact hj j (by omega)⟩, hH, hS, lv_sub hl [1, 2, 0] rfl⟩)
      · have zc122 := c122
        replace zc122 := zc_eq (rfl) (nI_toInt (by omega)) zc122
        refine lv_iconst (v := (-1)) hx hb dX12_pick_46 (by decide) ?_
        refine W.widen (k := 0) (n := 0) (by decide) (by decide) ?_
        exact W.iret (v := (-1)) hx hb hr (fun t9 ht9 hW9 => ⟨⟨(-1), f103, rfl, Or.inl ⟨t, ht, rfl, Or.inl ⟨rfl, by rw [ef103], Or.inl ⟨i, by omega, by have h9 := c122; rw [ef103, zu_n (by omega)] at h9; exact h9⟩⟩⟩, zEnd1 hH ht9 hW9⟩, hS.F ht9⟩) hS.2.2 dX12_pick_47
  · skip
    refine lv_if_ne (tgt := 13) hx hb dX12_pick_6 (by decide) (fun c123 => absurd (by decide) c123) (fun c123 => ?_)
    refine lv_iconst (v := nI 1) hx hb dX12_pick_9 (by decide) ?_
    refine lv_goto (tgt := 14) hx hb dX12_pick_10 (by decide) ?_
    refine zPutI (D := D) (ci := 12) (ty := .int) (C := RX12) (T := TX12) (N := 71) hx hb hts hiX12 tyX12 tyX12_ok nmX12 hown hH hS (zk_30 hF) rfl 0 (by decide) rfl hw0 (fun _ h9 => h9) rfl (by decide +kernel) rfl rfl dX12_pick_14 (fun H locs hH hS => ?_)
    obtain ⟨f124, ef124⟩ : ∃ f9 : zFi, f9 = zu fi 30 0 (nI 1) := ⟨_, rfl⟩
    rw [← ef124] at hH
    have q125 : f124 30 2 = nI n := by rw [ef124, zu_n (fun h9 => absurd h9.2 (by decide))]; exact hMt.2.1
    have q126 : f124 30 68 = nI p := by rw [ef124, zu_n (fun h9 => absurd h9.2 (by decide))]; exact hMp.2.1
    have q127 : f124 30 0 = nI 1 := by rw [ef124]; exact zu_s
    refine lv_aload_n hx hb dX12_pick_17 rfl (lv_at hl 0 rfl) ?_
    refine zGetI (D := D) (ci := 12) (C := RX12) (T := TX12) (N := 71) hx hb hts hiX12 hown hH (zk_30 hF) rfl 0 (by decide) rfl hw0 (fun _ h9 => h9) dX12_pick_18 q127 ?_
    refine lv_if_le (tgt := 26) hx hb dX12_pick_21 (by decide) (fun c128 => absurd c128 (by decide)) (fun c128 => ?_)
    refine lv_iconst (v := nI 0) hx hb dX12_pick_24 (by decide) ?_
    refine W.widen (k := 0) (n := 0) (by decide) (by decide) ?_
    exact W.iret (v := nI 0) hx hb hr (fun t9 ht9 hW9 => ⟨⟨nI 0, f124, rfl, Or.inr ⟨hno, rfl, by rw [ef124]⟩, zEnd1 hH ht9 hW9⟩, hS.F ht9⟩) hS.2.2 dX12_pick_25
set_option maxHeartbeats 4000000 in
set_option maxRecDepth 100000 in
/-- coming -/
theorem m_comingX (l : Launch) (hl0 : l.stackTraces = false) (D : va_G) (A : Nat → Prop) (sad : Nat → Nat) (τ : zTy) (fi : zFi) (fr : zFr) (ol : Int64) (x y z : Int32) (td : Nat) (htd : fi 30 1 = nI td) (htd9 : td ≤ 999) (hF : zFix τ fr) (n : Nat) (hMt : zMt fi n) (c : Nat) (hMc : zMc fi n c) : Met l yX12_coming wsX12_coming ({ frames := 1, cells := 0, slots := 0, locals := 22 }) (va_Pc [.ref (τ.1 30), .int x, .int y, .int z] (zQc D A sad τ fi fr ol)) (va_Qi (fun (r : Int32) (u : zFi) => (∃ t, t < n ∧ x = nI t ∧ (((td : Nat) : Int) + 1 ≤ y.toInt ∧ y.toInt ≤ 999 ∧ 1 ≤ z.toInt ∧ z.toInt ≤ 10000) ∧ c < 60 ∧ r = nI (c + 1) ∧ u = zu (zu (zu (zu (zu fi 30 0 (nI 0)) 41 c (nI t)) 42 c y) 43 c z) 30 13 (nI (c + 1))) ∨ (¬ (0 ≤ x.toInt ∧ x.toInt < (n : Int)) ∧ r = nI 0 ∧ u = zu fi 30 0 (nI 1)) ∨ ((∃ t, t < n ∧ x = nI t) ∧ ¬ (((td : Nat) : Int) + 1 ≤ y.toInt ∧ y.toInt ≤ 999 ∧ 1 ≤ z.toInt ∧ z.toInt ≤ 10000) ∧ r = nI 0 ∧ u = zu fi 30 0 (nI 2)) ∨ ((∃ t, t < n ∧ x = nI t) ∧ (((td : Nat) : Int) + 1 ≤ y.toInt ∧ y.toInt ≤ 999 ∧ 1 ≤ z.toInt ∧ z.toInt ≤ 10000) ∧ c = 60 ∧ r = nI 0 ∧ u = zu fi 30 0 (nI 3))) (fun (u : zFi) (t : State) => zH D A τ u fr ol t t.heap) A) 0 0 A := by
  refine Met.ofW (cc := cX12_coming) (maxL := 4) (ret := (some .int)) (by decide) rfl ?_
  intro p9 e9 s m args below meth c9 s₁ B hml hv
  obtain ⟨rfl, hz, hH, hA⟩ := hv
  have hx := B.exec
  have hb := B.bytes
  have hr := B.returns
  have hts := atoms_spec (ws := wsX12_coming) B.pre
  have hown : s.vm.findClass RX12 = some m.cls := findClass_of_methodNamed B.named
  have hlocks := B.notSynchronized
  have hS : va_S A s.heap s.heap [] := va_S.rf
  have hl := lv_entry ([.ref (τ.1 30), .int x, .int y, .int z]) (n := 4) (Nat.le_of_ble_eq_true rfl)
  rw [lg_entry_eq]
  generalize (lg_sl ([.ref (τ.1 30), .int x, .int y, .int z]) ++ List.replicate (4 - (lg_sl ([.ref (τ.1 30), .int x, .int y, .int z])).length) Slot.unset).toArray = ls at hl ⊢
  have hl : lv_has ls 4 [(0, .ref (τ.1 30)), (1, .int x), (2, .int y), (3, .int z)] := hl
  have hm30 := hMt.1
  have hc60 := hMc.1
  have hiX12 : ∀ w ∈ u_ws RX12 TX12 71, w ∈ wsX12_coming := fun _ h => List.mem_cons_of_mem _ (List.mem_append_right _ h)
  have hw1 := hts (.fieldLink RX12 200 "PostHouseModel" "today" "I") (by decide +kernel)
  have hw2 := hts (.fieldLink RX12 165 "PostHouseModel" "thrown" "I") (by decide +kernel)
  have hw3 := hts (.fieldLink RX12 203 "PostHouseModel" "comings" "I") (by decide +kernel)
  have hw4 := hts (.fieldLink RX12 40 "PostHouseModel" "comingThing" "[I") (by decide +kernel)
  have hw5 := hts (.fieldLink RX12 43 "PostHouseModel" "comingDay" "[I") (by decide +kernel)
  have hw6 := hts (.fieldLink RX12 46 "PostHouseModel" "comingMany" "[I") (by decide +kernel)
  refine lv_aload_n hx hb dX12_coming_0 rfl (lv_at hl 0 rfl) ?_
  refine lv_aload_n hx hb dX12_coming_1 rfl (lv_at hl 0 rfl) ?_
  refine lv_iload_n hx hb dX12_coming_2 rfl (lv_at hl 1 rfl) ?_
  refine va_calli (va_runV (As := [.int x]) (rest := [.ref (τ.1 30)]) ⟨hx, hb, hml, hown, hts⟩ (m_isThing l hl0 D A sad τ fi fr ol x n hF hMt.2.1 (by omega)) (cwV 1 hts gX12_coming_X12_isThing rfl rfl rfl (by decide +kernel) ⟨Nat.le_of_ble_eq_true rfl, Nat.le_of_ble_eq_true rfl⟩) ⟨zQc_bl, zRecv hH (zk_30 hF) rfl, zQc_at hz hS hA hH⟩ rfl rfl hl.1 rfl (lv_room (Nat.le_of_ble_eq_true rfl)) dX12_coming_3 ⟨Nat.le_of_ble_eq_true rfl, Nat.le_of_ble_eq_true rfl⟩) hS (fun q _ h => h) (fun q h => h) (fun r101 u9 t9 H1 locs ht9 hvm9 hw hB hz1 hk1 hS => ?_)
  have hH := zMv ht9 hvm9 hB
  generalize H1 = H at hH hS ⊢
  rcases hw with ⟨t, ht, rfl, rfl⟩ | ⟨hno, rfl⟩
  · skip
    refine lv_if_ne (tgt := 13) hx hb dX12_coming_6 (by decide) (fun c102 => ?_) (fun c102 => absurd c102 (by decide))
    refine lv_iload_n hx hb dX12_coming_13 rfl (lv_at hl 2 rfl) ?_
    refine lv_aload_n hx hb dX12_coming_14 rfl (lv_at hl 0 rfl) ?_
    refine zGetI (D := D) (ci := 12) (C := RX12) (T := TX12) (N := 71) hx hb hts hiX12 hown hH (zk_30 hF) rfl 1 (by decide) rfl hw1 (fun _ h9 => h9) dX12_coming_15 htd ?_
    refine lv_icmp_le (tgt := 39) hx hb dX12_coming_18 (by decide) (fun c103 => ?_) (fun c103 => ?_)
    · have zc103 := c103
      replace zc103 := zc_le (rfl) (nI_toInt (by omega)) zc103
      refine lv_iconst (v := nI 2) hx hb dX12_coming_39 (by decide) ?_
      refine lv_goto (tgt := 57) hx hb dX12_coming_40 (by decide) ?_
      refine zPutI (D := D) (ci := 12) (ty := .int) (C := RX12) (T := TX12) (N := 71) hx hb hts hiX12 tyX12 tyX12_ok nmX12 hown hH hS (zk_30 hF) rfl 0 (by decide) rfl hw2 (fun _ h9 => h9) rfl (by decide +kernel) rfl rfl dX12_coming_57 (fun H locs hH hS => ?_)
      obtain ⟨f104, ef104⟩ : ∃ f9 : zFi, f9 = zu fi 30 0 (nI 2) := ⟨_, rfl⟩
      rw [← ef104] at hH
      have q105 : f104 30 2 = nI n := by rw [ef104, zu_n (fun h9 => absurd h9.2 (by decide))]; exact hMt.2.1
      have q106 : f104 30 13 = nI c := by rw [ef104, zu_n (fun h9 => absurd h9.2 (by decide))]; exact hMc.2.1
      have q107 : f104 30 1 = nI td := by rw [ef104, zu_n (fun h9 => absurd h9.2 (by decide))]; exact htd
      have q108 : f104 30 0 = nI 2 := by rw [ef104]; exact zu_s
      refine lv_aload_n hx hb dX12_coming_60 rfl (lv_at hl 0 rfl) ?_
      refine zGetI (D := D) (ci := 12) (C := RX12) (T := TX12) (N := 71) hx hb hts hiX12 hown hH (zk_30 hF) rfl 0 (by decide) rfl hw2 (fun _ h9 => h9) dX12_coming_61 q108 ?_
      refine lv_if_le (tgt := 69) hx hb dX12_coming_64 (by decide) (fun c109 => absurd c109 (by decide)) (fun c109 => ?_)
      refine lv_iconst (v := nI 0) hx hb dX12_coming_67 (by decide) ?_
      refine W.widen (k := 0) (n := 0) (by decide) (by decide) ?_
      exact W.iret (v := nI 0) hx hb hr (fun t9 ht9 hW9 => ⟨⟨nI 0, f104, rfl, Or.inr (Or.inr (Or.inl ⟨⟨t, ht, rfl⟩, fun h9 => by obtain ⟨a1, a2, a3, a4⟩ := h9; omega, rfl, by rw [ef104]⟩)), zEnd1 hH ht9 hW9⟩, hS.F ht9⟩) hS.2.2 dX12_coming_68
    · have zc103 := c103
      replace zc103 := zc_nle (rfl) (nI_toInt (by omega)) zc103
      refine lv_iload_n hx hb dX12_coming_21 rfl (lv_at hl 2 rfl) ?_
      refine lv_sipush (v := nI 999) hx hb dX12_coming_22 (by decide) ?_
      refine lv_icmp_gt (tgt := 39) hx hb dX12_coming_25 (by decide) (fun c110 => ?_) (fun c110 => ?_)
      · have zc110 := c110
        replace zc110 := zc_lt (nI_toInt (by omega)) (rfl) zc110
        refine lv_iconst (v := nI 2) hx hb dX12_coming_39 (by decide) ?_
        refine lv_goto (tgt := 57) hx hb dX12_coming_40 (by decide) ?_
        refine zPutI (D := D) (ci := 12) (ty := .int) (C := RX12) (T := TX12) (N := 71) hx hb hts hiX12 tyX12 tyX12_ok nmX12 hown hH hS (zk_30 hF) rfl 0 (by decide) rfl hw2 (fun _ h9 => h9) rfl (by decide +kernel) rfl rfl dX12_coming_57 (fun H locs hH hS => ?_)
        obtain ⟨f111, ef111⟩ : ∃ f9 : zFi, f9 = zu fi 30 0 (nI 2) := ⟨_, rfl⟩
        rw [← ef111] at hH
        have q112 : f111 30 2 = nI n := by rw [ef111, zu_n (fun h9 => absurd h9.2 (by decide))]; exact hMt.2.1
        have q113 : f111 30 13 = nI c := by rw [ef111, zu_n (fun h9 => absurd h9.2 (by decide))]; exact hMc.2.1
        have q114 : f111 30 1 = nI td := by rw [ef111, zu_n (fun h9 => absurd h9.2 (by decide))]; exact htd
        have q115 : f111 30 0 = nI 2 := by rw [ef111]; exact zu_s
        refine lv_aload_n hx hb dX12_coming_60 rfl (lv_at hl 0 rfl) ?_
        refine zGetI (D := D) (ci := 12) (C := RX12) (T := TX12) (N := 71) hx hb hts hiX12 hown hH (zk_30 hF) rfl 0 (by decide) rfl hw2 (fun _ h9 => h9) dX12_coming_61 q115 ?_
        refine lv_if_le (tgt := 69) hx hb dX12_coming_64 (by decide) (fun c116 => absurd c116 (by decide)) (fun c116 => ?_)
        refine lv_iconst (v := nI 0) hx hb dX12_coming_67 (by decide) ?_
        refine W.widen (k := 0) (n := 0) (by decide) (by decide) ?_
        exact W.iret (v := nI 0) hx hb hr (fun t9 ht9 hW9 => ⟨⟨nI 0, f111, rfl, Or.inr (Or.inr (Or.inl ⟨⟨t, ht, rfl⟩, fun h9 => by obtain ⟨a1, a2, a3, a4⟩ := h9; omega, rfl, by rw [ef111]⟩)), zEnd1 hH ht9 hW9⟩, hS.F ht9⟩) hS.2.2 dX12_coming_68
      · have zc110 := c110
        replace zc110 := zc_nlt (nI_toInt (by omega)) (rfl) zc110
        refine lv_iload_n hx hb dX12_coming_28 rfl (lv_at hl 3 rfl) ?_
        refine lv_iconst (v := nI 1) hx hb dX12_coming_29 (by decide) ?_
        refine lv_sipush (v := nI 10000) hx hb dX12_coming_30 (by decide) ?_
        refine va_calli (va_runS (As := [.int z, .int (nI 1), .int (nI 10000)]) (rest := [.ref (τ.1 30)]) ⟨hx, hb, hml, hown, hts⟩ (m_isIn l hl0 D A sad τ fi fr ol z (nI 1) (nI 10000)) (cwS 3 hts gX12_coming_X12_isIn rfl rfl rfl (by decide +kernel) ⟨Nat.le_of_ble_eq_true rfl, Nat.le_of_ble_eq_true rfl⟩) ⟨zQc_bl, zQc_at hz hS hA hH⟩ rfl rfl hl.1 rfl (lv_room (Nat.le_of_ble_eq_true rfl)) dX12_coming_33 ⟨Nat.le_of_ble_eq_true rfl, Nat.le_of_ble_eq_true rfl⟩) hS (fun q _ h => h) (fun q h => h) (fun r117 u9 t9 H1 locs ht9 hvm9 hw hB hz1 hk1 hS => ?_)
        have hH := zMv ht9 hvm9 hB
        generalize H1 = H at hH hS ⊢
        rcases hw with ⟨rfl, hy118⟩ | ⟨rfl, hn119⟩
        · skip
          replace hy118 := zWi1 (rfl) (nI_toInt (by omega)) (nI_toInt (by omega)) hy118
          refine lv_if_ne (tgt := 43) hx hb dX12_coming_36 (by decide) (fun c120 => ?_) (fun c120 => absurd c120 (by decide))
          refine lv_aload_n hx hb dX12_coming_43 rfl (lv_at hl 0 rfl) ?_
          refine zGetI (D := D) (ci := 12) (C := RX12) (T := TX12) (N := 71) hx hb hts hiX12 hown hH (zk_30 hF) rfl 13 (by decide) rfl hw3 (fun _ h9 => h9) dX12_coming_44 hMc.2.1 ?_
          refine lv_bipush (v := nI 60) hx hb dX12_coming_47 (by decide) ?_
          refine lv_icmp_ne (tgt := 56) hx hb dX12_coming_49 (by decide) (fun c121 => ?_) (fun c121 => ?_)
          · have zc121 := c121
            replace zc121 := zc_neq (nI_toInt (by omega)) (nI_toInt (by omega)) zc121
            refine lv_iconst (v := nI 0) hx hb dX12_coming_56 (by decide) ?_
            refine zPutI (D := D) (ci := 12) (ty := .int) (C := RX12) (T := TX12) (N := 71) hx hb hts hiX12 tyX12 tyX12_ok nmX12 hown hH hS (zk_30 hF) rfl 0 (by decide) rfl hw2 (fun _ h9 => h9) rfl (by decide +kernel) rfl rfl dX12_coming_57 (fun H locs hH hS => ?_)
            obtain ⟨f122, ef122⟩ : ∃ f9 : zFi, f9 = zu fi 30 0 (nI 0) := ⟨_, rfl⟩
            rw [← ef122] at hH
            have q123 : f122 30 2 = nI n := by rw [ef122, zu_n (fun h9 => absurd h9.2 (by decide))]; exact hMt.2.1
            have q124 : f122 30 13 = nI c := by rw [ef122, zu_n (fun h9 => absurd h9.2 (by decide))]; exact hMc.2.1
            have q125 : f122 30 1 = nI td := by rw [ef122, zu_n (fun h9 => absurd h9.2 (by decide))]; exact htd
            have q126 : f122 30 0 = nI 0 := by rw [ef122]; exact zu_s
            refine lv_aload_n hx hb dX12_coming_60 rfl (lv_at hl 0 rfl) ?_
            refine zGetI (D := D) (ci := 12) (C := RX12) (T := TX12) (N := 71) hx hb hts hiX12 hown hH (zk_30 hF) rfl 0 (by decide) rfl hw2 (fun _ h9 => h9) dX12_coming_61 q126 ?_
            refine lv_if_le (tgt := 69) hx hb dX12_coming_64 (by decide) (fun c127 => ?_) (fun c127 => absurd (by decide) c127)
            refine lv_aload_n hx hb dX12_coming_69 rfl (lv_at hl 0 rfl) ?_
            refine zGetR (D := D) (ci := 12) (C := RX12) (T := TX12) (N := 71) hx hb hts hiX12 hown hH (zk_30 hF) rfl 14 (by decide) rfl hw4 (fun _ h9 => h9) dX12_coming_70 (zr_30_14 hF) ?_
            refine lv_aload_n hx hb dX12_coming_73 rfl (lv_at hl 0 rfl) ?_
            refine zGetI (D := D) (ci := 12) (C := RX12) (T := TX12) (N := 71) hx hb hts hiX12 hown hH (zk_30 hF) rfl 13 (by decide) rfl hw3 (fun _ h9 => h9) dX12_coming_74 q124 ?_
            refine lv_iload_n hx hb dX12_coming_77 rfl (lv_at hl 1 rfl) ?_
            refine zIastN (D := D) hx hb hH hS (zk_41 hF) (zn_41 hF) (by omega) (by omega) dX12_coming_78 (fun H locs hH hS => ?_)
            obtain ⟨f128, ef128⟩ : ∃ f9 : zFi, f9 = zu f122 41 c (nI t) := ⟨_, rfl⟩
            rw [← ef128] at hH
            have q129 : f128 30 2 = nI n := by rw [ef128, zu_n (fun h9 => absurd h9.1 (by decide))]; exact q123
            have q130 : f128 30 13 = nI c := by rw [ef128, zu_n (fun h9 => absurd h9.1 (by decide))]; exact q124
            have q131 : f128 30 1 = nI td := by rw [ef128, zu_n (fun h9 => absurd h9.1 (by decide))]; exact q125
            have q132 : f128 30 0 = nI 0 := by rw [ef128, zu_n (fun h9 => absurd h9.1 (by decide))]; exact q126
            have q133 : f128 41 c = nI t := by rw [ef128]; exact zu_s
            refine lv_aload_n hx hb dX12_coming_79 rfl (lv_at hl 0 rfl) ?_
            refine zGetR (D := D) (ci := 12) (C := RX12) (T := TX12) (N := 71) hx hb hts hiX12 hown hH (zk_30 hF) rfl 15 (by decide) rfl hw5 (fun _ h9 => h9) dX12_coming_80 (zr_30_15 hF) ?_
            refine lv_aload_n hx hb dX12_coming_83 rfl (lv_at hl 0 rfl) ?_
            refine zGetI (D := D) (ci := 12) (C := RX12) (T := TX12) (N := 71) hx hb hts hiX12 hown hH (zk_30 hF) rfl 13 (by decide) rfl hw3 (fun _ h9 => h9) dX12_coming_84 q130 ?_
            refine lv_iload_n hx hb dX12_coming_87 rfl (lv_at hl 2 rfl) ?_
            refine zIastN (D := D) hx hb hH hS (zk_42 hF) (zn_42 hF) (by omega) (by omega) dX12_coming_88 (fun H locs hH hS => ?_)
            obtain ⟨f134, ef134⟩ : ∃ f9 : zFi, f9 = zu f128 42 c y := ⟨_, rfl⟩
            rw [← ef134] at hH
            have q135 : f134 30 2 = nI n := by rw [ef134, zu_n (fun h9 => absurd h9.1 (by decide))]; exact q129
            have q136 : f134 30 13 = nI c := by rw [ef134, zu_n (fun h9 => absurd h9.1 (by decide))]; exact q130
            have q137 : f134 30 1 = nI td := by rw [ef134, zu_n (fun h9 => absurd h9.1 (by decide))]; exact q131
            have q138 : f134 30 0 = nI 0 := by rw [ef134, zu_n (fun h9 => absurd h9.1 (by decide))]; exact q132
            have q139 : f134 41 c = nI t := by rw [ef134, zu_n (fun h9 => absurd h9.1 (by decide))]; exact q133
            have q140 : f134 42 c = y := by rw [ef134]; exact zu_s
            refine lv_aload_n hx hb dX12_coming_89 rfl (lv_at hl 0 rfl) ?_
            refine zGetR (D := D) (ci := 12) (C := RX12) (T := TX12) (N := 71) hx hb hts hiX12 hown hH (zk_30 hF) rfl 16 (by decide) rfl hw6 (fun _ h9 => h9) dX12_coming_90 (zr_30_16 hF) ?_
            refine lv_aload_n hx hb dX12_coming_93 rfl (lv_at hl 0 rfl) ?_
            refine zGetI (D := D) (ci := 12) (C := RX12) (T := TX12) (N := 71) hx hb hts hiX12 hown hH (zk_30 hF) rfl 13 (by decide) rfl hw3 (fun _ h9 => h9) dX12_coming_94 q136 ?_
            refine lv_iload_n hx hb dX12_coming_97 rfl (lv_at hl 3 rfl) ?_
            refine zIastN (D := D) hx hb hH hS (zk_43 hF) (zn_43 hF) (by omega) (by omega) dX12_coming_98 (fun H locs hH hS => ?_)
            obtain ⟨f141, ef141⟩ : ∃ f9 : zFi, f9 = zu f134 43 c z := ⟨_, rfl⟩
            rw [← ef141] at hH
            have q142 : f141 30 2 = nI n := by rw [ef141, zu_n (fun h9 => absurd h9.1 (by decide))]; exact q135
            have q143 : f141 30 13 = nI c := by rw [ef141, zu_n (fun h9 => absurd h9.1 (by decide))]; exact q136
            have q144 : f141 30 1 = nI td := by rw [ef141, zu_n (fun h9 => absurd h9.1 (by decide))]; exact q137
            have q145 : f141 30 0 = nI 0 := by rw [ef141, zu_n (fun h9 => absurd h9.1 (by decide))]; exact q138
            have q146 : f141 41 c = nI t := by rw [ef141, zu_n (fun h9 => absurd h9.1 (by decide))]; exact q139
            have q147 : f141 42 c = y := by rw [ef141, zu_n (fun h9 => absurd h9.1 (by decide))]; exact q140
            have q148 : f141 43 c = z := by rw [ef141]; exact zu_s
            refine lv_aload_n hx hb dX12_coming_99 rfl (lv_at hl 0 rfl) ?_
            refine lv_dup hx hb dX12_coming_100 rfl ?_
            refine zGetI (D := D) (ci := 12) (C := RX12) (T := TX12) (N := 71) hx hb hts hiX12 hown hH (zk_30 hF) rfl 13 (by decide) rfl hw3 (fun _ h9 => h9) dX12_coming_101 q143 ?_
            refine lv_iconst (v := nI 1) hx hb dX12_coming_104 (by decide) ?_
            refine lv_iadd hx hb dX12_coming_105 ?_
            refine lv_topi (fun v149 ev149 => ?_)
            obtain rfl : v149 = nI (c + 1) := ev149.trans (nI_add _ _)
            refine zPutI (D := D) (ci := 12) (ty := .int) (C := RX12) (T := TX12) (N := 71) hx hb hts hiX12 tyX12 tyX12_ok nmX12 hown hH hS (zk_30 hF) rfl 13 (by decide) rfl hw3 (fun _ h9 => h9) rfl (by decide +kernel) rfl rfl dX12_coming_106 (fun H locs hH hS => ?_)
            obtain ⟨f150, ef150⟩ : ∃ f9 : zFi, f9 = zu f141 30 13 (nI (c + 1)) := ⟨_, rfl⟩
            rw [← ef150] at hH
            have q151 : f150 30 2 = nI n := by rw [ef150, zu_n (fun h9 => absurd h9.2 (by decide))]; exact q142
            have q152 : f150 30 1 = nI td := by rw [ef150, zu_n (fun h9 => absurd h9.2 (by decide))]; exact q144
            have q153 : f150 30 0 = nI 0 := by rw [ef150, zu_n (fun h9 => absurd h9.2 (by decide))]; exact q145
            have q154 : f150 41 c = nI t := by rw [ef150, zu_n (fun h9 => absurd h9.1 (by decide))]; exact q146
            have q155 : f150 42 c = y := by rw [ef150, zu_n (fun h9 => absurd h9.1 (by decide))]; exact q147
            have q156 : f150 43 c = z := by rw [ef150, zu_n (fun h9 => absurd h9.1 (by decide))]; exact q148
            have q157 : f150 30 13 = nI (c + 1) := by rw [ef150]; exact zu_s
            refine lv_aload_n hx hb dX12_coming_109 rfl (lv_at hl 0 rfl) ?_
            refine zGetI (D := D) (ci := 12) (C := RX12) (T := TX12) (N := 71) hx hb hts hiX12 hown hH (zk_30 hF) rfl 13 (by decide) rfl hw3 (fun _ h9 => h9) dX12_coming_110 q157 ?_
            refine W.widen (k := 0) (n := 0) (by decide) (by decide) ?_
            exact W.iret (v := nI (c + 1)) hx hb hr (fun t9 ht9 hW9 => ⟨⟨nI (c + 1), f150, rfl, Or.inl ⟨t, ht, rfl, (by have k09 := hy118; omega), by omega, rfl, by rw [ef150, ef141, ef134, ef128, ef122]⟩, zEnd1 hH ht9 hW9⟩, hS.F ht9⟩) hS.2.2 dX12_coming_113
          · have zc121 := c121
            replace zc121 := zc_eq (nI_toInt (by omega)) (nI_toInt (by omega)) zc121
            refine lv_iconst (v := nI 3) hx hb dX12_coming_52 (by decide) ?_
            refine lv_goto (tgt := 57) hx hb dX12_coming_53 (by decide) ?_
            refine zPutI (D := D) (ci := 12) (ty := .int) (C := RX12) (T := TX12) (N := 71) hx hb hts hiX12 tyX12 tyX12_ok nmX12 hown hH hS (zk_30 hF) rfl 0 (by decide) rfl hw2 (fun _ h9 => h9) rfl (by decide +kernel) rfl rfl dX12_coming_57 (fun H locs hH hS => ?_)
            obtain ⟨f158, ef158⟩ : ∃ f9 : zFi, f9 = zu fi 30 0 (nI 3) := ⟨_, rfl⟩
            rw [← ef158] at hH
            have q159 : f158 30 2 = nI n := by rw [ef158, zu_n (fun h9 => absurd h9.2 (by decide))]; exact hMt.2.1
            have q160 : f158 30 13 = nI c := by rw [ef158, zu_n (fun h9 => absurd h9.2 (by decide))]; exact hMc.2.1
            have q161 : f158 30 1 = nI td := by rw [ef158, zu_n (fun h9 => absurd h9.2 (by decide))]; exact htd
            have q162 : f158 30 0 = nI 3 := by rw [ef158]; exact zu_s
            refine lv_aload_n hx hb dX12_coming_60 rfl (lv_at hl 0 rfl) ?_
            refine zGetI (D := D) (ci := 12) (C := RX12) (T := TX12) (N := 71) hx hb hts hiX12 hown hH (zk_30 hF) rfl 0 (by decide) rfl hw2 (fun _ h9 => h9) dX12_coming_61 q162 ?_
            refine lv_if_le (tgt := 69) hx hb dX12_coming_64 (by decide) (fun c163 => absurd c163 (by decide)) (fun c163 => ?_)
            refine lv_iconst (v := nI 0) hx hb dX12_coming_67 (by decide) ?_
            refine W.widen (k := 0) (n := 0) (by decide) (by decide) ?_
            exact W.iret (v := nI 0) hx hb hr (fun t9 ht9 hW9 => ⟨⟨nI 0, f158, rfl, Or.inr (Or.inr (Or.inr ⟨⟨t, ht, rfl⟩, (by have k09 := hy118; omega), by omega, rfl, by rw [ef158]⟩)), zEnd1 hH ht9 hW9⟩, hS.F ht9⟩) hS.2.2 dX12_coming_68
        · skip
          replace hn119 := zWi0 (rfl) (nI_toInt (by omega)) (nI_toInt (by omega)) hn119
          refine lv_if_ne (tgt := 43) hx hb dX12_coming_36 (by decide) (fun c164 => absurd (by decide) c164) (fun c164 => ?_)
          refine lv_iconst (v := nI 2) hx hb dX12_coming_39 (by decide) ?_
          refine lv_goto (tgt := 57) hx hb dX12_coming_40 (by decide) ?_
          refine zPutI (D := D) (ci := 12) (ty := .int) (C := RX12) (T := TX12) (N := 71) hx hb hts hiX12 tyX12 tyX12_ok nmX12 hown hH hS (zk_30 hF) rfl 0 (by decide) rfl hw2 (fun _ h9 => h9) rfl (by decide +kernel) rfl rfl dX12_coming_57 (fun H locs hH hS => ?_)
          obtain ⟨f165, ef165⟩ : ∃ f9 : zFi, f9 = zu fi 30 0 (nI 2) := ⟨_, rfl⟩
          rw [← ef165] at hH
          have q166 : f165 30 2 = nI n := by rw [ef165, zu_n (fun h9 => absurd h9.2 (by decide))]; exact hMt.2.1
          have q167 : f165 30 13 = nI c := by rw [ef165, zu_n (fun h9 => absurd h9.2 (by decide))]; exact hMc.2.1
          have q168 : f165 30 1 = nI td := by rw [ef165, zu_n (fun h9 => absurd h9.2 (by decide))]; exact htd
          have q169 : f165 30 0 = nI 2 := by rw [ef165]; exact zu_s
          refine lv_aload_n hx hb dX12_coming_60 rfl (lv_at hl 0 rfl) ?_
          refine zGetI (D := D) (ci := 12) (C := RX12) (T := TX12) (N := 71) hx hb hts hiX12 hown hH (zk_30 hF) rfl 0 (by decide) rfl hw2 (fun _ h9 => h9) dX12_coming_61 q169 ?_
          refine lv_if_le (tgt := 69) hx hb dX12_coming_64 (by decide) (fun c170 => absurd c170 (by decide)) (fun c170 => ?_)
          refine lv_iconst (v := nI 0) hx hb dX12_coming_67 (by decide) ?_
          refine W.widen (k := 0) (n := 0) (by decide) (by decide) ?_
          exact W.iret (v := nI 0) hx hb hr (fun t9 ht9 hW9 => ⟨⟨nI 0, f165, rfl, Or.inr (Or.inr (Or.inl ⟨⟨t, ht, rfl⟩, fun h9 => by obtain ⟨a1, a2, a3, a4⟩ := h9; have k09 := hn119; omega, rfl, by rw [ef165]⟩)), zEnd1 hH ht9 hW9⟩, hS.F ht9⟩) hS.2.2 dX12_coming_68
  · skip
    refine lv_if_ne (tgt := 13) hx hb dX12_coming_6 (by decide) (fun c171 => absurd (by decide) c171) (fun c171 => ?_)
    refine lv_iconst (v := nI 1) hx hb dX12_coming_9 (by decide) ?_
    refine lv_goto (tgt := 57) hx hb dX12_coming_10 (by decide) ?_
    refine zPutI (D := D) (ci := 12) (ty := .int) (C := RX12) (T := TX12) (N := 71) hx hb hts hiX12 tyX12 tyX12_ok nmX12 hown hH hS (zk_30 hF) rfl 0 (by decide) rfl hw2 (fun _ h9 => h9) rfl (by decide +kernel) rfl rfl dX12_coming_57 (fun H locs hH hS => ?_)
    obtain ⟨f172, ef172⟩ : ∃ f9 : zFi, f9 = zu fi 30 0 (nI 1) := ⟨_, rfl⟩
    rw [← ef172] at hH
    have q173 : f172 30 2 = nI n := by rw [ef172, zu_n (fun h9 => absurd h9.2 (by decide))]; exact hMt.2.1
    have q174 : f172 30 13 = nI c := by rw [ef172, zu_n (fun h9 => absurd h9.2 (by decide))]; exact hMc.2.1
    have q175 : f172 30 1 = nI td := by rw [ef172, zu_n (fun h9 => absurd h9.2 (by decide))]; exact htd
    have q176 : f172 30 0 = nI 1 := by rw [ef172]; exact zu_s
    refine lv_aload_n hx hb dX12_coming_60 rfl (lv_at hl 0 rfl) ?_
    refine zGetI (D := D) (ci := 12) (C := RX12) (T := TX12) (N := 71) hx hb hts hiX12 hown hH (zk_30 hF) rfl 0 (by decide) rfl hw2 (fun _ h9 => h9) dX12_coming_61 q176 ?_
    refine lv_if_le (tgt := 69) hx hb dX12_coming_64 (by decide) (fun c177 => absurd c177 (by decide)) (fun c177 => ?_)
    refine lv_iconst (v := nI 0) hx hb dX12_coming_67 (by decide) ?_
    refine W.widen (k := 0) (n := 0) (by decide) (by decide) ?_
    exact W.iret (v := nI 0) hx hb hr (fun t9 ht9 hW9 => ⟨⟨nI 0, f172, rfl, Or.inr (Or.inl ⟨hno, rfl, by rw [ef172]⟩), zEnd1 hH ht9 hW9⟩, hS.F ht9⟩) hS.2.2 dX12_coming_68
