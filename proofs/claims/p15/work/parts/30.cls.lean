set_option maxHeartbeats 4000000 in
set_option maxRecDepth 100000 in
/-- within -/
theorem c_within (l : Launch) (hl0 : l.stackTraces = false) (D : va_G) (A : Nat → Prop) (sad : Nat → Nat) (τ : zTy) (fi : zFi) (fr : zFr) (ol : Int64) (x a b : Int32) : Met l yX11_within wsX11_within ({ frames := 0, cells := 0, slots := 0, locals := 0 }) (va_Pc [.int x, .int a, .int b] (zQc D A sad τ fi fr ol)) (va_Qi (fun (r : Int32) (u : Unit) => (r = 1 ∧ a.toInt ≤ x.toInt ∧ x.toInt ≤ b.toInt) ∨ (r = 0 ∧ ¬ (a.toInt ≤ x.toInt ∧ x.toInt ≤ b.toInt))) (fun (u : Unit) (t : State) => zH D A τ fi fr ol t t.heap) A) 0 0 A := by
  refine Met.ofW (cc := cX11_within) (maxL := 3) (ret := (some .boolean)) (by decide) rfl ?_
  intro p9 e9 s m args below meth c9 s₁ B hml hv
  obtain ⟨rfl, hz, hH, hA⟩ := hv
  have hx := B.exec
  have hb := B.bytes
  have hr := B.returns
  have hts := atoms_spec (ws := wsX11_within) B.pre
  have hown : s.vm.findClass RX11 = some m.cls := findClass_of_methodNamed B.named
  have hlocks := B.notSynchronized
  have hS : va_S A s.heap s.heap [] := va_S.rf
  have hl := lv_entry ([.int x, .int a, .int b]) (n := 3) (Nat.le_of_ble_eq_true rfl)
  rw [lg_entry_eq]
  generalize (lg_sl ([.int x, .int a, .int b]) ++ List.replicate (3 - (lg_sl ([.int x, .int a, .int b])).length) Slot.unset).toArray = ls at hl ⊢
  have hl : lv_has ls 3 [(0, .int x), (1, .int a), (2, .int b)] := hl
  refine lv_iload_n hx hb dX11_within_0 rfl (lv_at hl 0 rfl) ?_
  refine lv_iload_n hx hb dX11_within_1 rfl (lv_at hl 1 rfl) ?_
  refine lv_icmp_lt (tgt := 14) hx hb dX11_within_2 (by decide) (fun c101 => ?_) (fun c101 => ?_)
  · have zc101 := c101
    replace zc101 := zc_lt (rfl) (rfl) zc101
    refine lv_iconst (v := nI 0) hx hb dX11_within_14 (by decide) ?_
    refine W.widen (k := 0) (n := 0) (by decide) (by decide) ?_
    exact W.zret (v := nI 0) hx hb hr (by decide) (fun t9 ht9 hW9 => ⟨⟨nI 0, (), rfl, Or.inr ⟨rfl, fun h9 => by have h91 := h9.1; have h92 := h9.2; omega⟩, zEnd1 hH ht9 hW9⟩, hS.F ht9⟩) hS.2.2 dX11_within_15
  · have zc101 := c101
    replace zc101 := zc_nlt (rfl) (rfl) zc101
    refine lv_iload_n hx hb dX11_within_5 rfl (lv_at hl 0 rfl) ?_
    refine lv_iload_n hx hb dX11_within_6 rfl (lv_at hl 2 rfl) ?_
    refine lv_icmp_gt (tgt := 14) hx hb dX11_within_7 (by decide) (fun c102 => ?_) (fun c102 => ?_)
    · have zc102 := c102
      replace zc102 := zc_lt (rfl) (rfl) zc102
      refine lv_iconst (v := nI 0) hx hb dX11_within_14 (by decide) ?_
      refine W.widen (k := 0) (n := 0) (by decide) (by decide) ?_
      exact W.zret (v := nI 0) hx hb hr (by decide) (fun t9 ht9 hW9 => ⟨⟨nI 0, (), rfl, Or.inr ⟨rfl, fun h9 => by have h91 := h9.1; have h92 := h9.2; omega⟩, zEnd1 hH ht9 hW9⟩, hS.F ht9⟩) hS.2.2 dX11_within_15
    · have zc102 := c102
      replace zc102 := zc_nlt (rfl) (rfl) zc102
      refine lv_iconst (v := nI 1) hx hb dX11_within_10 (by decide) ?_
      refine lv_goto (tgt := 15) hx hb dX11_within_11 (by decide) ?_
      refine W.widen (k := 0) (n := 0) (by decide) (by decide) ?_
      exact W.zret (v := nI 1) hx hb hr (by decide) (fun t9 ht9 hW9 => ⟨⟨nI 1, (), rfl, Or.inl ⟨rfl, by omega, by omega⟩, zEnd1 hH ht9 hW9⟩, hS.F ht9⟩) hS.2.2 dX11_within_15
theorem zWi1 {x a b : Int32} {p q r : Int} (h0 : x.toInt = p) (h1 : a.toInt = q) (h2 : b.toInt = r) (h : a.toInt ≤ x.toInt ∧ x.toInt ≤ b.toInt) : q ≤ p ∧ p ≤ r := by omega
theorem zWi0 {x a b : Int32} {p q r : Int} (h0 : x.toInt = p) (h1 : a.toInt = q) (h2 : b.toInt = r) (h : ¬ (a.toInt ≤ x.toInt ∧ x.toInt ≤ b.toInt)) : ¬ (q ≤ p ∧ p ≤ r) := by omega
set_option maxHeartbeats 4000000 in
set_option maxRecDepth 100000 in
/-- Book.at -/
theorem c_at (l : Launch) (hl0 : l.stackTraces = false) (D : va_G) (A : Nat → Prop) (sad : Nat → Nat) (τ : zTy) (fi : zFi) (fr : zFr) (ol : Int64) (x : Int32) (hF : zFix τ fr) (n : Nat) (hT : zTh τ fi fr n) : Met l yX0_at wsX0_at ({ frames := 1, cells := 0, slots := 0, locals := 22 }) (va_Pc [.ref (τ.1 3), .int x] (zQc D A sad τ fi fr ol)) (va_Qq (fun (r : Option Nat) (u : Unit) => (∃ t, t < n ∧ x = nI t ∧ r = some (τ.1 (300 + t))) ∨ (¬ (0 ≤ x.toInt ∧ x.toInt < n) ∧ r = none)) (fun (u : Unit) (t : State) => zH D A τ fi fr ol t t.heap) A) 0 0 A := by
  refine Met.ofW (cc := cX0_at) (maxL := 2) (ret := (some (.object "PostHouse$Thing"))) (by decide) rfl ?_
  intro p9 e9 s m args below meth c9 s₁ B hml hv
  obtain ⟨rfl, hz, hH, hA⟩ := hv
  have hx := B.exec
  have hb := B.bytes
  have hr := B.returns
  have hts := atoms_spec (ws := wsX0_at) B.pre
  have hown : s.vm.findClass RX0 = some m.cls := findClass_of_methodNamed B.named
  have hlocks := B.notSynchronized
  have hS : va_S A s.heap s.heap [] := va_S.rf
  have hl := lv_entry ([.ref (τ.1 3), .int x]) (n := 2) (Nat.le_of_ble_eq_true rfl)
  rw [lg_entry_eq]
  generalize (lg_sl ([.ref (τ.1 3), .int x]) ++ List.replicate (2 - (lg_sl ([.ref (τ.1 3), .int x])).length) Slot.unset).toArray = ls at hl ⊢
  have hl : lv_has ls 2 [(0, .ref (τ.1 3)), (1, .int x)] := hl
  have hn30 := hT.1
  have hiX0 : ∀ w ∈ u_ws RX0 TX0 2, w ∈ wsX0_at := fun _ h => List.mem_cons_of_mem _ (List.mem_append_right _ h)
  have hw1 := hts (.fieldLink RX0 17 "PostHouse$Book" "size" "I") (by decide +kernel)
  have hw2 := hts (.initialized RX11) (by decide +kernel)
  have hw3 := hts (.static yX11_within) (by decide +kernel)
  have hw4 := hts (.fieldLink RX0 11 "PostHouse$Book" "things" "[LPostHouse$Thing;") (by decide +kernel)
  refine lv_iload_n hx hb dX0_at_0 rfl (lv_at hl 1 rfl) ?_
  refine lv_iconst (v := nI 0) hx hb dX0_at_1 (by decide) ?_
  refine lv_aload_n hx hb dX0_at_2 rfl (lv_at hl 0 rfl) ?_
  refine zGetI (D := D) (ci := 0) (C := RX0) (T := TX0) (N := 2) hx hb hts hiX0 hown hH (zk_3 hF) rfl 1 (by decide) rfl hw1 (fun _ h9 => h9) dX0_at_3 hT.2.1 ?_
  refine lv_iconst (v := nI 1) hx hb dX0_at_6 (by decide) ?_
  refine lv_isub hx hb dX0_at_7 ?_
  refine lv_topi (fun v101 ev101 => ?_)
  have iv101 : v101.toInt = ((n : Nat) : Int) - ((1 : Nat) : Int) := by rw [ev101]; exact pk_sub_toInt (by omega) (by omega)
  have hznn := hz.1.2.2.2.2.2.1 _ (List.mem_of_getElem? (i := 6) rfl)
  refine va_calli (va_runSN (host := RX11) (As := [.int x, .int (nI 0), .int v101]) (rest := []) ⟨hx, hb, hml, hown, hts⟩ (c_within l hl0 D A sad τ fi fr ol x (nI 0) v101) ⟨va_cnB (host := RX11) (y := yX11_within) 3 hts gX0_at_X11_within_n24 rfl rfl rfl hznn hw2 (by decide +kernel) ⟨Nat.le_of_ble_eq_true rfl, Nat.le_of_ble_eq_true rfl⟩, hw3, trivial⟩ ⟨zQc_bl, zQc_at hz hS hA hH⟩ rfl rfl hl.1 rfl (lv_room (Nat.le_of_ble_eq_true rfl)) dX0_at_8 ⟨Nat.le_of_ble_eq_true rfl, Nat.le_of_ble_eq_true rfl⟩) hS (fun q _ h => h) (fun q h => h) (fun r102 u9 t9 H1 locs ht9 hvm9 hw hB hz1 hk1 hS => ?_)
  have hH := zMv ht9 hvm9 hB
  generalize H1 = H at hH hS ⊢
  rcases hw with ⟨rfl, hy103⟩ | ⟨rfl, hn104⟩
  · skip
    replace hy103 := zWi1 (rfl) (nI_toInt (by omega)) (iv101) hy103
    refine lv_if_eq (tgt := 23) hx hb dX0_at_11 (by decide) (fun c105 => absurd c105 (by decide)) (fun c105 => ?_)
    refine lv_aload_n hx hb dX0_at_14 rfl (lv_at hl 0 rfl) ?_
    refine zGetR (D := D) (ci := 0) (C := RX0) (T := TX0) (N := 2) hx hb hts hiX0 hown hH (zk_3 hF) rfl 0 (by decide) rfl hw4 (fun _ h9 => h9) dX0_at_15 (zr_3_0 hF) ?_
    refine lv_iload_n hx hb dX0_at_18 rfl (lv_at hl 1 rfl) ?_
    obtain ⟨t, ht, rfl⟩ : ∃ t : Nat, t < n ∧ x = nI t := zNatB (by omega) (by omega)
    refine zAaldS (D := D) hx hb hH (zk_4 hF) (by decide) (by decide) rfl (zn_4 hF) (by omega) (by omega) (hT.2.2.1 t (by omega)).2.2.1.2.2.2 dX0_at_19 ?_
    refine lv_goto (tgt := 24) hx hb dX0_at_20 (by decide) ?_
    refine W.widen (k := 0) (n := 0) (by decide) (by decide) ?_
    exact W.aret (v := .ref (τ.1 (300 + t))) hx hb hr (Or.inl ⟨_, rfl⟩) (Or.inr ⟨_, rfl⟩) (fun t9 ht9 hW9 => ⟨⟨(some (τ.1 (300 + t))), (), rfl, Or.inl ⟨t, ht, rfl, rfl⟩, zEnd1 hH ht9 hW9⟩, hS.F ht9⟩) hS.2.2 dX0_at_24
  · skip
    replace hn104 := zWi0 (rfl) (nI_toInt (by omega)) (iv101) hn104
    refine lv_if_eq (tgt := 23) hx hb dX0_at_11 (by decide) (fun c106 => ?_) (fun c106 => absurd (by decide) c106)
    refine lv_null hx hb dX0_at_23 ?_
    refine W.widen (k := 0) (n := 0) (by decide) (by decide) ?_
    exact W.aret (v := .null) hx hb hr (Or.inl ⟨_, rfl⟩) (Or.inl rfl) (fun t9 ht9 hW9 => ⟨⟨none, (), rfl, Or.inr ⟨fun h9 => by have h91 := h9.1; have h92 := h9.2; have h93 := hn104; omega, rfl⟩, zEnd1 hH ht9 hW9⟩, hS.F ht9⟩) hS.2.2 dX0_at_24
set_option maxHeartbeats 4000000 in
set_option maxRecDepth 100000 in
/-- Book.ofCode -/
theorem c_ofCode (l : Launch) (hl0 : l.stackTraces = false) (D : va_G) (A : Nat → Prop) (sad : Nat → Nat) (τ : zTy) (fi : zFi) (fr : zFr) (ol : Int64) (x : Int32) (hF : zFix τ fr) (n : Nat) (hT : zTh τ fi fr n) : Met l yX0_ofCode wsX0_ofCode ({ frames := 0, cells := 0, slots := 0, locals := 0 }) (va_Pc [.ref (τ.1 3), .int x] (zQc D A sad τ fi fr ol)) (va_Qq (fun (r : Option Nat) (u : Unit) => (∃ t, t < n ∧ fi (300 + t) 1 = x ∧ (∀ j, j < t → ¬ fi (300 + j) 1 = x) ∧ r = some (τ.1 (300 + t))) ∨ ((∀ j, j < n → ¬ fi (300 + j) 1 = x) ∧ r = none)) (fun (u : Unit) (t : State) => zH D A τ fi fr ol t t.heap) A) 0 0 A := by
  refine Met.ofW (cc := cX0_ofCode) (maxL := 3) (ret := (some (.object "PostHouse$Thing"))) (by decide) rfl ?_
  intro p9 e9 s m args below meth c9 s₁ B hml hv
  obtain ⟨rfl, hz, hH, hA⟩ := hv
  have hx := B.exec
  have hb := B.bytes
  have hr := B.returns
  have hts := atoms_spec (ws := wsX0_ofCode) B.pre
  have hown : s.vm.findClass RX0 = some m.cls := findClass_of_methodNamed B.named
  have hlocks := B.notSynchronized
  have hS : va_S A s.heap s.heap [] := va_S.rf
  have hl := lv_entry ([.ref (τ.1 3), .int x]) (n := 3) (Nat.le_of_ble_eq_true rfl)
  rw [lg_entry_eq]
  generalize (lg_sl ([.ref (τ.1 3), .int x]) ++ List.replicate (3 - (lg_sl ([.ref (τ.1 3), .int x])).length) Slot.unset).toArray = ls at hl ⊢
  have hl : lv_has ls 3 [(0, .ref (τ.1 3)), (1, .int x)] := hl
  have hn30 := hT.1
  have hiX0 : ∀ w ∈ u_ws RX0 TX0 2, w ∈ wsX0_ofCode := fun _ h => List.mem_cons_of_mem _ (List.mem_append_left _ (List.mem_append_right _ h))
  have hw1 := hts (.fieldLink RX0 17 "PostHouse$Book" "size" "I") (by decide +kernel)
  have hw2 := hts (.fieldLink RX0 11 "PostHouse$Book" "things" "[LPostHouse$Thing;") (by decide +kernel)
  have hiX8 : ∀ w ∈ u_ws RX8 TX8 10, w ∈ wsX0_ofCode := fun _ h => List.mem_cons_of_mem _ (List.mem_append_right _ h)
  have hw4 := hts (.fieldLink RX0 28 "PostHouse$Thing" "code" "I") (by decide +kernel)
  refine lv_iconst (v := nI 0) hx hb dX0_ofCode_0 (by decide) ?_
  refine lv_istore_n (lv' := [(2, .int (nI 0)), (0, .ref (τ.1 3)), (1, .int x)]) hx hb dX0_ofCode_1 rfl hl (by decide) rfl (fun ls hl => ?_)
  refine zLp (σ := Nat) (fun x9 k9 H locs ls => (fun (i : Nat) => k9 = n - i ∧ (i ≤ n ∧ ∀ j, j < i → ¬ fi (300 + j) 1 = x) ∧ zH D A τ fi fr ol s H ∧ va_S A s.heap H locs ∧ lv_has ls 3 [(0, .ref (τ.1 3)), (1, .int x), (2, .int (nI i))]) x9) 0 (n - 0) (show n - 0 = n - 0 ∧ (0 ≤ n ∧ ∀ j, j < 0 → ¬ fi (300 + j) 1 = x) ∧ zH D A τ fi fr ol s _ ∧ va_S A s.heap _ _ ∧ lv_has _ 3 [(0, .ref (τ.1 3)), (1, .int x), (2, .int (nI 0))] from ⟨rfl, ⟨Nat.zero_le _, fun j h => absurd h (by omega)⟩, hH, hS, lv_sub hl [1, 2, 0] rfl⟩) (fun k9 ih x9 H locs ls hv9 => ?_)
  generalize x9 = i at hv9
  have hv9 : k9 = n - i ∧ (i ≤ n ∧ ∀ j, j < i → ¬ fi (300 + j) 1 = x) ∧ zH D A τ fi fr ol s H ∧ va_S A s.heap H locs ∧ lv_has ls 3 [(0, .ref (τ.1 3)), (1, .int x), (2, .int (nI i))] := hv9
  obtain ⟨hkih101, hv9, hH, hS, hl⟩ := hv9
  obtain ⟨h1, hj⟩ := hv9
  have ih101 := ih
  clear ih
  refine lv_iload_n hx hb dX0_ofCode_2 rfl (lv_at hl 2 rfl) ?_
  refine lv_aload_n hx hb dX0_ofCode_3 rfl (lv_at hl 0 rfl) ?_
  refine zGetI (D := D) (ci := 0) (C := RX0) (T := TX0) (N := 2) hx hb hts hiX0 hown hH (zk_3 hF) rfl 1 (by decide) rfl hw1 (fun _ h9 => h9) dX0_ofCode_4 hT.2.1 ?_
  refine lv_icmp_ge (tgt := 36) hx hb dX0_ofCode_7 (by decide) (fun c102 => ?_) (fun c102 => ?_)
  · have zc102 := c102
    replace zc102 := zc_le (nI_toInt (by omega)) (nI_toInt (by omega)) zc102
    refine lv_null hx hb dX0_ofCode_36 ?_
    refine W.widen (k := 0) (n := 0) (by decide) (by decide) ?_
    exact W.aret (v := .null) hx hb hr (Or.inl ⟨_, rfl⟩) (Or.inl rfl) (fun t9 ht9 hW9 => ⟨⟨none, (), rfl, Or.inr ⟨fun j h => hj j (by omega), rfl⟩, zEnd1 hH ht9 hW9⟩, hS.F ht9⟩) hS.2.2 dX0_ofCode_37
  · have zc102 := c102
    replace zc102 := zc_nle (nI_toInt (by omega)) (nI_toInt (by omega)) zc102
    refine lv_aload_n hx hb dX0_ofCode_10 rfl (lv_at hl 0 rfl) ?_
    refine zGetR (D := D) (ci := 0) (C := RX0) (T := TX0) (N := 2) hx hb hts hiX0 hown hH (zk_3 hF) rfl 0 (by decide) rfl hw2 (fun _ h9 => h9) dX0_ofCode_11 (zr_3_0 hF) ?_
    refine lv_iload_n hx hb dX0_ofCode_14 rfl (lv_at hl 2 rfl) ?_
    refine zAaldS (D := D) hx hb hH (zk_4 hF) (by decide) (by decide) rfl (zn_4 hF) (by omega) (by omega) (hT.2.2.1 i (by omega)).2.2.1.2.2.2 dX0_ofCode_15 ?_
    refine zGetI (D := D) (ci := 8) (C := RX8) (T := TX8) (N := 10) hx hb hts hiX8 hown hH (hT.2.2.1 i (by omega)).1.1 rfl 1 (by decide) rfl hw4 (fun _ h9 => h9) dX0_ofCode_16 rfl ?_
    refine lv_iload_n hx hb dX0_ofCode_19 rfl (lv_at hl 1 rfl) ?_
    refine lv_icmp_ne (tgt := 30) hx hb dX0_ofCode_20 (by decide) (fun c103 => ?_) (fun c103 => ?_)
    · have zc103 := c103
      replace zc103 := zc_neq (rfl) (rfl) zc103
      refine lv_iinc (v := nI (i + 1)) (lv' := [(2, .int (nI (i + 1))), (0, .ref (τ.1 3)), (1, .int x)]) hx hb dX0_ofCode_30 hl (k := 2) rfl (by rw [show (Int32.ofInt 1 : Int32) = nI 1 from by decide, nI_add]) (by decide) rfl (fun ls hl => ?_)
      refine lv_goto (tgt := 2) hx hb dX0_ofCode_33 (by decide) ?_
      exact ih101 (n - (i + 1)) (by omega) (i + 1) _ _ _ (show n - (i + 1) = n - (i + 1) ∧ ((i + 1) ≤ n ∧ ∀ j, j < (i + 1) → ¬ fi (300 + j) 1 = x) ∧ zH D A τ fi fr ol s _ ∧ va_S A s.heap _ _ ∧ lv_has _ 3 [(0, .ref (τ.1 3)), (1, .int x), (2, .int (nI (i + 1)))] from ⟨rfl, ⟨by omega, fun j h => by by_cases h7 : j = i; (subst h7; exact c103); exact hj j (by omega)⟩, hH, hS, lv_sub hl [1, 2, 0] rfl⟩)
    · have zc103 := c103
      replace zc103 := zc_eq (rfl) (rfl) zc103
      refine lv_aload_n hx hb dX0_ofCode_23 rfl (lv_at hl 0 rfl) ?_
      refine zGetR (D := D) (ci := 0) (C := RX0) (T := TX0) (N := 2) hx hb hts hiX0 hown hH (zk_3 hF) rfl 0 (by decide) rfl hw2 (fun _ h9 => h9) dX0_ofCode_24 (zr_3_0 hF) ?_
      refine lv_iload_n hx hb dX0_ofCode_27 rfl (lv_at hl 2 rfl) ?_
      refine zAaldS (D := D) hx hb hH (zk_4 hF) (by decide) (by decide) rfl (zn_4 hF) (by omega) (by omega) (hT.2.2.1 i (by omega)).2.2.1.2.2.2 dX0_ofCode_28 ?_
      refine W.widen (k := 0) (n := 0) (by decide) (by decide) ?_
      exact W.aret (v := .ref (τ.1 (300 + i))) hx hb hr (Or.inl ⟨_, rfl⟩) (Or.inr ⟨_, rfl⟩) (fun t9 ht9 hW9 => ⟨⟨(some (τ.1 (300 + i))), (), rfl, Or.inl ⟨i, by omega, c103, hj, rfl⟩, zEnd1 hH ht9 hW9⟩, hS.F ht9⟩) hS.2.2 dX0_ofCode_29
/-- of the prices that hold on a day the one told last -/
def zMon (fi : zFi) (t k : Nat) (x r : Int32) : Prop := (∃ j, j < k ∧ ((fi (380 + t) j).toInt ≤ x.toInt ∧ x.toInt ≤ (fi (420 + t) j).toInt) ∧ (∀ i, j < i → i < k → ¬ ((fi (380 + t) i).toInt ≤ x.toInt ∧ x.toInt ≤ (fi (420 + t) i).toInt)) ∧ r = fi (340 + t) j) ∨ ((∀ j, j < k → ¬ ((fi (380 + t) j).toInt ≤ x.toInt ∧ x.toInt ≤ (fi (420 + t) j).toInt)) ∧ r = -1)
theorem zSub1 (k : Nat) : nI k + Int32.ofInt (-1) = nI k - nI 1 := by
  rw [show (Int32.ofInt (-1) : Int32) = -(nI 1) from by decide, Int32.sub_eq_add_neg]
set_option maxHeartbeats 4000000 in
set_option maxRecDepth 100000 in
/-- Thing.moneyOn -/
theorem c_moneyOn (l : Launch) (hl0 : l.stackTraces = false) (D : va_G) (A : Nat → Prop) (sad : Nat → Nat) (τ : zTy) (fi : zFi) (fr : zFr) (ol : Int64) (x : Int32) (n : Nat) (hT : zTh τ fi fr n) (t k0 : Nat) (ht : t < n) (hk0 : fi (300 + t) 6 = nI k0) (hk4 : k0 ≤ 4) : Met l yX8_moneyOn wsX8_moneyOn ({ frames := 1, cells := 0, slots := 0, locals := 22 }) (va_Pc [.ref (τ.1 (300 + t)), .int x] (zQc D A sad τ fi fr ol)) (va_Qi (fun (r : Int32) (u : Unit) => zMon fi t k0 x r) (fun (u : Unit) (t : State) => zH D A τ fi fr ol t t.heap) A) 0 0 A := by
  refine Met.ofW (cc := cX8_moneyOn) (maxL := 3) (ret := (some .int)) (by decide) rfl ?_
  intro p9 e9 s m args below meth c9 s₁ B hml hv
  obtain ⟨rfl, hz, hH, hA⟩ := hv
  have hx := B.exec
  have hb := B.bytes
  have hr := B.returns
  have hts := atoms_spec (ws := wsX8_moneyOn) B.pre
  have hown : s.vm.findClass RX8 = some m.cls := findClass_of_methodNamed B.named
  have hlocks := B.notSynchronized
  have hS : va_S A s.heap s.heap [] := va_S.rf
  have hl := lv_entry ([.ref (τ.1 (300 + t)), .int x]) (n := 3) (Nat.le_of_ble_eq_true rfl)
  rw [lg_entry_eq]
  generalize (lg_sl ([.ref (τ.1 (300 + t)), .int x]) ++ List.replicate (3 - (lg_sl ([.ref (τ.1 (300 + t)), .int x])).length) Slot.unset).toArray = ls at hl ⊢
  have hl : lv_has ls 3 [(0, .ref (τ.1 (300 + t))), (1, .int x)] := hl
  have hn30 := hT.1
  have hiX8 : ∀ w ∈ u_ws RX8 TX8 10, w ∈ wsX8_moneyOn := fun _ h => List.mem_cons_of_mem _ (List.mem_append_right _ h)
  have hw1 := hts (.fieldLink RX8 37 "PostHouse$Thing" "prices" "I") (by decide +kernel)
  have hw2 := hts (.fieldLink RX8 15 "PostHouse$Thing" "froms" "[I") (by decide +kernel)
  have hw3 := hts (.fieldLink RX8 18 "PostHouse$Thing" "tos" "[I") (by decide +kernel)
  have hw4 := hts (.initialized RX11) (by decide +kernel)
  have hw5 := hts (.static yX11_within) (by decide +kernel)
  have hw6 := hts (.fieldLink RX8 9 "PostHouse$Thing" "moneys" "[I") (by decide +kernel)
  refine lv_aload_n hx hb dX8_moneyOn_0 rfl (lv_at hl 0 rfl) ?_
  refine zGetI (D := D) (ci := 8) (C := RX8) (T := TX8) (N := 10) hx hb hts hiX8 hown hH (hT.2.2.1 t (by omega)).1.1 rfl 6 (by decide) rfl hw1 (fun _ h9 => h9) dX8_moneyOn_1 hk0 ?_
  refine lv_iconst (v := nI 1) hx hb dX8_moneyOn_4 (by decide) ?_
  refine lv_isub hx hb dX8_moneyOn_5 ?_
  refine lv_topi (fun v101 ev101 => ?_)
  have iv101 : v101.toInt = ((k0 : Nat) : Int) - ((1 : Nat) : Int) := by rw [ev101]; exact pk_sub_toInt (by omega) (by omega)
  refine lv_istore_n (lv' := [(2, .int v101), (0, .ref (τ.1 (300 + t))), (1, .int x)]) hx hb dX8_moneyOn_6 rfl hl (by decide) rfl (fun ls hl => ?_)
  subst ev101
  refine zLp (σ := Nat) (fun x9 k9 H locs ls => (fun (k : Nat) => k9 = k ∧ (k ≤ k0 ∧ ∀ j, k ≤ j → j < k0 → ¬ ((fi (380 + t) j).toInt ≤ x.toInt ∧ x.toInt ≤ (fi (420 + t) j).toInt)) ∧ zH D A τ fi fr ol s H ∧ va_S A s.heap H locs ∧ lv_has ls 3 [(0, .ref (τ.1 (300 + t))), (1, .int x), (2, .int ((nI k - nI 1)))]) x9) k0 (k0) (show k0 = k0 ∧ (k0 ≤ k0 ∧ ∀ j, k0 ≤ j → j < k0 → ¬ ((fi (380 + t) j).toInt ≤ x.toInt ∧ x.toInt ≤ (fi (420 + t) j).toInt)) ∧ zH D A τ fi fr ol s _ ∧ va_S A s.heap _ _ ∧ lv_has _ 3 [(0, .ref (τ.1 (300 + t))), (1, .int x), (2, .int ((nI k0 - nI 1)))] from ⟨rfl, ⟨Nat.le_refl _, fun j h h2 => absurd h (by omega)⟩, hH, hS, lv_sub hl [1, 2, 0] rfl⟩) (fun k9 ih x9 H locs ls hv9 => ?_)
  generalize x9 = k at hv9
  have hv9 : k9 = k ∧ (k ≤ k0 ∧ ∀ j, k ≤ j → j < k0 → ¬ ((fi (380 + t) j).toInt ≤ x.toInt ∧ x.toInt ≤ (fi (420 + t) j).toInt)) ∧ zH D A τ fi fr ol s H ∧ va_S A s.heap H locs ∧ lv_has ls 3 [(0, .ref (τ.1 (300 + t))), (1, .int x), (2, .int ((nI k - nI 1)))] := hv9
  obtain ⟨hkih102, hv9, hH, hS, hl⟩ := hv9
  obtain ⟨h1, hj⟩ := hv9
  have ih102 := ih
  clear ih
  refine lv_iload_n hx hb dX8_moneyOn_7 rfl (lv_at hl 2 rfl) ?_
  refine lv_if_lt (tgt := 43) hx hb dX8_moneyOn_8 (by decide) (fun c103 => ?_) (fun c103 => ?_)
  · have zc103 := c103
    replace zc103 := zc_lt (pk_sub_toInt (show k < 2 ^ 30 by omega) (by decide)) ((by decide : (0 : Int32).toInt = 0)) zc103
    refine lv_iconst (v := (-1)) hx hb dX8_moneyOn_43 (by decide) ?_
    refine W.widen (k := 0) (n := 0) (by decide) (by decide) ?_
    exact W.iret (v := (-1)) hx hb hr (fun t9 ht9 hW9 => ⟨⟨(-1), (), rfl, Or.inr ⟨fun j h => hj j (by omega) h, rfl⟩, zEnd1 hH ht9 hW9⟩, hS.F ht9⟩) hS.2.2 dX8_moneyOn_44
  · have zc103 := c103
    replace zc103 := zc_nlt (pk_sub_toInt (show k < 2 ^ 30 by omega) (by decide)) ((by decide : (0 : Int32).toInt = 0)) zc103
    rw [pk_sub (show 1 ≤ k by omega)] at hl
    refine lv_iload_n hx hb dX8_moneyOn_11 rfl (lv_at hl 1 rfl) ?_
    refine lv_aload_n hx hb dX8_moneyOn_12 rfl (lv_at hl 0 rfl) ?_
    refine zGetR (D := D) (ci := 8) (C := RX8) (T := TX8) (N := 10) hx hb hts hiX8 hown hH (hT.2.2.1 t (by omega)).1.1 rfl 8 (by decide) rfl hw2 (fun _ h9 => h9) dX8_moneyOn_13 (hT.2.2.1 t (by omega)).2.2.1.2.1 ?_
    refine lv_iload_n hx hb dX8_moneyOn_16 rfl (lv_at hl 2 rfl) ?_
    refine zIaldN (D := D) hx hb hH (hT.2.2.1 t (by omega)).1.2.2.1 (hT.2.2.1 t (by omega)).2.1.2.1 (by omega) (by omega) rfl dX8_moneyOn_17 ?_
    refine lv_aload_n hx hb dX8_moneyOn_18 rfl (lv_at hl 0 rfl) ?_
    refine zGetR (D := D) (ci := 8) (C := RX8) (T := TX8) (N := 10) hx hb hts hiX8 hown hH (hT.2.2.1 t (by omega)).1.1 rfl 9 (by decide) rfl hw3 (fun _ h9 => h9) dX8_moneyOn_19 (hT.2.2.1 t (by omega)).2.2.1.2.2.1 ?_
    refine lv_iload_n hx hb dX8_moneyOn_22 rfl (lv_at hl 2 rfl) ?_
    refine zIaldN (D := D) hx hb hH (hT.2.2.1 t (by omega)).1.2.2.2 (hT.2.2.1 t (by omega)).2.1.2.2 (by omega) (by omega) rfl dX8_moneyOn_23 ?_
    have hznn := hz.1.2.2.2.2.2.1 _ (List.mem_of_getElem? (i := 7) rfl)
    refine va_calli (va_runSN (host := RX11) (As := [.int x, .int (fi (380 + t) (k - 1)), .int (fi (420 + t) (k - 1))]) (rest := []) ⟨hx, hb, hml, hown, hts⟩ (c_within l hl0 D A sad τ fi fr ol x (fi (380 + t) (k - 1)) (fi (420 + t) (k - 1))) ⟨va_cnB (host := RX11) (y := yX11_within) 3 hts gX8_moneyOn_X11_within_n40 rfl rfl rfl hznn hw4 (by decide +kernel) ⟨Nat.le_of_ble_eq_true rfl, Nat.le_of_ble_eq_true rfl⟩, hw5, trivial⟩ ⟨zQc_bl, zQc_at hz hS hA hH⟩ rfl rfl hl.1 rfl (lv_room (Nat.le_of_ble_eq_true rfl)) dX8_moneyOn_24 ⟨Nat.le_of_ble_eq_true rfl, Nat.le_of_ble_eq_true rfl⟩) hS (fun q _ h => h) (fun q h => h) (fun r104 u9 t9 H1 locs ht9 hvm9 hw hB hz1 hk1 hS => ?_)
    have hH := zMv ht9 hvm9 hB
    generalize H1 = H at hH hS ⊢
    rcases hw with ⟨rfl, hy105⟩ | ⟨rfl, hn106⟩
    · skip
      replace hy105 := zWi1 (rfl) (rfl) (rfl) hy105
      refine lv_if_eq (tgt := 37) hx hb dX8_moneyOn_27 (by decide) (fun c107 => absurd c107 (by decide)) (fun c107 => ?_)
      refine lv_aload_n hx hb dX8_moneyOn_30 rfl (lv_at hl 0 rfl) ?_
      refine zGetR (D := D) (ci := 8) (C := RX8) (T := TX8) (N := 10) hx hb hts hiX8 hown hH (hT.2.2.1 t (by omega)).1.1 rfl 7 (by decide) rfl hw6 (fun _ h9 => h9) dX8_moneyOn_31 (hT.2.2.1 t (by omega)).2.2.1.1 ?_
      refine lv_iload_n hx hb dX8_moneyOn_34 rfl (lv_at hl 2 rfl) ?_
      refine zIaldN (D := D) hx hb hH (hT.2.2.1 t (by omega)).1.2.1 (hT.2.2.1 t (by omega)).2.1.1 (by omega) (by omega) rfl dX8_moneyOn_35 ?_
      refine W.widen (k := 0) (n := 0) (by decide) (by decide) ?_
      exact W.iret (v := fi (340 + t) (k - 1)) hx hb hr (fun t9 ht9 hW9 => ⟨⟨fi (340 + t) (k - 1), (), rfl, Or.inl ⟨k - 1, by omega, hy105, fun i h1 h2 => hj i (by omega) h2, rfl⟩, zEnd1 hH ht9 hW9⟩, hS.F ht9⟩) hS.2.2 dX8_moneyOn_36
    · skip
      replace hn106 := zWi0 (rfl) (rfl) (rfl) hn106
      refine lv_if_eq (tgt := 37) hx hb dX8_moneyOn_27 (by decide) (fun c108 => ?_) (fun c108 => absurd (by decide) c108)
      refine lv_iinc (v := (nI (k - 1) - nI 1)) (lv' := [(2, .int ((nI (k - 1) - nI 1))), (0, .ref (τ.1 (300 + t))), (1, .int x)]) hx hb dX8_moneyOn_37 hl (k := 2) rfl (zSub1 _) (by decide) rfl (fun ls hl => ?_)
      refine lv_goto (tgt := 7) hx hb dX8_moneyOn_40 (by decide) ?_
      exact ih102 ((k - 1)) (by omega) (k - 1) _ _ _ (show (k - 1) = (k - 1) ∧ ((k - 1) ≤ k0 ∧ ∀ j, (k - 1) ≤ j → j < k0 → ¬ ((fi (380 + t) j).toInt ≤ x.toInt ∧ x.toInt ≤ (fi (420 + t) j).toInt)) ∧ zH D A τ fi fr ol s _ ∧ va_S A s.heap _ _ ∧ lv_has _ 3 [(0, .ref (τ.1 (300 + t))), (1, .int x), (2, .int ((nI (k - 1) - nI 1)))] from ⟨rfl, ⟨by omega, fun j h h2 => by by_cases h7 : j = k - 1; (subst h7; exact hn106); exact hj j (by omega) h2⟩, hH, hS, lv_sub hl [1, 2, 0] rfl⟩)
set_option maxHeartbeats 4000000 in
set_option maxRecDepth 100000 in
/-- Thing.addPrice -/
theorem c_addPrice (l : Launch) (hl0 : l.stackTraces = false) (D : va_G) (A : Nat → Prop) (sad : Nat → Nat) (τ : zTy) (fi : zFi) (fr : zFr) (ol : Int64) (x y z : Int32) (n : Nat) (hT : zTh τ fi fr n) (t k0 : Nat) (ht : t < n) (hk0 : fi (300 + t) 6 = nI k0) (hk4 : k0 < 4) : Met l yX8_addPrice wsX8_addPrice ({ frames := 0, cells := 0, slots := 0, locals := 0 }) (va_Pc [.ref (τ.1 (300 + t)), .int x, .int y, .int z] (zQc D A sad τ fi fr ol)) (va_Qi (fun (r : Int32) (u : zFi) => r = nI (k0 + 1) ∧ u = zu (zu (zu (zu fi (340 + t) k0 x) (380 + t) k0 y) (420 + t) k0 z) (300 + t) 6 (nI (k0 + 1))) (fun (u : zFi) (t : State) => zH D A τ u fr ol t t.heap) A) 0 0 A := by
  refine Met.ofW (cc := cX8_addPrice) (maxL := 4) (ret := (some .int)) (by decide) rfl ?_
  intro p9 e9 s m args below meth c9 s₁ B hml hv
  obtain ⟨rfl, hz, hH, hA⟩ := hv
  have hx := B.exec
  have hb := B.bytes
  have hr := B.returns
  have hts := atoms_spec (ws := wsX8_addPrice) B.pre
  have hown : s.vm.findClass RX8 = some m.cls := findClass_of_methodNamed B.named
  have hlocks := B.notSynchronized
  have hS : va_S A s.heap s.heap [] := va_S.rf
  have hl := lv_entry ([.ref (τ.1 (300 + t)), .int x, .int y, .int z]) (n := 4) (Nat.le_of_ble_eq_true rfl)
  rw [lg_entry_eq]
  generalize (lg_sl ([.ref (τ.1 (300 + t)), .int x, .int y, .int z]) ++ List.replicate (4 - (lg_sl ([.ref (τ.1 (300 + t)), .int x, .int y, .int z])).length) Slot.unset).toArray = ls at hl ⊢
  have hl : lv_has ls 4 [(0, .ref (τ.1 (300 + t))), (1, .int x), (2, .int y), (3, .int z)] := hl
  have hn30 := hT.1
  have hiX8 : ∀ w ∈ u_ws RX8 TX8 10, w ∈ wsX8_addPrice := fun _ h => List.mem_cons_of_mem _ (List.mem_append_right _ h)
  have hw1 := hts (.fieldLink RX8 37 "PostHouse$Thing" "prices" "I") (by decide +kernel)
  have hw2 := hts (.fieldLink RX8 9 "PostHouse$Thing" "moneys" "[I") (by decide +kernel)
  have hw3 := hts (.fieldLink RX8 15 "PostHouse$Thing" "froms" "[I") (by decide +kernel)
  have hw4 := hts (.fieldLink RX8 18 "PostHouse$Thing" "tos" "[I") (by decide +kernel)
  refine lv_aload_n hx hb dX8_addPrice_0 rfl (lv_at hl 0 rfl) ?_
  refine zGetI (D := D) (ci := 8) (C := RX8) (T := TX8) (N := 10) hx hb hts hiX8 hown hH (hT.2.2.1 t (by omega)).1.1 rfl 6 (by decide) rfl hw1 (fun _ h9 => h9) dX8_addPrice_1 hk0 ?_
  refine lv_iconst (v := nI 4) hx hb dX8_addPrice_4 (by decide) ?_
  refine lv_icmp_ge (tgt := 48) hx hb dX8_addPrice_5 (by decide) (fun c101 => False.elim (by have zc101 := zc_le (nI_toInt (by omega)) (nI_toInt (by omega)) c101; omega)) (fun c101 => ?_)
  refine lv_aload_n hx hb dX8_addPrice_8 rfl (lv_at hl 0 rfl) ?_
  refine zGetR (D := D) (ci := 8) (C := RX8) (T := TX8) (N := 10) hx hb hts hiX8 hown hH (hT.2.2.1 t (by omega)).1.1 rfl 7 (by decide) rfl hw2 (fun _ h9 => h9) dX8_addPrice_9 (hT.2.2.1 t (by omega)).2.2.1.1 ?_
  refine lv_aload_n hx hb dX8_addPrice_12 rfl (lv_at hl 0 rfl) ?_
  refine zGetI (D := D) (ci := 8) (C := RX8) (T := TX8) (N := 10) hx hb hts hiX8 hown hH (hT.2.2.1 t (by omega)).1.1 rfl 6 (by decide) rfl hw1 (fun _ h9 => h9) dX8_addPrice_13 hk0 ?_
  refine lv_iload_n hx hb dX8_addPrice_16 rfl (lv_at hl 1 rfl) ?_
  refine zIastN (D := D) hx hb hH hS (hT.2.2.1 t (by omega)).1.2.1 (hT.2.2.1 t (by omega)).2.1.1 (by omega) (by omega) dX8_addPrice_17 (fun H locs hH hS => ?_)
  obtain ⟨f102, ef102⟩ : ∃ f9 : zFi, f9 = zu fi (340 + t) k0 x := ⟨_, rfl⟩
  rw [← ef102] at hH
  have q103 : f102 (300 + t) 6 = nI k0 := by rw [ef102, zu_n (fun h9 => by omega)]; exact hk0
  have q104 : f102 (340 + t) k0 = x := by rw [ef102]; exact zu_s
  refine lv_aload_n hx hb dX8_addPrice_18 rfl (lv_at hl 0 rfl) ?_
  refine zGetR (D := D) (ci := 8) (C := RX8) (T := TX8) (N := 10) hx hb hts hiX8 hown hH (hT.2.2.1 t (by omega)).1.1 rfl 8 (by decide) rfl hw3 (fun _ h9 => h9) dX8_addPrice_19 (hT.2.2.1 t (by omega)).2.2.1.2.1 ?_
  refine lv_aload_n hx hb dX8_addPrice_22 rfl (lv_at hl 0 rfl) ?_
  refine zGetI (D := D) (ci := 8) (C := RX8) (T := TX8) (N := 10) hx hb hts hiX8 hown hH (hT.2.2.1 t (by omega)).1.1 rfl 6 (by decide) rfl hw1 (fun _ h9 => h9) dX8_addPrice_23 q103 ?_
  refine lv_iload_n hx hb dX8_addPrice_26 rfl (lv_at hl 2 rfl) ?_
  refine zIastN (D := D) hx hb hH hS (hT.2.2.1 t (by omega)).1.2.2.1 (hT.2.2.1 t (by omega)).2.1.2.1 (by omega) (by omega) dX8_addPrice_27 (fun H locs hH hS => ?_)
  obtain ⟨f105, ef105⟩ : ∃ f9 : zFi, f9 = zu f102 (380 + t) k0 y := ⟨_, rfl⟩
  rw [← ef105] at hH
  have q106 : f105 (300 + t) 6 = nI k0 := by rw [ef105, zu_n (fun h9 => by omega)]; exact q103
  have q107 : f105 (340 + t) k0 = x := by rw [ef105, zu_n (fun h9 => by omega)]; exact q104
  have q108 : f105 (380 + t) k0 = y := by rw [ef105]; exact zu_s
  refine lv_aload_n hx hb dX8_addPrice_28 rfl (lv_at hl 0 rfl) ?_
  refine zGetR (D := D) (ci := 8) (C := RX8) (T := TX8) (N := 10) hx hb hts hiX8 hown hH (hT.2.2.1 t (by omega)).1.1 rfl 9 (by decide) rfl hw4 (fun _ h9 => h9) dX8_addPrice_29 (hT.2.2.1 t (by omega)).2.2.1.2.2.1 ?_
  refine lv_aload_n hx hb dX8_addPrice_32 rfl (lv_at hl 0 rfl) ?_
  refine zGetI (D := D) (ci := 8) (C := RX8) (T := TX8) (N := 10) hx hb hts hiX8 hown hH (hT.2.2.1 t (by omega)).1.1 rfl 6 (by decide) rfl hw1 (fun _ h9 => h9) dX8_addPrice_33 q106 ?_
  refine lv_iload_n hx hb dX8_addPrice_36 rfl (lv_at hl 3 rfl) ?_
  refine zIastN (D := D) hx hb hH hS (hT.2.2.1 t (by omega)).1.2.2.2 (hT.2.2.1 t (by omega)).2.1.2.2 (by omega) (by omega) dX8_addPrice_37 (fun H locs hH hS => ?_)
  obtain ⟨f109, ef109⟩ : ∃ f9 : zFi, f9 = zu f105 (420 + t) k0 z := ⟨_, rfl⟩
  rw [← ef109] at hH
  have q110 : f109 (300 + t) 6 = nI k0 := by rw [ef109, zu_n (fun h9 => by omega)]; exact q106
  have q111 : f109 (340 + t) k0 = x := by rw [ef109, zu_n (fun h9 => by omega)]; exact q107
  have q112 : f109 (380 + t) k0 = y := by rw [ef109, zu_n (fun h9 => by omega)]; exact q108
  have q113 : f109 (420 + t) k0 = z := by rw [ef109]; exact zu_s
  refine lv_aload_n hx hb dX8_addPrice_38 rfl (lv_at hl 0 rfl) ?_
  refine lv_dup hx hb dX8_addPrice_39 rfl ?_
  refine zGetI (D := D) (ci := 8) (C := RX8) (T := TX8) (N := 10) hx hb hts hiX8 hown hH (hT.2.2.1 t (by omega)).1.1 rfl 6 (by decide) rfl hw1 (fun _ h9 => h9) dX8_addPrice_40 q110 ?_
  refine lv_iconst (v := nI 1) hx hb dX8_addPrice_43 (by decide) ?_
  refine lv_iadd hx hb dX8_addPrice_44 ?_
  refine lv_topi (fun v114 ev114 => ?_)
  obtain rfl : v114 = nI (k0 + 1) := ev114.trans (nI_add _ _)
  refine zPutI (D := D) (ci := 8) (ty := .int) (C := RX8) (T := TX8) (N := 10) hx hb hts hiX8 tyX8 tyX8_ok nmX8 hown hH hS (hT.2.2.1 t (by omega)).1.1 rfl 6 (by decide) rfl hw1 (fun _ h9 => h9) rfl (by decide +kernel) rfl rfl dX8_addPrice_45 (fun H locs hH hS => ?_)
  obtain ⟨f115, ef115⟩ : ∃ f9 : zFi, f9 = zu f109 (300 + t) 6 (nI (k0 + 1)) := ⟨_, rfl⟩
  rw [← ef115] at hH
  have q116 : f115 (340 + t) k0 = x := by rw [ef115, zu_n (fun h9 => by omega)]; exact q111
  have q117 : f115 (380 + t) k0 = y := by rw [ef115, zu_n (fun h9 => by omega)]; exact q112
  have q118 : f115 (420 + t) k0 = z := by rw [ef115, zu_n (fun h9 => by omega)]; exact q113
  have q119 : f115 (300 + t) 6 = nI (k0 + 1) := by rw [ef115]; exact zu_s
  refine lv_aload_n hx hb dX8_addPrice_48 rfl (lv_at hl 0 rfl) ?_
  refine zGetI (D := D) (ci := 8) (C := RX8) (T := TX8) (N := 10) hx hb hts hiX8 hown hH (hT.2.2.1 t (by omega)).1.1 rfl 6 (by decide) rfl hw1 (fun _ h9 => h9) dX8_addPrice_49 q119 ?_
  refine W.widen (k := 0) (n := 0) (by decide) (by decide) ?_
  exact W.iret (v := nI (k0 + 1)) hx hb hr (fun t9 ht9 hW9 => ⟨⟨nI (k0 + 1), f115, rfl, ⟨rfl, by rw [ef115, ef109, ef105, ef102]⟩, zEnd1 hH ht9 hW9⟩, hS.F ht9⟩) hS.2.2 dX8_addPrice_52
