set_option maxHeartbeats 4000000 in
set_option maxRecDepth 100000 in
/-- sign -/
theorem m_signX (l : Launch) (hl0 : l.stackTraces = false) (D : va_G) (A : Nat → Prop) (sad : Nat → Nat) (τ : zTy) (fi : zFi) (fr : zFr) (ol : Int64) (L a : Nat) (hF : zFix τ fr) (he : fi 30 22 = nI L) (ha : fi 30 23 = nI a) (hL4 : L ≤ 400) (haL : a ≤ L) : Met l yX12_sign wsX12_sign ({ frames := 0, cells := 0, slots := 0, locals := 0 }) (va_Pc [.ref (τ.1 30)] (zQc D A sad τ fi fr ol)) (va_Qi (fun (r : Int32) (u : zFi) => True ∧ (∃ c, a ≤ c ∧ c ≤ L ∧ u 30 23 = nI c ∧ (c = zS (fi 47) L a ∧ ((c < L ∧ r = fi 47 c) ∨ (c = L ∧ r = -1)))) ∧ ∀ a b, ¬ (a = 30 ∧ b = 23) → u a b = fi a b) (fun (u : zFi) (t : State) => zH D A τ u fr ol t t.heap) A) 0 0 A := by
  refine Met.ofW (cc := cX12_sign) (maxL := 1) (ret := (some .int)) (by decide) rfl ?_
  intro p9 e9 s m args below meth c9 s₁ B hml hv
  obtain ⟨rfl, hz, hH, hA⟩ := hv
  have hx := B.exec
  have hb := B.bytes
  have hr := B.returns
  have hts := atoms_spec (ws := wsX12_sign) B.pre
  have hown : s.vm.findClass RX12 = some m.cls := findClass_of_methodNamed B.named
  have hlocks := B.notSynchronized
  have hS : va_S A s.heap s.heap [] := va_S.rf
  have hl := lv_entry ([.ref (τ.1 30)]) (n := 1) (Nat.le_of_ble_eq_true rfl)
  rw [lg_entry_eq]
  generalize (lg_sl ([.ref (τ.1 30)]) ++ List.replicate (1 - (lg_sl ([.ref (τ.1 30)])).length) Slot.unset).toArray = ls at hl ⊢
  have hl : lv_has ls 1 [(0, .ref (τ.1 30))] := hl
  have hiX12 : ∀ w ∈ u_ws RX12 TX12 71, w ∈ wsX12_sign := fun _ h => List.mem_cons_of_mem _ (List.mem_append_right _ h)
  have hw1 := hts (.fieldLink RX12 206 "PostHouseModel" "at" "I") (by decide +kernel)
  have hw2 := hts (.fieldLink RX12 209 "PostHouseModel" "end" "I") (by decide +kernel)
  have hw3 := hts (.fieldLink RX12 58 "PostHouseModel" "tape" "[I") (by decide +kernel)
  refine zLp (σ := Nat × zFi) (fun x9 k9 H locs ls => (fun (c : Nat) (f : zFi) => k9 = L - c ∧ (a ≤ c ∧ c ≤ L ∧ f 30 23 = nI c ∧ (∀ j, a ≤ j → j < c → (fi 47 j).toInt = 32) ∧ ∀ a b, ¬ (a = 30 ∧ b = 23) → f a b = fi a b) ∧ zH D A τ f fr ol s H ∧ va_S A s.heap H locs ∧ lv_has ls 1 [(0, .ref (τ.1 30))]) x9.1 x9.2) (a, fi) (L - a) (show L - a = L - a ∧ (a ≤ a ∧ a ≤ L ∧ fi 30 23 = nI a ∧ (∀ j, a ≤ j → j < a → (fi 47 j).toInt = 32) ∧ ∀ a b, ¬ (a = 30 ∧ b = 23) → fi a b = fi a b) ∧ zH D A τ fi fr ol s _ ∧ va_S A s.heap _ _ ∧ lv_has _ 1 [(0, .ref (τ.1 30))] from ⟨rfl, ⟨Nat.le_refl _, haL, ha, fun j h5 h6 => absurd h6 (by omega), fun _ _ _ => rfl⟩, hH, hS, lv_sub hl [0] rfl⟩) (fun k9 ih x9 H locs ls hv9 => ?_)
  obtain ⟨c, f⟩ := x9
  have hv9 : k9 = L - c ∧ (a ≤ c ∧ c ≤ L ∧ f 30 23 = nI c ∧ (∀ j, a ≤ j → j < c → (fi 47 j).toInt = 32) ∧ ∀ a b, ¬ (a = 30 ∧ b = 23) → f a b = fi a b) ∧ zH D A τ f fr ol s H ∧ va_S A s.heap H locs ∧ lv_has ls 1 [(0, .ref (τ.1 30))] := hv9
  obtain ⟨hkih101, hv9, hH, hS, hl⟩ := hv9
  obtain ⟨h1, h2, hc, hj, hfr⟩ := hv9
  have ih101 := ih
  clear ih
  have q22 : f 30 22 = nI L := by rw [hfr 30 22 (by omega)]; exact he
  have q47 : f 47 = fi 47 := by funext k; exact hfr 47 k (by omega)
  refine lv_aload_n hx hb dX12_sign_0 rfl (lv_at hl 0 rfl) ?_
  refine zGetI (D := D) (ci := 12) (C := RX12) (T := TX12) (N := 71) hx hb hts hiX12 hown hH (zk_30 hF) rfl 23 (by decide) rfl hw1 (fun _ h9 => h9) dX12_sign_1 hc ?_
  refine lv_aload_n hx hb dX12_sign_4 rfl (lv_at hl 0 rfl) ?_
  refine zGetI (D := D) (ci := 12) (C := RX12) (T := TX12) (N := 71) hx hb hts hiX12 hown hH (zk_30 hF) rfl 22 (by decide) rfl hw2 (fun _ h9 => h9) dX12_sign_5 q22 ?_
  refine lv_icmp_ge (tgt := 38) hx hb dX12_sign_8 (by decide) (fun c102 => ?_) (fun c102 => ?_)
  · have zc102 := c102
    replace zc102 := zc_le (nI_toInt (by omega)) (nI_toInt (by omega)) zc102
    refine lv_aload_n hx hb dX12_sign_38 rfl (lv_at hl 0 rfl) ?_
    refine zGetI (D := D) (ci := 12) (C := RX12) (T := TX12) (N := 71) hx hb hts hiX12 hown hH (zk_30 hF) rfl 23 (by decide) rfl hw1 (fun _ h9 => h9) dX12_sign_39 hc ?_
    refine lv_aload_n hx hb dX12_sign_42 rfl (lv_at hl 0 rfl) ?_
    refine zGetI (D := D) (ci := 12) (C := RX12) (T := TX12) (N := 71) hx hb hts hiX12 hown hH (zk_30 hF) rfl 22 (by decide) rfl hw2 (fun _ h9 => h9) dX12_sign_43 q22 ?_
    refine lv_icmp_ge (tgt := 61) hx hb dX12_sign_46 (by decide) (fun c103 => ?_) (fun c103 => ?_)
    · have zc103 := c103
      replace zc103 := zc_le (nI_toInt (by omega)) (nI_toInt (by omega)) zc103
      refine lv_iconst (v := (-1)) hx hb dX12_sign_61 (by decide) ?_
      refine W.widen (k := 0) (n := 0) (by decide) (by decide) ?_
      exact W.iret (v := (-1)) hx hb hr (fun t9 ht9 hW9 => ⟨⟨(-1), f, rfl, ⟨trivial, ⟨c, h1, h2, hc, zSkip.eq ⟨h1, h2, hj, fun h => by first | exact absurd h (by omega)⟩, Or.inr ⟨by omega, rfl⟩⟩, fun a b h => hfr a b h⟩, zEnd1 hH ht9 hW9⟩, hS.F ht9⟩) hS.2.2 dX12_sign_62
    · have zc103 := c103
      replace zc103 := zc_nle (nI_toInt (by omega)) (nI_toInt (by omega)) zc103
      refine lv_aload_n hx hb dX12_sign_49 rfl (lv_at hl 0 rfl) ?_
      refine zGetR (D := D) (ci := 12) (C := RX12) (T := TX12) (N := 71) hx hb hts hiX12 hown hH (zk_30 hF) rfl 20 (by decide) rfl hw3 (fun _ h9 => h9) dX12_sign_50 (zr_30_20 hF) ?_
      refine lv_aload_n hx hb dX12_sign_53 rfl (lv_at hl 0 rfl) ?_
      refine zGetI (D := D) (ci := 12) (C := RX12) (T := TX12) (N := 71) hx hb hts hiX12 hown hH (zk_30 hF) rfl 23 (by decide) rfl hw1 (fun _ h9 => h9) dX12_sign_54 hc ?_
      refine zIaldN (D := D) hx hb hH (zk_47 hF) (zn_47 hF) (by omega) (by omega) rfl dX12_sign_57 ?_
      refine lv_goto (tgt := 62) hx hb dX12_sign_58 (by decide) ?_
      refine W.widen (k := 0) (n := 0) (by decide) (by decide) ?_
      exact W.iret (v := f 47 c) hx hb hr (fun t9 ht9 hW9 => ⟨⟨f 47 c, f, rfl, ⟨trivial, ⟨c, h1, h2, hc, zSkip.eq ⟨h1, h2, hj, fun h => by first | exact absurd h (by omega)⟩, Or.inl ⟨by omega, by rw [q47]⟩⟩, fun a b h => hfr a b h⟩, zEnd1 hH ht9 hW9⟩, hS.F ht9⟩) hS.2.2 dX12_sign_62
  · have zc102 := c102
    replace zc102 := zc_nle (nI_toInt (by omega)) (nI_toInt (by omega)) zc102
    refine lv_aload_n hx hb dX12_sign_11 rfl (lv_at hl 0 rfl) ?_
    refine zGetR (D := D) (ci := 12) (C := RX12) (T := TX12) (N := 71) hx hb hts hiX12 hown hH (zk_30 hF) rfl 20 (by decide) rfl hw3 (fun _ h9 => h9) dX12_sign_12 (zr_30_20 hF) ?_
    refine lv_aload_n hx hb dX12_sign_15 rfl (lv_at hl 0 rfl) ?_
    refine zGetI (D := D) (ci := 12) (C := RX12) (T := TX12) (N := 71) hx hb hts hiX12 hown hH (zk_30 hF) rfl 23 (by decide) rfl hw1 (fun _ h9 => h9) dX12_sign_16 hc ?_
    refine zIaldN (D := D) hx hb hH (zk_47 hF) (zn_47 hF) (by omega) (by omega) rfl dX12_sign_19 ?_
    refine lv_bipush (v := nI 32) hx hb dX12_sign_20 (by decide) ?_
    refine lv_icmp_ne (tgt := 38) hx hb dX12_sign_22 (by decide) (fun c104 => ?_) (fun c104 => ?_)
    · have zc104 := c104
      replace zc104 := zc_neq (rfl) (nI_toInt (by omega)) zc104
      refine lv_aload_n hx hb dX12_sign_38 rfl (lv_at hl 0 rfl) ?_
      refine zGetI (D := D) (ci := 12) (C := RX12) (T := TX12) (N := 71) hx hb hts hiX12 hown hH (zk_30 hF) rfl 23 (by decide) rfl hw1 (fun _ h9 => h9) dX12_sign_39 hc ?_
      refine lv_aload_n hx hb dX12_sign_42 rfl (lv_at hl 0 rfl) ?_
      refine zGetI (D := D) (ci := 12) (C := RX12) (T := TX12) (N := 71) hx hb hts hiX12 hown hH (zk_30 hF) rfl 22 (by decide) rfl hw2 (fun _ h9 => h9) dX12_sign_43 q22 ?_
      refine lv_icmp_ge (tgt := 61) hx hb dX12_sign_46 (by decide) (fun c105 => ?_) (fun c105 => ?_)
      · have zc105 := c105
        replace zc105 := zc_le (nI_toInt (by omega)) (nI_toInt (by omega)) zc105
        refine lv_iconst (v := (-1)) hx hb dX12_sign_61 (by decide) ?_
        refine W.widen (k := 0) (n := 0) (by decide) (by decide) ?_
        exact W.iret (v := (-1)) hx hb hr (fun t9 ht9 hW9 => ⟨⟨(-1), f, rfl, ⟨trivial, ⟨c, h1, h2, hc, zSkip.eq ⟨h1, h2, hj, fun h => by first | exact absurd h (by omega) | (rw [q47] at zc104; omega)⟩, Or.inr ⟨by omega, rfl⟩⟩, fun a b h => hfr a b h⟩, zEnd1 hH ht9 hW9⟩, hS.F ht9⟩) hS.2.2 dX12_sign_62
      · have zc105 := c105
        replace zc105 := zc_nle (nI_toInt (by omega)) (nI_toInt (by omega)) zc105
        refine lv_aload_n hx hb dX12_sign_49 rfl (lv_at hl 0 rfl) ?_
        refine zGetR (D := D) (ci := 12) (C := RX12) (T := TX12) (N := 71) hx hb hts hiX12 hown hH (zk_30 hF) rfl 20 (by decide) rfl hw3 (fun _ h9 => h9) dX12_sign_50 (zr_30_20 hF) ?_
        refine lv_aload_n hx hb dX12_sign_53 rfl (lv_at hl 0 rfl) ?_
        refine zGetI (D := D) (ci := 12) (C := RX12) (T := TX12) (N := 71) hx hb hts hiX12 hown hH (zk_30 hF) rfl 23 (by decide) rfl hw1 (fun _ h9 => h9) dX12_sign_54 hc ?_
        refine zIaldN (D := D) hx hb hH (zk_47 hF) (zn_47 hF) (by omega) (by omega) rfl dX12_sign_57 ?_
        refine lv_goto (tgt := 62) hx hb dX12_sign_58 (by decide) ?_
        refine W.widen (k := 0) (n := 0) (by decide) (by decide) ?_
        exact W.iret (v := f 47 c) hx hb hr (fun t9 ht9 hW9 => ⟨⟨f 47 c, f, rfl, ⟨trivial, ⟨c, h1, h2, hc, zSkip.eq ⟨h1, h2, hj, fun h => by first | exact absurd h (by omega) | (rw [q47] at zc104; omega)⟩, Or.inl ⟨by omega, by rw [q47]⟩⟩, fun a b h => hfr a b h⟩, zEnd1 hH ht9 hW9⟩, hS.F ht9⟩) hS.2.2 dX12_sign_62
    · have zc104 := c104
      replace zc104 := zc_eq (rfl) (nI_toInt (by omega)) zc104
      refine lv_aload_n hx hb dX12_sign_25 rfl (lv_at hl 0 rfl) ?_
      refine lv_dup hx hb dX12_sign_26 rfl ?_
      refine zGetI (D := D) (ci := 12) (C := RX12) (T := TX12) (N := 71) hx hb hts hiX12 hown hH (zk_30 hF) rfl 23 (by decide) rfl hw1 (fun _ h9 => h9) dX12_sign_27 hc ?_
      refine lv_iconst (v := nI 1) hx hb dX12_sign_30 (by decide) ?_
      refine lv_iadd hx hb dX12_sign_31 ?_
      refine lv_topi (fun v106 ev106 => ?_)
      obtain rfl : v106 = nI (c + 1) := ev106.trans (nI_add _ _)
      refine zPutI (D := D) (ci := 12) (ty := .int) (C := RX12) (T := TX12) (N := 71) hx hb hts hiX12 tyX12 tyX12_ok nmX12 hown hH hS (zk_30 hF) rfl 23 (by decide) rfl hw1 (fun _ h9 => h9) rfl (by decide +kernel) rfl rfl dX12_sign_32 (fun H locs hH hS => ?_)
      obtain ⟨f107, ef107⟩ : ∃ f9 : zFi, f9 = zu f 30 23 (nI (c + 1)) := ⟨_, rfl⟩
      rw [← ef107] at hH
      have q108 : f107 30 22 = nI L := by rw [ef107, zu_n (fun h9 => absurd h9.2 (by decide))]; exact q22
      have q109 : f107 30 23 = nI (c + 1) := by rw [ef107]; exact zu_s
      refine lv_goto (tgt := 0) hx hb dX12_sign_35 (by decide) ?_
      exact ih101 (L - (c + 1)) (by omega) (c + 1, f107) _ _ _ (show L - (c + 1) = L - (c + 1) ∧ (a ≤ (c + 1) ∧ (c + 1) ≤ L ∧ f107 30 23 = nI (c + 1) ∧ (∀ j, a ≤ j → j < (c + 1) → (fi 47 j).toInt = 32) ∧ ∀ a b, ¬ (a = 30 ∧ b = 23) → f107 a b = fi a b) ∧ zH D A τ f107 fr ol s _ ∧ va_S A s.heap _ _ ∧ lv_has _ 1 [(0, .ref (τ.1 30))] from ⟨rfl, ⟨by omega, by omega, q109, fun j h5 h6 => by by_cases h7 : j = c; (subst h7; rw [q47] at zc104; omega); exact hj j h5 (by omega), fun a b h => by rw [ef107, zu_n (by omega)]; exact hfr a b h⟩, hH, hS, lv_sub hl [0] rfl⟩)
set_option maxHeartbeats 4000000 in
set_option maxRecDepth 100000 in
/-- isDigit -/
theorem m_isDigitX (l : Launch) (hl0 : l.stackTraces = false) (D : va_G) (A : Nat → Prop) (sad : Nat → Nat) (τ : zTy) (fi : zFi) (fr : zFr) (ol : Int64) (x : Int32) : Met l yX12_isDigit wsX12_isDigit ({ frames := 0, cells := 0, slots := 0, locals := 0 }) (va_Pc [.int x] (zQc D A sad τ fi fr ol)) (va_Qi (fun (r : Int32) (u : Unit) => (r = 1 ∧ 48 ≤ x.toInt ∧ x.toInt ≤ 57) ∨ (r = 0 ∧ ¬ (48 ≤ x.toInt ∧ x.toInt ≤ 57))) (fun (u : Unit) (t : State) => zH D A τ fi fr ol t t.heap) A) 0 0 A := by
  refine Met.ofW (cc := cX12_isDigit) (maxL := 1) (ret := (some .boolean)) (by decide) rfl ?_
  intro p9 e9 s m args below meth c9 s₁ B hml hv
  obtain ⟨rfl, hz, hH, hA⟩ := hv
  have hx := B.exec
  have hb := B.bytes
  have hr := B.returns
  have hts := atoms_spec (ws := wsX12_isDigit) B.pre
  have hown : s.vm.findClass RX12 = some m.cls := findClass_of_methodNamed B.named
  have hlocks := B.notSynchronized
  have hS : va_S A s.heap s.heap [] := va_S.rf
  have hl := lv_entry ([.int x]) (n := 1) (Nat.le_of_ble_eq_true rfl)
  rw [lg_entry_eq]
  generalize (lg_sl ([.int x]) ++ List.replicate (1 - (lg_sl ([.int x])).length) Slot.unset).toArray = ls at hl ⊢
  have hl : lv_has ls 1 [(0, .int x)] := hl
  refine lv_iload_n hx hb dX12_isDigit_0 rfl (lv_at hl 0 rfl) ?_
  refine lv_bipush (v := nI 48) hx hb dX12_isDigit_1 (by decide) ?_
  refine lv_icmp_lt (tgt := 16) hx hb dX12_isDigit_3 (by decide) (fun c101 => ?_) (fun c101 => ?_)
  · have zc101 := c101
    replace zc101 := zc_lt (rfl) (nI_toInt (by omega)) zc101
    refine lv_iconst (v := nI 0) hx hb dX12_isDigit_16 (by decide) ?_
    refine W.widen (k := 0) (n := 0) (by decide) (by decide) ?_
    exact W.zret (v := nI 0) hx hb hr (by decide) (fun t9 ht9 hW9 => ⟨⟨nI 0, (), rfl, Or.inr ⟨rfl, fun h9 => by have h91 := h9.1; have h92 := h9.2; omega⟩, zEnd1 hH ht9 hW9⟩, hS.F ht9⟩) hS.2.2 dX12_isDigit_17
  · have zc101 := c101
    replace zc101 := zc_nlt (rfl) (nI_toInt (by omega)) zc101
    refine lv_iload_n hx hb dX12_isDigit_6 rfl (lv_at hl 0 rfl) ?_
    refine lv_bipush (v := nI 57) hx hb dX12_isDigit_7 (by decide) ?_
    refine lv_icmp_gt (tgt := 16) hx hb dX12_isDigit_9 (by decide) (fun c102 => ?_) (fun c102 => ?_)
    · have zc102 := c102
      replace zc102 := zc_lt (nI_toInt (by omega)) (rfl) zc102
      refine lv_iconst (v := nI 0) hx hb dX12_isDigit_16 (by decide) ?_
      refine W.widen (k := 0) (n := 0) (by decide) (by decide) ?_
      exact W.zret (v := nI 0) hx hb hr (by decide) (fun t9 ht9 hW9 => ⟨⟨nI 0, (), rfl, Or.inr ⟨rfl, fun h9 => by have h91 := h9.1; have h92 := h9.2; omega⟩, zEnd1 hH ht9 hW9⟩, hS.F ht9⟩) hS.2.2 dX12_isDigit_17
    · have zc102 := c102
      replace zc102 := zc_nlt (nI_toInt (by omega)) (rfl) zc102
      refine lv_iconst (v := nI 1) hx hb dX12_isDigit_12 (by decide) ?_
      refine lv_goto (tgt := 17) hx hb dX12_isDigit_13 (by decide) ?_
      refine W.widen (k := 0) (n := 0) (by decide) (by decide) ?_
      exact W.zret (v := nI 1) hx hb hr (by decide) (fun t9 ht9 hW9 => ⟨⟨nI 1, (), rfl, Or.inl ⟨rfl, by omega, by omega⟩, zEnd1 hH ht9 hW9⟩, hS.F ht9⟩) hS.2.2 dX12_isDigit_17
set_option maxHeartbeats 4000000 in
set_option maxRecDepth 100000 in
/-- wordEnd -/
theorem m_wordEndX (l : Launch) (hl0 : l.stackTraces = false) (D : va_G) (A : Nat → Prop) (sad : Nat → Nat) (τ : zTy) (fi : zFi) (fr : zFr) (ol : Int64) (L a : Nat) (hF : zFix τ fr) (he : fi 30 22 = nI L) (ha : fi 30 23 = nI a) (hL4 : L ≤ 400) (haL : a ≤ L) : Met l yX12_wordEnd wsX12_wordEnd ({ frames := 0, cells := 0, slots := 0, locals := 0 }) (va_Pc [.ref (τ.1 30)] (zQc D A sad τ fi fr ol)) (va_Qi (fun (r : Int32) (u : Unit) => ∃ c, a ≤ c ∧ c ≤ L ∧ r = nI c ∧ zRun (fi 47) 97 122 a L (c - a)) (fun (u : Unit) (t : State) => zH D A τ fi fr ol t t.heap) A) 0 0 A := by
  refine Met.ofW (cc := cX12_wordEnd) (maxL := 2) (ret := (some .int)) (by decide) rfl ?_
  intro p9 e9 s m args below meth c9 s₁ B hml hv
  obtain ⟨rfl, hz, hH, hA⟩ := hv
  have hx := B.exec
  have hb := B.bytes
  have hr := B.returns
  have hts := atoms_spec (ws := wsX12_wordEnd) B.pre
  have hown : s.vm.findClass RX12 = some m.cls := findClass_of_methodNamed B.named
  have hlocks := B.notSynchronized
  have hS : va_S A s.heap s.heap [] := va_S.rf
  have hl := lv_entry ([.ref (τ.1 30)]) (n := 2) (Nat.le_of_ble_eq_true rfl)
  rw [lg_entry_eq]
  generalize (lg_sl ([.ref (τ.1 30)]) ++ List.replicate (2 - (lg_sl ([.ref (τ.1 30)])).length) Slot.unset).toArray = ls at hl ⊢
  have hl : lv_has ls 2 [(0, .ref (τ.1 30))] := hl
  have hiX12 : ∀ w ∈ u_ws RX12 TX12 71, w ∈ wsX12_wordEnd := fun _ h => List.mem_cons_of_mem _ (List.mem_append_right _ h)
  have hw1 := hts (.fieldLink RX12 206 "PostHouseModel" "at" "I") (by decide +kernel)
  have hw2 := hts (.fieldLink RX12 209 "PostHouseModel" "end" "I") (by decide +kernel)
  have hw3 := hts (.fieldLink RX12 58 "PostHouseModel" "tape" "[I") (by decide +kernel)
  refine lv_aload_n hx hb dX12_wordEnd_0 rfl (lv_at hl 0 rfl) ?_
  refine zGetI (D := D) (ci := 12) (C := RX12) (T := TX12) (N := 71) hx hb hts hiX12 hown hH (zk_30 hF) rfl 23 (by decide) rfl hw1 (fun _ h9 => h9) dX12_wordEnd_1 ha ?_
  refine lv_istore_n (lv' := [(1, .int (nI a)), (0, .ref (τ.1 30))]) hx hb dX12_wordEnd_4 rfl hl (by decide) rfl (fun ls hl => ?_)
  refine zLp (σ := Nat) (fun x9 k9 H locs ls => (fun (c : Nat) => k9 = L - c ∧ (a ≤ c ∧ c ≤ L ∧ ∀ j, a ≤ j → j < c → 97 ≤ (fi 47 j).toInt ∧ (fi 47 j).toInt ≤ 122) ∧ zH D A τ fi fr ol s H ∧ va_S A s.heap H locs ∧ lv_has ls 2 [(0, .ref (τ.1 30)), (1, .int (nI c))]) x9) a (L - a) (show L - a = L - a ∧ (a ≤ a ∧ a ≤ L ∧ ∀ j, a ≤ j → j < a → 97 ≤ (fi 47 j).toInt ∧ (fi 47 j).toInt ≤ 122) ∧ zH D A τ fi fr ol s _ ∧ va_S A s.heap _ _ ∧ lv_has _ 2 [(0, .ref (τ.1 30)), (1, .int (nI a))] from ⟨rfl, ⟨Nat.le_refl _, haL, fun j h5 h6 => absurd h6 (by omega)⟩, hH, hS, lv_sub hl [1, 0] rfl⟩) (fun k9 ih x9 H locs ls hv9 => ?_)
  generalize x9 = c at hv9
  have hv9 : k9 = L - c ∧ (a ≤ c ∧ c ≤ L ∧ ∀ j, a ≤ j → j < c → 97 ≤ (fi 47 j).toInt ∧ (fi 47 j).toInt ≤ 122) ∧ zH D A τ fi fr ol s H ∧ va_S A s.heap H locs ∧ lv_has ls 2 [(0, .ref (τ.1 30)), (1, .int (nI c))] := hv9
  obtain ⟨hkih101, hv9, hH, hS, hl⟩ := hv9
  obtain ⟨h1, h2, hj⟩ := hv9
  have ih101 := ih
  clear ih
  refine lv_iload_n hx hb dX12_wordEnd_5 rfl (lv_at hl 1 rfl) ?_
  refine lv_aload_n hx hb dX12_wordEnd_6 rfl (lv_at hl 0 rfl) ?_
  refine zGetI (D := D) (ci := 12) (C := RX12) (T := TX12) (N := 71) hx hb hts hiX12 hown hH (zk_30 hF) rfl 22 (by decide) rfl hw2 (fun _ h9 => h9) dX12_wordEnd_7 he ?_
  refine lv_icmp_ge (tgt := 41) hx hb dX12_wordEnd_10 (by decide) (fun c102 => ?_) (fun c102 => ?_)
  · have zc102 := c102
    replace zc102 := zc_le (nI_toInt (by omega)) (nI_toInt (by omega)) zc102
    refine lv_iload_n hx hb dX12_wordEnd_41 rfl (lv_at hl 1 rfl) ?_
    refine W.widen (k := 0) (n := 0) (by decide) (by decide) ?_
    exact W.iret (v := nI c) hx hb hr (fun t9 ht9 hW9 => ⟨⟨nI c, (), rfl, ⟨c, h1, h2, rfl, zRun.wd h1 h2 hj (fun h h9 => by have h91 := h9.1; have h92 := h9.2; omega)⟩, zEnd1 hH ht9 hW9⟩, hS.F ht9⟩) hS.2.2 dX12_wordEnd_42
  · have zc102 := c102
    replace zc102 := zc_nle (nI_toInt (by omega)) (nI_toInt (by omega)) zc102
    refine lv_aload_n hx hb dX12_wordEnd_13 rfl (lv_at hl 0 rfl) ?_
    refine zGetR (D := D) (ci := 12) (C := RX12) (T := TX12) (N := 71) hx hb hts hiX12 hown hH (zk_30 hF) rfl 20 (by decide) rfl hw3 (fun _ h9 => h9) dX12_wordEnd_14 (zr_30_20 hF) ?_
    refine lv_iload_n hx hb dX12_wordEnd_17 rfl (lv_at hl 1 rfl) ?_
    refine zIaldN (D := D) hx hb hH (zk_47 hF) (zn_47 hF) (by omega) (by omega) rfl dX12_wordEnd_18 ?_
    refine lv_bipush (v := nI 97) hx hb dX12_wordEnd_19 (by decide) ?_
    refine lv_icmp_lt (tgt := 41) hx hb dX12_wordEnd_21 (by decide) (fun c103 => ?_) (fun c103 => ?_)
    · have zc103 := c103
      replace zc103 := zc_lt (rfl) (nI_toInt (by omega)) zc103
      refine lv_iload_n hx hb dX12_wordEnd_41 rfl (lv_at hl 1 rfl) ?_
      refine W.widen (k := 0) (n := 0) (by decide) (by decide) ?_
      exact W.iret (v := nI c) hx hb hr (fun t9 ht9 hW9 => ⟨⟨nI c, (), rfl, ⟨c, h1, h2, rfl, zRun.wd h1 h2 hj (fun h h9 => by have h91 := h9.1; have h92 := h9.2; omega)⟩, zEnd1 hH ht9 hW9⟩, hS.F ht9⟩) hS.2.2 dX12_wordEnd_42
    · have zc103 := c103
      replace zc103 := zc_nlt (rfl) (nI_toInt (by omega)) zc103
      refine lv_aload_n hx hb dX12_wordEnd_24 rfl (lv_at hl 0 rfl) ?_
      refine zGetR (D := D) (ci := 12) (C := RX12) (T := TX12) (N := 71) hx hb hts hiX12 hown hH (zk_30 hF) rfl 20 (by decide) rfl hw3 (fun _ h9 => h9) dX12_wordEnd_25 (zr_30_20 hF) ?_
      refine lv_iload_n hx hb dX12_wordEnd_28 rfl (lv_at hl 1 rfl) ?_
      refine zIaldN (D := D) hx hb hH (zk_47 hF) (zn_47 hF) (by omega) (by omega) rfl dX12_wordEnd_29 ?_
      refine lv_bipush (v := nI 122) hx hb dX12_wordEnd_30 (by decide) ?_
      refine lv_icmp_gt (tgt := 41) hx hb dX12_wordEnd_32 (by decide) (fun c104 => ?_) (fun c104 => ?_)
      · have zc104 := c104
        replace zc104 := zc_lt (nI_toInt (by omega)) (rfl) zc104
        refine lv_iload_n hx hb dX12_wordEnd_41 rfl (lv_at hl 1 rfl) ?_
        refine W.widen (k := 0) (n := 0) (by decide) (by decide) ?_
        exact W.iret (v := nI c) hx hb hr (fun t9 ht9 hW9 => ⟨⟨nI c, (), rfl, ⟨c, h1, h2, rfl, zRun.wd h1 h2 hj (fun h h9 => by have h91 := h9.1; have h92 := h9.2; omega)⟩, zEnd1 hH ht9 hW9⟩, hS.F ht9⟩) hS.2.2 dX12_wordEnd_42
      · have zc104 := c104
        replace zc104 := zc_nlt (nI_toInt (by omega)) (rfl) zc104
        refine lv_iinc (v := nI (c + 1)) (lv' := [(1, .int (nI (c + 1))), (0, .ref (τ.1 30))]) hx hb dX12_wordEnd_35 hl (k := 1) rfl (by rw [show (Int32.ofInt 1 : Int32) = nI 1 from by decide, nI_add]) (by decide) rfl (fun ls hl => ?_)
        refine lv_goto (tgt := 5) hx hb dX12_wordEnd_38 (by decide) ?_
        exact ih101 (L - (c + 1)) (by omega) (c + 1) _ _ _ (show L - (c + 1) = L - (c + 1) ∧ (a ≤ (c + 1) ∧ (c + 1) ≤ L ∧ ∀ j, a ≤ j → j < (c + 1) → 97 ≤ (fi 47 j).toInt ∧ (fi 47 j).toInt ≤ 122) ∧ zH D A τ fi fr ol s _ ∧ va_S A s.heap _ _ ∧ lv_has _ 2 [(0, .ref (τ.1 30)), (1, .int (nI (c + 1)))] from ⟨rfl, ⟨by omega, by omega, fun j h5 h6 => by by_cases h7 : j = c; (subst h7; constructor <;> omega); exact hj j h5 (by omega)⟩, hH, hS, lv_sub hl [1, 0] rfl⟩)
set_option maxHeartbeats 4000000 in
set_option maxRecDepth 100000 in
/-- wrong -/
theorem m_wrongX (l : Launch) (hl0 : l.stackTraces = false) (D : va_G) (A : Nat → Prop) (sad : Nat → Nat) (τ : zTy) (fi : zFi) (fr : zFr) (ol : Int64) (x : Int32) (hF : zFix τ fr) : Met l yX12_wrong wsX12_wrong ({ frames := 0, cells := 0, slots := 0, locals := 0 }) (va_Pc [.ref (τ.1 30), .int x] (zQc D A sad τ fi fr ol)) (va_Qi (fun (r : Int32) (u : zFi) => r = 0 ∧ u = zu fi 30 24 x) (fun (u : zFi) (t : State) => zH D A τ u fr ol t t.heap) A) 0 0 A := by
  refine Met.ofW (cc := cX12_wrong) (maxL := 2) (ret := (some .boolean)) (by decide) rfl ?_
  intro p9 e9 s m args below meth c9 s₁ B hml hv
  obtain ⟨rfl, hz, hH, hA⟩ := hv
  have hx := B.exec
  have hb := B.bytes
  have hr := B.returns
  have hts := atoms_spec (ws := wsX12_wrong) B.pre
  have hown : s.vm.findClass RX12 = some m.cls := findClass_of_methodNamed B.named
  have hlocks := B.notSynchronized
  have hS : va_S A s.heap s.heap [] := va_S.rf
  have hl := lv_entry ([.ref (τ.1 30), .int x]) (n := 2) (Nat.le_of_ble_eq_true rfl)
  rw [lg_entry_eq]
  generalize (lg_sl ([.ref (τ.1 30), .int x]) ++ List.replicate (2 - (lg_sl ([.ref (τ.1 30), .int x])).length) Slot.unset).toArray = ls at hl ⊢
  have hl : lv_has ls 2 [(0, .ref (τ.1 30)), (1, .int x)] := hl
  have hw0 := hts (.fieldLink RX12 61 "PostHouseModel" "fault" "I") (by decide +kernel)
  have hiX12 : ∀ w ∈ u_ws RX12 TX12 71, w ∈ wsX12_wrong := fun _ h => List.mem_cons_of_mem _ (List.mem_append_right _ h)
  refine lv_aload_n hx hb dX12_wrong_0 rfl (lv_at hl 0 rfl) ?_
  refine lv_iload_n hx hb dX12_wrong_1 rfl (lv_at hl 1 rfl) ?_
  refine zPutI (D := D) (ci := 12) (ty := .int) (C := RX12) (T := TX12) (N := 71) hx hb hts hiX12 tyX12 tyX12_ok nmX12 hown hH hS (zk_30 hF) rfl 24 (by decide) rfl hw0 (fun _ h9 => h9) rfl (by decide +kernel) rfl rfl dX12_wrong_2 (fun H locs hH hS => ?_)
  obtain ⟨f101, ef101⟩ : ∃ f9 : zFi, f9 = zu fi 30 24 x := ⟨_, rfl⟩
  rw [← ef101] at hH
  have q102 : f101 30 24 = x := by rw [ef101]; exact zu_s
  refine lv_iconst (v := nI 0) hx hb dX12_wrong_5 (by decide) ?_
  refine W.widen (k := 0) (n := 0) (by decide) (by decide) ?_
  exact W.zret (v := nI 0) hx hb hr (by decide) (fun t9 ht9 hW9 => ⟨⟨nI 0, f101, rfl, ⟨rfl, ef101⟩, zEnd1 hH ht9 hW9⟩, hS.F ht9⟩) hS.2.2 dX12_wrong_6
set_option maxHeartbeats 4000000 in
set_option maxRecDepth 100000 in
/-- isWord -/
theorem m_isWordX (l : Launch) (hl0 : l.stackTraces = false) (D : va_G) (A : Nat → Prop) (sad : Nat → Nat) (τ : zTy) (fi : zFi) (fr : zFr) (ol : Int64) (L a : Nat) (hF : zFix τ fr) (he : fi 30 22 = nI L) (ha : fi 30 23 = nI a) (hL4 : L ≤ 400) (haL : a ≤ L) (wd : Int64) : Met l yX12_isWord wsX12_isWord ({ frames := 1, cells := 0, slots := 0, locals := 21 }) (va_Pc [.ref (τ.1 30), .long wd] (zQc D A sad τ fi fr ol)) (va_Qi (fun (r : Int32) (u : zFi) => True ∧ (∃ c, a ≤ c ∧ c ≤ L ∧ u 30 23 = nI c ∧ (c = zS (fi 47) L a ∧ ((r = 1 ∧ zOKw (fi 47) c L wd) ∨ (r = 0 ∧ ¬ zOKw (fi 47) c L wd)))) ∧ ∀ a b, ¬ (a = 30 ∧ b = 23) → u a b = fi a b) (fun (u : zFi) (t : State) => zH D A τ u fr ol t t.heap) A) 0 0 A := by
  refine Met.ofW (cc := cX12_isWord) (maxL := 8) (ret := (some .boolean)) (by decide) rfl ?_
  intro p9 e9 s m args below meth c9 s₁ B hml hv
  obtain ⟨rfl, hz, hH, hA⟩ := hv
  have hx := B.exec
  have hb := B.bytes
  have hr := B.returns
  have hts := atoms_spec (ws := wsX12_isWord) B.pre
  have hown : s.vm.findClass RX12 = some m.cls := findClass_of_methodNamed B.named
  have hlocks := B.notSynchronized
  have hS : va_S A s.heap s.heap [] := va_S.rf
  have hl := lv_entry ([.ref (τ.1 30), .long wd]) (n := 8) (Nat.le_of_ble_eq_true rfl)
  rw [lg_entry_eq]
  generalize (lg_sl ([.ref (τ.1 30), .long wd]) ++ List.replicate (8 - (lg_sl ([.ref (τ.1 30), .long wd])).length) Slot.unset).toArray = ls at hl ⊢
  have hl : lv_has ls 8 [(0, .ref (τ.1 30)), (1, .long wd)] := hl
  have hiX12 : ∀ w ∈ u_ws RX12 TX12 71, w ∈ wsX12_isWord := fun _ h => List.mem_cons_of_mem _ (List.mem_append_right _ h)
  have hw1 := hts (.fieldLink RX12 206 "PostHouseModel" "at" "I") (by decide +kernel)
  have hw2 := hts (.fieldLink RX12 58 "PostHouseModel" "tape" "[I") (by decide +kernel)
  refine lv_aload_n hx hb dX12_isWord_0 rfl (lv_at hl 0 rfl) ?_
  refine va_calli (va_runV (As := []) (rest := []) ⟨hx, hb, hml, hown, hts⟩ (m_signX l hl0 D A sad τ fi fr ol L a hF he ha (by omega) (by omega)) (cwV 0 hts gX12_isWord_X12_sign rfl rfl rfl (by decide +kernel) ⟨Nat.le_of_ble_eq_true rfl, Nat.le_of_ble_eq_true rfl⟩) ⟨zQc_bl, zRecv hH (zk_30 hF) rfl, zQc_at hz hS hA hH⟩ rfl rfl hl.1 rfl (lv_room (Nat.le_of_ble_eq_true rfl)) dX12_isWord_1 ⟨Nat.le_of_ble_eq_true rfl, Nat.le_of_ble_eq_true rfl⟩) hS (fun q _ h => h) (fun q h => h) (fun r101 u9 t9 H1 locs ht9 hvm9 hw hB hz1 hk1 hS => ?_)
  have hH := zMv ht9 hvm9 hB
  clear hB
  generalize u9 = f102 at hw hH
  generalize H1 = H at hH hS ⊢
  obtain ⟨-, ⟨c103, hc104, hc105, q106, hx107⟩, hf108⟩ := hw
  have q109 : f102 30 22 = nI L := by rw [hf108 30 22 (by omega)]; exact he
  obtain ⟨hcz, -⟩ := hx107
  have q47 := (funext (fun k9 => by rw [hf108 47 k9 (by omega)]) : f102 47 = fi 47)
  refine lv_istore_n (lv' := [(3, .int r101), (0, .ref (τ.1 30)), (1, .long wd)]) hx hb dX12_isWord_4 rfl hl (by decide) rfl (fun ls hl => ?_)
  refine lv_aload_n hx hb dX12_isWord_5 rfl (lv_at hl 1 rfl) ?_
  refine va_calli (va_runV (As := []) (rest := []) ⟨hx, hb, hml, hown, hts⟩ (m_wordEndX l hl0 D A sad τ f102 fr ol L c103 hF q109 q106 (by omega) (by omega)) (cwV 0 hts gX12_isWord_X12_wordEnd rfl rfl rfl (by decide +kernel) ⟨Nat.le_of_ble_eq_true rfl, Nat.le_of_ble_eq_true rfl⟩) ⟨zQc_bl, zRecv hH (zk_30 hF) rfl, zQc_at hz hS hA hH⟩ rfl rfl hl.1 rfl (lv_room (Nat.le_of_ble_eq_true rfl)) dX12_isWord_6 ⟨Nat.le_of_ble_eq_true rfl, Nat.le_of_ble_eq_true rfl⟩) hS (fun q _ h => h) (fun q h => h) (fun r110 u9 t9 H1 locs ht9 hvm9 hw hB hz1 hk1 hS => ?_)
  have hH := zMv ht9 hvm9 hB
  generalize H1 = H at hH hS ⊢
  obtain ⟨c111, h1c111, h2c111, rfl, hwe⟩ := hw
  rw [(funext (fun k9 => by rw [hf108 47 k9 (by omega)]) : f102 47 = fi 47)] at hwe
  refine lv_istore (lv' := [(4, .int (nI c111)), (3, .int r101), (0, .ref (τ.1 30)), (1, .long wd)]) hx hb dX12_isWord_9 hl (by decide) rfl (fun ls hl => ?_)
  refine lv_iload hx hb dX12_isWord_11 (lv_at hl 0 rfl) ?_
  refine lv_aload_n hx hb dX12_isWord_13 rfl (lv_at hl 2 rfl) ?_
  refine zGetI (D := D) (ci := 12) (C := RX12) (T := TX12) (N := 71) hx hb hts hiX12 hown hH (zk_30 hF) rfl 23 (by decide) rfl hw1 (fun _ h9 => h9) dX12_isWord_14 q106 ?_
  refine lv_icmp_eq (tgt := 32) hx hb dX12_isWord_17 (by decide) (fun c112 => ?_) (fun c112 => ?_)
  · have zc112 := c112
    replace zc112 := zc_eq (nI_toInt (by omega)) (nI_toInt (by omega)) zc112
    refine lv_iconst (v := nI 0) hx hb dX12_isWord_32 (by decide) ?_
    refine W.widen (k := 0) (n := 0) (by decide) (by decide) ?_
    exact W.zret (v := nI 0) hx hb hr (by decide) (fun t9 ht9 hW9 => ⟨⟨nI 0, f102, rfl, ⟨trivial, ⟨c103, by omega, by omega, q106, hcz, Or.inr ⟨rfl, fun ⟨k, p1, p2, p3, _⟩ => by have p4 := zRun_one p1 hwe; omega⟩⟩, fun a b h => by rw [hf108 a b (by omega)]⟩, zEnd1 hH ht9 hW9⟩, hS.F ht9⟩) hS.2.2 dX12_isWord_33
  · have zc112 := c112
    replace zc112 := zc_neq (nI_toInt (by omega)) (nI_toInt (by omega)) zc112
    refine lv_iload hx hb dX12_isWord_20 (lv_at hl 0 rfl) ?_
    refine lv_aload_n hx hb dX12_isWord_22 rfl (lv_at hl 2 rfl) ?_
    refine zGetI (D := D) (ci := 12) (C := RX12) (T := TX12) (N := 71) hx hb hts hiX12 hown hH (zk_30 hF) rfl 23 (by decide) rfl hw1 (fun _ h9 => h9) dX12_isWord_23 q106 ?_
    refine lv_isub hx hb dX12_isWord_26 ?_
    refine lv_topi (fun v113 ev113 => ?_)
    have iv113 : v113.toInt = ((c111 : Nat) : Int) - ((c103 : Nat) : Int) := by rw [ev113]; exact pk_sub_toInt (by omega) (by omega)
    refine lv_bipush (v := nI 7) hx hb dX12_isWord_27 (by decide) ?_
    refine lv_icmp_le (tgt := 34) hx hb dX12_isWord_29 (by decide) (fun c114 => ?_) (fun c114 => ?_)
    · have zc114 := c114
      replace zc114 := zc_le (iv113) (nI_toInt (by omega)) zc114
      refine lv_lconst (v := 0) hx hb dX12_isWord_34 (by decide) ?_
      refine lv_lstore (lv' := [(5, .long 0), (4, .int (nI c111)), (3, .int r101), (0, .ref (τ.1 30)), (1, .long wd)]) hx hb dX12_isWord_35 hl (by decide) rfl (fun ls hl => ?_)
      refine lv_aload_n hx hb dX12_isWord_37 rfl (lv_at hl 3 rfl) ?_
      refine zGetI (D := D) (ci := 12) (C := RX12) (T := TX12) (N := 71) hx hb hts hiX12 hown hH (zk_30 hF) rfl 23 (by decide) rfl hw1 (fun _ h9 => h9) dX12_isWord_38 q106 ?_
      refine lv_istore (lv' := [(7, .int (nI c103)), (5, .long 0), (4, .int (nI c111)), (3, .int r101), (0, .ref (τ.1 30)), (1, .long wd)]) hx hb dX12_isWord_41 hl (by decide) rfl (fun ls hl => ?_)
      refine zLp (σ := Nat × Int64) (fun x9 k9 H locs ls => (fun (i : Nat) (ww : Int64) => k9 = c111 - i ∧ (c103 ≤ i ∧ i ≤ c111 ∧ ww = zLv (fi 47) c103 (i - c103)) ∧ zH D A τ f102 fr ol s H ∧ va_S A s.heap H locs ∧ lv_has ls 8 [(0, .ref (τ.1 30)), (1, .long wd), (4, .int (nI c111)), (5, .long ww), (7, .int (nI i))]) x9.1 x9.2) (c103, 0) (c111 - c103) (show c111 - c103 = c111 - c103 ∧ (c103 ≤ c103 ∧ c103 ≤ c111 ∧ 0 = zLv (fi 47) c103 (c103 - c103)) ∧ zH D A τ f102 fr ol s _ ∧ va_S A s.heap _ _ ∧ lv_has _ 8 [(0, .ref (τ.1 30)), (1, .long wd), (4, .int (nI c111)), (5, .long 0), (7, .int (nI c103))] from ⟨rfl, ⟨Nat.le_refl _, by omega, by rw [Nat.sub_self]; rfl⟩, hH, hS, lv_sub hl [4, 5, 2, 1, 0] rfl⟩) (fun k9 ih x9 H locs ls hv9 => ?_)
      obtain ⟨i, ww⟩ := x9
      have hv9 : k9 = c111 - i ∧ (c103 ≤ i ∧ i ≤ c111 ∧ ww = zLv (fi 47) c103 (i - c103)) ∧ zH D A τ f102 fr ol s H ∧ va_S A s.heap H locs ∧ lv_has ls 8 [(0, .ref (τ.1 30)), (1, .long wd), (4, .int (nI c111)), (5, .long ww), (7, .int (nI i))] := hv9
      obtain ⟨hkih115, hv9, hH, hS, hl⟩ := hv9
      obtain ⟨h1, h2, hww⟩ := hv9
      have ih115 := ih
      clear ih
      refine lv_iload hx hb dX12_isWord_43 (lv_at hl 4 rfl) ?_
      refine lv_iload hx hb dX12_isWord_45 (lv_at hl 2 rfl) ?_
      refine lv_icmp_ge (tgt := 72) hx hb dX12_isWord_47 (by decide) (fun c116 => ?_) (fun c116 => ?_)
      · have zc116 := c116
        replace zc116 := zc_le (nI_toInt (by omega)) (nI_toInt (by omega)) zc116
        refine lv_lload hx hb dX12_isWord_72 (lv_at hl 3 rfl) ?_
        refine lv_lload_n hx hb dX12_isWord_74 rfl (lv_at hl 1 rfl) ?_
        refine W.lcmp hx hb dX12_isWord_75 ?_
        refine lv_topi (fun v117 ev117 => ?_)
        refine lv_if_ne (tgt := 83) hx hb dX12_isWord_76 (by decide) (fun c118 => ?_) (fun c118 => ?_)
        · have zc118 := c118
          replace zc118 := zc_neq (rfl) ((by decide : (0 : Int32).toInt = 0)) zc118
          refine lv_iconst (v := nI 0) hx hb dX12_isWord_83 (by decide) ?_
          refine W.widen (k := 0) (n := 0) (by decide) (by decide) ?_
          exact W.zret (v := nI 0) hx hb hr (by decide) (fun t9 ht9 hW9 => ⟨⟨nI 0, f102, rfl, ⟨trivial, ⟨c103, by omega, by omega, q106, hcz, Or.inr ⟨rfl, fun ⟨k, p1, p2, p3, p4⟩ => zc118 (by have p5 := zRun_one p1 hwe; rw [p5] at p4; rw [ev117, hww, show i = c111 by omega, p4]; simp [lg_cmp])⟩⟩, fun a b h => by rw [hf108 a b (by omega)]⟩, zEnd1 hH ht9 hW9⟩, hS.F ht9⟩) hS.2.2 dX12_isWord_84
        · have zc118 := c118
          replace zc118 := zc_eq (rfl) ((by decide : (0 : Int32).toInt = 0)) zc118
          refine lv_iconst (v := nI 1) hx hb dX12_isWord_79 (by decide) ?_
          refine lv_goto (tgt := 84) hx hb dX12_isWord_80 (by decide) ?_
          refine W.widen (k := 0) (n := 0) (by decide) (by decide) ?_
          exact W.zret (v := nI 1) hx hb hr (by decide) (fun t9 ht9 hW9 => ⟨⟨nI 1, f102, rfl, ⟨trivial, ⟨c103, by omega, by omega, q106, hcz, Or.inl ⟨rfl, _, hwe, by omega, by omega, by have p6 := zc118; rw [ev117] at p6; have p7 := zLc p6; rw [← p7, hww, show i = c111 by omega]⟩⟩, fun a b h => by rw [hf108 a b (by omega)]⟩, zEnd1 hH ht9 hW9⟩, hS.F ht9⟩) hS.2.2 dX12_isWord_84
      · have zc116 := c116
        replace zc116 := zc_nle (nI_toInt (by omega)) (nI_toInt (by omega)) zc116
        refine lv_lload hx hb dX12_isWord_50 (lv_at hl 3 rfl) ?_
        refine lv_bipush (v := nI 8) hx hb dX12_isWord_52 (by decide) ?_
        refine lv_lshl hx hb dX12_isWord_54 rfl ?_
        refine lv_topl (fun v119 ev119 => ?_)
        refine lv_aload_n hx hb dX12_isWord_55 rfl (lv_at hl 0 rfl) ?_
        refine zGetR (D := D) (ci := 12) (C := RX12) (T := TX12) (N := 71) hx hb hts hiX12 hown hH (zk_30 hF) rfl 20 (by decide) rfl hw2 (fun _ h9 => h9) dX12_isWord_56 (zr_30_20 hF) ?_
        refine lv_iload hx hb dX12_isWord_59 (lv_at hl 4 rfl) ?_
        refine zIaldN (D := D) hx hb hH (zk_47 hF) (zn_47 hF) (by omega) (by omega) rfl dX12_isWord_61 ?_
        refine lv_i2l hx hb dX12_isWord_62 rfl ?_
        refine lv_topl (fun v120 ev120 => ?_)
        refine lv_lor hx hb dX12_isWord_63 ?_
        refine lv_topl (fun v121 ev121 => ?_)
        refine lv_lstore (lv' := [(5, .long v121), (0, .ref (τ.1 30)), (1, .long wd), (4, .int (nI c111)), (7, .int (nI i))]) hx hb dX12_isWord_64 hl (by decide) rfl (fun ls hl => ?_)
        refine lv_iinc (v := nI (i + 1)) (lv' := [(7, .int (nI (i + 1))), (5, .long v121), (0, .ref (τ.1 30)), (1, .long wd), (4, .int (nI c111))]) hx hb dX12_isWord_66 hl (k := 4) rfl (by rw [show (Int32.ofInt 1 : Int32) = nI 1 from by decide, nI_add]) (by decide) rfl (fun ls hl => ?_)
        refine lv_goto (tgt := 43) hx hb dX12_isWord_69 (by decide) ?_
        exact ih115 (c111 - (i + 1)) (by omega) (i + 1, v121) _ _ _ (show c111 - (i + 1) = c111 - (i + 1) ∧ (c103 ≤ (i + 1) ∧ (i + 1) ≤ c111 ∧ v121 = zLv (fi 47) c103 ((i + 1) - c103)) ∧ zH D A τ f102 fr ol s _ ∧ va_S A s.heap _ _ ∧ lv_has _ 8 [(0, .ref (τ.1 30)), (1, .long wd), (4, .int (nI c111)), (5, .long v121), (7, .int (nI (i + 1)))] from ⟨rfl, ⟨by omega, by omega, zLv_s h1 hww ev119 (by rw [← q47]; exact ev120) ev121⟩, hH, hS, lv_sub hl [2, 3, 4, 1, 0] rfl⟩)
    · have zc114 := c114
      replace zc114 := zc_nle (iv113) (nI_toInt (by omega)) zc114
      refine lv_iconst (v := nI 0) hx hb dX12_isWord_32 (by decide) ?_
      refine W.widen (k := 0) (n := 0) (by decide) (by decide) ?_
      exact W.zret (v := nI 0) hx hb hr (by decide) (fun t9 ht9 hW9 => ⟨⟨nI 0, f102, rfl, ⟨trivial, ⟨c103, by omega, by omega, q106, hcz, Or.inr ⟨rfl, fun ⟨k, p1, p2, p3, _⟩ => by have p4 := zRun_one p1 hwe; omega⟩⟩, fun a b h => by rw [hf108 a b (by omega)]⟩, zEnd1 hH ht9 hW9⟩, hS.F ht9⟩) hS.2.2 dX12_isWord_33
set_option maxHeartbeats 4000000 in
set_option maxRecDepth 100000 in
/-- passes -/
theorem m_passesX (l : Launch) (hl0 : l.stackTraces = false) (D : va_G) (A : Nat → Prop) (sad : Nat → Nat) (τ : zTy) (fi : zFi) (fr : zFr) (ol : Int64) (L a : Nat) (hF : zFix τ fr) (he : fi 30 22 = nI L) (ha : fi 30 23 = nI a) (hL4 : L ≤ 400) (haL : a ≤ L) (wd : Int64) (ws : List Int32) (hws : zWs ws wd) : Met l yX12_passes wsX12_passes ({ frames := 2, cells := 0, slots := 0, locals := 48 }) (va_Pc [.ref (τ.1 30), .long wd] (zQc D A sad τ fi fr ol)) (va_Qi (fun (r : Int32) (u : zFi) => True ∧ (∃ c, a ≤ c ∧ c ≤ L ∧ u 30 23 = nI c ∧ ((∃ x, zWrd (fi 47) L ws (zS (fi 47) L a) = some x ∧ zS (fi 47) L c = x ∧ r = 1 ∧ u 30 24 = fi 30 24) ∨ (zWrd (fi 47) L ws (zS (fi 47) L a) = none ∧ r = 0 ∧ u 30 24 = nI (zS (fi 47) L a)))) ∧ ∀ a b, ¬ (a = 30 ∧ (b = 23 ∨ b = 24)) → u a b = fi a b) (fun (u : zFi) (t : State) => zH D A τ u fr ol t t.heap) A) 0 0 A := by
  refine Met.ofW (cc := cX12_passes) (maxL := 3) (ret := (some .boolean)) (by decide) rfl ?_
  intro p9 e9 s m args below meth c9 s₁ B hml hv
  obtain ⟨rfl, hz, hH, hA⟩ := hv
  have hx := B.exec
  have hb := B.bytes
  have hr := B.returns
  have hts := atoms_spec (ws := wsX12_passes) B.pre
  have hown : s.vm.findClass RX12 = some m.cls := findClass_of_methodNamed B.named
  have hlocks := B.notSynchronized
  have hS : va_S A s.heap s.heap [] := va_S.rf
  have hl := lv_entry ([.ref (τ.1 30), .long wd]) (n := 3) (Nat.le_of_ble_eq_true rfl)
  rw [lg_entry_eq]
  generalize (lg_sl ([.ref (τ.1 30), .long wd]) ++ List.replicate (3 - (lg_sl ([.ref (τ.1 30), .long wd])).length) Slot.unset).toArray = ls at hl ⊢
  have hl : lv_has ls 3 [(0, .ref (τ.1 30)), (1, .long wd)] := hl
  have hw0 := hts (.fieldLink RX12 206 "PostHouseModel" "at" "I") (by decide +kernel)
  have hiX12 : ∀ w ∈ u_ws RX12 TX12 71, w ∈ wsX12_passes := fun _ h => List.mem_cons_of_mem _ (List.mem_append_right _ h)
  refine lv_aload_n hx hb dX12_passes_0 rfl (lv_at hl 0 rfl) ?_
  refine lv_lload_n hx hb dX12_passes_1 rfl (lv_at hl 1 rfl) ?_
  refine va_calli (va_runV (As := [.long wd]) (rest := []) ⟨hx, hb, hml, hown, hts⟩ (m_isWordX l hl0 D A sad τ fi fr ol L a hF he ha (by omega) (by omega) wd) (cwV 1 hts gX12_passes_X12_isWord rfl rfl rfl (by decide +kernel) ⟨Nat.le_of_ble_eq_true rfl, Nat.le_of_ble_eq_true rfl⟩) ⟨zQc_bl, zRecv hH (zk_30 hF) rfl, zQc_at hz hS hA hH⟩ rfl rfl hl.1 rfl (lv_room (Nat.le_of_ble_eq_true rfl)) dX12_passes_2 ⟨Nat.le_of_ble_eq_true rfl, Nat.le_of_ble_eq_true rfl⟩) hS (fun q _ h => h) (fun q h => h) (fun r101 u9 t9 H1 locs ht9 hvm9 hw hB hz1 hk1 hS => ?_)
  have hH := zMv ht9 hvm9 hB
  clear hB
  generalize u9 = f102 at hw hH
  generalize H1 = H at hH hS ⊢
  obtain ⟨-, ⟨c103, hc104, hc105, q106, hx107⟩, hf108⟩ := hw
  have q109 : f102 30 22 = nI L := by rw [hf108 30 22 (by omega)]; exact he
  obtain ⟨hcz, hok⟩ := hx107
  rcases hok with ⟨rfl, hok⟩ | ⟨rfl, hok⟩
  · skip
    refine lv_if_ne (tgt := 17) hx hb dX12_passes_5 (by decide) (fun c110 => ?_) (fun c110 => absurd c110 (by decide))
    refine lv_aload_n hx hb dX12_passes_17 rfl (lv_at hl 0 rfl) ?_
    refine lv_aload_n hx hb dX12_passes_18 rfl (lv_at hl 0 rfl) ?_
    refine va_calli (va_runV (As := []) (rest := [.ref (τ.1 30)]) ⟨hx, hb, hml, hown, hts⟩ (m_wordEndX l hl0 D A sad τ f102 fr ol L c103 hF q109 q106 (by omega) (by omega)) (cwV 0 hts gX12_passes_X12_wordEnd rfl rfl rfl (by decide +kernel) ⟨Nat.le_of_ble_eq_true rfl, Nat.le_of_ble_eq_true rfl⟩) ⟨zQc_bl, zRecv hH (zk_30 hF) rfl, zQc_at hz hS hA hH⟩ rfl rfl hl.1 rfl (lv_room (Nat.le_of_ble_eq_true rfl)) dX12_passes_19 ⟨Nat.le_of_ble_eq_true rfl, Nat.le_of_ble_eq_true rfl⟩) hS (fun q _ h => h) (fun q h => h) (fun r111 u9 t9 H1 locs ht9 hvm9 hw hB hz1 hk1 hS => ?_)
    have hH := zMv ht9 hvm9 hB
    generalize H1 = H at hH hS ⊢
    obtain ⟨c112, h1c112, h2c112, rfl, hwe⟩ := hw
    rw [(funext (fun k9 => by rw [hf108 47 k9 (by omega)]) : f102 47 = fi 47)] at hwe
    refine zPutI (D := D) (ci := 12) (ty := .int) (C := RX12) (T := TX12) (N := 71) hx hb hts hiX12 tyX12 tyX12_ok nmX12 hown hH hS (zk_30 hF) rfl 23 (by decide) rfl hw0 (fun _ h9 => h9) rfl (by decide +kernel) rfl rfl dX12_passes_22 (fun H locs hH hS => ?_)
    obtain ⟨f113, ef113⟩ : ∃ f9 : zFi, f9 = zu f102 30 23 (nI c112) := ⟨_, rfl⟩
    rw [← ef113] at hH
    have q114 : f113 30 22 = nI L := by rw [ef113, zu_n (fun h9 => absurd h9.2 (by decide))]; exact q109
    have q115 : f113 30 23 = nI c112 := by rw [ef113]; exact zu_s
    refine lv_iconst (v := nI 1) hx hb dX12_passes_25 (by decide) ?_
    refine W.widen (k := 0) (n := 0) (by decide) (by decide) ?_
    exact W.zret (v := nI 1) hx hb hr (by decide) (fun t9 ht9 hW9 => ⟨⟨nI 1, f113, rfl, ⟨trivial, ⟨c112, by omega, by omega, q115, Or.inl ⟨_, by rw [← hcz]; exact (hok.yes hws).2, by have p4 := zRun_one hwe (hok.yes hws).1; rw [show c112 = c103 + ws.length by omega], rfl, by rw [ef113, zu_n (by omega), hf108 30 24 (by omega)]⟩⟩, fun a b h => by rw [ef113, zu_n (by omega), hf108 a b (by omega)]⟩, zEnd1 hH ht9 hW9⟩, hS.F ht9⟩) hS.2.2 dX12_passes_26
  · skip
    refine lv_if_ne (tgt := 17) hx hb dX12_passes_5 (by decide) (fun c116 => absurd (by decide) c116) (fun c116 => ?_)
    refine lv_aload_n hx hb dX12_passes_8 rfl (lv_at hl 0 rfl) ?_
    refine lv_aload_n hx hb dX12_passes_9 rfl (lv_at hl 0 rfl) ?_
    refine zGetI (D := D) (ci := 12) (C := RX12) (T := TX12) (N := 71) hx hb hts hiX12 hown hH (zk_30 hF) rfl 23 (by decide) rfl hw0 (fun _ h9 => h9) dX12_passes_10 q106 ?_
    refine va_calli (va_runV (As := [.int (nI c103)]) (rest := []) ⟨hx, hb, hml, hown, hts⟩ (m_wrongX l hl0 D A sad τ f102 fr ol (nI c103) hF) (cwV 1 hts gX12_passes_X12_wrong rfl rfl rfl (by decide +kernel) ⟨Nat.le_of_ble_eq_true rfl, Nat.le_of_ble_eq_true rfl⟩) ⟨zQc_bl, zRecv hH (zk_30 hF) rfl, zQc_at hz hS hA hH⟩ rfl rfl hl.1 rfl (lv_room (Nat.le_of_ble_eq_true rfl)) dX12_passes_13 ⟨Nat.le_of_ble_eq_true rfl, Nat.le_of_ble_eq_true rfl⟩) hS (fun q _ h => h) (fun q h => h) (fun r117 u9 t9 H1 locs ht9 hvm9 hw hB hz1 hk1 hS => ?_)
    have hH := zMv ht9 hvm9 hB
    clear hB
    generalize u9 = f118 at hw hH
    generalize H1 = H at hH hS ⊢
    obtain ⟨rfl, ef118⟩ := hw
    have q119 : f118 30 22 = nI L := by rw [ef118, zu_n (fun h9 => absurd h9.2 (by decide))]; exact q109
    have q120 : f118 30 23 = nI c103 := by rw [ef118, zu_n (fun h9 => absurd h9.2 (by decide))]; exact q106
    have q121 : f118 30 24 = nI c103 := by rw [ef118]; exact zu_s
    refine W.widen (k := 0) (n := 0) (by decide) (by decide) ?_
    exact W.zret (v := 0) hx hb hr (by decide) (fun t9 ht9 hW9 => ⟨⟨0, f118, rfl, ⟨trivial, ⟨c103, by omega, by omega, q120, Or.inr ⟨by rw [← hcz]; exact zOKw.no (by omega) hws hok, rfl, by rw [ef118, zu_s, hcz]⟩⟩, fun a b h => by rw [ef118, zu_n (by omega), hf108 a b (by omega)]⟩, zEnd1 hH ht9 hW9⟩, hS.F ht9⟩) hS.2.2 dX12_passes_16
set_option maxHeartbeats 4000000 in
set_option maxRecDepth 100000 in
/-- digits -/
theorem m_digitsX (l : Launch) (hl0 : l.stackTraces = false) (D : va_G) (A : Nat → Prop) (sad : Nat → Nat) (τ : zTy) (fi : zFi) (fr : zFr) (ol : Int64) (L a : Nat) (hF : zFix τ fr) (he : fi 30 22 = nI L) (ha : fi 30 23 = nI a) (hL4 : L ≤ 400) (haL : a ≤ L) (p q : Nat) (hp6 : p ≤ 6) (hq6 : q ≤ 6) (x3 x4 : Int32) : Met l yX12_digits wsX12_digits ({ frames := 1, cells := 0, slots := 0, locals := 21 }) (va_Pc [.ref (τ.1 30), .int (nI p), .int (nI q), .int x3, .int x4] (zQc D A sad τ fi fr ol)) (va_Qi (fun (r : Int32) (u : zFi) => True ∧ (∃ c, a ≤ c ∧ c ≤ L ∧ u 30 23 = nI c ∧ ((∃ v x, zNum (fi 47) L p q x3 x4 (zS (fi 47) L a) = some (v, x) ∧ zS (fi 47) L c = x ∧ r = 1 ∧ u 30 25 = v ∧ u 30 24 = fi 30 24) ∨ (zNum (fi 47) L p q x3 x4 (zS (fi 47) L a) = none ∧ r = 0 ∧ u 30 24 = nI (zS (fi 47) L a)))) ∧ ∀ a b, ¬ (a = 30 ∧ 23 ≤ b ∧ b ≤ 25) → u a b = fi a b) (fun (u : zFi) (t : State) => zH D A τ u fr ol t t.heap) A) 0 0 A := by
  refine Met.ofW (cc := cX12_digits) (maxL := 8) (ret := (some .boolean)) (by decide) rfl ?_
  intro p9 e9 s m args below meth c9 s₁ B hml hv
  obtain ⟨rfl, hz, hH, hA⟩ := hv
  have hx := B.exec
  have hb := B.bytes
  have hr := B.returns
  have hts := atoms_spec (ws := wsX12_digits) B.pre
  have hown : s.vm.findClass RX12 = some m.cls := findClass_of_methodNamed B.named
  have hlocks := B.notSynchronized
  have hS : va_S A s.heap s.heap [] := va_S.rf
  have hl := lv_entry ([.ref (τ.1 30), .int (nI p), .int (nI q), .int x3, .int x4]) (n := 8) (Nat.le_of_ble_eq_true rfl)
  rw [lg_entry_eq]
  generalize (lg_sl ([.ref (τ.1 30), .int (nI p), .int (nI q), .int x3, .int x4]) ++ List.replicate (8 - (lg_sl ([.ref (τ.1 30), .int (nI p), .int (nI q), .int x3, .int x4])).length) Slot.unset).toArray = ls at hl ⊢
  have hl : lv_has ls 8 [(0, .ref (τ.1 30)), (1, .int (nI p)), (2, .int (nI q)), (3, .int x3), (4, .int x4)] := hl
  have hiX12 : ∀ w ∈ u_ws RX12 TX12 71, w ∈ wsX12_digits := fun _ h => List.mem_cons_of_mem _ (List.mem_append_right _ h)
  have hw1 := hts (.fieldLink RX12 206 "PostHouseModel" "at" "I") (by decide +kernel)
  have hw2 := hts (.fieldLink RX12 209 "PostHouseModel" "end" "I") (by decide +kernel)
  have hw3 := hts (.fieldLink RX12 229 "PostHouseModel" "number" "I") (by decide +kernel)
  have hw4 := hts (.fieldLink RX12 58 "PostHouseModel" "tape" "[I") (by decide +kernel)
  refine lv_aload_n hx hb dX12_digits_0 rfl (lv_at hl 0 rfl) ?_
  refine va_calli (va_runV (As := []) (rest := []) ⟨hx, hb, hml, hown, hts⟩ (m_signX l hl0 D A sad τ fi fr ol L a hF he ha (by omega) (by omega)) (cwV 0 hts gX12_digits_X12_sign rfl rfl rfl (by decide +kernel) ⟨Nat.le_of_ble_eq_true rfl, Nat.le_of_ble_eq_true rfl⟩) ⟨zQc_bl, zRecv hH (zk_30 hF) rfl, zQc_at hz hS hA hH⟩ rfl rfl hl.1 rfl (lv_room (Nat.le_of_ble_eq_true rfl)) dX12_digits_1 ⟨Nat.le_of_ble_eq_true rfl, Nat.le_of_ble_eq_true rfl⟩) hS (fun q _ h => h) (fun q h => h) (fun r101 u9 t9 H1 locs ht9 hvm9 hw hB hz1 hk1 hS => ?_)
  have hH := zMv ht9 hvm9 hB
  clear hB
  generalize u9 = f102 at hw hH
  generalize H1 = H at hH hS ⊢
  obtain ⟨-, ⟨c103, hc104, hc105, q106, hx107⟩, hf108⟩ := hw
  have q109 : f102 30 22 = nI L := by rw [hf108 30 22 (by omega)]; exact he
  obtain ⟨hcz, -⟩ := hx107
  refine lv_istore (lv' := [(5, .int r101), (0, .ref (τ.1 30)), (1, .int (nI p)), (2, .int (nI q)), (3, .int x3), (4, .int x4)]) hx hb dX12_digits_4 hl (by decide) rfl (fun ls hl => ?_)
  refine lv_aload_n hx hb dX12_digits_6 rfl (lv_at hl 1 rfl) ?_
  refine zGetI (D := D) (ci := 12) (C := RX12) (T := TX12) (N := 71) hx hb hts hiX12 hown hH (zk_30 hF) rfl 23 (by decide) rfl hw1 (fun _ h9 => h9) dX12_digits_7 q106 ?_
  refine lv_istore (lv' := [(6, .int (nI c103)), (5, .int r101), (0, .ref (τ.1 30)), (1, .int (nI p)), (2, .int (nI q)), (3, .int x3), (4, .int x4)]) hx hb dX12_digits_10 hl (by decide) rfl (fun ls hl => ?_)
  refine lv_iconst (v := nI 0) hx hb dX12_digits_12 (by decide) ?_
  refine lv_istore (lv' := [(7, .int (nI 0)), (6, .int (nI c103)), (5, .int r101), (0, .ref (τ.1 30)), (1, .int (nI p)), (2, .int (nI q)), (3, .int x3), (4, .int x4)]) hx hb dX12_digits_13 hl (by decide) rfl (fun ls hl => ?_)
  refine zLp (σ := Nat × zFi × Int32) (fun x9 k9 H locs ls => (fun (k : Nat) (f : zFi) (vv : Int32) => k9 = L - (c103 + k) ∧ (c103 + k ≤ L ∧ k ≤ q + 1 ∧ f 30 23 = nI (c103 + k) ∧ vv = zDig (fi 47) c103 k ∧ (∀ j, c103 ≤ j → j < c103 + k → 48 ≤ (fi 47 j).toInt ∧ (fi 47 j).toInt ≤ 57) ∧ ∀ a b, ¬ (a = 30 ∧ b = 23) → f a b = fi a b) ∧ zH D A τ f fr ol s H ∧ va_S A s.heap H locs ∧ lv_has ls 8 [(0, .ref (τ.1 30)), (1, .int (nI p)), (2, .int (nI q)), (3, .int x3), (4, .int x4), (6, .int (nI c103)), (7, .int vv)]) x9.1 x9.2.1 x9.2.2) (0, f102, nI 0) (L - (c103 + 0)) (show L - (c103 + 0) = L - (c103 + 0) ∧ (c103 + 0 ≤ L ∧ 0 ≤ q + 1 ∧ f102 30 23 = nI (c103 + 0) ∧ (nI 0) = zDig (fi 47) c103 0 ∧ (∀ j, c103 ≤ j → j < c103 + 0 → 48 ≤ (fi 47 j).toInt ∧ (fi 47 j).toInt ≤ 57) ∧ ∀ a b, ¬ (a = 30 ∧ b = 23) → f102 a b = fi a b) ∧ zH D A τ f102 fr ol s _ ∧ va_S A s.heap _ _ ∧ lv_has _ 8 [(0, .ref (τ.1 30)), (1, .int (nI p)), (2, .int (nI q)), (3, .int x3), (4, .int x4), (6, .int (nI c103)), (7, .int (nI 0))] from ⟨rfl, ⟨by omega, by omega, q106, rfl, fun j h5 h6 => absurd h6 (by omega), fun a b h => by rw [hf108 a b (by omega)]⟩, hH, hS, lv_sub hl [3, 4, 5, 6, 7, 1, 0] rfl⟩) (fun k9 ih x9 H locs ls hv9 => ?_)
  obtain ⟨k, f, vv⟩ := x9
  have hv9 : k9 = L - (c103 + k) ∧ (c103 + k ≤ L ∧ k ≤ q + 1 ∧ f 30 23 = nI (c103 + k) ∧ vv = zDig (fi 47) c103 k ∧ (∀ j, c103 ≤ j → j < c103 + k → 48 ≤ (fi 47 j).toInt ∧ (fi 47 j).toInt ≤ 57) ∧ ∀ a b, ¬ (a = 30 ∧ b = 23) → f a b = fi a b) ∧ zH D A τ f fr ol s H ∧ va_S A s.heap H locs ∧ lv_has ls 8 [(0, .ref (τ.1 30)), (1, .int (nI p)), (2, .int (nI q)), (3, .int x3), (4, .int x4), (6, .int (nI c103)), (7, .int vv)] := hv9
  obtain ⟨hkih110, hv9, hH, hS, hl⟩ := hv9
  obtain ⟨h1, h2, hc, hvv, hj, hfr⟩ := hv9
  have ih110 := ih
  clear ih
  have q22 : f 30 22 = nI L := by rw [hfr 30 22 (by omega)]; exact he
  have q47 : f 47 = fi 47 := by funext k; exact hfr 47 k (by omega)
  refine lv_aload_n hx hb dX12_digits_15 rfl (lv_at hl 0 rfl) ?_
  refine zGetI (D := D) (ci := 12) (C := RX12) (T := TX12) (N := 71) hx hb hts hiX12 hown hH (zk_30 hF) rfl 23 (by decide) rfl hw1 (fun _ h9 => h9) dX12_digits_16 hc ?_
  refine lv_aload_n hx hb dX12_digits_19 rfl (lv_at hl 0 rfl) ?_
  refine zGetI (D := D) (ci := 12) (C := RX12) (T := TX12) (N := 71) hx hb hts hiX12 hown hH (zk_30 hF) rfl 22 (by decide) rfl hw2 (fun _ h9 => h9) dX12_digits_20 q22 ?_
  refine lv_icmp_ge (tgt := 85) hx hb dX12_digits_23 (by decide) (fun c111 => ?_) (fun c111 => ?_)
  · have zc111 := c111
    replace zc111 := zc_le (nI_toInt (by omega)) (nI_toInt (by omega)) zc111
    refine lv_aload_n hx hb dX12_digits_85 rfl (lv_at hl 0 rfl) ?_
    refine zGetI (D := D) (ci := 12) (C := RX12) (T := TX12) (N := 71) hx hb hts hiX12 hown hH (zk_30 hF) rfl 23 (by decide) rfl hw1 (fun _ h9 => h9) dX12_digits_86 hc ?_
    refine lv_iload hx hb dX12_digits_89 (lv_at hl 5 rfl) ?_
    refine lv_isub hx hb dX12_digits_91 ?_
    refine lv_topi (fun v112 ev112 => ?_)
    have iv112 : v112.toInt = ((c103 + k : Nat) : Int) - ((c103 : Nat) : Int) := by rw [ev112]; exact pk_sub_toInt (by omega) (by omega)
    refine lv_iload_n hx hb dX12_digits_92 rfl (lv_at hl 1 rfl) ?_
    refine lv_icmp_lt (tgt := 120) hx hb dX12_digits_93 (by decide) (fun c113 => ?_) (fun c113 => ?_)
    · have zc113 := c113
      replace zc113 := zc_lt (iv112) (nI_toInt (by omega)) zc113
      refine lv_aload_n hx hb dX12_digits_120 rfl (lv_at hl 0 rfl) ?_
      refine lv_iload hx hb dX12_digits_121 (lv_at hl 5 rfl) ?_
      refine va_calli (va_runV (As := [.int (nI c103)]) (rest := []) ⟨hx, hb, hml, hown, hts⟩ (m_wrongX l hl0 D A sad τ f fr ol (nI c103) hF) (cwV 1 hts gX12_digits_X12_wrong rfl rfl rfl (by decide +kernel) ⟨Nat.le_of_ble_eq_true rfl, Nat.le_of_ble_eq_true rfl⟩) ⟨zQc_bl, zRecv hH (zk_30 hF) rfl, zQc_at hz hS hA hH⟩ rfl rfl hl.1 rfl (lv_room (Nat.le_of_ble_eq_true rfl)) dX12_digits_123 ⟨Nat.le_of_ble_eq_true rfl, Nat.le_of_ble_eq_true rfl⟩) hS (fun q _ h => h) (fun q h => h) (fun r114 u9 t9 H1 locs ht9 hvm9 hw hB hz1 hk1 hS => ?_)
      have hH := zMv ht9 hvm9 hB
      clear hB
      generalize u9 = f115 at hw hH
      generalize H1 = H at hH hS ⊢
      obtain ⟨rfl, ef115⟩ := hw
      have q116 : f115 30 22 = nI L := by rw [ef115, zu_n (fun h9 => absurd h9.2 (by decide))]; exact q22
      have q117 : f115 30 23 = nI (c103 + k) := by rw [ef115, zu_n (fun h9 => absurd h9.2 (by decide))]; exact hc
      have q118 : f115 30 24 = nI c103 := by rw [ef115]; exact zu_s
      refine W.widen (k := 0) (n := 0) (by decide) (by decide) ?_
      exact W.zret (v := 0) hx hb hr (by decide) (fun t9 ht9 hW9 => ⟨⟨0, f115, rfl, ⟨trivial, ⟨c103 + k, by omega, by omega, q117, Or.inr ⟨by rw [← hcz]; exact (zNumM (b := fi 47) (p := p) (q := q) (lo := x3) (hi := x4) (by omega) (by omega) hj hvv (fun h5 h6 => (by exfalso; omega))).2 (fun h9 => by have h91 := h9.1; have h92 := h9.2.1; have h93 := h9.2.2.1; have h94 := h9.2.2.2; omega), rfl, by rw [ef115, zu_s, hcz]⟩⟩, fun a b h => by rw [ef115, zu_n (by omega)]; exact hfr a b (by omega)⟩, zEnd1 hH ht9 hW9⟩, hS.F ht9⟩) hS.2.2 dX12_digits_126
    · have zc113 := c113
      replace zc113 := zc_nlt (iv112) (nI_toInt (by omega)) zc113
      refine lv_aload_n hx hb dX12_digits_96 rfl (lv_at hl 0 rfl) ?_
      refine zGetI (D := D) (ci := 12) (C := RX12) (T := TX12) (N := 71) hx hb hts hiX12 hown hH (zk_30 hF) rfl 23 (by decide) rfl hw1 (fun _ h9 => h9) dX12_digits_97 hc ?_
      refine lv_iload hx hb dX12_digits_100 (lv_at hl 5 rfl) ?_
      refine lv_isub hx hb dX12_digits_102 ?_
      refine lv_topi (fun v119 ev119 => ?_)
      have iv119 : v119.toInt = ((c103 + k : Nat) : Int) - ((c103 : Nat) : Int) := by rw [ev119]; exact pk_sub_toInt (by omega) (by omega)
      refine lv_iload_n hx hb dX12_digits_103 rfl (lv_at hl 2 rfl) ?_
      refine lv_icmp_gt (tgt := 120) hx hb dX12_digits_104 (by decide) (fun c120 => ?_) (fun c120 => ?_)
      · have zc120 := c120
        replace zc120 := zc_lt (nI_toInt (by omega)) (iv119) zc120
        refine lv_aload_n hx hb dX12_digits_120 rfl (lv_at hl 0 rfl) ?_
        refine lv_iload hx hb dX12_digits_121 (lv_at hl 5 rfl) ?_
        refine va_calli (va_runV (As := [.int (nI c103)]) (rest := []) ⟨hx, hb, hml, hown, hts⟩ (m_wrongX l hl0 D A sad τ f fr ol (nI c103) hF) (cwV 1 hts gX12_digits_X12_wrong rfl rfl rfl (by decide +kernel) ⟨Nat.le_of_ble_eq_true rfl, Nat.le_of_ble_eq_true rfl⟩) ⟨zQc_bl, zRecv hH (zk_30 hF) rfl, zQc_at hz hS hA hH⟩ rfl rfl hl.1 rfl (lv_room (Nat.le_of_ble_eq_true rfl)) dX12_digits_123 ⟨Nat.le_of_ble_eq_true rfl, Nat.le_of_ble_eq_true rfl⟩) hS (fun q _ h => h) (fun q h => h) (fun r121 u9 t9 H1 locs ht9 hvm9 hw hB hz1 hk1 hS => ?_)
        have hH := zMv ht9 hvm9 hB
        clear hB
        generalize u9 = f122 at hw hH
        generalize H1 = H at hH hS ⊢
        obtain ⟨rfl, ef122⟩ := hw
        have q123 : f122 30 22 = nI L := by rw [ef122, zu_n (fun h9 => absurd h9.2 (by decide))]; exact q22
        have q124 : f122 30 23 = nI (c103 + k) := by rw [ef122, zu_n (fun h9 => absurd h9.2 (by decide))]; exact hc
        have q125 : f122 30 24 = nI c103 := by rw [ef122]; exact zu_s
        refine W.widen (k := 0) (n := 0) (by decide) (by decide) ?_
        exact W.zret (v := 0) hx hb hr (by decide) (fun t9 ht9 hW9 => ⟨⟨0, f122, rfl, ⟨trivial, ⟨c103 + k, by omega, by omega, q124, Or.inr ⟨by rw [← hcz]; exact (zNumM (b := fi 47) (p := p) (q := q) (lo := x3) (hi := x4) (by omega) (by omega) hj hvv (fun h5 h6 => (by exfalso; omega))).2 (fun h9 => by have h91 := h9.1; have h92 := h9.2.1; have h93 := h9.2.2.1; have h94 := h9.2.2.2; omega), rfl, by rw [ef122, zu_s, hcz]⟩⟩, fun a b h => by rw [ef122, zu_n (by omega)]; exact hfr a b (by omega)⟩, zEnd1 hH ht9 hW9⟩, hS.F ht9⟩) hS.2.2 dX12_digits_126
      · have zc120 := c120
        replace zc120 := zc_nlt (nI_toInt (by omega)) (iv119) zc120
        refine lv_iload hx hb dX12_digits_107 (lv_at hl 6 rfl) ?_
        refine lv_iload_n hx hb dX12_digits_109 rfl (lv_at hl 3 rfl) ?_
        refine lv_icmp_lt (tgt := 120) hx hb dX12_digits_110 (by decide) (fun c126 => ?_) (fun c126 => ?_)
        · have zc126 := c126
          replace zc126 := zc_lt (rfl) (rfl) zc126
          refine lv_aload_n hx hb dX12_digits_120 rfl (lv_at hl 0 rfl) ?_
          refine lv_iload hx hb dX12_digits_121 (lv_at hl 5 rfl) ?_
          refine va_calli (va_runV (As := [.int (nI c103)]) (rest := []) ⟨hx, hb, hml, hown, hts⟩ (m_wrongX l hl0 D A sad τ f fr ol (nI c103) hF) (cwV 1 hts gX12_digits_X12_wrong rfl rfl rfl (by decide +kernel) ⟨Nat.le_of_ble_eq_true rfl, Nat.le_of_ble_eq_true rfl⟩) ⟨zQc_bl, zRecv hH (zk_30 hF) rfl, zQc_at hz hS hA hH⟩ rfl rfl hl.1 rfl (lv_room (Nat.le_of_ble_eq_true rfl)) dX12_digits_123 ⟨Nat.le_of_ble_eq_true rfl, Nat.le_of_ble_eq_true rfl⟩) hS (fun q _ h => h) (fun q h => h) (fun r127 u9 t9 H1 locs ht9 hvm9 hw hB hz1 hk1 hS => ?_)
          have hH := zMv ht9 hvm9 hB
          clear hB
          generalize u9 = f128 at hw hH
          generalize H1 = H at hH hS ⊢
          obtain ⟨rfl, ef128⟩ := hw
          have q129 : f128 30 22 = nI L := by rw [ef128, zu_n (fun h9 => absurd h9.2 (by decide))]; exact q22
          have q130 : f128 30 23 = nI (c103 + k) := by rw [ef128, zu_n (fun h9 => absurd h9.2 (by decide))]; exact hc
          have q131 : f128 30 24 = nI c103 := by rw [ef128]; exact zu_s
          refine W.widen (k := 0) (n := 0) (by decide) (by decide) ?_
          exact W.zret (v := 0) hx hb hr (by decide) (fun t9 ht9 hW9 => ⟨⟨0, f128, rfl, ⟨trivial, ⟨c103 + k, by omega, by omega, q130, Or.inr ⟨by rw [← hcz]; exact (zNumM (b := fi 47) (p := p) (q := q) (lo := x3) (hi := x4) (by omega) (by omega) hj hvv (fun h5 h6 => (by exfalso; omega))).2 (fun h9 => by have h91 := h9.1; have h92 := h9.2.1; have h93 := h9.2.2.1; have h94 := h9.2.2.2; omega), rfl, by rw [ef128, zu_s, hcz]⟩⟩, fun a b h => by rw [ef128, zu_n (by omega)]; exact hfr a b (by omega)⟩, zEnd1 hH ht9 hW9⟩, hS.F ht9⟩) hS.2.2 dX12_digits_126
        · have zc126 := c126
          replace zc126 := zc_nlt (rfl) (rfl) zc126
          refine lv_iload hx hb dX12_digits_113 (lv_at hl 6 rfl) ?_
          refine lv_iload hx hb dX12_digits_115 (lv_at hl 4 rfl) ?_
          refine lv_icmp_le (tgt := 127) hx hb dX12_digits_117 (by decide) (fun c132 => ?_) (fun c132 => ?_)
          · have zc132 := c132
            replace zc132 := zc_le (rfl) (rfl) zc132
            refine lv_aload_n hx hb dX12_digits_127 rfl (lv_at hl 0 rfl) ?_
            refine lv_iload hx hb dX12_digits_128 (lv_at hl 6 rfl) ?_
            refine zPutI (D := D) (ci := 12) (ty := .int) (C := RX12) (T := TX12) (N := 71) hx hb hts hiX12 tyX12 tyX12_ok nmX12 hown hH hS (zk_30 hF) rfl 25 (by decide) rfl hw3 (fun _ h9 => h9) rfl (by decide +kernel) rfl rfl dX12_digits_130 (fun H locs hH hS => ?_)
            obtain ⟨f133, ef133⟩ : ∃ f9 : zFi, f9 = zu f 30 25 vv := ⟨_, rfl⟩
            rw [← ef133] at hH
            have q134 : f133 30 22 = nI L := by rw [ef133, zu_n (fun h9 => absurd h9.2 (by decide))]; exact q22
            have q135 : f133 30 23 = nI (c103 + k) := by rw [ef133, zu_n (fun h9 => absurd h9.2 (by decide))]; exact hc
            have q136 : f133 30 25 = vv := by rw [ef133]; exact zu_s
            refine lv_iconst (v := nI 1) hx hb dX12_digits_133 (by decide) ?_
            refine W.widen (k := 0) (n := 0) (by decide) (by decide) ?_
            exact W.zret (v := nI 1) hx hb hr (by decide) (fun t9 ht9 hW9 => ⟨⟨nI 1, f133, rfl, ⟨trivial, ⟨c103 + k, by omega, by omega, q135, Or.inl ⟨_, _, by rw [← hcz]; exact (zNumM (b := fi 47) (p := p) (q := q) (lo := x3) (hi := x4) (by omega) (by omega) hj hvv (fun h5 h6 => (by exfalso; omega))).1 ⟨by omega, by omega, by omega, by omega⟩, rfl, rfl, q136, by rw [ef133, zu_n (by omega)]; exact hfr 30 24 (by omega)⟩⟩, fun a b h => by rw [ef133, zu_n (by omega)]; exact hfr a b (by omega)⟩, zEnd1 hH ht9 hW9⟩, hS.F ht9⟩) hS.2.2 dX12_digits_134
          · have zc132 := c132
            replace zc132 := zc_nle (rfl) (rfl) zc132
            refine lv_aload_n hx hb dX12_digits_120 rfl (lv_at hl 0 rfl) ?_
            refine lv_iload hx hb dX12_digits_121 (lv_at hl 5 rfl) ?_
            refine va_calli (va_runV (As := [.int (nI c103)]) (rest := []) ⟨hx, hb, hml, hown, hts⟩ (m_wrongX l hl0 D A sad τ f fr ol (nI c103) hF) (cwV 1 hts gX12_digits_X12_wrong rfl rfl rfl (by decide +kernel) ⟨Nat.le_of_ble_eq_true rfl, Nat.le_of_ble_eq_true rfl⟩) ⟨zQc_bl, zRecv hH (zk_30 hF) rfl, zQc_at hz hS hA hH⟩ rfl rfl hl.1 rfl (lv_room (Nat.le_of_ble_eq_true rfl)) dX12_digits_123 ⟨Nat.le_of_ble_eq_true rfl, Nat.le_of_ble_eq_true rfl⟩) hS (fun q _ h => h) (fun q h => h) (fun r137 u9 t9 H1 locs ht9 hvm9 hw hB hz1 hk1 hS => ?_)
            have hH := zMv ht9 hvm9 hB
            clear hB
            generalize u9 = f138 at hw hH
            generalize H1 = H at hH hS ⊢
            obtain ⟨rfl, ef138⟩ := hw
            have q139 : f138 30 22 = nI L := by rw [ef138, zu_n (fun h9 => absurd h9.2 (by decide))]; exact q22
            have q140 : f138 30 23 = nI (c103 + k) := by rw [ef138, zu_n (fun h9 => absurd h9.2 (by decide))]; exact hc
            have q141 : f138 30 24 = nI c103 := by rw [ef138]; exact zu_s
            refine W.widen (k := 0) (n := 0) (by decide) (by decide) ?_
            exact W.zret (v := 0) hx hb hr (by decide) (fun t9 ht9 hW9 => ⟨⟨0, f138, rfl, ⟨trivial, ⟨c103 + k, by omega, by omega, q140, Or.inr ⟨by rw [← hcz]; exact (zNumM (b := fi 47) (p := p) (q := q) (lo := x3) (hi := x4) (by omega) (by omega) hj hvv (fun h5 h6 => (by exfalso; omega))).2 (fun h9 => by have h91 := h9.1; have h92 := h9.2.1; have h93 := h9.2.2.1; have h94 := h9.2.2.2; omega), rfl, by rw [ef138, zu_s, hcz]⟩⟩, fun a b h => by rw [ef138, zu_n (by omega)]; exact hfr a b (by omega)⟩, zEnd1 hH ht9 hW9⟩, hS.F ht9⟩) hS.2.2 dX12_digits_126
  · have zc111 := c111
    replace zc111 := zc_nle (nI_toInt (by omega)) (nI_toInt (by omega)) zc111
    refine lv_aload_n hx hb dX12_digits_26 rfl (lv_at hl 0 rfl) ?_
    refine zGetR (D := D) (ci := 12) (C := RX12) (T := TX12) (N := 71) hx hb hts hiX12 hown hH (zk_30 hF) rfl 20 (by decide) rfl hw4 (fun _ h9 => h9) dX12_digits_27 (zr_30_20 hF) ?_
    refine lv_aload_n hx hb dX12_digits_30 rfl (lv_at hl 0 rfl) ?_
    refine zGetI (D := D) (ci := 12) (C := RX12) (T := TX12) (N := 71) hx hb hts hiX12 hown hH (zk_30 hF) rfl 23 (by decide) rfl hw1 (fun _ h9 => h9) dX12_digits_31 hc ?_
    refine zIaldN (D := D) hx hb hH (zk_47 hF) (zn_47 hF) (by omega) (by omega) rfl dX12_digits_34 ?_
    refine va_calli (va_runS (As := [.int (f 47 (c103 + k))]) (rest := []) ⟨hx, hb, hml, hown, hts⟩ (m_isDigitX l hl0 D A sad τ f fr ol (f 47 (c103 + k))) (cwS 1 hts gX12_digits_X12_isDigit rfl rfl rfl (by decide +kernel) ⟨Nat.le_of_ble_eq_true rfl, Nat.le_of_ble_eq_true rfl⟩) ⟨zQc_bl, zQc_at hz hS hA hH⟩ rfl rfl hl.1 rfl (lv_room (Nat.le_of_ble_eq_true rfl)) dX12_digits_35 ⟨Nat.le_of_ble_eq_true rfl, Nat.le_of_ble_eq_true rfl⟩) hS (fun q _ h => h) (fun q h => h) (fun r142 u9 t9 H1 locs ht9 hvm9 hw hB hz1 hk1 hS => ?_)
    have hH := zMv ht9 hvm9 hB
    generalize H1 = H at hH hS ⊢
    rw [q47] at hw
    rcases hw with ⟨rfl, hdg⟩ | ⟨rfl, hdg⟩
    · skip
      refine lv_if_eq (tgt := 85) hx hb dX12_digits_38 (by decide) (fun c143 => absurd c143 (by decide)) (fun c143 => ?_)
      refine lv_aload_n hx hb dX12_digits_41 rfl (lv_at hl 0 rfl) ?_
      refine zGetI (D := D) (ci := 12) (C := RX12) (T := TX12) (N := 71) hx hb hts hiX12 hown hH (zk_30 hF) rfl 23 (by decide) rfl hw1 (fun _ h9 => h9) dX12_digits_42 hc ?_
      refine lv_iload hx hb dX12_digits_45 (lv_at hl 5 rfl) ?_
      refine lv_isub hx hb dX12_digits_47 ?_
      refine lv_topi (fun v144 ev144 => ?_)
      have iv144 : v144.toInt = ((c103 + k : Nat) : Int) - ((c103 : Nat) : Int) := by rw [ev144]; exact pk_sub_toInt (by omega) (by omega)
      refine lv_iload_n hx hb dX12_digits_48 rfl (lv_at hl 2 rfl) ?_
      refine lv_icmp_gt (tgt := 85) hx hb dX12_digits_49 (by decide) (fun c145 => ?_) (fun c145 => ?_)
      · have zc145 := c145
        replace zc145 := zc_lt (nI_toInt (by omega)) (iv144) zc145
        refine lv_aload_n hx hb dX12_digits_85 rfl (lv_at hl 0 rfl) ?_
        refine zGetI (D := D) (ci := 12) (C := RX12) (T := TX12) (N := 71) hx hb hts hiX12 hown hH (zk_30 hF) rfl 23 (by decide) rfl hw1 (fun _ h9 => h9) dX12_digits_86 hc ?_
        refine lv_iload hx hb dX12_digits_89 (lv_at hl 5 rfl) ?_
        refine lv_isub hx hb dX12_digits_91 ?_
        refine lv_topi (fun v146 ev146 => ?_)
        have iv146 : v146.toInt = ((c103 + k : Nat) : Int) - ((c103 : Nat) : Int) := by rw [ev146]; exact pk_sub_toInt (by omega) (by omega)
        refine lv_iload_n hx hb dX12_digits_92 rfl (lv_at hl 1 rfl) ?_
        refine lv_icmp_lt (tgt := 120) hx hb dX12_digits_93 (by decide) (fun c147 => ?_) (fun c147 => ?_)
        · have zc147 := c147
          replace zc147 := zc_lt (iv146) (nI_toInt (by omega)) zc147
          refine lv_aload_n hx hb dX12_digits_120 rfl (lv_at hl 0 rfl) ?_
          refine lv_iload hx hb dX12_digits_121 (lv_at hl 5 rfl) ?_
          refine va_calli (va_runV (As := [.int (nI c103)]) (rest := []) ⟨hx, hb, hml, hown, hts⟩ (m_wrongX l hl0 D A sad τ f fr ol (nI c103) hF) (cwV 1 hts gX12_digits_X12_wrong rfl rfl rfl (by decide +kernel) ⟨Nat.le_of_ble_eq_true rfl, Nat.le_of_ble_eq_true rfl⟩) ⟨zQc_bl, zRecv hH (zk_30 hF) rfl, zQc_at hz hS hA hH⟩ rfl rfl hl.1 rfl (lv_room (Nat.le_of_ble_eq_true rfl)) dX12_digits_123 ⟨Nat.le_of_ble_eq_true rfl, Nat.le_of_ble_eq_true rfl⟩) hS (fun q _ h => h) (fun q h => h) (fun r148 u9 t9 H1 locs ht9 hvm9 hw hB hz1 hk1 hS => ?_)
          have hH := zMv ht9 hvm9 hB
          clear hB
          generalize u9 = f149 at hw hH
          generalize H1 = H at hH hS ⊢
          obtain ⟨rfl, ef149⟩ := hw
          have q150 : f149 30 22 = nI L := by rw [ef149, zu_n (fun h9 => absurd h9.2 (by decide))]; exact q22
          have q151 : f149 30 23 = nI (c103 + k) := by rw [ef149, zu_n (fun h9 => absurd h9.2 (by decide))]; exact hc
          have q152 : f149 30 24 = nI c103 := by rw [ef149]; exact zu_s
          refine W.widen (k := 0) (n := 0) (by decide) (by decide) ?_
          exact W.zret (v := 0) hx hb hr (by decide) (fun t9 ht9 hW9 => ⟨⟨0, f149, rfl, ⟨trivial, ⟨c103 + k, by omega, by omega, q151, Or.inr ⟨by rw [← hcz]; exact (zNumM (b := fi 47) (p := p) (q := q) (lo := x3) (hi := x4) (by omega) (by omega) hj hvv (fun h5 h6 => (by exfalso; omega))).2 (fun h9 => by have h91 := h9.1; have h92 := h9.2.1; have h93 := h9.2.2.1; have h94 := h9.2.2.2; omega), rfl, by rw [ef149, zu_s, hcz]⟩⟩, fun a b h => by rw [ef149, zu_n (by omega)]; exact hfr a b (by omega)⟩, zEnd1 hH ht9 hW9⟩, hS.F ht9⟩) hS.2.2 dX12_digits_126
        · have zc147 := c147
          replace zc147 := zc_nlt (iv146) (nI_toInt (by omega)) zc147
          refine lv_aload_n hx hb dX12_digits_96 rfl (lv_at hl 0 rfl) ?_
          refine zGetI (D := D) (ci := 12) (C := RX12) (T := TX12) (N := 71) hx hb hts hiX12 hown hH (zk_30 hF) rfl 23 (by decide) rfl hw1 (fun _ h9 => h9) dX12_digits_97 hc ?_
          refine lv_iload hx hb dX12_digits_100 (lv_at hl 5 rfl) ?_
          refine lv_isub hx hb dX12_digits_102 ?_
          refine lv_topi (fun v153 ev153 => ?_)
          have iv153 : v153.toInt = ((c103 + k : Nat) : Int) - ((c103 : Nat) : Int) := by rw [ev153]; exact pk_sub_toInt (by omega) (by omega)
          refine lv_iload_n hx hb dX12_digits_103 rfl (lv_at hl 2 rfl) ?_
          refine lv_icmp_gt (tgt := 120) hx hb dX12_digits_104 (by decide) (fun c154 => ?_) (fun c154 => ?_)
          · have zc154 := c154
            replace zc154 := zc_lt (nI_toInt (by omega)) (iv153) zc154
            refine lv_aload_n hx hb dX12_digits_120 rfl (lv_at hl 0 rfl) ?_
            refine lv_iload hx hb dX12_digits_121 (lv_at hl 5 rfl) ?_
            refine va_calli (va_runV (As := [.int (nI c103)]) (rest := []) ⟨hx, hb, hml, hown, hts⟩ (m_wrongX l hl0 D A sad τ f fr ol (nI c103) hF) (cwV 1 hts gX12_digits_X12_wrong rfl rfl rfl (by decide +kernel) ⟨Nat.le_of_ble_eq_true rfl, Nat.le_of_ble_eq_true rfl⟩) ⟨zQc_bl, zRecv hH (zk_30 hF) rfl, zQc_at hz hS hA hH⟩ rfl rfl hl.1 rfl (lv_room (Nat.le_of_ble_eq_true rfl)) dX12_digits_123 ⟨Nat.le_of_ble_eq_true rfl, Nat.le_of_ble_eq_true rfl⟩) hS (fun q _ h => h) (fun q h => h) (fun r155 u9 t9 H1 locs ht9 hvm9 hw hB hz1 hk1 hS => ?_)
            have hH := zMv ht9 hvm9 hB
            clear hB
            generalize u9 = f156 at hw hH
            generalize H1 = H at hH hS ⊢
            obtain ⟨rfl, ef156⟩ := hw
            have q157 : f156 30 22 = nI L := by rw [ef156, zu_n (fun h9 => absurd h9.2 (by decide))]; exact q22
            have q158 : f156 30 23 = nI (c103 + k) := by rw [ef156, zu_n (fun h9 => absurd h9.2 (by decide))]; exact hc
            have q159 : f156 30 24 = nI c103 := by rw [ef156]; exact zu_s
            refine W.widen (k := 0) (n := 0) (by decide) (by decide) ?_
            exact W.zret (v := 0) hx hb hr (by decide) (fun t9 ht9 hW9 => ⟨⟨0, f156, rfl, ⟨trivial, ⟨c103 + k, by omega, by omega, q158, Or.inr ⟨by rw [← hcz]; exact (zNumM (b := fi 47) (p := p) (q := q) (lo := x3) (hi := x4) (by omega) (by omega) hj hvv (fun h5 h6 => (by exfalso; omega))).2 (fun h9 => by have h91 := h9.1; have h92 := h9.2.1; have h93 := h9.2.2.1; have h94 := h9.2.2.2; omega), rfl, by rw [ef156, zu_s, hcz]⟩⟩, fun a b h => by rw [ef156, zu_n (by omega)]; exact hfr a b (by omega)⟩, zEnd1 hH ht9 hW9⟩, hS.F ht9⟩) hS.2.2 dX12_digits_126
          · have zc154 := c154
            replace zc154 := zc_nlt (nI_toInt (by omega)) (iv153) zc154
            refine lv_iload hx hb dX12_digits_107 (lv_at hl 6 rfl) ?_
            refine lv_iload_n hx hb dX12_digits_109 rfl (lv_at hl 3 rfl) ?_
            refine lv_icmp_lt (tgt := 120) hx hb dX12_digits_110 (by decide) (fun c160 => ?_) (fun c160 => ?_)
            · have zc160 := c160
              replace zc160 := zc_lt (rfl) (rfl) zc160
              refine lv_aload_n hx hb dX12_digits_120 rfl (lv_at hl 0 rfl) ?_
              refine lv_iload hx hb dX12_digits_121 (lv_at hl 5 rfl) ?_
              refine va_calli (va_runV (As := [.int (nI c103)]) (rest := []) ⟨hx, hb, hml, hown, hts⟩ (m_wrongX l hl0 D A sad τ f fr ol (nI c103) hF) (cwV 1 hts gX12_digits_X12_wrong rfl rfl rfl (by decide +kernel) ⟨Nat.le_of_ble_eq_true rfl, Nat.le_of_ble_eq_true rfl⟩) ⟨zQc_bl, zRecv hH (zk_30 hF) rfl, zQc_at hz hS hA hH⟩ rfl rfl hl.1 rfl (lv_room (Nat.le_of_ble_eq_true rfl)) dX12_digits_123 ⟨Nat.le_of_ble_eq_true rfl, Nat.le_of_ble_eq_true rfl⟩) hS (fun q _ h => h) (fun q h => h) (fun r161 u9 t9 H1 locs ht9 hvm9 hw hB hz1 hk1 hS => ?_)
              have hH := zMv ht9 hvm9 hB
              clear hB
              generalize u9 = f162 at hw hH
              generalize H1 = H at hH hS ⊢
              obtain ⟨rfl, ef162⟩ := hw
              have q163 : f162 30 22 = nI L := by rw [ef162, zu_n (fun h9 => absurd h9.2 (by decide))]; exact q22
              have q164 : f162 30 23 = nI (c103 + k) := by rw [ef162, zu_n (fun h9 => absurd h9.2 (by decide))]; exact hc
              have q165 : f162 30 24 = nI c103 := by rw [ef162]; exact zu_s
              refine W.widen (k := 0) (n := 0) (by decide) (by decide) ?_
              exact W.zret (v := 0) hx hb hr (by decide) (fun t9 ht9 hW9 => ⟨⟨0, f162, rfl, ⟨trivial, ⟨c103 + k, by omega, by omega, q164, Or.inr ⟨by rw [← hcz]; exact (zNumM (b := fi 47) (p := p) (q := q) (lo := x3) (hi := x4) (by omega) (by omega) hj hvv (fun h5 h6 => (by exfalso; omega))).2 (fun h9 => by have h91 := h9.1; have h92 := h9.2.1; have h93 := h9.2.2.1; have h94 := h9.2.2.2; omega), rfl, by rw [ef162, zu_s, hcz]⟩⟩, fun a b h => by rw [ef162, zu_n (by omega)]; exact hfr a b (by omega)⟩, zEnd1 hH ht9 hW9⟩, hS.F ht9⟩) hS.2.2 dX12_digits_126
            · have zc160 := c160
              replace zc160 := zc_nlt (rfl) (rfl) zc160
              refine lv_iload hx hb dX12_digits_113 (lv_at hl 6 rfl) ?_
              refine lv_iload hx hb dX12_digits_115 (lv_at hl 4 rfl) ?_
              refine lv_icmp_le (tgt := 127) hx hb dX12_digits_117 (by decide) (fun c166 => ?_) (fun c166 => ?_)
              · have zc166 := c166
                replace zc166 := zc_le (rfl) (rfl) zc166
                refine lv_aload_n hx hb dX12_digits_127 rfl (lv_at hl 0 rfl) ?_
                refine lv_iload hx hb dX12_digits_128 (lv_at hl 6 rfl) ?_
                refine zPutI (D := D) (ci := 12) (ty := .int) (C := RX12) (T := TX12) (N := 71) hx hb hts hiX12 tyX12 tyX12_ok nmX12 hown hH hS (zk_30 hF) rfl 25 (by decide) rfl hw3 (fun _ h9 => h9) rfl (by decide +kernel) rfl rfl dX12_digits_130 (fun H locs hH hS => ?_)
                obtain ⟨f167, ef167⟩ : ∃ f9 : zFi, f9 = zu f 30 25 vv := ⟨_, rfl⟩
                rw [← ef167] at hH
                have q168 : f167 30 22 = nI L := by rw [ef167, zu_n (fun h9 => absurd h9.2 (by decide))]; exact q22
                have q169 : f167 30 23 = nI (c103 + k) := by rw [ef167, zu_n (fun h9 => absurd h9.2 (by decide))]; exact hc
                have q170 : f167 30 25 = vv := by rw [ef167]; exact zu_s
                refine lv_iconst (v := nI 1) hx hb dX12_digits_133 (by decide) ?_
                refine W.widen (k := 0) (n := 0) (by decide) (by decide) ?_
                exact W.zret (v := nI 1) hx hb hr (by decide) (fun t9 ht9 hW9 => ⟨⟨nI 1, f167, rfl, ⟨trivial, ⟨c103 + k, by omega, by omega, q169, Or.inl ⟨_, _, by rw [← hcz]; exact (zNumM (b := fi 47) (p := p) (q := q) (lo := x3) (hi := x4) (by omega) (by omega) hj hvv (fun h5 h6 => (by exfalso; omega))).1 ⟨by omega, by omega, by omega, by omega⟩, rfl, rfl, q170, by rw [ef167, zu_n (by omega)]; exact hfr 30 24 (by omega)⟩⟩, fun a b h => by rw [ef167, zu_n (by omega)]; exact hfr a b (by omega)⟩, zEnd1 hH ht9 hW9⟩, hS.F ht9⟩) hS.2.2 dX12_digits_134
              · have zc166 := c166
                replace zc166 := zc_nle (rfl) (rfl) zc166
                refine lv_aload_n hx hb dX12_digits_120 rfl (lv_at hl 0 rfl) ?_
                refine lv_iload hx hb dX12_digits_121 (lv_at hl 5 rfl) ?_
                refine va_calli (va_runV (As := [.int (nI c103)]) (rest := []) ⟨hx, hb, hml, hown, hts⟩ (m_wrongX l hl0 D A sad τ f fr ol (nI c103) hF) (cwV 1 hts gX12_digits_X12_wrong rfl rfl rfl (by decide +kernel) ⟨Nat.le_of_ble_eq_true rfl, Nat.le_of_ble_eq_true rfl⟩) ⟨zQc_bl, zRecv hH (zk_30 hF) rfl, zQc_at hz hS hA hH⟩ rfl rfl hl.1 rfl (lv_room (Nat.le_of_ble_eq_true rfl)) dX12_digits_123 ⟨Nat.le_of_ble_eq_true rfl, Nat.le_of_ble_eq_true rfl⟩) hS (fun q _ h => h) (fun q h => h) (fun r171 u9 t9 H1 locs ht9 hvm9 hw hB hz1 hk1 hS => ?_)
                have hH := zMv ht9 hvm9 hB
                clear hB
                generalize u9 = f172 at hw hH
                generalize H1 = H at hH hS ⊢
                obtain ⟨rfl, ef172⟩ := hw
                have q173 : f172 30 22 = nI L := by rw [ef172, zu_n (fun h9 => absurd h9.2 (by decide))]; exact q22
                have q174 : f172 30 23 = nI (c103 + k) := by rw [ef172, zu_n (fun h9 => absurd h9.2 (by decide))]; exact hc
                have q175 : f172 30 24 = nI c103 := by rw [ef172]; exact zu_s
                refine W.widen (k := 0) (n := 0) (by decide) (by decide) ?_
                exact W.zret (v := 0) hx hb hr (by decide) (fun t9 ht9 hW9 => ⟨⟨0, f172, rfl, ⟨trivial, ⟨c103 + k, by omega, by omega, q174, Or.inr ⟨by rw [← hcz]; exact (zNumM (b := fi 47) (p := p) (q := q) (lo := x3) (hi := x4) (by omega) (by omega) hj hvv (fun h5 h6 => (by exfalso; omega))).2 (fun h9 => by have h91 := h9.1; have h92 := h9.2.1; have h93 := h9.2.2.1; have h94 := h9.2.2.2; omega), rfl, by rw [ef172, zu_s, hcz]⟩⟩, fun a b h => by rw [ef172, zu_n (by omega)]; exact hfr a b (by omega)⟩, zEnd1 hH ht9 hW9⟩, hS.F ht9⟩) hS.2.2 dX12_digits_126
      · have zc145 := c145
        replace zc145 := zc_nlt (nI_toInt (by omega)) (iv144) zc145
        refine lv_bipush (v := nI 10) hx hb dX12_digits_52 (by decide) ?_
        refine lv_iload hx hb dX12_digits_54 (lv_at hl 6 rfl) ?_
        refine lv_imul hx hb dX12_digits_56 ?_
        refine lv_topi (fun v176 ev176 => ?_)
        refine lv_aload_n hx hb dX12_digits_57 rfl (lv_at hl 0 rfl) ?_
        refine zGetR (D := D) (ci := 12) (C := RX12) (T := TX12) (N := 71) hx hb hts hiX12 hown hH (zk_30 hF) rfl 20 (by decide) rfl hw4 (fun _ h9 => h9) dX12_digits_58 (zr_30_20 hF) ?_
        refine lv_aload_n hx hb dX12_digits_61 rfl (lv_at hl 0 rfl) ?_
        refine zGetI (D := D) (ci := 12) (C := RX12) (T := TX12) (N := 71) hx hb hts hiX12 hown hH (zk_30 hF) rfl 23 (by decide) rfl hw1 (fun _ h9 => h9) dX12_digits_62 hc ?_
        refine zIaldN (D := D) hx hb hH (zk_47 hF) (zn_47 hF) (by omega) (by omega) rfl dX12_digits_65 ?_
        refine lv_iadd hx hb dX12_digits_66 ?_
        refine lv_topi (fun v177 ev177 => ?_)
        refine lv_bipush (v := nI 48) hx hb dX12_digits_67 (by decide) ?_
        refine lv_isub hx hb dX12_digits_69 ?_
        refine lv_topi (fun v178 ev178 => ?_)
        refine lv_istore (lv' := [(7, .int v178), (0, .ref (τ.1 30)), (1, .int (nI p)), (2, .int (nI q)), (3, .int x3), (4, .int x4), (6, .int (nI c103))]) hx hb dX12_digits_70 hl (by decide) rfl (fun ls hl => ?_)
        refine lv_aload_n hx hb dX12_digits_72 rfl (lv_at hl 1 rfl) ?_
        refine lv_dup hx hb dX12_digits_73 rfl ?_
        refine zGetI (D := D) (ci := 12) (C := RX12) (T := TX12) (N := 71) hx hb hts hiX12 hown hH (zk_30 hF) rfl 23 (by decide) rfl hw1 (fun _ h9 => h9) dX12_digits_74 hc ?_
        refine lv_iconst (v := nI 1) hx hb dX12_digits_77 (by decide) ?_
        refine lv_iadd hx hb dX12_digits_78 ?_
        refine lv_topi (fun v179 ev179 => ?_)
        obtain rfl : v179 = nI (c103 + k + 1) := ev179.trans (nI_add _ _)
        refine zPutI (D := D) (ci := 12) (ty := .int) (C := RX12) (T := TX12) (N := 71) hx hb hts hiX12 tyX12 tyX12_ok nmX12 hown hH hS (zk_30 hF) rfl 23 (by decide) rfl hw1 (fun _ h9 => h9) rfl (by decide +kernel) rfl rfl dX12_digits_79 (fun H locs hH hS => ?_)
        obtain ⟨f180, ef180⟩ : ∃ f9 : zFi, f9 = zu f 30 23 (nI (c103 + k + 1)) := ⟨_, rfl⟩
        rw [← ef180] at hH
        have q181 : f180 30 22 = nI L := by rw [ef180, zu_n (fun h9 => absurd h9.2 (by decide))]; exact q22
        have q182 : f180 30 23 = nI (c103 + k + 1) := by rw [ef180]; exact zu_s
        refine lv_goto (tgt := 15) hx hb dX12_digits_82 (by decide) ?_
        exact ih110 (L - (c103 + (k + 1))) (by omega) (k + 1, f180, v178) _ _ _ (show L - (c103 + (k + 1)) = L - (c103 + (k + 1)) ∧ (c103 + (k + 1) ≤ L ∧ (k + 1) ≤ q + 1 ∧ f180 30 23 = nI (c103 + (k + 1)) ∧ v178 = zDig (fi 47) c103 (k + 1) ∧ (∀ j, c103 ≤ j → j < c103 + (k + 1) → 48 ≤ (fi 47 j).toInt ∧ (fi 47 j).toInt ≤ 57) ∧ ∀ a b, ¬ (a = 30 ∧ b = 23) → f180 a b = fi a b) ∧ zH D A τ f180 fr ol s _ ∧ va_S A s.heap _ _ ∧ lv_has _ 8 [(0, .ref (τ.1 30)), (1, .int (nI p)), (2, .int (nI q)), (3, .int x3), (4, .int x4), (6, .int (nI c103)), (7, .int v178)] from ⟨rfl, ⟨by omega, by omega, q182, zDig_m hvv ev176 (by rw [← q47]; exact ev177) ev178, fun j h5 h6 => by by_cases h7 : j = c103 + k; (subst h7; exact hdg); exact hj j h5 (by omega), fun a b h => by rw [ef180, zu_n (by omega)]; exact hfr a b h⟩, hH, hS, lv_sub hl [1, 2, 3, 4, 5, 6, 0] rfl⟩)
    · skip
      refine lv_if_eq (tgt := 85) hx hb dX12_digits_38 (by decide) (fun c183 => ?_) (fun c183 => absurd (by decide) c183)
      refine lv_aload_n hx hb dX12_digits_85 rfl (lv_at hl 0 rfl) ?_
      refine zGetI (D := D) (ci := 12) (C := RX12) (T := TX12) (N := 71) hx hb hts hiX12 hown hH (zk_30 hF) rfl 23 (by decide) rfl hw1 (fun _ h9 => h9) dX12_digits_86 hc ?_
      refine lv_iload hx hb dX12_digits_89 (lv_at hl 5 rfl) ?_
      refine lv_isub hx hb dX12_digits_91 ?_
      refine lv_topi (fun v184 ev184 => ?_)
      have iv184 : v184.toInt = ((c103 + k : Nat) : Int) - ((c103 : Nat) : Int) := by rw [ev184]; exact pk_sub_toInt (by omega) (by omega)
      refine lv_iload_n hx hb dX12_digits_92 rfl (lv_at hl 1 rfl) ?_
      refine lv_icmp_lt (tgt := 120) hx hb dX12_digits_93 (by decide) (fun c185 => ?_) (fun c185 => ?_)
      · have zc185 := c185
        replace zc185 := zc_lt (iv184) (nI_toInt (by omega)) zc185
        refine lv_aload_n hx hb dX12_digits_120 rfl (lv_at hl 0 rfl) ?_
        refine lv_iload hx hb dX12_digits_121 (lv_at hl 5 rfl) ?_
        refine va_calli (va_runV (As := [.int (nI c103)]) (rest := []) ⟨hx, hb, hml, hown, hts⟩ (m_wrongX l hl0 D A sad τ f fr ol (nI c103) hF) (cwV 1 hts gX12_digits_X12_wrong rfl rfl rfl (by decide +kernel) ⟨Nat.le_of_ble_eq_true rfl, Nat.le_of_ble_eq_true rfl⟩) ⟨zQc_bl, zRecv hH (zk_30 hF) rfl, zQc_at hz hS hA hH⟩ rfl rfl hl.1 rfl (lv_room (Nat.le_of_ble_eq_true rfl)) dX12_digits_123 ⟨Nat.le_of_ble_eq_true rfl, Nat.le_of_ble_eq_true rfl⟩) hS (fun q _ h => h) (fun q h => h) (fun r186 u9 t9 H1 locs ht9 hvm9 hw hB hz1 hk1 hS => ?_)
        have hH := zMv ht9 hvm9 hB
        clear hB
        generalize u9 = f187 at hw hH
        generalize H1 = H at hH hS ⊢
        obtain ⟨rfl, ef187⟩ := hw
        have q188 : f187 30 22 = nI L := by rw [ef187, zu_n (fun h9 => absurd h9.2 (by decide))]; exact q22
        have q189 : f187 30 23 = nI (c103 + k) := by rw [ef187, zu_n (fun h9 => absurd h9.2 (by decide))]; exact hc
        have q190 : f187 30 24 = nI c103 := by rw [ef187]; exact zu_s
        refine W.widen (k := 0) (n := 0) (by decide) (by decide) ?_
        exact W.zret (v := 0) hx hb hr (by decide) (fun t9 ht9 hW9 => ⟨⟨0, f187, rfl, ⟨trivial, ⟨c103 + k, by omega, by omega, q189, Or.inr ⟨by rw [← hcz]; exact (zNumM (b := fi 47) (p := p) (q := q) (lo := x3) (hi := x4) (by omega) (by omega) hj hvv (fun h5 h6 => hdg)).2 (fun h9 => by have h91 := h9.1; have h92 := h9.2.1; have h93 := h9.2.2.1; have h94 := h9.2.2.2; omega), rfl, by rw [ef187, zu_s, hcz]⟩⟩, fun a b h => by rw [ef187, zu_n (by omega)]; exact hfr a b (by omega)⟩, zEnd1 hH ht9 hW9⟩, hS.F ht9⟩) hS.2.2 dX12_digits_126
      · have zc185 := c185
        replace zc185 := zc_nlt (iv184) (nI_toInt (by omega)) zc185
        refine lv_aload_n hx hb dX12_digits_96 rfl (lv_at hl 0 rfl) ?_
        refine zGetI (D := D) (ci := 12) (C := RX12) (T := TX12) (N := 71) hx hb hts hiX12 hown hH (zk_30 hF) rfl 23 (by decide) rfl hw1 (fun _ h9 => h9) dX12_digits_97 hc ?_
        refine lv_iload hx hb dX12_digits_100 (lv_at hl 5 rfl) ?_
        refine lv_isub hx hb dX12_digits_102 ?_
        refine lv_topi (fun v191 ev191 => ?_)
        have iv191 : v191.toInt = ((c103 + k : Nat) : Int) - ((c103 : Nat) : Int) := by rw [ev191]; exact pk_sub_toInt (by omega) (by omega)
        refine lv_iload_n hx hb dX12_digits_103 rfl (lv_at hl 2 rfl) ?_
        refine lv_icmp_gt (tgt := 120) hx hb dX12_digits_104 (by decide) (fun c192 => ?_) (fun c192 => ?_)
        · have zc192 := c192
          replace zc192 := zc_lt (nI_toInt (by omega)) (iv191) zc192
          refine lv_aload_n hx hb dX12_digits_120 rfl (lv_at hl 0 rfl) ?_
          refine lv_iload hx hb dX12_digits_121 (lv_at hl 5 rfl) ?_
          refine va_calli (va_runV (As := [.int (nI c103)]) (rest := []) ⟨hx, hb, hml, hown, hts⟩ (m_wrongX l hl0 D A sad τ f fr ol (nI c103) hF) (cwV 1 hts gX12_digits_X12_wrong rfl rfl rfl (by decide +kernel) ⟨Nat.le_of_ble_eq_true rfl, Nat.le_of_ble_eq_true rfl⟩) ⟨zQc_bl, zRecv hH (zk_30 hF) rfl, zQc_at hz hS hA hH⟩ rfl rfl hl.1 rfl (lv_room (Nat.le_of_ble_eq_true rfl)) dX12_digits_123 ⟨Nat.le_of_ble_eq_true rfl, Nat.le_of_ble_eq_true rfl⟩) hS (fun q _ h => h) (fun q h => h) (fun r193 u9 t9 H1 locs ht9 hvm9 hw hB hz1 hk1 hS => ?_)
          have hH := zMv ht9 hvm9 hB
          clear hB
          generalize u9 = f194 at hw hH
          generalize H1 = H at hH hS ⊢
          obtain ⟨rfl, ef194⟩ := hw
          have q195 : f194 30 22 = nI L := by rw [ef194, zu_n (fun h9 => absurd h9.2 (by decide))]; exact q22
          have q196 : f194 30 23 = nI (c103 + k) := by rw [ef194, zu_n (fun h9 => absurd h9.2 (by decide))]; exact hc
          have q197 : f194 30 24 = nI c103 := by rw [ef194]; exact zu_s
          refine W.widen (k := 0) (n := 0) (by decide) (by decide) ?_
          exact W.zret (v := 0) hx hb hr (by decide) (fun t9 ht9 hW9 => ⟨⟨0, f194, rfl, ⟨trivial, ⟨c103 + k, by omega, by omega, q196, Or.inr ⟨by rw [← hcz]; exact (zNumM (b := fi 47) (p := p) (q := q) (lo := x3) (hi := x4) (by omega) (by omega) hj hvv (fun h5 h6 => hdg)).2 (fun h9 => by have h91 := h9.1; have h92 := h9.2.1; have h93 := h9.2.2.1; have h94 := h9.2.2.2; omega), rfl, by rw [ef194, zu_s, hcz]⟩⟩, fun a b h => by rw [ef194, zu_n (by omega)]; exact hfr a b (by omega)⟩, zEnd1 hH ht9 hW9⟩, hS.F ht9⟩) hS.2.2 dX12_digits_126
        · have zc192 := c192
          replace zc192 := zc_nlt (nI_toInt (by omega)) (iv191) zc192
          refine lv_iload hx hb dX12_digits_107 (lv_at hl 6 rfl) ?_
          refine lv_iload_n hx hb dX12_digits_109 rfl (lv_at hl 3 rfl) ?_
          refine lv_icmp_lt (tgt := 120) hx hb dX12_digits_110 (by decide) (fun c198 => ?_) (fun c198 => ?_)
          · have zc198 := c198
            replace zc198 := zc_lt (rfl) (rfl) zc198
            refine lv_aload_n hx hb dX12_digits_120 rfl (lv_at hl 0 rfl) ?_
            refine lv_iload hx hb dX12_digits_121 (lv_at hl 5 rfl) ?_
            refine va_calli (va_runV (As := [.int (nI c103)]) (rest := []) ⟨hx, hb, hml, hown, hts⟩ (m_wrongX l hl0 D A sad τ f fr ol (nI c103) hF) (cwV 1 hts gX12_digits_X12_wrong rfl rfl rfl (by decide +kernel) ⟨Nat.le_of_ble_eq_true rfl, Nat.le_of_ble_eq_true rfl⟩) ⟨zQc_bl, zRecv hH (zk_30 hF) rfl, zQc_at hz hS hA hH⟩ rfl rfl hl.1 rfl (lv_room (Nat.le_of_ble_eq_true rfl)) dX12_digits_123 ⟨Nat.le_of_ble_eq_true rfl, Nat.le_of_ble_eq_true rfl⟩) hS (fun q _ h => h) (fun q h => h) (fun r199 u9 t9 H1 locs ht9 hvm9 hw hB hz1 hk1 hS => ?_)
            have hH := zMv ht9 hvm9 hB
            clear hB
            generalize u9 = f200 at hw hH
            generalize H1 = H at hH hS ⊢
            obtain ⟨rfl, ef200⟩ := hw
            have q201 : f200 30 22 = nI L := by rw [ef200, zu_n (fun h9 => absurd h9.2 (by decide))]; exact q22
            have q202 : f200 30 23 = nI (c103 + k) := by rw [ef200, zu_n (fun h9 => absurd h9.2 (by decide))]; exact hc
            have q203 : f200 30 24 = nI c103 := by rw [ef200]; exact zu_s
            refine W.widen (k := 0) (n := 0) (by decide) (by decide) ?_
            exact W.zret (v := 0) hx hb hr (by decide) (fun t9 ht9 hW9 => ⟨⟨0, f200, rfl, ⟨trivial, ⟨c103 + k, by omega, by omega, q202, Or.inr ⟨by rw [← hcz]; exact (zNumM (b := fi 47) (p := p) (q := q) (lo := x3) (hi := x4) (by omega) (by omega) hj hvv (fun h5 h6 => hdg)).2 (fun h9 => by have h91 := h9.1; have h92 := h9.2.1; have h93 := h9.2.2.1; have h94 := h9.2.2.2; omega), rfl, by rw [ef200, zu_s, hcz]⟩⟩, fun a b h => by rw [ef200, zu_n (by omega)]; exact hfr a b (by omega)⟩, zEnd1 hH ht9 hW9⟩, hS.F ht9⟩) hS.2.2 dX12_digits_126
          · have zc198 := c198
            replace zc198 := zc_nlt (rfl) (rfl) zc198
            refine lv_iload hx hb dX12_digits_113 (lv_at hl 6 rfl) ?_
            refine lv_iload hx hb dX12_digits_115 (lv_at hl 4 rfl) ?_
            refine lv_icmp_le (tgt := 127) hx hb dX12_digits_117 (by decide) (fun c204 => ?_) (fun c204 => ?_)
            · have zc204 := c204
              replace zc204 := zc_le (rfl) (rfl) zc204
              refine lv_aload_n hx hb dX12_digits_127 rfl (lv_at hl 0 rfl) ?_
              refine lv_iload hx hb dX12_digits_128 (lv_at hl 6 rfl) ?_
              refine zPutI (D := D) (ci := 12) (ty := .int) (C := RX12) (T := TX12) (N := 71) hx hb hts hiX12 tyX12 tyX12_ok nmX12 hown hH hS (zk_30 hF) rfl 25 (by decide) rfl hw3 (fun _ h9 => h9) rfl (by decide +kernel) rfl rfl dX12_digits_130 (fun H locs hH hS => ?_)
              obtain ⟨f205, ef205⟩ : ∃ f9 : zFi, f9 = zu f 30 25 vv := ⟨_, rfl⟩
              rw [← ef205] at hH
              have q206 : f205 30 22 = nI L := by rw [ef205, zu_n (fun h9 => absurd h9.2 (by decide))]; exact q22
              have q207 : f205 30 23 = nI (c103 + k) := by rw [ef205, zu_n (fun h9 => absurd h9.2 (by decide))]; exact hc
              have q208 : f205 30 25 = vv := by rw [ef205]; exact zu_s
              refine lv_iconst (v := nI 1) hx hb dX12_digits_133 (by decide) ?_
              refine W.widen (k := 0) (n := 0) (by decide) (by decide) ?_
              exact W.zret (v := nI 1) hx hb hr (by decide) (fun t9 ht9 hW9 => ⟨⟨nI 1, f205, rfl, ⟨trivial, ⟨c103 + k, by omega, by omega, q207, Or.inl ⟨_, _, by rw [← hcz]; exact (zNumM (b := fi 47) (p := p) (q := q) (lo := x3) (hi := x4) (by omega) (by omega) hj hvv (fun h5 h6 => hdg)).1 ⟨by omega, by omega, by omega, by omega⟩, rfl, rfl, q208, by rw [ef205, zu_n (by omega)]; exact hfr 30 24 (by omega)⟩⟩, fun a b h => by rw [ef205, zu_n (by omega)]; exact hfr a b (by omega)⟩, zEnd1 hH ht9 hW9⟩, hS.F ht9⟩) hS.2.2 dX12_digits_134
            · have zc204 := c204
              replace zc204 := zc_nle (rfl) (rfl) zc204
              refine lv_aload_n hx hb dX12_digits_120 rfl (lv_at hl 0 rfl) ?_
              refine lv_iload hx hb dX12_digits_121 (lv_at hl 5 rfl) ?_
              refine va_calli (va_runV (As := [.int (nI c103)]) (rest := []) ⟨hx, hb, hml, hown, hts⟩ (m_wrongX l hl0 D A sad τ f fr ol (nI c103) hF) (cwV 1 hts gX12_digits_X12_wrong rfl rfl rfl (by decide +kernel) ⟨Nat.le_of_ble_eq_true rfl, Nat.le_of_ble_eq_true rfl⟩) ⟨zQc_bl, zRecv hH (zk_30 hF) rfl, zQc_at hz hS hA hH⟩ rfl rfl hl.1 rfl (lv_room (Nat.le_of_ble_eq_true rfl)) dX12_digits_123 ⟨Nat.le_of_ble_eq_true rfl, Nat.le_of_ble_eq_true rfl⟩) hS (fun q _ h => h) (fun q h => h) (fun r209 u9 t9 H1 locs ht9 hvm9 hw hB hz1 hk1 hS => ?_)
              have hH := zMv ht9 hvm9 hB
              clear hB
              generalize u9 = f210 at hw hH
              generalize H1 = H at hH hS ⊢
              obtain ⟨rfl, ef210⟩ := hw
              have q211 : f210 30 22 = nI L := by rw [ef210, zu_n (fun h9 => absurd h9.2 (by decide))]; exact q22
              have q212 : f210 30 23 = nI (c103 + k) := by rw [ef210, zu_n (fun h9 => absurd h9.2 (by decide))]; exact hc
              have q213 : f210 30 24 = nI c103 := by rw [ef210]; exact zu_s
              refine W.widen (k := 0) (n := 0) (by decide) (by decide) ?_
              exact W.zret (v := 0) hx hb hr (by decide) (fun t9 ht9 hW9 => ⟨⟨0, f210, rfl, ⟨trivial, ⟨c103 + k, by omega, by omega, q212, Or.inr ⟨by rw [← hcz]; exact (zNumM (b := fi 47) (p := p) (q := q) (lo := x3) (hi := x4) (by omega) (by omega) hj hvv (fun h5 h6 => hdg)).2 (fun h9 => by have h91 := h9.1; have h92 := h9.2.1; have h93 := h9.2.2.1; have h94 := h9.2.2.2; omega), rfl, by rw [ef210, zu_s, hcz]⟩⟩, fun a b h => by rw [ef210, zu_n (by omega)]; exact hfr a b (by omega)⟩, zEnd1 hH ht9 hW9⟩, hS.F ht9⟩) hS.2.2 dX12_digits_126
set_option maxHeartbeats 4000000 in
set_option maxRecDepth 100000 in
/-- thingCode -/
theorem m_thingCodeXN (l : Launch) (hl0 : l.stackTraces = false) (D : va_G) (A : Nat → Prop) (sad : Nat → Nat) (τ : zTy) (fi : zFi) (fr : zFr) (ol : Int64) (L a : Nat) (hF : zFix τ fr) (he : fi 30 22 = nI L) (ha : fi 30 23 = nI a) (hL4 : L ≤ 400) (haL : a ≤ L) (n : Nat) (hMt : zMt fi n) : Met l yX12_thingCode wsX12_thingCode ({ frames := 2, cells := 0, slots := 0, locals := 48 }) (va_Pc [.ref (τ.1 30), .int ((-1))] (zQc D A sad τ fi fr ol)) (va_Qi (fun (r : Int32) (u : zFi) => True ∧ (∃ c, a ≤ c ∧ c ≤ L ∧ u 30 23 = nI c ∧ ((∃ t x, t < n ∧ zThg (fi 47) L (fi 31) n none (zS (fi 47) L a) = some (t, x) ∧ zS (fi 47) L c = x ∧ r = 1 ∧ u 30 25 = nI t ∧ u 30 24 = fi 30 24) ∨ (zThg (fi 47) L (fi 31) n none (zS (fi 47) L a) = none ∧ r = 0 ∧ u 30 24 = nI (zS (fi 47) L a)))) ∧ ∀ a b, ¬ (a = 30 ∧ 23 ≤ b ∧ b ≤ 25) → u a b = fi a b) (fun (u : zFi) (t : State) => zH D A τ u fr ol t t.heap) A) 0 0 A := by
  refine Met.ofW (cc := cX12_thingCode) (maxL := 5) (ret := (some .boolean)) (by decide) rfl ?_
  intro p9 e9 s m args below meth c9 s₁ B hml hv
  obtain ⟨rfl, hz, hH, hA⟩ := hv
  have hx := B.exec
  have hb := B.bytes
  have hr := B.returns
  have hts := atoms_spec (ws := wsX12_thingCode) B.pre
  have hown : s.vm.findClass RX12 = some m.cls := findClass_of_methodNamed B.named
  have hlocks := B.notSynchronized
  have hS : va_S A s.heap s.heap [] := va_S.rf
  have hl := lv_entry ([.ref (τ.1 30), .int ((-1))]) (n := 5) (Nat.le_of_ble_eq_true rfl)
  rw [lg_entry_eq]
  generalize (lg_sl ([.ref (τ.1 30), .int ((-1))]) ++ List.replicate (5 - (lg_sl ([.ref (τ.1 30), .int ((-1))])).length) Slot.unset).toArray = ls at hl ⊢
  have hl : lv_has ls 5 [(0, .ref (τ.1 30)), (1, .int ((-1)))] := hl
  have hm30 := hMt.1
  obtain ⟨w24, hw24⟩ : ∃ w, fi 30 24 = w := ⟨_, rfl⟩
  have hiX12 : ∀ w ∈ u_ws RX12 TX12 71, w ∈ wsX12_thingCode := fun _ h => List.mem_cons_of_mem _ (List.mem_append_right _ h)
  have hw1 := hts (.fieldLink RX12 206 "PostHouseModel" "at" "I") (by decide +kernel)
  have hw2 := hts (.fieldLink RX12 229 "PostHouseModel" "number" "I") (by decide +kernel)
  refine lv_aload_n hx hb dX12_thingCode_0 rfl (lv_at hl 0 rfl) ?_
  refine va_calli (va_runV (As := []) (rest := []) ⟨hx, hb, hml, hown, hts⟩ (m_signX l hl0 D A sad τ fi fr ol L a hF he ha (by omega) (by omega)) (cwV 0 hts gX12_thingCode_X12_sign rfl rfl rfl (by decide +kernel) ⟨Nat.le_of_ble_eq_true rfl, Nat.le_of_ble_eq_true rfl⟩) ⟨zQc_bl, zRecv hH (zk_30 hF) rfl, zQc_at hz hS hA hH⟩ rfl rfl hl.1 rfl (lv_room (Nat.le_of_ble_eq_true rfl)) dX12_thingCode_1 ⟨Nat.le_of_ble_eq_true rfl, Nat.le_of_ble_eq_true rfl⟩) hS (fun q _ h => h) (fun q h => h) (fun r101 u9 t9 H1 locs ht9 hvm9 hw hB hz1 hk1 hS => ?_)
  have hH := zMv ht9 hvm9 hB
  clear hB
  generalize u9 = f102 at hw hH
  generalize H1 = H at hH hS ⊢
  obtain ⟨-, ⟨c103, hc104, hc105, q106, hx107⟩, hf108⟩ := hw
  have q109 : f102 30 22 = nI L := by rw [hf108 30 22 (by omega)]; exact he
  have q110 : f102 30 2 = nI n := by rw [hf108 30 2 (by omega)]; exact hMt.2.1
  have q111 : f102 30 24 = w24 := by rw [hf108 30 24 (by omega)]; exact hw24
  have hMt := zMt.ci (fi' := f102) hMt (fun i9 k9 h9 => hf108 i9 k9 (by omega))
  obtain ⟨hcz, -⟩ := hx107
  refine lv_istore_n (lv' := [(2, .int r101), (0, .ref (τ.1 30)), (1, .int ((-1)))]) hx hb dX12_thingCode_4 rfl hl (by decide) rfl (fun ls hl => ?_)
  refine lv_aload_n hx hb dX12_thingCode_5 rfl (lv_at hl 1 rfl) ?_
  refine zGetI (D := D) (ci := 12) (C := RX12) (T := TX12) (N := 71) hx hb hts hiX12 hown hH (zk_30 hF) rfl 23 (by decide) rfl hw1 (fun _ h9 => h9) dX12_thingCode_6 q106 ?_
  refine lv_istore_n (lv' := [(3, .int (nI c103)), (2, .int r101), (0, .ref (τ.1 30)), (1, .int ((-1)))]) hx hb dX12_thingCode_9 rfl hl (by decide) rfl (fun ls hl => ?_)
  refine lv_aload_n hx hb dX12_thingCode_10 rfl (lv_at hl 2 rfl) ?_
  refine lv_iconst (v := nI 4) hx hb dX12_thingCode_11 (by decide) ?_
  refine lv_iconst (v := nI 4) hx hb dX12_thingCode_12 (by decide) ?_
  refine lv_iconst (v := nI 0) hx hb dX12_thingCode_13 (by decide) ?_
  refine lv_sipush (v := nI 9999) hx hb dX12_thingCode_14 (by decide) ?_
  refine va_calli (va_runV (As := [.int (nI 4), .int (nI 4), .int (nI 0), .int (nI 9999)]) (rest := []) ⟨hx, hb, hml, hown, hts⟩ (m_digitsX l hl0 D A sad τ f102 fr ol L c103 hF q109 q106 (by omega) (by omega) 4 4 (by omega) (by omega) (nI 0) (nI 9999)) (cwV 4 hts gX12_thingCode_X12_digits rfl rfl rfl (by decide +kernel) ⟨Nat.le_of_ble_eq_true rfl, Nat.le_of_ble_eq_true rfl⟩) ⟨zQc_bl, zRecv hH (zk_30 hF) rfl, zQc_at hz hS hA hH⟩ rfl rfl hl.1 rfl (lv_room (Nat.le_of_ble_eq_true rfl)) dX12_thingCode_17 ⟨Nat.le_of_ble_eq_true rfl, Nat.le_of_ble_eq_true rfl⟩) hS (fun q _ h => h) (fun q h => h) (fun r112 u9 t9 H1 locs ht9 hvm9 hw hB hz1 hk1 hS => ?_)
  have hH := zMv ht9 hvm9 hB
  clear hB
  generalize u9 = f113 at hw hH
  generalize H1 = H at hH hS ⊢
  obtain ⟨-, ⟨c114, hc115, hc116, q117, hx118⟩, hf119⟩ := hw
  rw [(funext (fun k9 => by rw [hf108 47 k9 (by omega)]) : f102 47 = fi 47)] at hx118
  have q120 : f113 30 22 = nI L := by rw [hf119 30 22 (by omega)]; exact q109
  have q121 : f113 30 2 = nI n := by rw [hf119 30 2 (by omega)]; exact q110
  have hMt := zMt.ci (fi' := f113) hMt (fun i9 k9 h9 => hf119 i9 k9 (by omega))
  rw [show zS (fi 47) L c103 = zS (fi 47) L a from by rw [hcz]; exact zS_idem haL] at hx118
  rcases hx118 with ⟨v25, x25, hnm, hzx, rfl, h25, h24⟩ | ⟨hnm, rfl, h24⟩
  · skip
    have q122 : f113 30 24 = w24 := h24.trans q111
    refine lv_if_ne (tgt := 25) hx hb dX12_thingCode_20 (by decide) (fun c123 => ?_) (fun c123 => absurd c123 (by decide))
    refine lv_aload_n hx hb dX12_thingCode_25 rfl (lv_at hl 2 rfl) ?_
    refine lv_aload_n hx hb dX12_thingCode_26 rfl (lv_at hl 2 rfl) ?_
    refine zGetI (D := D) (ci := 12) (C := RX12) (T := TX12) (N := 71) hx hb hts hiX12 hown hH (zk_30 hF) rfl 25 (by decide) rfl hw2 (fun _ h9 => h9) dX12_thingCode_27 h25 ?_
    refine va_calli (va_runV (As := [.int v25]) (rest := []) ⟨hx, hb, hml, hown, hts⟩ (m_thingOf l hl0 D A sad τ f113 fr ol v25 hF n q121 (by omega)) (cwV 1 hts gX12_thingCode_X12_thingOf rfl rfl rfl (by decide +kernel) ⟨Nat.le_of_ble_eq_true rfl, Nat.le_of_ble_eq_true rfl⟩) ⟨zQc_bl, zRecv hH (zk_30 hF) rfl, zQc_at hz hS hA hH⟩ rfl rfl hl.1 rfl (lv_room (Nat.le_of_ble_eq_true rfl)) dX12_thingCode_30 ⟨Nat.le_of_ble_eq_true rfl, Nat.le_of_ble_eq_true rfl⟩) hS (fun q _ h => h) (fun q h => h) (fun r124 u9 t9 H1 locs ht9 hvm9 hw hB hz1 hk1 hS => ?_)
    have hH := zMv ht9 hvm9 hB
    generalize H1 = H at hH hS ⊢
    rw [(funext (fun k9 => by rw [hf119 31 k9 (by omega), hf108 31 k9 (by omega)]) : f113 31 = fi 31)] at hw
    rcases hw with ⟨t, ht, hcd, hcl, rfl⟩ | ⟨hno, rfl⟩
    · skip
      refine lv_istore (lv' := [(4, .int (nI t)), (3, .int (nI c103)), (2, .int r101), (0, .ref (τ.1 30)), (1, .int ((-1)))]) hx hb dX12_thingCode_33 hl (by decide) rfl (fun ls hl => ?_)
      refine lv_iload hx hb dX12_thingCode_35 (lv_at hl 0 rfl) ?_
      refine lv_iconst (v := (-1)) hx hb dX12_thingCode_37 (by decide) ?_
      refine lv_icmp_eq (tgt := 47) hx hb dX12_thingCode_38 (by decide) (fun c125 => False.elim (by have zc125 := zc_eq (nI_toInt (by omega)) ((by decide : ((-1) : Int32).toInt = (-1))) c125; omega)) (fun c125 => ?_)
      refine lv_iload hx hb dX12_thingCode_41 (lv_at hl 0 rfl) ?_
      refine lv_iload_n hx hb dX12_thingCode_43 rfl (lv_at hl 4 rfl) ?_
      refine lv_icmp_ne (tgt := 53) hx hb dX12_thingCode_44 (by decide) (fun c126 => ?_) (fun c126 => False.elim (by have zc126 := zc_eq (nI_toInt (by omega)) ((by decide : ((-1) : Int32).toInt = (-1))) c126; omega))
      refine lv_aload_n hx hb dX12_thingCode_53 rfl (lv_at hl 3 rfl) ?_
      refine lv_iload hx hb dX12_thingCode_54 (lv_at hl 0 rfl) ?_
      refine zPutI (D := D) (ci := 12) (ty := .int) (C := RX12) (T := TX12) (N := 71) hx hb hts hiX12 tyX12 tyX12_ok nmX12 hown hH hS (zk_30 hF) rfl 25 (by decide) rfl hw2 (fun _ h9 => h9) rfl (by decide +kernel) rfl rfl dX12_thingCode_56 (fun H locs hH hS => ?_)
      obtain ⟨f127, ef127⟩ : ∃ f9 : zFi, f9 = zu f113 30 25 (nI t) := ⟨_, rfl⟩
      rw [← ef127] at hH
      have q128 : f127 30 22 = nI L := by rw [ef127, zu_n (fun h9 => absurd h9.2 (by decide))]; exact q120
      have q129 : f127 30 2 = nI n := by rw [ef127, zu_n (fun h9 => absurd h9.2 (by decide))]; exact q121
      have q130 : f127 30 23 = nI c114 := by rw [ef127, zu_n (fun h9 => absurd h9.2 (by decide))]; exact q117
      have q131 : f127 30 24 = w24 := by rw [ef127, zu_n (fun h9 => absurd h9.2 (by decide))]; exact q122
      have q132 : f127 30 25 = nI t := by rw [ef127]; exact zu_s
      have hMt := zMt.ci (fi' := f127) hMt (fun i9 k9 h9 => by rw [ef127]; exact zu_n (by omega))
      refine lv_iconst (v := nI 1) hx hb dX12_thingCode_59 (by decide) ?_
      refine W.widen (k := 0) (n := 0) (by decide) (by decide) ?_
      exact W.zret (v := nI 1) hx hb hr (by decide) (fun t9 ht9 hW9 => ⟨⟨nI 1, f127, rfl, ⟨trivial, ⟨c114, by omega, by omega, q130, Or.inl ⟨t, x25, by omega, zThg_3 hnm ht hcd hcl (by simp), hzx, rfl, q132, q131.trans hw24.symm⟩⟩, fun a b h => by rw [ef127, zu_n (by omega), hf119 a b (by omega), hf108 a b (by omega)]⟩, zEnd1 hH ht9 hW9⟩, hS.F ht9⟩) hS.2.2 dX12_thingCode_60
    · skip
      refine lv_istore (lv' := [(4, .int ((-1))), (3, .int (nI c103)), (2, .int r101), (0, .ref (τ.1 30)), (1, .int ((-1)))]) hx hb dX12_thingCode_33 hl (by decide) rfl (fun ls hl => ?_)
      refine lv_iload hx hb dX12_thingCode_35 (lv_at hl 0 rfl) ?_
      refine lv_iconst (v := (-1)) hx hb dX12_thingCode_37 (by decide) ?_
      refine lv_icmp_eq (tgt := 47) hx hb dX12_thingCode_38 (by decide) (fun c133 => ?_) (fun c133 => absurd (by decide) c133)
      refine lv_aload_n hx hb dX12_thingCode_47 rfl (lv_at hl 3 rfl) ?_
      refine lv_iload_n hx hb dX12_thingCode_48 rfl (lv_at hl 1 rfl) ?_
      refine va_calli (va_runV (As := [.int (nI c103)]) (rest := []) ⟨hx, hb, hml, hown, hts⟩ (m_wrongX l hl0 D A sad τ f113 fr ol (nI c103) hF) (cwV 1 hts gX12_thingCode_X12_wrong rfl rfl rfl (by decide +kernel) ⟨Nat.le_of_ble_eq_true rfl, Nat.le_of_ble_eq_true rfl⟩) ⟨zQc_bl, zRecv hH (zk_30 hF) rfl, zQc_at hz hS hA hH⟩ rfl rfl hl.1 rfl (lv_room (Nat.le_of_ble_eq_true rfl)) dX12_thingCode_49 ⟨Nat.le_of_ble_eq_true rfl, Nat.le_of_ble_eq_true rfl⟩) hS (fun q _ h => h) (fun q h => h) (fun r134 u9 t9 H1 locs ht9 hvm9 hw hB hz1 hk1 hS => ?_)
      have hH := zMv ht9 hvm9 hB
      clear hB
      generalize u9 = f135 at hw hH
      generalize H1 = H at hH hS ⊢
      obtain ⟨rfl, ef135⟩ := hw
      have q136 : f135 30 22 = nI L := by rw [ef135, zu_n (fun h9 => absurd h9.2 (by decide))]; exact q120
      have q137 : f135 30 2 = nI n := by rw [ef135, zu_n (fun h9 => absurd h9.2 (by decide))]; exact q121
      have q138 : f135 30 23 = nI c114 := by rw [ef135, zu_n (fun h9 => absurd h9.2 (by decide))]; exact q117
      have q139 : f135 30 25 = v25 := by rw [ef135, zu_n (fun h9 => absurd h9.2 (by decide))]; exact h25
      have q140 : f135 30 24 = nI c103 := by rw [ef135]; exact zu_s
      have hMt := zMt.ci (fi' := f135) hMt (fun i9 k9 h9 => by rw [ef135]; exact zu_n (by omega))
      refine W.widen (k := 0) (n := 0) (by decide) (by decide) ?_
      exact W.zret (v := 0) hx hb hr (by decide) (fun t9 ht9 hW9 => ⟨⟨0, f135, rfl, ⟨trivial, ⟨c114, by omega, by omega, q138, Or.inr ⟨zThg_1 hnm hno, rfl, by rw [ef135, zu_s, hcz]⟩⟩, fun a b h => by rw [ef135, zu_n (by omega), hf119 a b (by omega), hf108 a b (by omega)]⟩, zEnd1 hH ht9 hW9⟩, hS.F ht9⟩) hS.2.2 dX12_thingCode_52
  · skip
    refine lv_if_ne (tgt := 25) hx hb dX12_thingCode_20 (by decide) (fun c141 => absurd (by decide) c141) (fun c141 => ?_)
    refine lv_iconst (v := nI 0) hx hb dX12_thingCode_23 (by decide) ?_
    refine W.widen (k := 0) (n := 0) (by decide) (by decide) ?_
    exact W.zret (v := nI 0) hx hb hr (by decide) (fun t9 ht9 hW9 => ⟨⟨nI 0, f113, rfl, ⟨trivial, ⟨c114, by omega, by omega, q117, Or.inr ⟨zThg_0 hnm, rfl, h24⟩⟩, fun a b h => by rw [hf119 a b (by omega), hf108 a b (by omega)]⟩, zEnd1 hH ht9 hW9⟩, hS.F ht9⟩) hS.2.2 dX12_thingCode_24
set_option maxHeartbeats 4000000 in
set_option maxRecDepth 100000 in
/-- thingCode -/
theorem m_thingCodeXR (l : Launch) (hl0 : l.stackTraces = false) (D : va_G) (A : Nat → Prop) (sad : Nat → Nat) (τ : zTy) (fi : zFi) (fr : zFr) (ol : Int64) (L a : Nat) (hF : zFix τ fr) (he : fi 30 22 = nI L) (ha : fi 30 23 = nI a) (hL4 : L ≤ 400) (haL : a ≤ L) (n : Nat) (hMt : zMt fi n) (t0 : Nat) (ht0 : t0 < n) : Met l yX12_thingCode wsX12_thingCode ({ frames := 2, cells := 0, slots := 0, locals := 48 }) (va_Pc [.ref (τ.1 30), .int (nI t0)] (zQc D A sad τ fi fr ol)) (va_Qi (fun (r : Int32) (u : zFi) => True ∧ (∃ c, a ≤ c ∧ c ≤ L ∧ u 30 23 = nI c ∧ ((∃ t x, t < n ∧ zThg (fi 47) L (fi 31) n (some t0) (zS (fi 47) L a) = some (t, x) ∧ zS (fi 47) L c = x ∧ r = 1 ∧ u 30 25 = nI t ∧ u 30 24 = fi 30 24) ∨ (zThg (fi 47) L (fi 31) n (some t0) (zS (fi 47) L a) = none ∧ r = 0 ∧ u 30 24 = nI (zS (fi 47) L a)))) ∧ ∀ a b, ¬ (a = 30 ∧ 23 ≤ b ∧ b ≤ 25) → u a b = fi a b) (fun (u : zFi) (t : State) => zH D A τ u fr ol t t.heap) A) 0 0 A := by
  refine Met.ofW (cc := cX12_thingCode) (maxL := 5) (ret := (some .boolean)) (by decide) rfl ?_
  intro p9 e9 s m args below meth c9 s₁ B hml hv
  obtain ⟨rfl, hz, hH, hA⟩ := hv
  have hx := B.exec
  have hb := B.bytes
  have hr := B.returns
  have hts := atoms_spec (ws := wsX12_thingCode) B.pre
  have hown : s.vm.findClass RX12 = some m.cls := findClass_of_methodNamed B.named
  have hlocks := B.notSynchronized
  have hS : va_S A s.heap s.heap [] := va_S.rf
  have hl := lv_entry ([.ref (τ.1 30), .int (nI t0)]) (n := 5) (Nat.le_of_ble_eq_true rfl)
  rw [lg_entry_eq]
  generalize (lg_sl ([.ref (τ.1 30), .int (nI t0)]) ++ List.replicate (5 - (lg_sl ([.ref (τ.1 30), .int (nI t0)])).length) Slot.unset).toArray = ls at hl ⊢
  have hl : lv_has ls 5 [(0, .ref (τ.1 30)), (1, .int (nI t0))] := hl
  have hm30 := hMt.1
  obtain ⟨w24, hw24⟩ : ∃ w, fi 30 24 = w := ⟨_, rfl⟩
  have hiX12 : ∀ w ∈ u_ws RX12 TX12 71, w ∈ wsX12_thingCode := fun _ h => List.mem_cons_of_mem _ (List.mem_append_right _ h)
  have hw1 := hts (.fieldLink RX12 206 "PostHouseModel" "at" "I") (by decide +kernel)
  have hw2 := hts (.fieldLink RX12 229 "PostHouseModel" "number" "I") (by decide +kernel)
  refine lv_aload_n hx hb dX12_thingCode_0 rfl (lv_at hl 0 rfl) ?_
  refine va_calli (va_runV (As := []) (rest := []) ⟨hx, hb, hml, hown, hts⟩ (m_signX l hl0 D A sad τ fi fr ol L a hF he ha (by omega) (by omega)) (cwV 0 hts gX12_thingCode_X12_sign rfl rfl rfl (by decide +kernel) ⟨Nat.le_of_ble_eq_true rfl, Nat.le_of_ble_eq_true rfl⟩) ⟨zQc_bl, zRecv hH (zk_30 hF) rfl, zQc_at hz hS hA hH⟩ rfl rfl hl.1 rfl (lv_room (Nat.le_of_ble_eq_true rfl)) dX12_thingCode_1 ⟨Nat.le_of_ble_eq_true rfl, Nat.le_of_ble_eq_true rfl⟩) hS (fun q _ h => h) (fun q h => h) (fun r101 u9 t9 H1 locs ht9 hvm9 hw hB hz1 hk1 hS => ?_)
  have hH := zMv ht9 hvm9 hB
  clear hB
  generalize u9 = f102 at hw hH
  generalize H1 = H at hH hS ⊢
  obtain ⟨-, ⟨c103, hc104, hc105, q106, hx107⟩, hf108⟩ := hw
  have q109 : f102 30 22 = nI L := by rw [hf108 30 22 (by omega)]; exact he
  have q110 : f102 30 2 = nI n := by rw [hf108 30 2 (by omega)]; exact hMt.2.1
  have q111 : f102 30 24 = w24 := by rw [hf108 30 24 (by omega)]; exact hw24
  have hMt := zMt.ci (fi' := f102) hMt (fun i9 k9 h9 => hf108 i9 k9 (by omega))
  obtain ⟨hcz, -⟩ := hx107
  refine lv_istore_n (lv' := [(2, .int r101), (0, .ref (τ.1 30)), (1, .int (nI t0))]) hx hb dX12_thingCode_4 rfl hl (by decide) rfl (fun ls hl => ?_)
  refine lv_aload_n hx hb dX12_thingCode_5 rfl (lv_at hl 1 rfl) ?_
  refine zGetI (D := D) (ci := 12) (C := RX12) (T := TX12) (N := 71) hx hb hts hiX12 hown hH (zk_30 hF) rfl 23 (by decide) rfl hw1 (fun _ h9 => h9) dX12_thingCode_6 q106 ?_
  refine lv_istore_n (lv' := [(3, .int (nI c103)), (2, .int r101), (0, .ref (τ.1 30)), (1, .int (nI t0))]) hx hb dX12_thingCode_9 rfl hl (by decide) rfl (fun ls hl => ?_)
  refine lv_aload_n hx hb dX12_thingCode_10 rfl (lv_at hl 2 rfl) ?_
  refine lv_iconst (v := nI 4) hx hb dX12_thingCode_11 (by decide) ?_
  refine lv_iconst (v := nI 4) hx hb dX12_thingCode_12 (by decide) ?_
  refine lv_iconst (v := nI 0) hx hb dX12_thingCode_13 (by decide) ?_
  refine lv_sipush (v := nI 9999) hx hb dX12_thingCode_14 (by decide) ?_
  refine va_calli (va_runV (As := [.int (nI 4), .int (nI 4), .int (nI 0), .int (nI 9999)]) (rest := []) ⟨hx, hb, hml, hown, hts⟩ (m_digitsX l hl0 D A sad τ f102 fr ol L c103 hF q109 q106 (by omega) (by omega) 4 4 (by omega) (by omega) (nI 0) (nI 9999)) (cwV 4 hts gX12_thingCode_X12_digits rfl rfl rfl (by decide +kernel) ⟨Nat.le_of_ble_eq_true rfl, Nat.le_of_ble_eq_true rfl⟩) ⟨zQc_bl, zRecv hH (zk_30 hF) rfl, zQc_at hz hS hA hH⟩ rfl rfl hl.1 rfl (lv_room (Nat.le_of_ble_eq_true rfl)) dX12_thingCode_17 ⟨Nat.le_of_ble_eq_true rfl, Nat.le_of_ble_eq_true rfl⟩) hS (fun q _ h => h) (fun q h => h) (fun r112 u9 t9 H1 locs ht9 hvm9 hw hB hz1 hk1 hS => ?_)
  have hH := zMv ht9 hvm9 hB
  clear hB
  generalize u9 = f113 at hw hH
  generalize H1 = H at hH hS ⊢
  obtain ⟨-, ⟨c114, hc115, hc116, q117, hx118⟩, hf119⟩ := hw
  rw [(funext (fun k9 => by rw [hf108 47 k9 (by omega)]) : f102 47 = fi 47)] at hx118
  have q120 : f113 30 22 = nI L := by rw [hf119 30 22 (by omega)]; exact q109
  have q121 : f113 30 2 = nI n := by rw [hf119 30 2 (by omega)]; exact q110
  have hMt := zMt.ci (fi' := f113) hMt (fun i9 k9 h9 => hf119 i9 k9 (by omega))
  rw [show zS (fi 47) L c103 = zS (fi 47) L a from by rw [hcz]; exact zS_idem haL] at hx118
  rcases hx118 with ⟨v25, x25, hnm, hzx, rfl, h25, h24⟩ | ⟨hnm, rfl, h24⟩
  · skip
    have q122 : f113 30 24 = w24 := h24.trans q111
    refine lv_if_ne (tgt := 25) hx hb dX12_thingCode_20 (by decide) (fun c123 => ?_) (fun c123 => absurd c123 (by decide))
    refine lv_aload_n hx hb dX12_thingCode_25 rfl (lv_at hl 2 rfl) ?_
    refine lv_aload_n hx hb dX12_thingCode_26 rfl (lv_at hl 2 rfl) ?_
    refine zGetI (D := D) (ci := 12) (C := RX12) (T := TX12) (N := 71) hx hb hts hiX12 hown hH (zk_30 hF) rfl 25 (by decide) rfl hw2 (fun _ h9 => h9) dX12_thingCode_27 h25 ?_
    refine va_calli (va_runV (As := [.int v25]) (rest := []) ⟨hx, hb, hml, hown, hts⟩ (m_thingOf l hl0 D A sad τ f113 fr ol v25 hF n q121 (by omega)) (cwV 1 hts gX12_thingCode_X12_thingOf rfl rfl rfl (by decide +kernel) ⟨Nat.le_of_ble_eq_true rfl, Nat.le_of_ble_eq_true rfl⟩) ⟨zQc_bl, zRecv hH (zk_30 hF) rfl, zQc_at hz hS hA hH⟩ rfl rfl hl.1 rfl (lv_room (Nat.le_of_ble_eq_true rfl)) dX12_thingCode_30 ⟨Nat.le_of_ble_eq_true rfl, Nat.le_of_ble_eq_true rfl⟩) hS (fun q _ h => h) (fun q h => h) (fun r124 u9 t9 H1 locs ht9 hvm9 hw hB hz1 hk1 hS => ?_)
    have hH := zMv ht9 hvm9 hB
    generalize H1 = H at hH hS ⊢
    rw [(funext (fun k9 => by rw [hf119 31 k9 (by omega), hf108 31 k9 (by omega)]) : f113 31 = fi 31)] at hw
    rcases hw with ⟨t, ht, hcd, hcl, rfl⟩ | ⟨hno, rfl⟩
    · skip
      refine lv_istore (lv' := [(4, .int (nI t)), (3, .int (nI c103)), (2, .int r101), (0, .ref (τ.1 30)), (1, .int (nI t0))]) hx hb dX12_thingCode_33 hl (by decide) rfl (fun ls hl => ?_)
      refine lv_iload hx hb dX12_thingCode_35 (lv_at hl 0 rfl) ?_
      refine lv_iconst (v := (-1)) hx hb dX12_thingCode_37 (by decide) ?_
      refine lv_icmp_eq (tgt := 47) hx hb dX12_thingCode_38 (by decide) (fun c125 => False.elim (by have zc125 := zc_eq (nI_toInt (by omega)) ((by decide : ((-1) : Int32).toInt = (-1))) c125; omega)) (fun c125 => ?_)
      refine lv_iload hx hb dX12_thingCode_41 (lv_at hl 0 rfl) ?_
      refine lv_iload_n hx hb dX12_thingCode_43 rfl (lv_at hl 4 rfl) ?_
      refine lv_icmp_ne (tgt := 53) hx hb dX12_thingCode_44 (by decide) (fun c126 => ?_) (fun c126 => ?_)
      · have zc126 := c126
        replace zc126 := zc_neq (nI_toInt (by omega)) (nI_toInt (by omega)) zc126
        refine lv_aload_n hx hb dX12_thingCode_53 rfl (lv_at hl 3 rfl) ?_
        refine lv_iload hx hb dX12_thingCode_54 (lv_at hl 0 rfl) ?_
        refine zPutI (D := D) (ci := 12) (ty := .int) (C := RX12) (T := TX12) (N := 71) hx hb hts hiX12 tyX12 tyX12_ok nmX12 hown hH hS (zk_30 hF) rfl 25 (by decide) rfl hw2 (fun _ h9 => h9) rfl (by decide +kernel) rfl rfl dX12_thingCode_56 (fun H locs hH hS => ?_)
        obtain ⟨f127, ef127⟩ : ∃ f9 : zFi, f9 = zu f113 30 25 (nI t) := ⟨_, rfl⟩
        rw [← ef127] at hH
        have q128 : f127 30 22 = nI L := by rw [ef127, zu_n (fun h9 => absurd h9.2 (by decide))]; exact q120
        have q129 : f127 30 2 = nI n := by rw [ef127, zu_n (fun h9 => absurd h9.2 (by decide))]; exact q121
        have q130 : f127 30 23 = nI c114 := by rw [ef127, zu_n (fun h9 => absurd h9.2 (by decide))]; exact q117
        have q131 : f127 30 24 = w24 := by rw [ef127, zu_n (fun h9 => absurd h9.2 (by decide))]; exact q122
        have q132 : f127 30 25 = nI t := by rw [ef127]; exact zu_s
        have hMt := zMt.ci (fi' := f127) hMt (fun i9 k9 h9 => by rw [ef127]; exact zu_n (by omega))
        refine lv_iconst (v := nI 1) hx hb dX12_thingCode_59 (by decide) ?_
        refine W.widen (k := 0) (n := 0) (by decide) (by decide) ?_
        exact W.zret (v := nI 1) hx hb hr (by decide) (fun t9 ht9 hW9 => ⟨⟨nI 1, f127, rfl, ⟨trivial, ⟨c114, by omega, by omega, q130, Or.inl ⟨t, x25, by omega, zThg_3 hnm ht hcd hcl (fun h8 => by have h9 := Option.some.inj h8; omega), hzx, rfl, q132, q131.trans hw24.symm⟩⟩, fun a b h => by rw [ef127, zu_n (by omega), hf119 a b (by omega), hf108 a b (by omega)]⟩, zEnd1 hH ht9 hW9⟩, hS.F ht9⟩) hS.2.2 dX12_thingCode_60
      · have zc126 := c126
        replace zc126 := zc_eq (nI_toInt (by omega)) (nI_toInt (by omega)) zc126
        refine lv_aload_n hx hb dX12_thingCode_47 rfl (lv_at hl 3 rfl) ?_
        refine lv_iload_n hx hb dX12_thingCode_48 rfl (lv_at hl 1 rfl) ?_
        refine va_calli (va_runV (As := [.int (nI c103)]) (rest := []) ⟨hx, hb, hml, hown, hts⟩ (m_wrongX l hl0 D A sad τ f113 fr ol (nI c103) hF) (cwV 1 hts gX12_thingCode_X12_wrong rfl rfl rfl (by decide +kernel) ⟨Nat.le_of_ble_eq_true rfl, Nat.le_of_ble_eq_true rfl⟩) ⟨zQc_bl, zRecv hH (zk_30 hF) rfl, zQc_at hz hS hA hH⟩ rfl rfl hl.1 rfl (lv_room (Nat.le_of_ble_eq_true rfl)) dX12_thingCode_49 ⟨Nat.le_of_ble_eq_true rfl, Nat.le_of_ble_eq_true rfl⟩) hS (fun q _ h => h) (fun q h => h) (fun r133 u9 t9 H1 locs ht9 hvm9 hw hB hz1 hk1 hS => ?_)
        have hH := zMv ht9 hvm9 hB
        clear hB
        generalize u9 = f134 at hw hH
        generalize H1 = H at hH hS ⊢
        obtain ⟨rfl, ef134⟩ := hw
        have q135 : f134 30 22 = nI L := by rw [ef134, zu_n (fun h9 => absurd h9.2 (by decide))]; exact q120
        have q136 : f134 30 2 = nI n := by rw [ef134, zu_n (fun h9 => absurd h9.2 (by decide))]; exact q121
        have q137 : f134 30 23 = nI c114 := by rw [ef134, zu_n (fun h9 => absurd h9.2 (by decide))]; exact q117
        have q138 : f134 30 25 = v25 := by rw [ef134, zu_n (fun h9 => absurd h9.2 (by decide))]; exact h25
        have q139 : f134 30 24 = nI c103 := by rw [ef134]; exact zu_s
        have hMt := zMt.ci (fi' := f134) hMt (fun i9 k9 h9 => by rw [ef134]; exact zu_n (by omega))
        refine W.widen (k := 0) (n := 0) (by decide) (by decide) ?_
        exact W.zret (v := 0) hx hb hr (by decide) (fun t9 ht9 hW9 => ⟨⟨0, f134, rfl, ⟨trivial, ⟨c114, by omega, by omega, q137, Or.inr ⟨zThg_2 hnm ht hcd hcl (by rw [show t = t0 by omega]), rfl, by rw [ef134, zu_s, hcz]⟩⟩, fun a b h => by rw [ef134, zu_n (by omega), hf119 a b (by omega), hf108 a b (by omega)]⟩, zEnd1 hH ht9 hW9⟩, hS.F ht9⟩) hS.2.2 dX12_thingCode_52
    · skip
      refine lv_istore (lv' := [(4, .int ((-1))), (3, .int (nI c103)), (2, .int r101), (0, .ref (τ.1 30)), (1, .int (nI t0))]) hx hb dX12_thingCode_33 hl (by decide) rfl (fun ls hl => ?_)
      refine lv_iload hx hb dX12_thingCode_35 (lv_at hl 0 rfl) ?_
      refine lv_iconst (v := (-1)) hx hb dX12_thingCode_37 (by decide) ?_
      refine lv_icmp_eq (tgt := 47) hx hb dX12_thingCode_38 (by decide) (fun c140 => ?_) (fun c140 => absurd (by decide) c140)
      refine lv_aload_n hx hb dX12_thingCode_47 rfl (lv_at hl 3 rfl) ?_
      refine lv_iload_n hx hb dX12_thingCode_48 rfl (lv_at hl 1 rfl) ?_
      refine va_calli (va_runV (As := [.int (nI c103)]) (rest := []) ⟨hx, hb, hml, hown, hts⟩ (m_wrongX l hl0 D A sad τ f113 fr ol (nI c103) hF) (cwV 1 hts gX12_thingCode_X12_wrong rfl rfl rfl (by decide +kernel) ⟨Nat.le_of_ble_eq_true rfl, Nat.le_of_ble_eq_true rfl⟩) ⟨zQc_bl, zRecv hH (zk_30 hF) rfl, zQc_at hz hS hA hH⟩ rfl rfl hl.1 rfl (lv_room (Nat.le_of_ble_eq_true rfl)) dX12_thingCode_49 ⟨Nat.le_of_ble_eq_true rfl, Nat.le_of_ble_eq_true rfl⟩) hS (fun q _ h => h) (fun q h => h) (fun r141 u9 t9 H1 locs ht9 hvm9 hw hB hz1 hk1 hS => ?_)
      have hH := zMv ht9 hvm9 hB
      clear hB
      generalize u9 = f142 at hw hH
      generalize H1 = H at hH hS ⊢
      obtain ⟨rfl, ef142⟩ := hw
      have q143 : f142 30 22 = nI L := by rw [ef142, zu_n (fun h9 => absurd h9.2 (by decide))]; exact q120
      have q144 : f142 30 2 = nI n := by rw [ef142, zu_n (fun h9 => absurd h9.2 (by decide))]; exact q121
      have q145 : f142 30 23 = nI c114 := by rw [ef142, zu_n (fun h9 => absurd h9.2 (by decide))]; exact q117
      have q146 : f142 30 25 = v25 := by rw [ef142, zu_n (fun h9 => absurd h9.2 (by decide))]; exact h25
      have q147 : f142 30 24 = nI c103 := by rw [ef142]; exact zu_s
      have hMt := zMt.ci (fi' := f142) hMt (fun i9 k9 h9 => by rw [ef142]; exact zu_n (by omega))
      refine W.widen (k := 0) (n := 0) (by decide) (by decide) ?_
      exact W.zret (v := 0) hx hb hr (by decide) (fun t9 ht9 hW9 => ⟨⟨0, f142, rfl, ⟨trivial, ⟨c114, by omega, by omega, q145, Or.inr ⟨zThg_1 hnm hno, rfl, by rw [ef142, zu_s, hcz]⟩⟩, fun a b h => by rw [ef142, zu_n (by omega), hf119 a b (by omega), hf108 a b (by omega)]⟩, zEnd1 hH ht9 hW9⟩, hS.F ht9⟩) hS.2.2 dX12_thingCode_52
  · skip
    refine lv_if_ne (tgt := 25) hx hb dX12_thingCode_20 (by decide) (fun c148 => absurd (by decide) c148) (fun c148 => ?_)
    refine lv_iconst (v := nI 0) hx hb dX12_thingCode_23 (by decide) ?_
    refine W.widen (k := 0) (n := 0) (by decide) (by decide) ?_
    exact W.zret (v := nI 0) hx hb hr (by decide) (fun t9 ht9 hW9 => ⟨⟨nI 0, f113, rfl, ⟨trivial, ⟨c114, by omega, by omega, q117, Or.inr ⟨zThg_0 hnm, rfl, h24⟩⟩, fun a b h => by rw [hf119 a b (by omega), hf108 a b (by omega)]⟩, zEnd1 hH ht9 hW9⟩, hS.F ht9⟩) hS.2.2 dX12_thingCode_24
set_option maxHeartbeats 4000000 in
set_option maxRecDepth 100000 in
/-- readRule -/
theorem m_readRuleX (l : Launch) (hl0 : l.stackTraces = false) (D : va_G) (A : Nat → Prop) (sad : Nat → Nat) (τ : zTy) (fi : zFi) (fr : zFr) (ol : Int64) (L a : Nat) (hF : zFix τ fr) (he : fi 30 22 = nI L) (ha : fi 30 23 = nI a) (hL4 : L ≤ 400) (haL : a ≤ L) (n : Nat) (hMt : zMt fi n) (hMd : zMd fi n) : Met l yX12_readRule wsX12_readRule ({ frames := 3, cells := 0, slots := 0, locals := 72 }) (va_Pc [.ref (τ.1 30)] (zQc D A sad τ fi fr ol)) (va_Qi (fun (r : Int32) (u : zFi) => True ∧ (∃ c, a ≤ c ∧ c ≤ L ∧ u 30 23 = nI c ∧ ((∃ xx, zRul (fi 47) L (fi 31) n (zS (fi 47) L a) = .ok xx ∧ zS (fi 47) L c = xx.1 ∧ r = 1 ∧ u 30 24 = fi 30 24 ∧ zDmo u = zup (zDmo fi) xx.2.1 xx.2.2) ∨ (∃ p, p ≤ 400 ∧ zRul (fi 47) L (fi 31) n (zS (fi 47) L a) = .error p ∧ r = 0 ∧ u 30 24 = nI p))) ∧ zMd u n ∧ ∀ a b, ¬ (a = 45 ∨ a = 46 ∨ (a = 30 ∧ 23 ≤ b ∧ b ≤ 25)) → u a b = fi a b) (fun (u : zFi) (t : State) => zH D A τ u fr ol t t.heap) A) 0 0 A := by
  refine Met.ofW (cc := cX12_readRule) (maxL := 2) (ret := (some .boolean)) (by decide) rfl ?_
  intro p9 e9 s m args below meth c9 s₁ B hml hv
  obtain ⟨rfl, hz, hH, hA⟩ := hv
  have hx := B.exec
  have hb := B.bytes
  have hr := B.returns
  have hts := atoms_spec (ws := wsX12_readRule) B.pre
  have hown : s.vm.findClass RX12 = some m.cls := findClass_of_methodNamed B.named
  have hlocks := B.notSynchronized
  have hS : va_S A s.heap s.heap [] := va_S.rf
  have hl := lv_entry ([.ref (τ.1 30)]) (n := 2) (Nat.le_of_ble_eq_true rfl)
  rw [lg_entry_eq]
  generalize (lg_sl ([.ref (τ.1 30)]) ++ List.replicate (2 - (lg_sl ([.ref (τ.1 30)])).length) Slot.unset).toArray = ls at hl ⊢
  have hl : lv_has ls 2 [(0, .ref (τ.1 30))] := hl
  have hm30 := hMt.1
  obtain ⟨w24, hw24⟩ : ∃ w, fi 30 24 = w := ⟨_, rfl⟩
  have hw0 := hts (.constantLong RX12 236 482854658917) (by decide +kernel)
  have hw1 := hts (.fieldLink RX12 206 "PostHouseModel" "at" "I") (by decide +kernel)
  have hiX12 : ∀ w ∈ u_ws RX12 TX12 71, w ∈ wsX12_readRule := fun _ h => List.mem_cons_of_mem _ (List.mem_append_right _ h)
  have hw3 := hts (.fieldLink RX12 229 "PostHouseModel" "number" "I") (by decide +kernel)
  have hw4 := hts (.constantLong RX12 241 25209) (by decide +kernel)
  have hw5 := hts (.fieldLink RX12 55 "PostHouseModel" "draftOther" "[I") (by decide +kernel)
  have hw6 := hts (.constantLong RX12 246 108187682958948) (by decide +kernel)
  have hw7 := hts (.fieldLink RX12 52 "PostHouseModel" "draft" "[I") (by decide +kernel)
  have hw8 := hts (.constantLong RX12 248 1886352244) (by decide +kernel)
  have hw9 := hts (.constantLong RX12 250 1718773093) (by decide +kernel)
  have hw10 := hts (.constant RX12 254 999999) (by decide +kernel)
  have hw11 := hts (.constantLong RX12 252 1650549611) (by decide +kernel)
  refine lv_aload_n hx hb dX12_readRule_0 rfl (lv_at hl 0 rfl) ?_
  refine lv_ldc2 (v := 482854658917) hx hb hown hw0 dX12_readRule_1 ?_
  refine va_calli (va_runV (As := [.long 482854658917]) (rest := []) ⟨hx, hb, hml, hown, hts⟩ (m_isWordX l hl0 D A sad τ fi fr ol L a hF he ha (by omega) (by omega) 482854658917) (cwV 1 hts gX12_readRule_X12_isWord rfl rfl rfl (by decide +kernel) ⟨Nat.le_of_ble_eq_true rfl, Nat.le_of_ble_eq_true rfl⟩) ⟨zQc_bl, zRecv hH (zk_30 hF) rfl, zQc_at hz hS hA hH⟩ rfl rfl hl.1 rfl (lv_room (Nat.le_of_ble_eq_true rfl)) dX12_readRule_4 ⟨Nat.le_of_ble_eq_true rfl, Nat.le_of_ble_eq_true rfl⟩) hS (fun q _ h => h) (fun q h => h) (fun r104 u9 t9 H1 locs ht9 hvm9 hw hB hz1 hk1 hS => ?_)
  have hH := zMv ht9 hvm9 hB
  clear hB
  generalize u9 = f105 at hw hH
  generalize H1 = H at hH hS ⊢
  obtain ⟨-, ⟨c106, hc107, hc108, q109, hx110⟩, hf111⟩ := hw
  have q112 : f105 30 22 = nI L := by rw [hf111 30 22 (by omega)]; exact he
  have q113 : f105 30 2 = nI n := by rw [hf111 30 2 (by omega)]; exact hMt.2.1
  have q114 : f105 30 24 = w24 := by rw [hf111 30 24 (by omega)]; exact hw24
  have hMt := zMt.ci (fi' := f105) hMt (fun i9 k9 h9 => hf111 i9 k9 (by omega))
  have hMd := zMd.ci (fi' := f105) hMd (fun i9 k9 h9 => hf111 i9 k9 (by omega))
  obtain ⟨hcz102, hok101⟩ := hx110
  have hk103 : c106 = zS (fi 47) L a := hcz102
  rcases hok101 with ⟨rfl, hok101⟩ | ⟨rfl, hok101⟩
  · skip
    refine lv_if_eq (tgt := 65) hx hb dX12_readRule_7 (by decide) (fun c115 => absurd c115 (by decide)) (fun c115 => ?_)
    refine lv_aload_n hx hb dX12_readRule_10 rfl (lv_at hl 0 rfl) ?_
    refine lv_aload_n hx hb dX12_readRule_11 rfl (lv_at hl 0 rfl) ?_
    refine va_calli (va_runV (As := []) (rest := [.ref (τ.1 30)]) ⟨hx, hb, hml, hown, hts⟩ (m_wordEndX l hl0 D A sad τ f105 fr ol L c106 hF q112 q109 (by omega) (by omega)) (cwV 0 hts gX12_readRule_X12_wordEnd rfl rfl rfl (by decide +kernel) ⟨Nat.le_of_ble_eq_true rfl, Nat.le_of_ble_eq_true rfl⟩) ⟨zQc_bl, zRecv hH (zk_30 hF) rfl, zQc_at hz hS hA hH⟩ rfl rfl hl.1 rfl (lv_room (Nat.le_of_ble_eq_true rfl)) dX12_readRule_12 ⟨Nat.le_of_ble_eq_true rfl, Nat.le_of_ble_eq_true rfl⟩) hS (fun q _ h => h) (fun q h => h) (fun r116 u9 t9 H1 locs ht9 hvm9 hw hB hz1 hk1 hS => ?_)
    have hH := zMv ht9 hvm9 hB
    generalize H1 = H at hH hS ⊢
    obtain ⟨c117, h1c117, h2c117, rfl, hwe⟩ := hw
    rw [(funext (fun k9 => by rw [hf111 47 k9 (by omega)]) : f105 47 = fi 47)] at hwe
    have hWplace : zWrd (fi 47) L [112, 108, 97, 99, 101] (zS (fi 47) L a) = some (zS (fi 47) L c117) := hok101.yesE zWs_place hwe (by omega) hk103
    refine zPutI (D := D) (ci := 12) (ty := .int) (C := RX12) (T := TX12) (N := 71) hx hb hts hiX12 tyX12 tyX12_ok nmX12 hown hH hS (zk_30 hF) rfl 23 (by decide) rfl hw1 (fun _ h9 => h9) rfl (by decide +kernel) rfl rfl dX12_readRule_15 (fun H locs hH hS => ?_)
    obtain ⟨f118, ef118⟩ : ∃ f9 : zFi, f9 = zu f105 30 23 (nI c117) := ⟨_, rfl⟩
    rw [← ef118] at hH
    have q119 : f118 30 22 = nI L := by rw [ef118, zu_n (fun h9 => absurd h9.2 (by decide))]; exact q112
    have q120 : f118 30 2 = nI n := by rw [ef118, zu_n (fun h9 => absurd h9.2 (by decide))]; exact q113
    have q121 : f118 30 24 = w24 := by rw [ef118, zu_n (fun h9 => absurd h9.2 (by decide))]; exact q114
    have q122 : f118 30 23 = nI c117 := by rw [ef118]; exact zu_s
    have hMt := zMt.ci (fi' := f118) hMt (fun i9 k9 h9 => by rw [ef118]; exact zu_n (by omega))
    have hMd := zMd.ci (fi' := f118) hMd (fun i9 k9 h9 => by rw [ef118]; exact zu_n (by omega))
    refine lv_aload_n hx hb dX12_readRule_18 rfl (lv_at hl 0 rfl) ?_
    refine lv_iconst (v := (-1)) hx hb dX12_readRule_19 (by decide) ?_
    refine va_calli (va_runV (As := [.int ((-1))]) (rest := []) ⟨hx, hb, hml, hown, hts⟩ (m_thingCodeXN l hl0 D A sad τ f118 fr ol L c117 hF q119 q122 (by omega) (by omega) n hMt) (cwV 1 hts gX12_readRule_X12_thingCode rfl rfl rfl (by decide +kernel) ⟨Nat.le_of_ble_eq_true rfl, Nat.le_of_ble_eq_true rfl⟩) ⟨zQc_bl, zRecv hH (zk_30 hF) rfl, zQc_at hz hS hA hH⟩ rfl rfl hl.1 rfl (lv_room (Nat.le_of_ble_eq_true rfl)) dX12_readRule_20 ⟨Nat.le_of_ble_eq_true rfl, Nat.le_of_ble_eq_true rfl⟩) hS (fun q _ h => h) (fun q h => h) (fun r123 u9 t9 H1 locs ht9 hvm9 hw hB hz1 hk1 hS => ?_)
    have hH := zMv ht9 hvm9 hB
    clear hB
    generalize u9 = f124 at hw hH
    generalize H1 = H at hH hS ⊢
    obtain ⟨-, ⟨c125, hc126, hc127, q128, hx129⟩, hf130⟩ := hw
    rw [(funext (fun k9 => by rw [ef118, zu_n (by omega), hf111 47 k9 (by omega)]) : f118 47 = fi 47)] at hx129
    rw [(funext (fun k9 => by rw [ef118, zu_n (by omega), hf111 31 k9 (by omega)]) : f118 31 = fi 31)] at hx129
    have q131 : f124 30 22 = nI L := by rw [hf130 30 22 (by omega)]; exact q119
    have q132 : f124 30 2 = nI n := by rw [hf130 30 2 (by omega)]; exact q120
    have hMt := zMt.ci (fi' := f124) hMt (fun i9 k9 h9 => hf130 i9 k9 (by omega))
    have hMd := zMd.ci (fi' := f124) hMd (fun i9 k9 h9 => hf130 i9 k9 (by omega))
    rcases hx129 with ⟨tc1, _, htc1, hT1, rfl, rfl, h25tc1, h24tc1⟩ | ⟨hT1, rfl, h24tc1⟩
    · skip
      have q133 : f124 30 24 = w24 := h24tc1.trans q121
      refine lv_if_ne (tgt := 28) hx hb dX12_readRule_23 (by decide) (fun c134 => ?_) (fun c134 => absurd c134 (by decide))
      refine lv_aload_n hx hb dX12_readRule_28 rfl (lv_at hl 0 rfl) ?_
      refine zGetI (D := D) (ci := 12) (C := RX12) (T := TX12) (N := 71) hx hb hts hiX12 hown hH (zk_30 hF) rfl 25 (by decide) rfl hw3 (fun _ h9 => h9) dX12_readRule_29 h25tc1 ?_
      refine lv_istore_n (lv' := [(1, .int (nI tc1)), (0, .ref (τ.1 30))]) hx hb dX12_readRule_32 rfl hl (by decide) rfl (fun ls hl => ?_)
      refine lv_aload_n hx hb dX12_readRule_33 rfl (lv_at hl 1 rfl) ?_
      refine lv_ldc2 (v := 25209) hx hb hown hw4 dX12_readRule_34 ?_
      refine va_calli (va_runV (As := [.long 25209]) (rest := []) ⟨hx, hb, hml, hown, hts⟩ (m_passesX l hl0 D A sad τ f124 fr ol L c125 hF q131 q128 (by omega) (by omega) 25209 ([98, 121]) zWs_by) (cwV 1 hts gX12_readRule_X12_passes rfl rfl rfl (by decide +kernel) ⟨Nat.le_of_ble_eq_true rfl, Nat.le_of_ble_eq_true rfl⟩) ⟨zQc_bl, zRecv hH (zk_30 hF) rfl, zQc_at hz hS hA hH⟩ rfl rfl hl.1 rfl (lv_room (Nat.le_of_ble_eq_true rfl)) dX12_readRule_37 ⟨Nat.le_of_ble_eq_true rfl, Nat.le_of_ble_eq_true rfl⟩) hS (fun q _ h => h) (fun q h => h) (fun r135 u9 t9 H1 locs ht9 hvm9 hw hB hz1 hk1 hS => ?_)
      have hH := zMv ht9 hvm9 hB
      clear hB
      generalize u9 = f136 at hw hH
      generalize H1 = H at hH hS ⊢
      obtain ⟨-, ⟨c137, hc138, hc139, q140, hx141⟩, hf142⟩ := hw
      rw [(funext (fun k9 => by rw [hf130 47 k9 (by omega), ef118, zu_n (by omega), hf111 47 k9 (by omega)]) : f124 47 = fi 47)] at hx141
      have q143 : f136 30 22 = nI L := by rw [hf142 30 22 (by omega)]; exact q131
      have q144 : f136 30 2 = nI n := by rw [hf142 30 2 (by omega)]; exact q132
      have q145 : f136 30 25 = nI tc1 := by rw [hf142 30 25 (by omega)]; exact h25tc1
      have hMt := zMt.ci (fi' := f136) hMt (fun i9 k9 h9 => hf142 i9 k9 (by omega))
      have hMd := zMd.ci (fi' := f136) hMd (fun i9 k9 h9 => hf142 i9 k9 (by omega))
      rcases hx141 with ⟨_, hWby, rfl, rfl, h24by⟩ | ⟨hWby, rfl, h24by⟩
      · skip
        have q146 : f136 30 24 = w24 := h24by.trans q133
        refine lv_if_eq (tgt := 51) hx hb dX12_readRule_40 (by decide) (fun c147 => absurd c147 (by decide)) (fun c147 => ?_)
        refine lv_aload_n hx hb dX12_readRule_43 rfl (lv_at hl 1 rfl) ?_
        refine lv_iload_n hx hb dX12_readRule_44 rfl (lv_at hl 0 rfl) ?_
        refine va_calli (va_runV (As := [.int (nI tc1)]) (rest := []) ⟨hx, hb, hml, hown, hts⟩ (m_thingCodeXR l hl0 D A sad τ f136 fr ol L c137 hF q143 q140 (by omega) (by omega) n hMt tc1 htc1) (cwV 1 hts gX12_readRule_X12_thingCode rfl rfl rfl (by decide +kernel) ⟨Nat.le_of_ble_eq_true rfl, Nat.le_of_ble_eq_true rfl⟩) ⟨zQc_bl, zRecv hH (zk_30 hF) rfl, zQc_at hz hS hA hH⟩ rfl rfl hl.1 rfl (lv_room (Nat.le_of_ble_eq_true rfl)) dX12_readRule_45 ⟨Nat.le_of_ble_eq_true rfl, Nat.le_of_ble_eq_true rfl⟩) hS (fun q _ h => h) (fun q h => h) (fun r148 u9 t9 H1 locs ht9 hvm9 hw hB hz1 hk1 hS => ?_)
        have hH := zMv ht9 hvm9 hB
        clear hB
        generalize u9 = f149 at hw hH
        generalize H1 = H at hH hS ⊢
        obtain ⟨-, ⟨c150, hc151, hc152, q153, hx154⟩, hf155⟩ := hw
        rw [(funext (fun k9 => by rw [hf142 47 k9 (by omega), hf130 47 k9 (by omega), ef118, zu_n (by omega), hf111 47 k9 (by omega)]) : f136 47 = fi 47)] at hx154
        rw [(funext (fun k9 => by rw [hf142 31 k9 (by omega), hf130 31 k9 (by omega), ef118, zu_n (by omega), hf111 31 k9 (by omega)]) : f136 31 = fi 31)] at hx154
        have q156 : f149 30 22 = nI L := by rw [hf155 30 22 (by omega)]; exact q143
        have q157 : f149 30 2 = nI n := by rw [hf155 30 2 (by omega)]; exact q144
        have hMt := zMt.ci (fi' := f149) hMt (fun i9 k9 h9 => hf155 i9 k9 (by omega))
        have hMd := zMd.ci (fi' := f149) hMd (fun i9 k9 h9 => hf155 i9 k9 (by omega))
        rcases hx154 with ⟨tc2, _, htc2, hT2, rfl, rfl, h25tc2, h24tc2⟩ | ⟨hT2, rfl, h24tc2⟩
        · skip
          have q158 : f149 30 24 = w24 := h24tc2.trans q146
          refine lv_if_ne (tgt := 53) hx hb dX12_readRule_48 (by decide) (fun c159 => ?_) (fun c159 => absurd c159 (by decide))
          refine lv_aload_n hx hb dX12_readRule_53 rfl (lv_at hl 1 rfl) ?_
          refine zGetR (D := D) (ci := 12) (C := RX12) (T := TX12) (N := 71) hx hb hts hiX12 hown hH (zk_30 hF) rfl 19 (by decide) rfl hw5 (fun _ h9 => h9) dX12_readRule_54 (zr_30_19 hF) ?_
          refine lv_iload_n hx hb dX12_readRule_57 rfl (lv_at hl 0 rfl) ?_
          refine lv_aload_n hx hb dX12_readRule_58 rfl (lv_at hl 1 rfl) ?_
          refine zGetI (D := D) (ci := 12) (C := RX12) (T := TX12) (N := 71) hx hb hts hiX12 hown hH (zk_30 hF) rfl 25 (by decide) rfl hw3 (fun _ h9 => h9) dX12_readRule_59 h25tc2 ?_
          refine zIastN (D := D) hx hb hH hS (zk_46 hF) (zn_46 hF) (by omega) (by omega) dX12_readRule_62 (fun H locs hH hS => ?_)
          obtain ⟨f160, ef160⟩ : ∃ f9 : zFi, f9 = zu f149 46 tc1 (nI tc2) := ⟨_, rfl⟩
          rw [← ef160] at hH
          have q161 : f160 30 22 = nI L := by rw [ef160, zu_n (fun h9 => absurd h9.1 (by decide))]; exact q156
          have q162 : f160 30 2 = nI n := by rw [ef160, zu_n (fun h9 => absurd h9.1 (by decide))]; exact q157
          have q163 : f160 30 23 = nI c150 := by rw [ef160, zu_n (fun h9 => absurd h9.1 (by decide))]; exact q153
          have q164 : f160 30 25 = nI tc2 := by rw [ef160, zu_n (fun h9 => absurd h9.1 (by decide))]; exact h25tc2
          have q165 : f160 30 24 = w24 := by rw [ef160, zu_n (fun h9 => absurd h9.1 (by decide))]; exact q158
          have q166 : f160 46 tc1 = nI tc2 := by rw [ef160]; exact zu_s
          have hMt := zMt.ci (fi' := f160) hMt (fun i9 k9 h9 => by rw [ef160]; exact zu_n (by omega))
          have hMd := hMd.set ef160 (Or.inr ⟨tc2, htc2, rfl⟩)
          refine lv_iconst (v := nI 1) hx hb dX12_readRule_63 (by decide) ?_
          refine W.widen (k := 0) (n := 0) (by decide) (by decide) ?_
          exact W.zret (v := nI 1) hx hb hr (by decide) (fun t9 ht9 hW9 => ⟨⟨nI 1, f160, rfl, ⟨trivial, ⟨c150, by omega, by omega, q163, Or.inl ⟨(zS (fi 47) L c150, 4 + tc1, nI tc2), by simp only [zRul, zPlc, zKnd, hWplace, hT1, hWby, hT2], rfl, rfl, q165.trans hw24.symm, by rw [zDmo_plc (by omega) ef160, zDmo_cg (g := fi) (fun i k q => by rw [hf155 i k (by omega), hf142 i k (by omega), hf130 i k (by omega), ef118, zu_n (by omega), hf111 i k (by omega)])]⟩⟩, hMd, fun a b h => by rw [ef160, zu_n (by omega), hf155 a b (by omega), hf142 a b (by omega), hf130 a b (by omega), ef118, zu_n (by omega), hf111 a b (by omega)]⟩, zEnd1 hH ht9 hW9⟩, hS.F ht9⟩) hS.2.2 dX12_readRule_64
        · skip
          refine lv_if_ne (tgt := 53) hx hb dX12_readRule_48 (by decide) (fun c167 => absurd (by decide) c167) (fun c167 => ?_)
          refine lv_iconst (v := nI 0) hx hb dX12_readRule_51 (by decide) ?_
          refine W.widen (k := 0) (n := 0) (by decide) (by decide) ?_
          exact W.zret (v := nI 0) hx hb hr (by decide) (fun t9 ht9 hW9 => ⟨⟨nI 0, f149, rfl, ⟨trivial, ⟨c150, by omega, by omega, q153, Or.inr ⟨zS (fi 47) L c137, by have h9 := zS_le (b := fi 47) (n := L) (a := c137) (by omega); omega, by simp only [zRul, zPlc, zKnd, hWplace, hT1, hWby, hT2], rfl, h24tc2⟩⟩, hMd, fun a b h => by rw [hf155 a b (by omega), hf142 a b (by omega), hf130 a b (by omega), ef118, zu_n (by omega), hf111 a b (by omega)]⟩, zEnd1 hH ht9 hW9⟩, hS.F ht9⟩) hS.2.2 dX12_readRule_52
      · skip
        refine lv_if_eq (tgt := 51) hx hb dX12_readRule_40 (by decide) (fun c168 => ?_) (fun c168 => absurd (by decide) c168)
        refine lv_iconst (v := nI 0) hx hb dX12_readRule_51 (by decide) ?_
        refine W.widen (k := 0) (n := 0) (by decide) (by decide) ?_
        exact W.zret (v := nI 0) hx hb hr (by decide) (fun t9 ht9 hW9 => ⟨⟨nI 0, f136, rfl, ⟨trivial, ⟨c137, by omega, by omega, q140, Or.inr ⟨zS (fi 47) L c125, by have h9 := zS_le (b := fi 47) (n := L) (a := c125) (by omega); omega, by simp only [zRul, zPlc, zKnd, hWplace, hT1, hWby], rfl, h24by⟩⟩, hMd, fun a b h => by rw [hf142 a b (by omega), hf130 a b (by omega), ef118, zu_n (by omega), hf111 a b (by omega)]⟩, zEnd1 hH ht9 hW9⟩, hS.F ht9⟩) hS.2.2 dX12_readRule_52
    · skip
      refine lv_if_ne (tgt := 28) hx hb dX12_readRule_23 (by decide) (fun c169 => absurd (by decide) c169) (fun c169 => ?_)
      refine lv_iconst (v := nI 0) hx hb dX12_readRule_26 (by decide) ?_
      refine W.widen (k := 0) (n := 0) (by decide) (by decide) ?_
      exact W.zret (v := nI 0) hx hb hr (by decide) (fun t9 ht9 hW9 => ⟨⟨nI 0, f124, rfl, ⟨trivial, ⟨c125, by omega, by omega, q128, Or.inr ⟨zS (fi 47) L c117, by have h9 := zS_le (b := fi 47) (n := L) (a := c117) (by omega); omega, by simp only [zRul, zPlc, zKnd, hWplace, hT1], rfl, h24tc1⟩⟩, hMd, fun a b h => by rw [hf130 a b (by omega), ef118, zu_n (by omega), hf111 a b (by omega)]⟩, zEnd1 hH ht9 hW9⟩, hS.F ht9⟩) hS.2.2 dX12_readRule_27
  · skip
    have hWplace : zWrd (fi 47) L [112, 108, 97, 99, 101] (zS (fi 47) L a) = none := by rw [← hk103]; exact zOKw.no (by omega) zWs_place hok101
    refine lv_if_eq (tgt := 65) hx hb dX12_readRule_7 (by decide) (fun c170 => ?_) (fun c170 => absurd (by decide) c170)
    refine lv_aload_n hx hb dX12_readRule_65 rfl (lv_at hl 0 rfl) ?_
    refine lv_ldc2 (v := 108187682958948) hx hb hown hw6 dX12_readRule_66 ?_
    refine va_calli (va_runV (As := [.long 108187682958948]) (rest := []) ⟨hx, hb, hml, hown, hts⟩ (m_isWordX l hl0 D A sad τ f105 fr ol L c106 hF q112 q109 (by omega) (by omega) 108187682958948) (cwV 1 hts gX12_readRule_X12_isWord rfl rfl rfl (by decide +kernel) ⟨Nat.le_of_ble_eq_true rfl, Nat.le_of_ble_eq_true rfl⟩) ⟨zQc_bl, zRecv hH (zk_30 hF) rfl, zQc_at hz hS hA hH⟩ rfl rfl hl.1 rfl (lv_room (Nat.le_of_ble_eq_true rfl)) dX12_readRule_69 ⟨Nat.le_of_ble_eq_true rfl, Nat.le_of_ble_eq_true rfl⟩) hS (fun q _ h => h) (fun q h => h) (fun r174 u9 t9 H1 locs ht9 hvm9 hw hB hz1 hk1 hS => ?_)
    have hH := zMv ht9 hvm9 hB
    clear hB
    generalize u9 = f175 at hw hH
    generalize H1 = H at hH hS ⊢
    obtain ⟨-, ⟨c176, hc177, hc178, q179, hx180⟩, hf181⟩ := hw
    rw [(funext (fun k9 => by rw [hf111 47 k9 (by omega)]) : f105 47 = fi 47)] at hx180
    have q182 : f175 30 22 = nI L := by rw [hf181 30 22 (by omega)]; exact q112
    have q183 : f175 30 2 = nI n := by rw [hf181 30 2 (by omega)]; exact q113
    have q184 : f175 30 24 = w24 := by rw [hf181 30 24 (by omega)]; exact q114
    have hMt := zMt.ci (fi' := f175) hMt (fun i9 k9 h9 => hf181 i9 k9 (by omega))
    have hMd := zMd.ci (fi' := f175) hMd (fun i9 k9 h9 => hf181 i9 k9 (by omega))
    obtain ⟨hcz172, hok171⟩ := hx180
    have hk173 : c176 = zS (fi 47) L a := by rw [hcz172, hk103]; exact zS_idem haL
    rcases hok171 with ⟨rfl, hok171⟩ | ⟨rfl, hok171⟩
    · skip
      refine lv_if_eq (tgt := 79) hx hb dX12_readRule_72 (by decide) (fun c185 => absurd c185 (by decide)) (fun c185 => ?_)
      refine lv_iconst (v := nI 0) hx hb dX12_readRule_75 (by decide) ?_
      refine lv_goto (tgt := 122) hx hb dX12_readRule_76 (by decide) ?_
      refine lv_istore_n (lv' := [(1, .int (nI 0)), (0, .ref (τ.1 30))]) hx hb dX12_readRule_122 rfl hl (by decide) rfl (fun ls hl => ?_)
      refine lv_iload_n hx hb dX12_readRule_123 rfl (lv_at hl 0 rfl) ?_
      refine lv_iconst (v := (-1)) hx hb dX12_readRule_124 (by decide) ?_
      refine lv_icmp_ne (tgt := 137) hx hb dX12_readRule_125 (by decide) (fun c186 => ?_) (fun c186 => absurd c186 (by decide))
      refine lv_aload_n hx hb dX12_readRule_137 rfl (lv_at hl 1 rfl) ?_
      refine lv_aload_n hx hb dX12_readRule_138 rfl (lv_at hl 1 rfl) ?_
      refine va_calli (va_runV (As := []) (rest := [.ref (τ.1 30)]) ⟨hx, hb, hml, hown, hts⟩ (m_wordEndX l hl0 D A sad τ f175 fr ol L c176 hF q182 q179 (by omega) (by omega)) (cwV 0 hts gX12_readRule_X12_wordEnd rfl rfl rfl (by decide +kernel) ⟨Nat.le_of_ble_eq_true rfl, Nat.le_of_ble_eq_true rfl⟩) ⟨zQc_bl, zRecv hH (zk_30 hF) rfl, zQc_at hz hS hA hH⟩ rfl rfl hl.1 rfl (lv_room (Nat.le_of_ble_eq_true rfl)) dX12_readRule_139 ⟨Nat.le_of_ble_eq_true rfl, Nat.le_of_ble_eq_true rfl⟩) hS (fun q _ h => h) (fun q h => h) (fun r187 u9 t9 H1 locs ht9 hvm9 hw hB hz1 hk1 hS => ?_)
      have hH := zMv ht9 hvm9 hB
      generalize H1 = H at hH hS ⊢
      obtain ⟨c188, h1c188, h2c188, rfl, hwe⟩ := hw
      rw [(funext (fun k9 => by rw [hf181 47 k9 (by omega), hf111 47 k9 (by omega)]) : f175 47 = fi 47)] at hwe
      have hWbehind : zWrd (fi 47) L [98, 101, 104, 105, 110, 100] (zS (fi 47) L a) = some (zS (fi 47) L c188) := hok171.yesE zWs_behind hwe (by omega) hk173
      refine zPutI (D := D) (ci := 12) (ty := .int) (C := RX12) (T := TX12) (N := 71) hx hb hts hiX12 tyX12 tyX12_ok nmX12 hown hH hS (zk_30 hF) rfl 23 (by decide) rfl hw1 (fun _ h9 => h9) rfl (by decide +kernel) rfl rfl dX12_readRule_142 (fun H locs hH hS => ?_)
      obtain ⟨f189, ef189⟩ : ∃ f9 : zFi, f9 = zu f175 30 23 (nI c188) := ⟨_, rfl⟩
      rw [← ef189] at hH
      have q190 : f189 30 22 = nI L := by rw [ef189, zu_n (fun h9 => absurd h9.2 (by decide))]; exact q182
      have q191 : f189 30 2 = nI n := by rw [ef189, zu_n (fun h9 => absurd h9.2 (by decide))]; exact q183
      have q192 : f189 30 24 = w24 := by rw [ef189, zu_n (fun h9 => absurd h9.2 (by decide))]; exact q184
      have q193 : f189 30 23 = nI c188 := by rw [ef189]; exact zu_s
      have hMt := zMt.ci (fi' := f189) hMt (fun i9 k9 h9 => by rw [ef189]; exact zu_n (by omega))
      have hMd := zMd.ci (fi' := f189) hMd (fun i9 k9 h9 => by rw [ef189]; exact zu_n (by omega))
      refine lv_aload_n hx hb dX12_readRule_145 rfl (lv_at hl 1 rfl) ?_
      refine lv_iconst (v := nI 1) hx hb dX12_readRule_146 (by decide) ?_
      refine lv_bipush (v := nI 6) hx hb dX12_readRule_147 (by decide) ?_
      refine lv_iconst (v := nI 0) hx hb dX12_readRule_149 (by decide) ?_
      refine lv_iload_n hx hb dX12_readRule_150 rfl (lv_at hl 0 rfl) ?_
      refine lv_iconst (v := nI 1) hx hb dX12_readRule_151 (by decide) ?_
      refine lv_icmp_ne (tgt := 161) hx hb dX12_readRule_152 (by decide) (fun c194 => ?_) (fun c194 => absurd c194 (by decide))
      refine lv_iload_n hx hb dX12_readRule_161 rfl (lv_at hl 0 rfl) ?_
      refine lv_iconst (v := nI 2) hx hb dX12_readRule_162 (by decide) ?_
      refine lv_icmp_ne (tgt := 171) hx hb dX12_readRule_163 (by decide) (fun c195 => ?_) (fun c195 => absurd c195 (by decide))
      refine lv_bipush (v := nI 99) hx hb dX12_readRule_171 (by decide) ?_
      refine va_calli (va_runV (As := [.int (nI 1), .int (nI 6), .int (nI 0), .int (nI 99)]) (rest := []) ⟨hx, hb, hml, hown, hts⟩ (m_digitsX l hl0 D A sad τ f189 fr ol L c188 hF q190 q193 (by omega) (by omega) 1 6 (by omega) (by omega) (nI 0) (nI 99)) (cwV 4 hts gX12_readRule_X12_digits rfl rfl rfl (by decide +kernel) ⟨Nat.le_of_ble_eq_true rfl, Nat.le_of_ble_eq_true rfl⟩) ⟨zQc_bl, zRecv hH (zk_30 hF) rfl, zQc_at hz hS hA hH⟩ rfl rfl hl.1 rfl (lv_room (Nat.le_of_ble_eq_true rfl)) dX12_readRule_173 ⟨Nat.le_of_ble_eq_true rfl, Nat.le_of_ble_eq_true rfl⟩) hS (fun q _ h => h) (fun q h => h) (fun r196 u9 t9 H1 locs ht9 hvm9 hw hB hz1 hk1 hS => ?_)
      have hH := zMv ht9 hvm9 hB
      clear hB
      generalize u9 = f197 at hw hH
      generalize H1 = H at hH hS ⊢
      obtain ⟨-, ⟨c198, hc199, hc200, q201, hx202⟩, hf203⟩ := hw
      rw [(funext (fun k9 => by rw [ef189, zu_n (by omega), hf181 47 k9 (by omega), hf111 47 k9 (by omega)]) : f189 47 = fi 47)] at hx202
      have q204 : f197 30 22 = nI L := by rw [hf203 30 22 (by omega)]; exact q190
      have q205 : f197 30 2 = nI n := by rw [hf203 30 2 (by omega)]; exact q191
      have hMt := zMt.ci (fi' := f197) hMt (fun i9 k9 h9 => hf203 i9 k9 (by omega))
      have hMd := zMd.ci (fi' := f197) hMd (fun i9 k9 h9 => hf203 i9 k9 (by omega))
      rcases hx202 with ⟨v25, _, hnm, rfl, rfl, h25, h24d⟩ | ⟨hnm, rfl, h24d⟩
      · skip
        have q206 : f197 30 24 = w24 := h24d.trans q192
        refine lv_if_ne (tgt := 181) hx hb dX12_readRule_176 (by decide) (fun c207 => ?_) (fun c207 => absurd c207 (by decide))
        refine lv_aload_n hx hb dX12_readRule_181 rfl (lv_at hl 1 rfl) ?_
        refine zGetR (D := D) (ci := 12) (C := RX12) (T := TX12) (N := 71) hx hb hts hiX12 hown hH (zk_30 hF) rfl 18 (by decide) rfl hw7 (fun _ h9 => h9) dX12_readRule_182 (zr_30_18 hF) ?_
        refine lv_iload_n hx hb dX12_readRule_185 rfl (lv_at hl 0 rfl) ?_
        refine lv_aload_n hx hb dX12_readRule_186 rfl (lv_at hl 1 rfl) ?_
        refine zGetI (D := D) (ci := 12) (C := RX12) (T := TX12) (N := 71) hx hb hts hiX12 hown hH (zk_30 hF) rfl 25 (by decide) rfl hw3 (fun _ h9 => h9) dX12_readRule_187 h25 ?_
        refine zIastN (D := D) hx hb hH hS (zk_45 hF) (zn_45 hF) (by omega) (by omega) dX12_readRule_190 (fun H locs hH hS => ?_)
        obtain ⟨f208, ef208⟩ : ∃ f9 : zFi, f9 = zu f197 45 0 v25 := ⟨_, rfl⟩
        rw [← ef208] at hH
        have q209 : f208 30 22 = nI L := by rw [ef208, zu_n (fun h9 => absurd h9.1 (by decide))]; exact q204
        have q210 : f208 30 2 = nI n := by rw [ef208, zu_n (fun h9 => absurd h9.1 (by decide))]; exact q205
        have q211 : f208 30 23 = nI c198 := by rw [ef208, zu_n (fun h9 => absurd h9.1 (by decide))]; exact q201
        have q212 : f208 30 25 = v25 := by rw [ef208, zu_n (fun h9 => absurd h9.1 (by decide))]; exact h25
        have q213 : f208 30 24 = w24 := by rw [ef208, zu_n (fun h9 => absurd h9.1 (by decide))]; exact q206
        have q214 : f208 45 0 = v25 := by rw [ef208]; exact zu_s
        have hMt := zMt.ci (fi' := f208) hMt (fun i9 k9 h9 => by rw [ef208]; exact zu_n (by omega))
        have hMd := zMd.ci (fi' := f208) hMd (fun i9 k9 h9 => by rw [ef208]; exact zu_n (by omega))
        refine lv_iconst (v := nI 1) hx hb dX12_readRule_191 (by decide) ?_
        refine W.widen (k := 0) (n := 0) (by decide) (by decide) ?_
        exact W.zret (v := nI 1) hx hb hr (by decide) (fun t9 ht9 hW9 => ⟨⟨nI 1, f208, rfl, ⟨trivial, ⟨c198, by omega, by omega, q211, Or.inl ⟨(zS (fi 47) L c198, 0, v25), by simp only [zRul, zPlc, zKnd, hWplace, hWbehind, show zNum (fi 47) L 1 6 (nI 0) (zMost 0) (zS (fi 47) L c188) = some (v25, zS (fi 47) L c198) from hnm], rfl, rfl, q213.trans hw24.symm, by rw [zDmo_num (by omega) ef208, zDmo_cg (g := fi) (fun i k q => by rw [hf203 i k (by omega), ef189, zu_n (by omega), hf181 i k (by omega), hf111 i k (by omega)])]⟩⟩, hMd, fun a b h => by rw [ef208, zu_n (by omega), hf203 a b (by omega), ef189, zu_n (by omega), hf181 a b (by omega), hf111 a b (by omega)]⟩, zEnd1 hH ht9 hW9⟩, hS.F ht9⟩) hS.2.2 dX12_readRule_192
      · skip
        refine lv_if_ne (tgt := 181) hx hb dX12_readRule_176 (by decide) (fun c215 => absurd (by decide) c215) (fun c215 => ?_)
        refine lv_iconst (v := nI 0) hx hb dX12_readRule_179 (by decide) ?_
        refine W.widen (k := 0) (n := 0) (by decide) (by decide) ?_
        exact W.zret (v := nI 0) hx hb hr (by decide) (fun t9 ht9 hW9 => ⟨⟨nI 0, f197, rfl, ⟨trivial, ⟨c198, by omega, by omega, q201, Or.inr ⟨zS (fi 47) L c188, by have h9 := zS_le (b := fi 47) (n := L) (a := c188) (by omega); omega, by simp only [zRul, zPlc, zKnd, hWplace, hWbehind, show zNum (fi 47) L 1 6 (nI 0) (zMost 0) (zS (fi 47) L c188) = none from hnm], rfl, h24d⟩⟩, hMd, fun a b h => by rw [hf203 a b (by omega), ef189, zu_n (by omega), hf181 a b (by omega), hf111 a b (by omega)]⟩, zEnd1 hH ht9 hW9⟩, hS.F ht9⟩) hS.2.2 dX12_readRule_180
    · skip
      have hWbehind : zWrd (fi 47) L [98, 101, 104, 105, 110, 100] (zS (fi 47) L a) = none := by rw [← hk173]; exact zOKw.no (by omega) zWs_behind hok171
      refine lv_if_eq (tgt := 79) hx hb dX12_readRule_72 (by decide) (fun c216 => ?_) (fun c216 => absurd (by decide) c216)
      refine lv_aload_n hx hb dX12_readRule_79 rfl (lv_at hl 0 rfl) ?_
      refine lv_ldc2 (v := 1886352244) hx hb hown hw8 dX12_readRule_80 ?_
      refine va_calli (va_runV (As := [.long 1886352244]) (rest := []) ⟨hx, hb, hml, hown, hts⟩ (m_isWordX l hl0 D A sad τ f175 fr ol L c176 hF q182 q179 (by omega) (by omega) 1886352244) (cwV 1 hts gX12_readRule_X12_isWord rfl rfl rfl (by decide +kernel) ⟨Nat.le_of_ble_eq_true rfl, Nat.le_of_ble_eq_true rfl⟩) ⟨zQc_bl, zRecv hH (zk_30 hF) rfl, zQc_at hz hS hA hH⟩ rfl rfl hl.1 rfl (lv_room (Nat.le_of_ble_eq_true rfl)) dX12_readRule_83 ⟨Nat.le_of_ble_eq_true rfl, Nat.le_of_ble_eq_true rfl⟩) hS (fun q _ h => h) (fun q h => h) (fun r220 u9 t9 H1 locs ht9 hvm9 hw hB hz1 hk1 hS => ?_)
      have hH := zMv ht9 hvm9 hB
      clear hB
      generalize u9 = f221 at hw hH
      generalize H1 = H at hH hS ⊢
      obtain ⟨-, ⟨c222, hc223, hc224, q225, hx226⟩, hf227⟩ := hw
      rw [(funext (fun k9 => by rw [hf181 47 k9 (by omega), hf111 47 k9 (by omega)]) : f175 47 = fi 47)] at hx226
      have q228 : f221 30 22 = nI L := by rw [hf227 30 22 (by omega)]; exact q182
      have q229 : f221 30 2 = nI n := by rw [hf227 30 2 (by omega)]; exact q183
      have q230 : f221 30 24 = w24 := by rw [hf227 30 24 (by omega)]; exact q184
      have hMt := zMt.ci (fi' := f221) hMt (fun i9 k9 h9 => hf227 i9 k9 (by omega))
      have hMd := zMd.ci (fi' := f221) hMd (fun i9 k9 h9 => hf227 i9 k9 (by omega))
      obtain ⟨hcz218, hok217⟩ := hx226
      have hk219 : c222 = zS (fi 47) L a := by rw [hcz218, hk173]; exact zS_idem haL
      rcases hok217 with ⟨rfl, hok217⟩ | ⟨rfl, hok217⟩
      · skip
        refine lv_if_eq (tgt := 93) hx hb dX12_readRule_86 (by decide) (fun c231 => absurd c231 (by decide)) (fun c231 => ?_)
        refine lv_iconst (v := nI 1) hx hb dX12_readRule_89 (by decide) ?_
        refine lv_goto (tgt := 122) hx hb dX12_readRule_90 (by decide) ?_
        refine lv_istore_n (lv' := [(1, .int (nI 1)), (0, .ref (τ.1 30))]) hx hb dX12_readRule_122 rfl hl (by decide) rfl (fun ls hl => ?_)
        refine lv_iload_n hx hb dX12_readRule_123 rfl (lv_at hl 0 rfl) ?_
        refine lv_iconst (v := (-1)) hx hb dX12_readRule_124 (by decide) ?_
        refine lv_icmp_ne (tgt := 137) hx hb dX12_readRule_125 (by decide) (fun c232 => ?_) (fun c232 => absurd c232 (by decide))
        refine lv_aload_n hx hb dX12_readRule_137 rfl (lv_at hl 1 rfl) ?_
        refine lv_aload_n hx hb dX12_readRule_138 rfl (lv_at hl 1 rfl) ?_
        refine va_calli (va_runV (As := []) (rest := [.ref (τ.1 30)]) ⟨hx, hb, hml, hown, hts⟩ (m_wordEndX l hl0 D A sad τ f221 fr ol L c222 hF q228 q225 (by omega) (by omega)) (cwV 0 hts gX12_readRule_X12_wordEnd rfl rfl rfl (by decide +kernel) ⟨Nat.le_of_ble_eq_true rfl, Nat.le_of_ble_eq_true rfl⟩) ⟨zQc_bl, zRecv hH (zk_30 hF) rfl, zQc_at hz hS hA hH⟩ rfl rfl hl.1 rfl (lv_room (Nat.le_of_ble_eq_true rfl)) dX12_readRule_139 ⟨Nat.le_of_ble_eq_true rfl, Nat.le_of_ble_eq_true rfl⟩) hS (fun q _ h => h) (fun q h => h) (fun r233 u9 t9 H1 locs ht9 hvm9 hw hB hz1 hk1 hS => ?_)
        have hH := zMv ht9 hvm9 hB
        generalize H1 = H at hH hS ⊢
        obtain ⟨c234, h1c234, h2c234, rfl, hwe⟩ := hw
        rw [(funext (fun k9 => by rw [hf227 47 k9 (by omega), hf181 47 k9 (by omega), hf111 47 k9 (by omega)]) : f221 47 = fi 47)] at hwe
        have hWpost : zWrd (fi 47) L [112, 111, 115, 116] (zS (fi 47) L a) = some (zS (fi 47) L c234) := hok217.yesE zWs_post hwe (by omega) hk219
        refine zPutI (D := D) (ci := 12) (ty := .int) (C := RX12) (T := TX12) (N := 71) hx hb hts hiX12 tyX12 tyX12_ok nmX12 hown hH hS (zk_30 hF) rfl 23 (by decide) rfl hw1 (fun _ h9 => h9) rfl (by decide +kernel) rfl rfl dX12_readRule_142 (fun H locs hH hS => ?_)
        obtain ⟨f235, ef235⟩ : ∃ f9 : zFi, f9 = zu f221 30 23 (nI c234) := ⟨_, rfl⟩
        rw [← ef235] at hH
        have q236 : f235 30 22 = nI L := by rw [ef235, zu_n (fun h9 => absurd h9.2 (by decide))]; exact q228
        have q237 : f235 30 2 = nI n := by rw [ef235, zu_n (fun h9 => absurd h9.2 (by decide))]; exact q229
        have q238 : f235 30 24 = w24 := by rw [ef235, zu_n (fun h9 => absurd h9.2 (by decide))]; exact q230
        have q239 : f235 30 23 = nI c234 := by rw [ef235]; exact zu_s
        have hMt := zMt.ci (fi' := f235) hMt (fun i9 k9 h9 => by rw [ef235]; exact zu_n (by omega))
        have hMd := zMd.ci (fi' := f235) hMd (fun i9 k9 h9 => by rw [ef235]; exact zu_n (by omega))
        refine lv_aload_n hx hb dX12_readRule_145 rfl (lv_at hl 1 rfl) ?_
        refine lv_iconst (v := nI 1) hx hb dX12_readRule_146 (by decide) ?_
        refine lv_bipush (v := nI 6) hx hb dX12_readRule_147 (by decide) ?_
        refine lv_iconst (v := nI 0) hx hb dX12_readRule_149 (by decide) ?_
        refine lv_iload_n hx hb dX12_readRule_150 rfl (lv_at hl 0 rfl) ?_
        refine lv_iconst (v := nI 1) hx hb dX12_readRule_151 (by decide) ?_
        refine lv_icmp_ne (tgt := 161) hx hb dX12_readRule_152 (by decide) (fun c240 => absurd (by decide) c240) (fun c240 => ?_)
        refine lv_sipush (v := nI 9999) hx hb dX12_readRule_155 (by decide) ?_
        refine lv_goto (tgt := 173) hx hb dX12_readRule_158 (by decide) ?_
        refine va_calli (va_runV (As := [.int (nI 1), .int (nI 6), .int (nI 0), .int (nI 9999)]) (rest := []) ⟨hx, hb, hml, hown, hts⟩ (m_digitsX l hl0 D A sad τ f235 fr ol L c234 hF q236 q239 (by omega) (by omega) 1 6 (by omega) (by omega) (nI 0) (nI 9999)) (cwV 4 hts gX12_readRule_X12_digits rfl rfl rfl (by decide +kernel) ⟨Nat.le_of_ble_eq_true rfl, Nat.le_of_ble_eq_true rfl⟩) ⟨zQc_bl, zRecv hH (zk_30 hF) rfl, zQc_at hz hS hA hH⟩ rfl rfl hl.1 rfl (lv_room (Nat.le_of_ble_eq_true rfl)) dX12_readRule_173 ⟨Nat.le_of_ble_eq_true rfl, Nat.le_of_ble_eq_true rfl⟩) hS (fun q _ h => h) (fun q h => h) (fun r241 u9 t9 H1 locs ht9 hvm9 hw hB hz1 hk1 hS => ?_)
        have hH := zMv ht9 hvm9 hB
        clear hB
        generalize u9 = f242 at hw hH
        generalize H1 = H at hH hS ⊢
        obtain ⟨-, ⟨c243, hc244, hc245, q246, hx247⟩, hf248⟩ := hw
        rw [(funext (fun k9 => by rw [ef235, zu_n (by omega), hf227 47 k9 (by omega), hf181 47 k9 (by omega), hf111 47 k9 (by omega)]) : f235 47 = fi 47)] at hx247
        have q249 : f242 30 22 = nI L := by rw [hf248 30 22 (by omega)]; exact q236
        have q250 : f242 30 2 = nI n := by rw [hf248 30 2 (by omega)]; exact q237
        have hMt := zMt.ci (fi' := f242) hMt (fun i9 k9 h9 => hf248 i9 k9 (by omega))
        have hMd := zMd.ci (fi' := f242) hMd (fun i9 k9 h9 => hf248 i9 k9 (by omega))
        rcases hx247 with ⟨v25, _, hnm, rfl, rfl, h25, h24d⟩ | ⟨hnm, rfl, h24d⟩
        · skip
          have q251 : f242 30 24 = w24 := h24d.trans q238
          refine lv_if_ne (tgt := 181) hx hb dX12_readRule_176 (by decide) (fun c252 => ?_) (fun c252 => absurd c252 (by decide))
          refine lv_aload_n hx hb dX12_readRule_181 rfl (lv_at hl 1 rfl) ?_
          refine zGetR (D := D) (ci := 12) (C := RX12) (T := TX12) (N := 71) hx hb hts hiX12 hown hH (zk_30 hF) rfl 18 (by decide) rfl hw7 (fun _ h9 => h9) dX12_readRule_182 (zr_30_18 hF) ?_
          refine lv_iload_n hx hb dX12_readRule_185 rfl (lv_at hl 0 rfl) ?_
          refine lv_aload_n hx hb dX12_readRule_186 rfl (lv_at hl 1 rfl) ?_
          refine zGetI (D := D) (ci := 12) (C := RX12) (T := TX12) (N := 71) hx hb hts hiX12 hown hH (zk_30 hF) rfl 25 (by decide) rfl hw3 (fun _ h9 => h9) dX12_readRule_187 h25 ?_
          refine zIastN (D := D) hx hb hH hS (zk_45 hF) (zn_45 hF) (by omega) (by omega) dX12_readRule_190 (fun H locs hH hS => ?_)
          obtain ⟨f253, ef253⟩ : ∃ f9 : zFi, f9 = zu f242 45 1 v25 := ⟨_, rfl⟩
          rw [← ef253] at hH
          have q254 : f253 30 22 = nI L := by rw [ef253, zu_n (fun h9 => absurd h9.1 (by decide))]; exact q249
          have q255 : f253 30 2 = nI n := by rw [ef253, zu_n (fun h9 => absurd h9.1 (by decide))]; exact q250
          have q256 : f253 30 23 = nI c243 := by rw [ef253, zu_n (fun h9 => absurd h9.1 (by decide))]; exact q246
          have q257 : f253 30 25 = v25 := by rw [ef253, zu_n (fun h9 => absurd h9.1 (by decide))]; exact h25
          have q258 : f253 30 24 = w24 := by rw [ef253, zu_n (fun h9 => absurd h9.1 (by decide))]; exact q251
          have q259 : f253 45 1 = v25 := by rw [ef253]; exact zu_s
          have hMt := zMt.ci (fi' := f253) hMt (fun i9 k9 h9 => by rw [ef253]; exact zu_n (by omega))
          have hMd := zMd.ci (fi' := f253) hMd (fun i9 k9 h9 => by rw [ef253]; exact zu_n (by omega))
          refine lv_iconst (v := nI 1) hx hb dX12_readRule_191 (by decide) ?_
          refine W.widen (k := 0) (n := 0) (by decide) (by decide) ?_
          exact W.zret (v := nI 1) hx hb hr (by decide) (fun t9 ht9 hW9 => ⟨⟨nI 1, f253, rfl, ⟨trivial, ⟨c243, by omega, by omega, q256, Or.inl ⟨(zS (fi 47) L c243, 1, v25), by simp only [zRul, zPlc, zKnd, hWplace, hWbehind, hWpost, show zNum (fi 47) L 1 6 (nI 0) (zMost 1) (zS (fi 47) L c234) = some (v25, zS (fi 47) L c243) from hnm], rfl, rfl, q258.trans hw24.symm, by rw [zDmo_num (by omega) ef253, zDmo_cg (g := fi) (fun i k q => by rw [hf248 i k (by omega), ef235, zu_n (by omega), hf227 i k (by omega), hf181 i k (by omega), hf111 i k (by omega)])]⟩⟩, hMd, fun a b h => by rw [ef253, zu_n (by omega), hf248 a b (by omega), ef235, zu_n (by omega), hf227 a b (by omega), hf181 a b (by omega), hf111 a b (by omega)]⟩, zEnd1 hH ht9 hW9⟩, hS.F ht9⟩) hS.2.2 dX12_readRule_192
        · skip
          refine lv_if_ne (tgt := 181) hx hb dX12_readRule_176 (by decide) (fun c260 => absurd (by decide) c260) (fun c260 => ?_)
          refine lv_iconst (v := nI 0) hx hb dX12_readRule_179 (by decide) ?_
          refine W.widen (k := 0) (n := 0) (by decide) (by decide) ?_
          exact W.zret (v := nI 0) hx hb hr (by decide) (fun t9 ht9 hW9 => ⟨⟨nI 0, f242, rfl, ⟨trivial, ⟨c243, by omega, by omega, q246, Or.inr ⟨zS (fi 47) L c234, by have h9 := zS_le (b := fi 47) (n := L) (a := c234) (by omega); omega, by simp only [zRul, zPlc, zKnd, hWplace, hWbehind, hWpost, show zNum (fi 47) L 1 6 (nI 0) (zMost 1) (zS (fi 47) L c234) = none from hnm], rfl, h24d⟩⟩, hMd, fun a b h => by rw [hf248 a b (by omega), ef235, zu_n (by omega), hf227 a b (by omega), hf181 a b (by omega), hf111 a b (by omega)]⟩, zEnd1 hH ht9 hW9⟩, hS.F ht9⟩) hS.2.2 dX12_readRule_180
      · skip
        have hWpost : zWrd (fi 47) L [112, 111, 115, 116] (zS (fi 47) L a) = none := by rw [← hk219]; exact zOKw.no (by omega) zWs_post hok217
        refine lv_if_eq (tgt := 93) hx hb dX12_readRule_86 (by decide) (fun c261 => ?_) (fun c261 => absurd (by decide) c261)
        refine lv_aload_n hx hb dX12_readRule_93 rfl (lv_at hl 0 rfl) ?_
        refine lv_ldc2 (v := 1718773093) hx hb hown hw9 dX12_readRule_94 ?_
        refine va_calli (va_runV (As := [.long 1718773093]) (rest := []) ⟨hx, hb, hml, hown, hts⟩ (m_isWordX l hl0 D A sad τ f221 fr ol L c222 hF q228 q225 (by omega) (by omega) 1718773093) (cwV 1 hts gX12_readRule_X12_isWord rfl rfl rfl (by decide +kernel) ⟨Nat.le_of_ble_eq_true rfl, Nat.le_of_ble_eq_true rfl⟩) ⟨zQc_bl, zRecv hH (zk_30 hF) rfl, zQc_at hz hS hA hH⟩ rfl rfl hl.1 rfl (lv_room (Nat.le_of_ble_eq_true rfl)) dX12_readRule_97 ⟨Nat.le_of_ble_eq_true rfl, Nat.le_of_ble_eq_true rfl⟩) hS (fun q _ h => h) (fun q h => h) (fun r265 u9 t9 H1 locs ht9 hvm9 hw hB hz1 hk1 hS => ?_)
        have hH := zMv ht9 hvm9 hB
        clear hB
        generalize u9 = f266 at hw hH
        generalize H1 = H at hH hS ⊢
        obtain ⟨-, ⟨c267, hc268, hc269, q270, hx271⟩, hf272⟩ := hw
        rw [(funext (fun k9 => by rw [hf227 47 k9 (by omega), hf181 47 k9 (by omega), hf111 47 k9 (by omega)]) : f221 47 = fi 47)] at hx271
        have q273 : f266 30 22 = nI L := by rw [hf272 30 22 (by omega)]; exact q228
        have q274 : f266 30 2 = nI n := by rw [hf272 30 2 (by omega)]; exact q229
        have q275 : f266 30 24 = w24 := by rw [hf272 30 24 (by omega)]; exact q230
        have hMt := zMt.ci (fi' := f266) hMt (fun i9 k9 h9 => hf272 i9 k9 (by omega))
        have hMd := zMd.ci (fi' := f266) hMd (fun i9 k9 h9 => hf272 i9 k9 (by omega))
        obtain ⟨hcz263, hok262⟩ := hx271
        have hk264 : c267 = zS (fi 47) L a := by rw [hcz263, hk219]; exact zS_idem haL
        rcases hok262 with ⟨rfl, hok262⟩ | ⟨rfl, hok262⟩
        · skip
          refine lv_if_eq (tgt := 107) hx hb dX12_readRule_100 (by decide) (fun c276 => absurd c276 (by decide)) (fun c276 => ?_)
          refine lv_iconst (v := nI 2) hx hb dX12_readRule_103 (by decide) ?_
          refine lv_goto (tgt := 122) hx hb dX12_readRule_104 (by decide) ?_
          refine lv_istore_n (lv' := [(1, .int (nI 2)), (0, .ref (τ.1 30))]) hx hb dX12_readRule_122 rfl hl (by decide) rfl (fun ls hl => ?_)
          refine lv_iload_n hx hb dX12_readRule_123 rfl (lv_at hl 0 rfl) ?_
          refine lv_iconst (v := (-1)) hx hb dX12_readRule_124 (by decide) ?_
          refine lv_icmp_ne (tgt := 137) hx hb dX12_readRule_125 (by decide) (fun c277 => ?_) (fun c277 => absurd c277 (by decide))
          refine lv_aload_n hx hb dX12_readRule_137 rfl (lv_at hl 1 rfl) ?_
          refine lv_aload_n hx hb dX12_readRule_138 rfl (lv_at hl 1 rfl) ?_
          refine va_calli (va_runV (As := []) (rest := [.ref (τ.1 30)]) ⟨hx, hb, hml, hown, hts⟩ (m_wordEndX l hl0 D A sad τ f266 fr ol L c267 hF q273 q270 (by omega) (by omega)) (cwV 0 hts gX12_readRule_X12_wordEnd rfl rfl rfl (by decide +kernel) ⟨Nat.le_of_ble_eq_true rfl, Nat.le_of_ble_eq_true rfl⟩) ⟨zQc_bl, zRecv hH (zk_30 hF) rfl, zQc_at hz hS hA hH⟩ rfl rfl hl.1 rfl (lv_room (Nat.le_of_ble_eq_true rfl)) dX12_readRule_139 ⟨Nat.le_of_ble_eq_true rfl, Nat.le_of_ble_eq_true rfl⟩) hS (fun q _ h => h) (fun q h => h) (fun r278 u9 t9 H1 locs ht9 hvm9 hw hB hz1 hk1 hS => ?_)
          have hH := zMv ht9 hvm9 hB
          generalize H1 = H at hH hS ⊢
          obtain ⟨c279, h1c279, h2c279, rfl, hwe⟩ := hw
          rw [(funext (fun k9 => by rw [hf272 47 k9 (by omega), hf227 47 k9 (by omega), hf181 47 k9 (by omega), hf111 47 k9 (by omega)]) : f266 47 = fi 47)] at hwe
          have hWfree : zWrd (fi 47) L [102, 114, 101, 101] (zS (fi 47) L a) = some (zS (fi 47) L c279) := hok262.yesE zWs_free hwe (by omega) hk264
          refine zPutI (D := D) (ci := 12) (ty := .int) (C := RX12) (T := TX12) (N := 71) hx hb hts hiX12 tyX12 tyX12_ok nmX12 hown hH hS (zk_30 hF) rfl 23 (by decide) rfl hw1 (fun _ h9 => h9) rfl (by decide +kernel) rfl rfl dX12_readRule_142 (fun H locs hH hS => ?_)
          obtain ⟨f280, ef280⟩ : ∃ f9 : zFi, f9 = zu f266 30 23 (nI c279) := ⟨_, rfl⟩
          rw [← ef280] at hH
          have q281 : f280 30 22 = nI L := by rw [ef280, zu_n (fun h9 => absurd h9.2 (by decide))]; exact q273
          have q282 : f280 30 2 = nI n := by rw [ef280, zu_n (fun h9 => absurd h9.2 (by decide))]; exact q274
          have q283 : f280 30 24 = w24 := by rw [ef280, zu_n (fun h9 => absurd h9.2 (by decide))]; exact q275
          have q284 : f280 30 23 = nI c279 := by rw [ef280]; exact zu_s
          have hMt := zMt.ci (fi' := f280) hMt (fun i9 k9 h9 => by rw [ef280]; exact zu_n (by omega))
          have hMd := zMd.ci (fi' := f280) hMd (fun i9 k9 h9 => by rw [ef280]; exact zu_n (by omega))
          refine lv_aload_n hx hb dX12_readRule_145 rfl (lv_at hl 1 rfl) ?_
          refine lv_iconst (v := nI 1) hx hb dX12_readRule_146 (by decide) ?_
          refine lv_bipush (v := nI 6) hx hb dX12_readRule_147 (by decide) ?_
          refine lv_iconst (v := nI 0) hx hb dX12_readRule_149 (by decide) ?_
          refine lv_iload_n hx hb dX12_readRule_150 rfl (lv_at hl 0 rfl) ?_
          refine lv_iconst (v := nI 1) hx hb dX12_readRule_151 (by decide) ?_
          refine lv_icmp_ne (tgt := 161) hx hb dX12_readRule_152 (by decide) (fun c285 => ?_) (fun c285 => absurd c285 (by decide))
          refine lv_iload_n hx hb dX12_readRule_161 rfl (lv_at hl 0 rfl) ?_
          refine lv_iconst (v := nI 2) hx hb dX12_readRule_162 (by decide) ?_
          refine lv_icmp_ne (tgt := 171) hx hb dX12_readRule_163 (by decide) (fun c286 => absurd (by decide) c286) (fun c286 => ?_)
          refine lv_ldc (v := nI 999999) hx hb hown hw10 dX12_readRule_166 ?_
          refine lv_goto (tgt := 173) hx hb dX12_readRule_168 (by decide) ?_
          refine va_calli (va_runV (As := [.int (nI 1), .int (nI 6), .int (nI 0), .int (nI 999999)]) (rest := []) ⟨hx, hb, hml, hown, hts⟩ (m_digitsX l hl0 D A sad τ f280 fr ol L c279 hF q281 q284 (by omega) (by omega) 1 6 (by omega) (by omega) (nI 0) (nI 999999)) (cwV 4 hts gX12_readRule_X12_digits rfl rfl rfl (by decide +kernel) ⟨Nat.le_of_ble_eq_true rfl, Nat.le_of_ble_eq_true rfl⟩) ⟨zQc_bl, zRecv hH (zk_30 hF) rfl, zQc_at hz hS hA hH⟩ rfl rfl hl.1 rfl (lv_room (Nat.le_of_ble_eq_true rfl)) dX12_readRule_173 ⟨Nat.le_of_ble_eq_true rfl, Nat.le_of_ble_eq_true rfl⟩) hS (fun q _ h => h) (fun q h => h) (fun r287 u9 t9 H1 locs ht9 hvm9 hw hB hz1 hk1 hS => ?_)
          have hH := zMv ht9 hvm9 hB
          clear hB
          generalize u9 = f288 at hw hH
          generalize H1 = H at hH hS ⊢
          obtain ⟨-, ⟨c289, hc290, hc291, q292, hx293⟩, hf294⟩ := hw
          rw [(funext (fun k9 => by rw [ef280, zu_n (by omega), hf272 47 k9 (by omega), hf227 47 k9 (by omega), hf181 47 k9 (by omega), hf111 47 k9 (by omega)]) : f280 47 = fi 47)] at hx293
          have q295 : f288 30 22 = nI L := by rw [hf294 30 22 (by omega)]; exact q281
          have q296 : f288 30 2 = nI n := by rw [hf294 30 2 (by omega)]; exact q282
          have hMt := zMt.ci (fi' := f288) hMt (fun i9 k9 h9 => hf294 i9 k9 (by omega))
          have hMd := zMd.ci (fi' := f288) hMd (fun i9 k9 h9 => hf294 i9 k9 (by omega))
          rcases hx293 with ⟨v25, _, hnm, rfl, rfl, h25, h24d⟩ | ⟨hnm, rfl, h24d⟩
          · skip
            have q297 : f288 30 24 = w24 := h24d.trans q283
            refine lv_if_ne (tgt := 181) hx hb dX12_readRule_176 (by decide) (fun c298 => ?_) (fun c298 => absurd c298 (by decide))
            refine lv_aload_n hx hb dX12_readRule_181 rfl (lv_at hl 1 rfl) ?_
            refine zGetR (D := D) (ci := 12) (C := RX12) (T := TX12) (N := 71) hx hb hts hiX12 hown hH (zk_30 hF) rfl 18 (by decide) rfl hw7 (fun _ h9 => h9) dX12_readRule_182 (zr_30_18 hF) ?_
            refine lv_iload_n hx hb dX12_readRule_185 rfl (lv_at hl 0 rfl) ?_
            refine lv_aload_n hx hb dX12_readRule_186 rfl (lv_at hl 1 rfl) ?_
            refine zGetI (D := D) (ci := 12) (C := RX12) (T := TX12) (N := 71) hx hb hts hiX12 hown hH (zk_30 hF) rfl 25 (by decide) rfl hw3 (fun _ h9 => h9) dX12_readRule_187 h25 ?_
            refine zIastN (D := D) hx hb hH hS (zk_45 hF) (zn_45 hF) (by omega) (by omega) dX12_readRule_190 (fun H locs hH hS => ?_)
            obtain ⟨f299, ef299⟩ : ∃ f9 : zFi, f9 = zu f288 45 2 v25 := ⟨_, rfl⟩
            rw [← ef299] at hH
            have q300 : f299 30 22 = nI L := by rw [ef299, zu_n (fun h9 => absurd h9.1 (by decide))]; exact q295
            have q301 : f299 30 2 = nI n := by rw [ef299, zu_n (fun h9 => absurd h9.1 (by decide))]; exact q296
            have q302 : f299 30 23 = nI c289 := by rw [ef299, zu_n (fun h9 => absurd h9.1 (by decide))]; exact q292
            have q303 : f299 30 25 = v25 := by rw [ef299, zu_n (fun h9 => absurd h9.1 (by decide))]; exact h25
            have q304 : f299 30 24 = w24 := by rw [ef299, zu_n (fun h9 => absurd h9.1 (by decide))]; exact q297
            have q305 : f299 45 2 = v25 := by rw [ef299]; exact zu_s
            have hMt := zMt.ci (fi' := f299) hMt (fun i9 k9 h9 => by rw [ef299]; exact zu_n (by omega))
            have hMd := zMd.ci (fi' := f299) hMd (fun i9 k9 h9 => by rw [ef299]; exact zu_n (by omega))
            refine lv_iconst (v := nI 1) hx hb dX12_readRule_191 (by decide) ?_
            refine W.widen (k := 0) (n := 0) (by decide) (by decide) ?_
            exact W.zret (v := nI 1) hx hb hr (by decide) (fun t9 ht9 hW9 => ⟨⟨nI 1, f299, rfl, ⟨trivial, ⟨c289, by omega, by omega, q302, Or.inl ⟨(zS (fi 47) L c289, 2, v25), by simp only [zRul, zPlc, zKnd, hWplace, hWbehind, hWpost, hWfree, show zNum (fi 47) L 1 6 (nI 0) (zMost 2) (zS (fi 47) L c279) = some (v25, zS (fi 47) L c289) from hnm], rfl, rfl, q304.trans hw24.symm, by rw [zDmo_num (by omega) ef299, zDmo_cg (g := fi) (fun i k q => by rw [hf294 i k (by omega), ef280, zu_n (by omega), hf272 i k (by omega), hf227 i k (by omega), hf181 i k (by omega), hf111 i k (by omega)])]⟩⟩, hMd, fun a b h => by rw [ef299, zu_n (by omega), hf294 a b (by omega), ef280, zu_n (by omega), hf272 a b (by omega), hf227 a b (by omega), hf181 a b (by omega), hf111 a b (by omega)]⟩, zEnd1 hH ht9 hW9⟩, hS.F ht9⟩) hS.2.2 dX12_readRule_192
          · skip
            refine lv_if_ne (tgt := 181) hx hb dX12_readRule_176 (by decide) (fun c306 => absurd (by decide) c306) (fun c306 => ?_)
            refine lv_iconst (v := nI 0) hx hb dX12_readRule_179 (by decide) ?_
            refine W.widen (k := 0) (n := 0) (by decide) (by decide) ?_
            exact W.zret (v := nI 0) hx hb hr (by decide) (fun t9 ht9 hW9 => ⟨⟨nI 0, f288, rfl, ⟨trivial, ⟨c289, by omega, by omega, q292, Or.inr ⟨zS (fi 47) L c279, by have h9 := zS_le (b := fi 47) (n := L) (a := c279) (by omega); omega, by simp only [zRul, zPlc, zKnd, hWplace, hWbehind, hWpost, hWfree, show zNum (fi 47) L 1 6 (nI 0) (zMost 2) (zS (fi 47) L c279) = none from hnm], rfl, h24d⟩⟩, hMd, fun a b h => by rw [hf294 a b (by omega), ef280, zu_n (by omega), hf272 a b (by omega), hf227 a b (by omega), hf181 a b (by omega), hf111 a b (by omega)]⟩, zEnd1 hH ht9 hW9⟩, hS.F ht9⟩) hS.2.2 dX12_readRule_180
        · skip
          have hWfree : zWrd (fi 47) L [102, 114, 101, 101] (zS (fi 47) L a) = none := by rw [← hk264]; exact zOKw.no (by omega) zWs_free hok262
          refine lv_if_eq (tgt := 107) hx hb dX12_readRule_100 (by decide) (fun c307 => ?_) (fun c307 => absurd (by decide) c307)
          refine lv_aload_n hx hb dX12_readRule_107 rfl (lv_at hl 0 rfl) ?_
          refine lv_ldc2 (v := 1650549611) hx hb hown hw11 dX12_readRule_108 ?_
          refine va_calli (va_runV (As := [.long 1650549611]) (rest := []) ⟨hx, hb, hml, hown, hts⟩ (m_isWordX l hl0 D A sad τ f266 fr ol L c267 hF q273 q270 (by omega) (by omega) 1650549611) (cwV 1 hts gX12_readRule_X12_isWord rfl rfl rfl (by decide +kernel) ⟨Nat.le_of_ble_eq_true rfl, Nat.le_of_ble_eq_true rfl⟩) ⟨zQc_bl, zRecv hH (zk_30 hF) rfl, zQc_at hz hS hA hH⟩ rfl rfl hl.1 rfl (lv_room (Nat.le_of_ble_eq_true rfl)) dX12_readRule_111 ⟨Nat.le_of_ble_eq_true rfl, Nat.le_of_ble_eq_true rfl⟩) hS (fun q _ h => h) (fun q h => h) (fun r311 u9 t9 H1 locs ht9 hvm9 hw hB hz1 hk1 hS => ?_)
          have hH := zMv ht9 hvm9 hB
          clear hB
          generalize u9 = f312 at hw hH
          generalize H1 = H at hH hS ⊢
          obtain ⟨-, ⟨c313, hc314, hc315, q316, hx317⟩, hf318⟩ := hw
          rw [(funext (fun k9 => by rw [hf272 47 k9 (by omega), hf227 47 k9 (by omega), hf181 47 k9 (by omega), hf111 47 k9 (by omega)]) : f266 47 = fi 47)] at hx317
          have q319 : f312 30 22 = nI L := by rw [hf318 30 22 (by omega)]; exact q273
          have q320 : f312 30 2 = nI n := by rw [hf318 30 2 (by omega)]; exact q274
          have q321 : f312 30 24 = w24 := by rw [hf318 30 24 (by omega)]; exact q275
          have hMt := zMt.ci (fi' := f312) hMt (fun i9 k9 h9 => hf318 i9 k9 (by omega))
          have hMd := zMd.ci (fi' := f312) hMd (fun i9 k9 h9 => hf318 i9 k9 (by omega))
          obtain ⟨hcz309, hok308⟩ := hx317
          have hk310 : c313 = zS (fi 47) L a := by rw [hcz309, hk264]; exact zS_idem haL
          rcases hok308 with ⟨rfl, hok308⟩ | ⟨rfl, hok308⟩
          · skip
            refine lv_if_eq (tgt := 121) hx hb dX12_readRule_114 (by decide) (fun c322 => absurd c322 (by decide)) (fun c322 => ?_)
            refine lv_iconst (v := nI 3) hx hb dX12_readRule_117 (by decide) ?_
            refine lv_goto (tgt := 122) hx hb dX12_readRule_118 (by decide) ?_
            refine lv_istore_n (lv' := [(1, .int (nI 3)), (0, .ref (τ.1 30))]) hx hb dX12_readRule_122 rfl hl (by decide) rfl (fun ls hl => ?_)
            refine lv_iload_n hx hb dX12_readRule_123 rfl (lv_at hl 0 rfl) ?_
            refine lv_iconst (v := (-1)) hx hb dX12_readRule_124 (by decide) ?_
            refine lv_icmp_ne (tgt := 137) hx hb dX12_readRule_125 (by decide) (fun c323 => ?_) (fun c323 => absurd c323 (by decide))
            refine lv_aload_n hx hb dX12_readRule_137 rfl (lv_at hl 1 rfl) ?_
            refine lv_aload_n hx hb dX12_readRule_138 rfl (lv_at hl 1 rfl) ?_
            refine va_calli (va_runV (As := []) (rest := [.ref (τ.1 30)]) ⟨hx, hb, hml, hown, hts⟩ (m_wordEndX l hl0 D A sad τ f312 fr ol L c313 hF q319 q316 (by omega) (by omega)) (cwV 0 hts gX12_readRule_X12_wordEnd rfl rfl rfl (by decide +kernel) ⟨Nat.le_of_ble_eq_true rfl, Nat.le_of_ble_eq_true rfl⟩) ⟨zQc_bl, zRecv hH (zk_30 hF) rfl, zQc_at hz hS hA hH⟩ rfl rfl hl.1 rfl (lv_room (Nat.le_of_ble_eq_true rfl)) dX12_readRule_139 ⟨Nat.le_of_ble_eq_true rfl, Nat.le_of_ble_eq_true rfl⟩) hS (fun q _ h => h) (fun q h => h) (fun r324 u9 t9 H1 locs ht9 hvm9 hw hB hz1 hk1 hS => ?_)
            have hH := zMv ht9 hvm9 hB
            generalize H1 = H at hH hS ⊢
            obtain ⟨c325, h1c325, h2c325, rfl, hwe⟩ := hw
            rw [(funext (fun k9 => by rw [hf318 47 k9 (by omega), hf272 47 k9 (by omega), hf227 47 k9 (by omega), hf181 47 k9 (by omega), hf111 47 k9 (by omega)]) : f312 47 = fi 47)] at hwe
            have hWback : zWrd (fi 47) L [98, 97, 99, 107] (zS (fi 47) L a) = some (zS (fi 47) L c325) := hok308.yesE zWs_back hwe (by omega) hk310
            refine zPutI (D := D) (ci := 12) (ty := .int) (C := RX12) (T := TX12) (N := 71) hx hb hts hiX12 tyX12 tyX12_ok nmX12 hown hH hS (zk_30 hF) rfl 23 (by decide) rfl hw1 (fun _ h9 => h9) rfl (by decide +kernel) rfl rfl dX12_readRule_142 (fun H locs hH hS => ?_)
            obtain ⟨f326, ef326⟩ : ∃ f9 : zFi, f9 = zu f312 30 23 (nI c325) := ⟨_, rfl⟩
            rw [← ef326] at hH
            have q327 : f326 30 22 = nI L := by rw [ef326, zu_n (fun h9 => absurd h9.2 (by decide))]; exact q319
            have q328 : f326 30 2 = nI n := by rw [ef326, zu_n (fun h9 => absurd h9.2 (by decide))]; exact q320
            have q329 : f326 30 24 = w24 := by rw [ef326, zu_n (fun h9 => absurd h9.2 (by decide))]; exact q321
            have q330 : f326 30 23 = nI c325 := by rw [ef326]; exact zu_s
            have hMt := zMt.ci (fi' := f326) hMt (fun i9 k9 h9 => by rw [ef326]; exact zu_n (by omega))
            have hMd := zMd.ci (fi' := f326) hMd (fun i9 k9 h9 => by rw [ef326]; exact zu_n (by omega))
            refine lv_aload_n hx hb dX12_readRule_145 rfl (lv_at hl 1 rfl) ?_
            refine lv_iconst (v := nI 1) hx hb dX12_readRule_146 (by decide) ?_
            refine lv_bipush (v := nI 6) hx hb dX12_readRule_147 (by decide) ?_
            refine lv_iconst (v := nI 0) hx hb dX12_readRule_149 (by decide) ?_
            refine lv_iload_n hx hb dX12_readRule_150 rfl (lv_at hl 0 rfl) ?_
            refine lv_iconst (v := nI 1) hx hb dX12_readRule_151 (by decide) ?_
            refine lv_icmp_ne (tgt := 161) hx hb dX12_readRule_152 (by decide) (fun c331 => ?_) (fun c331 => absurd c331 (by decide))
            refine lv_iload_n hx hb dX12_readRule_161 rfl (lv_at hl 0 rfl) ?_
            refine lv_iconst (v := nI 2) hx hb dX12_readRule_162 (by decide) ?_
            refine lv_icmp_ne (tgt := 171) hx hb dX12_readRule_163 (by decide) (fun c332 => ?_) (fun c332 => absurd c332 (by decide))
            refine lv_bipush (v := nI 99) hx hb dX12_readRule_171 (by decide) ?_
            refine va_calli (va_runV (As := [.int (nI 1), .int (nI 6), .int (nI 0), .int (nI 99)]) (rest := []) ⟨hx, hb, hml, hown, hts⟩ (m_digitsX l hl0 D A sad τ f326 fr ol L c325 hF q327 q330 (by omega) (by omega) 1 6 (by omega) (by omega) (nI 0) (nI 99)) (cwV 4 hts gX12_readRule_X12_digits rfl rfl rfl (by decide +kernel) ⟨Nat.le_of_ble_eq_true rfl, Nat.le_of_ble_eq_true rfl⟩) ⟨zQc_bl, zRecv hH (zk_30 hF) rfl, zQc_at hz hS hA hH⟩ rfl rfl hl.1 rfl (lv_room (Nat.le_of_ble_eq_true rfl)) dX12_readRule_173 ⟨Nat.le_of_ble_eq_true rfl, Nat.le_of_ble_eq_true rfl⟩) hS (fun q _ h => h) (fun q h => h) (fun r333 u9 t9 H1 locs ht9 hvm9 hw hB hz1 hk1 hS => ?_)
            have hH := zMv ht9 hvm9 hB
            clear hB
            generalize u9 = f334 at hw hH
            generalize H1 = H at hH hS ⊢
            obtain ⟨-, ⟨c335, hc336, hc337, q338, hx339⟩, hf340⟩ := hw
            rw [(funext (fun k9 => by rw [ef326, zu_n (by omega), hf318 47 k9 (by omega), hf272 47 k9 (by omega), hf227 47 k9 (by omega), hf181 47 k9 (by omega), hf111 47 k9 (by omega)]) : f326 47 = fi 47)] at hx339
            have q341 : f334 30 22 = nI L := by rw [hf340 30 22 (by omega)]; exact q327
            have q342 : f334 30 2 = nI n := by rw [hf340 30 2 (by omega)]; exact q328
            have hMt := zMt.ci (fi' := f334) hMt (fun i9 k9 h9 => hf340 i9 k9 (by omega))
            have hMd := zMd.ci (fi' := f334) hMd (fun i9 k9 h9 => hf340 i9 k9 (by omega))
            rcases hx339 with ⟨v25, _, hnm, rfl, rfl, h25, h24d⟩ | ⟨hnm, rfl, h24d⟩
            · skip
              have q343 : f334 30 24 = w24 := h24d.trans q329
              refine lv_if_ne (tgt := 181) hx hb dX12_readRule_176 (by decide) (fun c344 => ?_) (fun c344 => absurd c344 (by decide))
              refine lv_aload_n hx hb dX12_readRule_181 rfl (lv_at hl 1 rfl) ?_
              refine zGetR (D := D) (ci := 12) (C := RX12) (T := TX12) (N := 71) hx hb hts hiX12 hown hH (zk_30 hF) rfl 18 (by decide) rfl hw7 (fun _ h9 => h9) dX12_readRule_182 (zr_30_18 hF) ?_
              refine lv_iload_n hx hb dX12_readRule_185 rfl (lv_at hl 0 rfl) ?_
              refine lv_aload_n hx hb dX12_readRule_186 rfl (lv_at hl 1 rfl) ?_
              refine zGetI (D := D) (ci := 12) (C := RX12) (T := TX12) (N := 71) hx hb hts hiX12 hown hH (zk_30 hF) rfl 25 (by decide) rfl hw3 (fun _ h9 => h9) dX12_readRule_187 h25 ?_
              refine zIastN (D := D) hx hb hH hS (zk_45 hF) (zn_45 hF) (by omega) (by omega) dX12_readRule_190 (fun H locs hH hS => ?_)
              obtain ⟨f345, ef345⟩ : ∃ f9 : zFi, f9 = zu f334 45 3 v25 := ⟨_, rfl⟩
              rw [← ef345] at hH
              have q346 : f345 30 22 = nI L := by rw [ef345, zu_n (fun h9 => absurd h9.1 (by decide))]; exact q341
              have q347 : f345 30 2 = nI n := by rw [ef345, zu_n (fun h9 => absurd h9.1 (by decide))]; exact q342
              have q348 : f345 30 23 = nI c335 := by rw [ef345, zu_n (fun h9 => absurd h9.1 (by decide))]; exact q338
              have q349 : f345 30 25 = v25 := by rw [ef345, zu_n (fun h9 => absurd h9.1 (by decide))]; exact h25
              have q350 : f345 30 24 = w24 := by rw [ef345, zu_n (fun h9 => absurd h9.1 (by decide))]; exact q343
              have q351 : f345 45 3 = v25 := by rw [ef345]; exact zu_s
              have hMt := zMt.ci (fi' := f345) hMt (fun i9 k9 h9 => by rw [ef345]; exact zu_n (by omega))
              have hMd := zMd.ci (fi' := f345) hMd (fun i9 k9 h9 => by rw [ef345]; exact zu_n (by omega))
              refine lv_iconst (v := nI 1) hx hb dX12_readRule_191 (by decide) ?_
              refine W.widen (k := 0) (n := 0) (by decide) (by decide) ?_
              exact W.zret (v := nI 1) hx hb hr (by decide) (fun t9 ht9 hW9 => ⟨⟨nI 1, f345, rfl, ⟨trivial, ⟨c335, by omega, by omega, q348, Or.inl ⟨(zS (fi 47) L c335, 3, v25), by simp only [zRul, zPlc, zKnd, hWplace, hWbehind, hWpost, hWfree, hWback, show zNum (fi 47) L 1 6 (nI 0) (zMost 3) (zS (fi 47) L c325) = some (v25, zS (fi 47) L c335) from hnm], rfl, rfl, q350.trans hw24.symm, by rw [zDmo_num (by omega) ef345, zDmo_cg (g := fi) (fun i k q => by rw [hf340 i k (by omega), ef326, zu_n (by omega), hf318 i k (by omega), hf272 i k (by omega), hf227 i k (by omega), hf181 i k (by omega), hf111 i k (by omega)])]⟩⟩, hMd, fun a b h => by rw [ef345, zu_n (by omega), hf340 a b (by omega), ef326, zu_n (by omega), hf318 a b (by omega), hf272 a b (by omega), hf227 a b (by omega), hf181 a b (by omega), hf111 a b (by omega)]⟩, zEnd1 hH ht9 hW9⟩, hS.F ht9⟩) hS.2.2 dX12_readRule_192
            · skip
              refine lv_if_ne (tgt := 181) hx hb dX12_readRule_176 (by decide) (fun c352 => absurd (by decide) c352) (fun c352 => ?_)
              refine lv_iconst (v := nI 0) hx hb dX12_readRule_179 (by decide) ?_
              refine W.widen (k := 0) (n := 0) (by decide) (by decide) ?_
              exact W.zret (v := nI 0) hx hb hr (by decide) (fun t9 ht9 hW9 => ⟨⟨nI 0, f334, rfl, ⟨trivial, ⟨c335, by omega, by omega, q338, Or.inr ⟨zS (fi 47) L c325, by have h9 := zS_le (b := fi 47) (n := L) (a := c325) (by omega); omega, by simp only [zRul, zPlc, zKnd, hWplace, hWbehind, hWpost, hWfree, hWback, show zNum (fi 47) L 1 6 (nI 0) (zMost 3) (zS (fi 47) L c325) = none from hnm], rfl, h24d⟩⟩, hMd, fun a b h => by rw [hf340 a b (by omega), ef326, zu_n (by omega), hf318 a b (by omega), hf272 a b (by omega), hf227 a b (by omega), hf181 a b (by omega), hf111 a b (by omega)]⟩, zEnd1 hH ht9 hW9⟩, hS.F ht9⟩) hS.2.2 dX12_readRule_180
          · skip
            have hWback : zWrd (fi 47) L [98, 97, 99, 107] (zS (fi 47) L a) = none := by rw [← hk310]; exact zOKw.no (by omega) zWs_back hok308
            refine lv_if_eq (tgt := 121) hx hb dX12_readRule_114 (by decide) (fun c353 => ?_) (fun c353 => absurd (by decide) c353)
            refine lv_iconst (v := (-1)) hx hb dX12_readRule_121 (by decide) ?_
            refine lv_istore_n (lv' := [(1, .int ((-1))), (0, .ref (τ.1 30))]) hx hb dX12_readRule_122 rfl hl (by decide) rfl (fun ls hl => ?_)
            refine lv_iload_n hx hb dX12_readRule_123 rfl (lv_at hl 0 rfl) ?_
            refine lv_iconst (v := (-1)) hx hb dX12_readRule_124 (by decide) ?_
            refine lv_icmp_ne (tgt := 137) hx hb dX12_readRule_125 (by decide) (fun c354 => absurd (by decide) c354) (fun c354 => ?_)
            refine lv_aload_n hx hb dX12_readRule_128 rfl (lv_at hl 1 rfl) ?_
            refine lv_aload_n hx hb dX12_readRule_129 rfl (lv_at hl 1 rfl) ?_
            refine zGetI (D := D) (ci := 12) (C := RX12) (T := TX12) (N := 71) hx hb hts hiX12 hown hH (zk_30 hF) rfl 23 (by decide) rfl hw1 (fun _ h9 => h9) dX12_readRule_130 q316 ?_
            refine va_calli (va_runV (As := [.int (nI c313)]) (rest := []) ⟨hx, hb, hml, hown, hts⟩ (m_wrongX l hl0 D A sad τ f312 fr ol (nI c313) hF) (cwV 1 hts gX12_readRule_X12_wrong rfl rfl rfl (by decide +kernel) ⟨Nat.le_of_ble_eq_true rfl, Nat.le_of_ble_eq_true rfl⟩) ⟨zQc_bl, zRecv hH (zk_30 hF) rfl, zQc_at hz hS hA hH⟩ rfl rfl hl.1 rfl (lv_room (Nat.le_of_ble_eq_true rfl)) dX12_readRule_133 ⟨Nat.le_of_ble_eq_true rfl, Nat.le_of_ble_eq_true rfl⟩) hS (fun q _ h => h) (fun q h => h) (fun r355 u9 t9 H1 locs ht9 hvm9 hw hB hz1 hk1 hS => ?_)
            have hH := zMv ht9 hvm9 hB
            clear hB
            generalize u9 = f356 at hw hH
            generalize H1 = H at hH hS ⊢
            obtain ⟨rfl, ef356⟩ := hw
            have q357 : f356 30 22 = nI L := by rw [ef356, zu_n (fun h9 => absurd h9.2 (by decide))]; exact q319
            have q358 : f356 30 2 = nI n := by rw [ef356, zu_n (fun h9 => absurd h9.2 (by decide))]; exact q320
            have q359 : f356 30 23 = nI c313 := by rw [ef356, zu_n (fun h9 => absurd h9.2 (by decide))]; exact q316
            have q360 : f356 30 24 = nI c313 := by rw [ef356]; exact zu_s
            have hMt := zMt.ci (fi' := f356) hMt (fun i9 k9 h9 => by rw [ef356]; exact zu_n (by omega))
            have hMd := zMd.ci (fi' := f356) hMd (fun i9 k9 h9 => by rw [ef356]; exact zu_n (by omega))
            refine W.widen (k := 0) (n := 0) (by decide) (by decide) ?_
            exact W.zret (v := 0) hx hb hr (by decide) (fun t9 ht9 hW9 => ⟨⟨0, f356, rfl, ⟨trivial, ⟨c313, by omega, by omega, q359, Or.inr ⟨zS (fi 47) L a, by have h9 := zS_le (b := fi 47) haL; omega, by simp only [zRul, zPlc, zKnd, hWplace, hWbehind, hWpost, hWfree, hWback], rfl, by rw [ef356, zu_s, hk310]⟩⟩, hMd, fun a b h => by rw [ef356, zu_n (by omega), hf318 a b (by omega), hf272 a b (by omega), hf227 a b (by omega), hf181 a b (by omega), hf111 a b (by omega)]⟩, zEnd1 hH ht9 hW9⟩, hS.F ht9⟩) hS.2.2 dX12_readRule_136
set_option maxHeartbeats 4000000 in
set_option maxRecDepth 100000 in
/-- beginText -/
theorem m_beginX (l : Launch) (hl0 : l.stackTraces = false) (D : va_G) (A : Nat → Prop) (sad : Nat → Nat) (τ : zTy) (fi : zFi) (fr : zFr) (ol : Int64) (L : Nat) (hF : zFix τ fr) (hn : fi 30 21 = nI L) : Met l yX12_beginText wsX12_beginText ({ frames := 0, cells := 0, slots := 0, locals := 0 }) (va_Pc [.ref (τ.1 30)] (zQc D A sad τ fi fr ol)) (va_Qv (fun (u : zFi) => u 30 21 = nI 0 ∧ u 30 22 = nI L ∧ u 30 23 = nI 0 ∧ u 30 24 = -1 ∧ ∀ a b, ¬ (a = 30 ∧ 21 ≤ b ∧ b ≤ 24) → u a b = fi a b) (fun (u : zFi) (t : State) => zH D A τ u fr ol t t.heap) A) 0 0 A := by
  refine Met.ofW (cc := cX12_beginText) (maxL := 1) (ret := none) (by decide) rfl ?_
  intro p9 e9 s m args below meth c9 s₁ B hml hv
  obtain ⟨rfl, hz, hH, hA⟩ := hv
  have hx := B.exec
  have hb := B.bytes
  have hr := B.returns
  have hts := atoms_spec (ws := wsX12_beginText) B.pre
  have hown : s.vm.findClass RX12 = some m.cls := findClass_of_methodNamed B.named
  have hlocks := B.notSynchronized
  have hS : va_S A s.heap s.heap [] := va_S.rf
  have hl := lv_entry ([.ref (τ.1 30)]) (n := 1) (Nat.le_of_ble_eq_true rfl)
  rw [lg_entry_eq]
  generalize (lg_sl ([.ref (τ.1 30)]) ++ List.replicate (1 - (lg_sl ([.ref (τ.1 30)])).length) Slot.unset).toArray = ls at hl ⊢
  have hl : lv_has ls 1 [(0, .ref (τ.1 30))] := hl
  have hiX12 : ∀ w ∈ u_ws RX12 TX12 71, w ∈ wsX12_beginText := fun _ h => List.mem_cons_of_mem _ (List.mem_append_right _ h)
  have hw1 := hts (.fieldLink RX12 178 "PostHouseModel" "taped" "I") (by decide +kernel)
  have hw2 := hts (.fieldLink RX12 209 "PostHouseModel" "end" "I") (by decide +kernel)
  have hw3 := hts (.fieldLink RX12 206 "PostHouseModel" "at" "I") (by decide +kernel)
  have hw4 := hts (.fieldLink RX12 61 "PostHouseModel" "fault" "I") (by decide +kernel)
  refine lv_aload_n hx hb dX12_beginText_0 rfl (lv_at hl 0 rfl) ?_
  refine lv_aload_n hx hb dX12_beginText_1 rfl (lv_at hl 0 rfl) ?_
  refine zGetI (D := D) (ci := 12) (C := RX12) (T := TX12) (N := 71) hx hb hts hiX12 hown hH (zk_30 hF) rfl 21 (by decide) rfl hw1 (fun _ h9 => h9) dX12_beginText_2 hn ?_
  refine zPutI (D := D) (ci := 12) (ty := .int) (C := RX12) (T := TX12) (N := 71) hx hb hts hiX12 tyX12 tyX12_ok nmX12 hown hH hS (zk_30 hF) rfl 22 (by decide) rfl hw2 (fun _ h9 => h9) rfl (by decide +kernel) rfl rfl dX12_beginText_5 (fun H locs hH hS => ?_)
  obtain ⟨f101, ef101⟩ : ∃ f9 : zFi, f9 = zu fi 30 22 (nI L) := ⟨_, rfl⟩
  rw [← ef101] at hH
  have q102 : f101 30 21 = nI L := by rw [ef101, zu_n (fun h9 => absurd h9.2 (by decide))]; exact hn
  have q103 : f101 30 22 = nI L := by rw [ef101]; exact zu_s
  refine lv_aload_n hx hb dX12_beginText_8 rfl (lv_at hl 0 rfl) ?_
  refine lv_iconst (v := nI 0) hx hb dX12_beginText_9 (by decide) ?_
  refine zPutI (D := D) (ci := 12) (ty := .int) (C := RX12) (T := TX12) (N := 71) hx hb hts hiX12 tyX12 tyX12_ok nmX12 hown hH hS (zk_30 hF) rfl 21 (by decide) rfl hw1 (fun _ h9 => h9) rfl (by decide +kernel) rfl rfl dX12_beginText_10 (fun H locs hH hS => ?_)
  obtain ⟨f104, ef104⟩ : ∃ f9 : zFi, f9 = zu f101 30 21 (nI 0) := ⟨_, rfl⟩
  rw [← ef104] at hH
  have q105 : f104 30 22 = nI L := by rw [ef104, zu_n (fun h9 => absurd h9.2 (by decide))]; exact q103
  have q106 : f104 30 21 = nI 0 := by rw [ef104]; exact zu_s
  refine lv_aload_n hx hb dX12_beginText_13 rfl (lv_at hl 0 rfl) ?_
  refine lv_iconst (v := nI 0) hx hb dX12_beginText_14 (by decide) ?_
  refine zPutI (D := D) (ci := 12) (ty := .int) (C := RX12) (T := TX12) (N := 71) hx hb hts hiX12 tyX12 tyX12_ok nmX12 hown hH hS (zk_30 hF) rfl 23 (by decide) rfl hw3 (fun _ h9 => h9) rfl (by decide +kernel) rfl rfl dX12_beginText_15 (fun H locs hH hS => ?_)
  obtain ⟨f107, ef107⟩ : ∃ f9 : zFi, f9 = zu f104 30 23 (nI 0) := ⟨_, rfl⟩
  rw [← ef107] at hH
  have q108 : f107 30 22 = nI L := by rw [ef107, zu_n (fun h9 => absurd h9.2 (by decide))]; exact q105
  have q109 : f107 30 21 = nI 0 := by rw [ef107, zu_n (fun h9 => absurd h9.2 (by decide))]; exact q106
  have q110 : f107 30 23 = nI 0 := by rw [ef107]; exact zu_s
  refine lv_aload_n hx hb dX12_beginText_18 rfl (lv_at hl 0 rfl) ?_
  refine lv_iconst (v := (-1)) hx hb dX12_beginText_19 (by decide) ?_
  refine zPutI (D := D) (ci := 12) (ty := .int) (C := RX12) (T := TX12) (N := 71) hx hb hts hiX12 tyX12 tyX12_ok nmX12 hown hH hS (zk_30 hF) rfl 24 (by decide) rfl hw4 (fun _ h9 => h9) rfl (by decide +kernel) rfl rfl dX12_beginText_20 (fun H locs hH hS => ?_)
  obtain ⟨f111, ef111⟩ : ∃ f9 : zFi, f9 = zu f107 30 24 ((-1)) := ⟨_, rfl⟩
  rw [← ef111] at hH
  have q112 : f111 30 22 = nI L := by rw [ef111, zu_n (fun h9 => absurd h9.2 (by decide))]; exact q108
  have q113 : f111 30 21 = nI 0 := by rw [ef111, zu_n (fun h9 => absurd h9.2 (by decide))]; exact q109
  have q114 : f111 30 23 = nI 0 := by rw [ef111, zu_n (fun h9 => absurd h9.2 (by decide))]; exact q110
  have q115 : f111 30 24 = (-1) := by rw [ef111]; exact zu_s
  refine W.widen (k := 0) (n := 0) (by decide) (by decide) ?_
  exact W.vret hx hb hr (fun t9 ht9 hW9 => ⟨⟨f111, rfl, ⟨q113, q112, q114, q115, fun a b h => by rw [ef111, zu_n (by omega), ef107, zu_n (by omega), ef104, zu_n (by omega), ef101, zu_n (by omega)]⟩, zEnd1 hH ht9 hW9⟩, hS.F ht9⟩) hS.2.2 dX12_beginText_23
set_option maxHeartbeats 4000000 in
set_option maxRecDepth 100000 in
/-- rules -/
theorem m_rulesX (l : Launch) (hl0 : l.stackTraces = false) (D : va_G) (A : Nat → Prop) (sad : Nat → Nat) (τ : zTy) (fi : zFi) (fr : zFr) (ol : Int64) (L : Nat) (hF : zFix τ fr) (hn : fi 30 21 = nI L) (hL4 : L ≤ 400) (n : Nat) (hMt : zMt fi n) (hMx : zMx fi n) (hB0 : ∀ j, j < L → 0 ≤ (fi 47 j).toInt) : Met l yX12_rules wsX12_rules ({ frames := 4, cells := 0, slots := 0, locals := 93 }) (va_Pc [.ref (τ.1 30)] (zQc D A sad τ fi fr ol)) (va_Qi (fun (r : Int32) (u : zFi) => ((∃ m D9, zRls (fi 47) L (fi 31) n 401 (zS (fi 47) L 0) (zDot fi) 0 = .ok (m, D9) ∧ r = nI m ∧ u 30 0 = nI 0 ∧ u 30 24 = -1 ∧ (∀ k, k < 4 + n → zDot u k = D9 k) ∧ ∀ k, 4 + n ≤ k → zDot u k = zDot fi k) ∨ (∃ p, p ≤ 400 ∧ zRls (fi 47) L (fi 31) n 401 (zS (fi 47) L 0) (zDot fi) 0 = .error p ∧ r = nI 0 ∧ u 30 0 = nI 1 ∧ u 30 24 = nI p ∧ zDot u = zDot fi)) ∧ u 30 21 = nI 0 ∧ zMx u n ∧ ∀ a b, ¬ (a = 40 ∨ a = 44 ∨ a = 45 ∨ a = 46 ∨ (a = 30 ∧ (b = 0 ∨ (21 ≤ b ∧ b ≤ 25)))) → u a b = fi a b) (fun (u : zFi) (t : State) => zH D A τ u fr ol t t.heap) A) 0 0 A := by
  refine Met.ofW (cc := cX12_rules) (maxL := 5) (ret := (some .int)) (by decide) rfl ?_
  intro p9 e9 s m args below meth c9 s₁ B hml hv
  obtain ⟨rfl, hz, hH, hA⟩ := hv
  have hx := B.exec
  have hb := B.bytes
  have hr := B.returns
  have hts := atoms_spec (ws := wsX12_rules) B.pre
  have hown : s.vm.findClass RX12 = some m.cls := findClass_of_methodNamed B.named
  have hlocks := B.notSynchronized
  have hS : va_S A s.heap s.heap [] := va_S.rf
  have hl := lv_entry ([.ref (τ.1 30)]) (n := 5) (Nat.le_of_ble_eq_true rfl)
  rw [lg_entry_eq]
  generalize (lg_sl ([.ref (τ.1 30)]) ++ List.replicate (5 - (lg_sl ([.ref (τ.1 30)])).length) Slot.unset).toArray = ls at hl ⊢
  have hl : lv_has ls 5 [(0, .ref (τ.1 30))] := hl
  have hm30 := hMt.1
  have hMt0 := hMt
  have hMx0 := hMx
  obtain ⟨r0, hr0⟩ : ∃ w, fi 44 0 = w := ⟨_, rfl⟩
  obtain ⟨r1, hr1⟩ : ∃ w, fi 44 1 = w := ⟨_, rfl⟩
  obtain ⟨r2, hr2⟩ : ∃ w, fi 44 2 = w := ⟨_, rfl⟩
  obtain ⟨r3, hr3⟩ : ∃ w, fi 44 3 = w := ⟨_, rfl⟩
  have hw0 := hts (.fieldLink RX12 165 "PostHouseModel" "thrown" "I") (by decide +kernel)
  have hiX12 : ∀ w ∈ u_ws RX12 TX12 71, w ∈ wsX12_rules := fun _ h => List.mem_cons_of_mem _ (List.mem_append_right _ h)
  have hw2 := hts (.fieldLink RX12 52 "PostHouseModel" "draft" "[I") (by decide +kernel)
  have hw3 := hts (.fieldLink RX12 49 "PostHouseModel" "rule" "[I") (by decide +kernel)
  have hw4 := hts (.fieldLink RX12 168 "PostHouseModel" "things" "I") (by decide +kernel)
  have hw5 := hts (.fieldLink RX12 37 "PostHouseModel" "other" "[I") (by decide +kernel)
  have hw6 := hts (.fieldLink RX12 55 "PostHouseModel" "draftOther" "[I") (by decide +kernel)
  have hw7 := hts (.fieldLink RX12 206 "PostHouseModel" "at" "I") (by decide +kernel)
  refine lv_aload_n hx hb dX12_rules_0 rfl (lv_at hl 0 rfl) ?_
  refine va_callv (va_runV (As := []) (rest := []) ⟨hx, hb, hml, hown, hts⟩ (m_beginX l hl0 D A sad τ fi fr ol L hF hn) (cwV 0 hts gX12_rules_X12_beginText rfl rfl rfl (by decide +kernel) ⟨Nat.le_of_ble_eq_true rfl, Nat.le_of_ble_eq_true rfl⟩) ⟨zQc_bl, zRecv hH (zk_30 hF) rfl, zQc_at hz hS hA hH⟩ rfl rfl hl.1 rfl (lv_room (Nat.le_of_ble_eq_true rfl)) dX12_rules_1 ⟨Nat.le_of_ble_eq_true rfl, Nat.le_of_ble_eq_true rfl⟩) hS (fun q _ h => h) (fun q h => h) (fun u9 t9 H1 locs ht9 hvm9 hw hB hz1 hk1 hS => ?_)
  have hH := zMv ht9 hvm9 hB
  clear hB
  generalize u9 = f102 at hw hH
  generalize H1 = H at hH hS ⊢
  obtain ⟨q21, q22, q23, q24, hf21⟩ := hw
  have q103 : f102 44 0 = r0 := by rw [hf21 44 0 (by omega)]; exact hr0
  have q104 : f102 44 1 = r1 := by rw [hf21 44 1 (by omega)]; exact hr1
  have q105 : f102 44 2 = r2 := by rw [hf21 44 2 (by omega)]; exact hr2
  have q106 : f102 44 3 = r3 := by rw [hf21 44 3 (by omega)]; exact hr3
  have q107 : f102 30 2 = nI n := by rw [hf21 30 2 (by omega)]; exact hMt.2.1
  have hMt := zMt.ci (fi' := f102) hMt (fun i9 k9 h9 => hf21 i9 k9 (by omega))
  have hMx := zMx.ci (fi' := f102) hMx (fun i9 k9 h9 => hf21 i9 k9 (by omega))
  refine lv_aload_n hx hb dX12_rules_4 rfl (lv_at hl 0 rfl) ?_
  refine lv_iconst (v := nI 0) hx hb dX12_rules_5 (by decide) ?_
  refine zPutI (D := D) (ci := 12) (ty := .int) (C := RX12) (T := TX12) (N := 71) hx hb hts hiX12 tyX12 tyX12_ok nmX12 hown hH hS (zk_30 hF) rfl 0 (by decide) rfl hw0 (fun _ h9 => h9) rfl (by decide +kernel) rfl rfl dX12_rules_6 (fun H locs hH hS => ?_)
  obtain ⟨f108, ef108⟩ : ∃ f9 : zFi, f9 = zu f102 30 0 (nI 0) := ⟨_, rfl⟩
  rw [← ef108] at hH
  have q109 : f108 44 0 = r0 := by rw [ef108, zu_n (fun h9 => absurd h9.1 (by decide))]; exact q103
  have q110 : f108 44 1 = r1 := by rw [ef108, zu_n (fun h9 => absurd h9.1 (by decide))]; exact q104
  have q111 : f108 44 2 = r2 := by rw [ef108, zu_n (fun h9 => absurd h9.1 (by decide))]; exact q105
  have q112 : f108 44 3 = r3 := by rw [ef108, zu_n (fun h9 => absurd h9.1 (by decide))]; exact q106
  have q113 : f108 30 2 = nI n := by rw [ef108, zu_n (fun h9 => absurd h9.2 (by decide))]; exact q107
  have q114 : f108 30 21 = nI 0 := by rw [ef108, zu_n (fun h9 => absurd h9.2 (by decide))]; exact q21
  have q115 : f108 30 22 = nI L := by rw [ef108, zu_n (fun h9 => absurd h9.2 (by decide))]; exact q22
  have q116 : f108 30 23 = nI 0 := by rw [ef108, zu_n (fun h9 => absurd h9.2 (by decide))]; exact q23
  have q117 : f108 30 24 = (-1) := by rw [ef108, zu_n (fun h9 => absurd h9.2 (by decide))]; exact q24
  have q118 : f108 30 0 = nI 0 := by rw [ef108]; exact zu_s
  have hMt := zMt.ci (fi' := f108) hMt (fun i9 k9 h9 => by rw [ef108]; exact zu_n (by omega))
  have hMx := zMx.ci (fi' := f108) hMx (fun i9 k9 h9 => by rw [ef108]; exact zu_n (by omega))
  refine lv_iconst (v := nI 0) hx hb dX12_rules_9 (by decide) ?_
  refine lv_istore_n (lv' := [(1, .int (nI 0)), (0, .ref (τ.1 30))]) hx hb dX12_rules_10 rfl hl (by decide) rfl (fun ls hl => ?_)
  refine lv_iload_n hx hb dX12_rules_11 rfl (lv_at hl 0 rfl) ?_
  refine lv_iconst (v := nI 4) hx hb dX12_rules_12 (by decide) ?_
  refine lv_icmp_ge (tgt := 34) hx hb dX12_rules_13 (by decide) (fun c119 => absurd c119 (by decide)) (fun c119 => ?_)
  refine lv_aload_n hx hb dX12_rules_16 rfl (lv_at hl 1 rfl) ?_
  refine zGetR (D := D) (ci := 12) (C := RX12) (T := TX12) (N := 71) hx hb hts hiX12 hown hH (zk_30 hF) rfl 18 (by decide) rfl hw2 (fun _ h9 => h9) dX12_rules_17 (zr_30_18 hF) ?_
  refine lv_iload_n hx hb dX12_rules_20 rfl (lv_at hl 0 rfl) ?_
  refine lv_aload_n hx hb dX12_rules_21 rfl (lv_at hl 1 rfl) ?_
  refine zGetR (D := D) (ci := 12) (C := RX12) (T := TX12) (N := 71) hx hb hts hiX12 hown hH (zk_30 hF) rfl 17 (by decide) rfl hw3 (fun _ h9 => h9) dX12_rules_22 (zr_30_17 hF) ?_
  refine lv_iload_n hx hb dX12_rules_25 rfl (lv_at hl 0 rfl) ?_
  refine zIaldN (D := D) hx hb hH (zk_44 hF) (zn_44 hF) (by omega) (by omega) q109 dX12_rules_26 ?_
  refine zIastN (D := D) hx hb hH hS (zk_45 hF) (zn_45 hF) (by omega) (by omega) dX12_rules_27 (fun H locs hH hS => ?_)
  obtain ⟨f120, ef120⟩ : ∃ f9 : zFi, f9 = zu f108 45 0 r0 := ⟨_, rfl⟩
  rw [← ef120] at hH
  have q121 : f120 44 0 = r0 := by rw [ef120, zu_n (fun h9 => absurd h9.1 (by decide))]; exact q109
  have q122 : f120 44 1 = r1 := by rw [ef120, zu_n (fun h9 => absurd h9.1 (by decide))]; exact q110
  have q123 : f120 44 2 = r2 := by rw [ef120, zu_n (fun h9 => absurd h9.1 (by decide))]; exact q111
  have q124 : f120 44 3 = r3 := by rw [ef120, zu_n (fun h9 => absurd h9.1 (by decide))]; exact q112
  have q125 : f120 30 2 = nI n := by rw [ef120, zu_n (fun h9 => absurd h9.1 (by decide))]; exact q113
  have q126 : f120 30 21 = nI 0 := by rw [ef120, zu_n (fun h9 => absurd h9.1 (by decide))]; exact q114
  have q127 : f120 30 22 = nI L := by rw [ef120, zu_n (fun h9 => absurd h9.1 (by decide))]; exact q115
  have q128 : f120 30 23 = nI 0 := by rw [ef120, zu_n (fun h9 => absurd h9.1 (by decide))]; exact q116
  have q129 : f120 30 24 = (-1) := by rw [ef120, zu_n (fun h9 => absurd h9.1 (by decide))]; exact q117
  have q130 : f120 30 0 = nI 0 := by rw [ef120, zu_n (fun h9 => absurd h9.1 (by decide))]; exact q118
  have q131 : f120 45 0 = r0 := by rw [ef120]; exact zu_s
  have hMt := zMt.ci (fi' := f120) hMt (fun i9 k9 h9 => by rw [ef120]; exact zu_n (by omega))
  have hMx := zMx.ci (fi' := f120) hMx (fun i9 k9 h9 => by rw [ef120]; exact zu_n (by omega))
  refine lv_iinc (v := nI 1) (lv' := [(1, .int (nI 1)), (0, .ref (τ.1 30))]) hx hb dX12_rules_28 hl (k := 0) rfl (by decide) (by decide) rfl (fun ls hl => ?_)
  refine lv_goto (tgt := 11) hx hb dX12_rules_31 (by decide) ?_
  refine lv_iload_n hx hb dX12_rules_11 rfl (lv_at hl 0 rfl) ?_
  refine lv_iconst (v := nI 4) hx hb dX12_rules_12 (by decide) ?_
  refine lv_icmp_ge (tgt := 34) hx hb dX12_rules_13 (by decide) (fun c132 => absurd c132 (by decide)) (fun c132 => ?_)
  refine lv_aload_n hx hb dX12_rules_16 rfl (lv_at hl 1 rfl) ?_
  refine zGetR (D := D) (ci := 12) (C := RX12) (T := TX12) (N := 71) hx hb hts hiX12 hown hH (zk_30 hF) rfl 18 (by decide) rfl hw2 (fun _ h9 => h9) dX12_rules_17 (zr_30_18 hF) ?_
  refine lv_iload_n hx hb dX12_rules_20 rfl (lv_at hl 0 rfl) ?_
  refine lv_aload_n hx hb dX12_rules_21 rfl (lv_at hl 1 rfl) ?_
  refine zGetR (D := D) (ci := 12) (C := RX12) (T := TX12) (N := 71) hx hb hts hiX12 hown hH (zk_30 hF) rfl 17 (by decide) rfl hw3 (fun _ h9 => h9) dX12_rules_22 (zr_30_17 hF) ?_
  refine lv_iload_n hx hb dX12_rules_25 rfl (lv_at hl 0 rfl) ?_
  refine zIaldN (D := D) hx hb hH (zk_44 hF) (zn_44 hF) (by omega) (by omega) q122 dX12_rules_26 ?_
  refine zIastN (D := D) hx hb hH hS (zk_45 hF) (zn_45 hF) (by omega) (by omega) dX12_rules_27 (fun H locs hH hS => ?_)
  obtain ⟨f133, ef133⟩ : ∃ f9 : zFi, f9 = zu f120 45 1 r1 := ⟨_, rfl⟩
  rw [← ef133] at hH
  have q134 : f133 44 0 = r0 := by rw [ef133, zu_n (fun h9 => absurd h9.1 (by decide))]; exact q121
  have q135 : f133 44 1 = r1 := by rw [ef133, zu_n (fun h9 => absurd h9.1 (by decide))]; exact q122
  have q136 : f133 44 2 = r2 := by rw [ef133, zu_n (fun h9 => absurd h9.1 (by decide))]; exact q123
  have q137 : f133 44 3 = r3 := by rw [ef133, zu_n (fun h9 => absurd h9.1 (by decide))]; exact q124
  have q138 : f133 30 2 = nI n := by rw [ef133, zu_n (fun h9 => absurd h9.1 (by decide))]; exact q125
  have q139 : f133 30 21 = nI 0 := by rw [ef133, zu_n (fun h9 => absurd h9.1 (by decide))]; exact q126
  have q140 : f133 30 22 = nI L := by rw [ef133, zu_n (fun h9 => absurd h9.1 (by decide))]; exact q127
  have q141 : f133 30 23 = nI 0 := by rw [ef133, zu_n (fun h9 => absurd h9.1 (by decide))]; exact q128
  have q142 : f133 30 24 = (-1) := by rw [ef133, zu_n (fun h9 => absurd h9.1 (by decide))]; exact q129
  have q143 : f133 30 0 = nI 0 := by rw [ef133, zu_n (fun h9 => absurd h9.1 (by decide))]; exact q130
  have q144 : f133 45 0 = r0 := by rw [ef133, zu_n (fun h9 => absurd h9.2 (by decide))]; exact q131
  have q145 : f133 45 1 = r1 := by rw [ef133]; exact zu_s
  have hMt := zMt.ci (fi' := f133) hMt (fun i9 k9 h9 => by rw [ef133]; exact zu_n (by omega))
  have hMx := zMx.ci (fi' := f133) hMx (fun i9 k9 h9 => by rw [ef133]; exact zu_n (by omega))
  refine lv_iinc (v := nI 2) (lv' := [(1, .int (nI 2)), (0, .ref (τ.1 30))]) hx hb dX12_rules_28 hl (k := 0) rfl (by decide) (by decide) rfl (fun ls hl => ?_)
  refine lv_goto (tgt := 11) hx hb dX12_rules_31 (by decide) ?_
  refine lv_iload_n hx hb dX12_rules_11 rfl (lv_at hl 0 rfl) ?_
  refine lv_iconst (v := nI 4) hx hb dX12_rules_12 (by decide) ?_
  refine lv_icmp_ge (tgt := 34) hx hb dX12_rules_13 (by decide) (fun c146 => absurd c146 (by decide)) (fun c146 => ?_)
  refine lv_aload_n hx hb dX12_rules_16 rfl (lv_at hl 1 rfl) ?_
  refine zGetR (D := D) (ci := 12) (C := RX12) (T := TX12) (N := 71) hx hb hts hiX12 hown hH (zk_30 hF) rfl 18 (by decide) rfl hw2 (fun _ h9 => h9) dX12_rules_17 (zr_30_18 hF) ?_
  refine lv_iload_n hx hb dX12_rules_20 rfl (lv_at hl 0 rfl) ?_
  refine lv_aload_n hx hb dX12_rules_21 rfl (lv_at hl 1 rfl) ?_
  refine zGetR (D := D) (ci := 12) (C := RX12) (T := TX12) (N := 71) hx hb hts hiX12 hown hH (zk_30 hF) rfl 17 (by decide) rfl hw3 (fun _ h9 => h9) dX12_rules_22 (zr_30_17 hF) ?_
  refine lv_iload_n hx hb dX12_rules_25 rfl (lv_at hl 0 rfl) ?_
  refine zIaldN (D := D) hx hb hH (zk_44 hF) (zn_44 hF) (by omega) (by omega) q136 dX12_rules_26 ?_
  refine zIastN (D := D) hx hb hH hS (zk_45 hF) (zn_45 hF) (by omega) (by omega) dX12_rules_27 (fun H locs hH hS => ?_)
  obtain ⟨f147, ef147⟩ : ∃ f9 : zFi, f9 = zu f133 45 2 r2 := ⟨_, rfl⟩
  rw [← ef147] at hH
  have q148 : f147 44 0 = r0 := by rw [ef147, zu_n (fun h9 => absurd h9.1 (by decide))]; exact q134
  have q149 : f147 44 1 = r1 := by rw [ef147, zu_n (fun h9 => absurd h9.1 (by decide))]; exact q135
  have q150 : f147 44 2 = r2 := by rw [ef147, zu_n (fun h9 => absurd h9.1 (by decide))]; exact q136
  have q151 : f147 44 3 = r3 := by rw [ef147, zu_n (fun h9 => absurd h9.1 (by decide))]; exact q137
  have q152 : f147 30 2 = nI n := by rw [ef147, zu_n (fun h9 => absurd h9.1 (by decide))]; exact q138
  have q153 : f147 30 21 = nI 0 := by rw [ef147, zu_n (fun h9 => absurd h9.1 (by decide))]; exact q139
  have q154 : f147 30 22 = nI L := by rw [ef147, zu_n (fun h9 => absurd h9.1 (by decide))]; exact q140
  have q155 : f147 30 23 = nI 0 := by rw [ef147, zu_n (fun h9 => absurd h9.1 (by decide))]; exact q141
  have q156 : f147 30 24 = (-1) := by rw [ef147, zu_n (fun h9 => absurd h9.1 (by decide))]; exact q142
  have q157 : f147 30 0 = nI 0 := by rw [ef147, zu_n (fun h9 => absurd h9.1 (by decide))]; exact q143
  have q158 : f147 45 0 = r0 := by rw [ef147, zu_n (fun h9 => absurd h9.2 (by decide))]; exact q144
  have q159 : f147 45 1 = r1 := by rw [ef147, zu_n (fun h9 => absurd h9.2 (by decide))]; exact q145
  have q160 : f147 45 2 = r2 := by rw [ef147]; exact zu_s
  have hMt := zMt.ci (fi' := f147) hMt (fun i9 k9 h9 => by rw [ef147]; exact zu_n (by omega))
  have hMx := zMx.ci (fi' := f147) hMx (fun i9 k9 h9 => by rw [ef147]; exact zu_n (by omega))
  refine lv_iinc (v := nI 3) (lv' := [(1, .int (nI 3)), (0, .ref (τ.1 30))]) hx hb dX12_rules_28 hl (k := 0) rfl (by decide) (by decide) rfl (fun ls hl => ?_)
  refine lv_goto (tgt := 11) hx hb dX12_rules_31 (by decide) ?_
  refine lv_iload_n hx hb dX12_rules_11 rfl (lv_at hl 0 rfl) ?_
  refine lv_iconst (v := nI 4) hx hb dX12_rules_12 (by decide) ?_
  refine lv_icmp_ge (tgt := 34) hx hb dX12_rules_13 (by decide) (fun c161 => absurd c161 (by decide)) (fun c161 => ?_)
  refine lv_aload_n hx hb dX12_rules_16 rfl (lv_at hl 1 rfl) ?_
  refine zGetR (D := D) (ci := 12) (C := RX12) (T := TX12) (N := 71) hx hb hts hiX12 hown hH (zk_30 hF) rfl 18 (by decide) rfl hw2 (fun _ h9 => h9) dX12_rules_17 (zr_30_18 hF) ?_
  refine lv_iload_n hx hb dX12_rules_20 rfl (lv_at hl 0 rfl) ?_
  refine lv_aload_n hx hb dX12_rules_21 rfl (lv_at hl 1 rfl) ?_
  refine zGetR (D := D) (ci := 12) (C := RX12) (T := TX12) (N := 71) hx hb hts hiX12 hown hH (zk_30 hF) rfl 17 (by decide) rfl hw3 (fun _ h9 => h9) dX12_rules_22 (zr_30_17 hF) ?_
  refine lv_iload_n hx hb dX12_rules_25 rfl (lv_at hl 0 rfl) ?_
  refine zIaldN (D := D) hx hb hH (zk_44 hF) (zn_44 hF) (by omega) (by omega) q151 dX12_rules_26 ?_
  refine zIastN (D := D) hx hb hH hS (zk_45 hF) (zn_45 hF) (by omega) (by omega) dX12_rules_27 (fun H locs hH hS => ?_)
  obtain ⟨f162, ef162⟩ : ∃ f9 : zFi, f9 = zu f147 45 3 r3 := ⟨_, rfl⟩
  rw [← ef162] at hH
  have q163 : f162 44 0 = r0 := by rw [ef162, zu_n (fun h9 => absurd h9.1 (by decide))]; exact q148
  have q164 : f162 44 1 = r1 := by rw [ef162, zu_n (fun h9 => absurd h9.1 (by decide))]; exact q149
  have q165 : f162 44 2 = r2 := by rw [ef162, zu_n (fun h9 => absurd h9.1 (by decide))]; exact q150
  have q166 : f162 44 3 = r3 := by rw [ef162, zu_n (fun h9 => absurd h9.1 (by decide))]; exact q151
  have q167 : f162 30 2 = nI n := by rw [ef162, zu_n (fun h9 => absurd h9.1 (by decide))]; exact q152
  have q168 : f162 30 21 = nI 0 := by rw [ef162, zu_n (fun h9 => absurd h9.1 (by decide))]; exact q153
  have q169 : f162 30 22 = nI L := by rw [ef162, zu_n (fun h9 => absurd h9.1 (by decide))]; exact q154
  have q170 : f162 30 23 = nI 0 := by rw [ef162, zu_n (fun h9 => absurd h9.1 (by decide))]; exact q155
  have q171 : f162 30 24 = (-1) := by rw [ef162, zu_n (fun h9 => absurd h9.1 (by decide))]; exact q156
  have q172 : f162 30 0 = nI 0 := by rw [ef162, zu_n (fun h9 => absurd h9.1 (by decide))]; exact q157
  have q173 : f162 45 0 = r0 := by rw [ef162, zu_n (fun h9 => absurd h9.2 (by decide))]; exact q158
  have q174 : f162 45 1 = r1 := by rw [ef162, zu_n (fun h9 => absurd h9.2 (by decide))]; exact q159
  have q175 : f162 45 2 = r2 := by rw [ef162, zu_n (fun h9 => absurd h9.2 (by decide))]; exact q160
  have q176 : f162 45 3 = r3 := by rw [ef162]; exact zu_s
  have hMt := zMt.ci (fi' := f162) hMt (fun i9 k9 h9 => by rw [ef162]; exact zu_n (by omega))
  have hMx := zMx.ci (fi' := f162) hMx (fun i9 k9 h9 => by rw [ef162]; exact zu_n (by omega))
  refine lv_iinc (v := nI 4) (lv' := [(1, .int (nI 4)), (0, .ref (τ.1 30))]) hx hb dX12_rules_28 hl (k := 0) rfl (by decide) (by decide) rfl (fun ls hl => ?_)
  refine lv_goto (tgt := 11) hx hb dX12_rules_31 (by decide) ?_
  refine lv_iload_n hx hb dX12_rules_11 rfl (lv_at hl 0 rfl) ?_
  refine lv_iconst (v := nI 4) hx hb dX12_rules_12 (by decide) ?_
  refine lv_icmp_ge (tgt := 34) hx hb dX12_rules_13 (by decide) (fun c177 => ?_) (fun c177 => absurd (by decide) c177)
  refine lv_iconst (v := nI 0) hx hb dX12_rules_34 (by decide) ?_
  refine lv_istore_n (lv' := [(1, .int (nI 0)), (0, .ref (τ.1 30))]) hx hb dX12_rules_35 rfl hl (by decide) rfl (fun ls hl => ?_)
  refine zLp (σ := Nat × zFi) (fun x9 k9 H locs ls => (fun (i : Nat) (f : zFi) => k9 = n - i ∧ (i ≤ n ∧ ((∀ t, t < i → f 46 t = -1 ∨ ∃ t2, t2 < n ∧ f 46 t = nI t2) ∧ ∀ t, t < i → f 46 t = fi 40 t) ∧ (f 45 0 = r0 ∧ f 45 1 = r1 ∧ f 45 2 = r2 ∧ f 45 3 = r3) ∧ (f 30 22 = nI L ∧ f 30 21 = nI 0 ∧ f 30 0 = nI 0) ∧ f 30 23 = nI 0 ∧ f 30 24 = -1 ∧ ∀ a b, ¬ (a = 45 ∨ a = 46 ∨ (a = 30 ∧ (b = 0 ∨ (21 ≤ b ∧ b ≤ 25)))) → f a b = fi a b) ∧ zH D A τ f fr ol s H ∧ va_S A s.heap H locs ∧ lv_has ls 5 [(0, .ref (τ.1 30)), (1, .int (nI i))]) x9.1 x9.2) (0, f162) (n - 0) (show n - 0 = n - 0 ∧ (0 ≤ n ∧ ((∀ t, t < 0 → f162 46 t = -1 ∨ ∃ t2, t2 < n ∧ f162 46 t = nI t2) ∧ ∀ t, t < 0 → f162 46 t = fi 40 t) ∧ (f162 45 0 = r0 ∧ f162 45 1 = r1 ∧ f162 45 2 = r2 ∧ f162 45 3 = r3) ∧ (f162 30 22 = nI L ∧ f162 30 21 = nI 0 ∧ f162 30 0 = nI 0) ∧ f162 30 23 = nI 0 ∧ f162 30 24 = -1 ∧ ∀ a b, ¬ (a = 45 ∨ a = 46 ∨ (a = 30 ∧ (b = 0 ∨ (21 ≤ b ∧ b ≤ 25)))) → f162 a b = fi a b) ∧ zH D A τ f162 fr ol s _ ∧ va_S A s.heap _ _ ∧ lv_has _ 5 [(0, .ref (τ.1 30)), (1, .int (nI 0))] from ⟨rfl, ⟨Nat.zero_le _, ⟨fun j h => absurd h (by omega), fun j h => absurd h (by omega)⟩, ⟨q173, q174, q175, q176⟩, ⟨q169, q168, q172⟩, q170, q171, fun a b h => by rw [ef162, zu_n (by omega), ef147, zu_n (by omega), ef133, zu_n (by omega), ef120, zu_n (by omega), ef108, zu_n (by omega), hf21 a b (by omega)]⟩, hH, hS, lv_sub hl [1, 0] rfl⟩) (fun k9 ih x9 H locs ls hv9 => ?_)
  obtain ⟨i, f⟩ := x9
  have hv9 : k9 = n - i ∧ (i ≤ n ∧ ((∀ t, t < i → f 46 t = -1 ∨ ∃ t2, t2 < n ∧ f 46 t = nI t2) ∧ ∀ t, t < i → f 46 t = fi 40 t) ∧ (f 45 0 = r0 ∧ f 45 1 = r1 ∧ f 45 2 = r2 ∧ f 45 3 = r3) ∧ (f 30 22 = nI L ∧ f 30 21 = nI 0 ∧ f 30 0 = nI 0) ∧ f 30 23 = nI 0 ∧ f 30 24 = -1 ∧ ∀ a b, ¬ (a = 45 ∨ a = 46 ∨ (a = 30 ∧ (b = 0 ∨ (21 ≤ b ∧ b ≤ 25)))) → f a b = fi a b) ∧ zH D A τ f fr ol s H ∧ va_S A s.heap H locs ∧ lv_has ls 5 [(0, .ref (τ.1 30)), (1, .int (nI i))] := hv9
  obtain ⟨hkih178, hv9, hH, hS, hl⟩ := hv9
  obtain ⟨h1, ⟨hdo, hcp⟩, h45, hst, p23, p24, hfr⟩ := hv9
  have ih178 := ih
  clear ih
  have hMt := zMt.ci (fi' := f) hMt0 (fun i9 k9 h9 => hfr i9 k9 (by omega))
  have hMx := zMx.ci (fi' := f) hMx0 (fun i9 k9 h9 => hfr i9 k9 (by omega))
  obtain ⟨p22, p21, p0⟩ := hst
  obtain ⟨p450, p451, p452, p453⟩ := h45
  have p2 := hMt.2.1
  refine lv_iload_n hx hb dX12_rules_36 rfl (lv_at hl 1 rfl) ?_
  refine lv_aload_n hx hb dX12_rules_37 rfl (lv_at hl 0 rfl) ?_
  refine zGetI (D := D) (ci := 12) (C := RX12) (T := TX12) (N := 71) hx hb hts hiX12 hown hH (zk_30 hF) rfl 2 (by decide) rfl hw4 (fun _ h9 => h9) dX12_rules_38 p2 ?_
  refine lv_icmp_ge (tgt := 62) hx hb dX12_rules_41 (by decide) (fun c179 => ?_) (fun c179 => ?_)
  · have zc179 := c179
    replace zc179 := zc_le (nI_toInt (by omega)) (nI_toInt (by omega)) zc179
    refine lv_iconst (v := nI 0) hx hb dX12_rules_62 (by decide) ?_
    refine lv_istore_n (lv' := [(1, .int (nI 0)), (0, .ref (τ.1 30))]) hx hb dX12_rules_63 rfl hl (by decide) rfl (fun ls hl => ?_)
    refine lv_iconst (v := nI 1) hx hb dX12_rules_64 (by decide) ?_
    refine lv_istore_n (lv' := [(2, .int (nI 1)), (1, .int (nI 0)), (0, .ref (τ.1 30))]) hx hb dX12_rules_65 rfl hl (by decide) rfl (fun ls hl => ?_)
    refine lv_iconst (v := nI 1) hx hb dX12_rules_66 (by decide) ?_
    refine lv_istore_n (lv' := [(3, .int (nI 1)), (2, .int (nI 1)), (1, .int (nI 0)), (0, .ref (τ.1 30))]) hx hb dX12_rules_67 rfl hl (by decide) rfl (fun ls hl => ?_)
    refine zLp (σ := Nat × Nat × Int32 × Nat × (Nat → Int32) × zFi) (fun x9 k9 H locs ls => (fun (mm : Nat) (m2 : Nat) (y3 : Int32) (c : Nat) (D9 : Nat → Int32) (f2 : zFi) => k9 = 2 * (L - c) + m2 ∧ (c ≤ L ∧ m2 ≤ 1 ∧ f2 30 23 = nI c ∧ zMd f2 n ∧ (f2 30 22 = nI L ∧ f2 30 21 = nI 0 ∧ f2 30 0 = nI 0) ∧ zLm (zRls (fi 47) L (fi 31) n 401 (zS (fi 47) L 0) (zDot fi) 0) (fi 47) (fi 31) L n mm m2 y3 c D9 f2 ∧ ∀ a b, ¬ (a = 45 ∨ a = 46 ∨ (a = 30 ∧ (b = 0 ∨ (21 ≤ b ∧ b ≤ 25)))) → f2 a b = fi a b) ∧ zH D A τ f2 fr ol s H ∧ va_S A s.heap H locs ∧ lv_has ls 5 [(0, .ref (τ.1 30)), (1, .int (nI mm)), (2, .int (nI m2)), (3, .int y3)]) x9.1 x9.2.1 x9.2.2.1 x9.2.2.2.1 x9.2.2.2.2.1 x9.2.2.2.2.2) (0, 1, nI 1, 0, (zDot fi), f) (2 * (L - 0) + 1) (show 2 * (L - 0) + 1 = 2 * (L - 0) + 1 ∧ (0 ≤ L ∧ 1 ≤ 1 ∧ f 30 23 = nI 0 ∧ zMd f n ∧ (f 30 22 = nI L ∧ f 30 21 = nI 0 ∧ f 30 0 = nI 0) ∧ zLm (zRls (fi 47) L (fi 31) n 401 (zS (fi 47) L 0) (zDot fi) 0) (fi 47) (fi 31) L n 0 1 (nI 1) 0 ((zDot fi)) f ∧ ∀ a b, ¬ (a = 45 ∨ a = 46 ∨ (a = 30 ∧ (b = 0 ∨ (21 ≤ b ∧ b ≤ 25)))) → f a b = fi a b) ∧ zH D A τ f fr ol s _ ∧ va_S A s.heap _ _ ∧ lv_has _ 5 [(0, .ref (τ.1 30)), (1, .int (nI 0)), (2, .int (nI 1)), (3, .int (nI 1))] from ⟨rfl, ⟨by omega, by omega, p23, fun j h => hdo j (by omega), ⟨p22, p21, p0⟩, Or.inr ⟨rfl, p24, zDmo_init (by rw [p450, hr0]) (by rw [p451, hr1]) (by rw [p452, hr2]) (by rw [p453, hr3]) (by omega) (fun t h => hcp t (by omega)), Or.inl ⟨rfl, by omega, rfl⟩⟩, fun a b h => hfr a b h⟩, hH, hS, lv_sub hl [3, 2, 1, 0] rfl⟩) (fun k9 ih x9 H locs ls hv9 => ?_)
    obtain ⟨mm, m2, y3, c, D9, f2⟩ := x9
    have hv9 : k9 = 2 * (L - c) + m2 ∧ (c ≤ L ∧ m2 ≤ 1 ∧ f2 30 23 = nI c ∧ zMd f2 n ∧ (f2 30 22 = nI L ∧ f2 30 21 = nI 0 ∧ f2 30 0 = nI 0) ∧ zLm (zRls (fi 47) L (fi 31) n 401 (zS (fi 47) L 0) (zDot fi) 0) (fi 47) (fi 31) L n mm m2 y3 c D9 f2 ∧ ∀ a b, ¬ (a = 45 ∨ a = 46 ∨ (a = 30 ∧ (b = 0 ∨ (21 ≤ b ∧ b ≤ 25)))) → f2 a b = fi a b) ∧ zH D A τ f2 fr ol s H ∧ va_S A s.heap H locs ∧ lv_has ls 5 [(0, .ref (τ.1 30)), (1, .int (nI mm)), (2, .int (nI m2)), (3, .int y3)] := hv9
    obtain ⟨hkih180, hv9, hH, hS, hl⟩ := hv9
    obtain ⟨h2, hm2, p23, hMd, hst2, hlm, hfr2⟩ := hv9
    have ih180 := ih
    clear ih
    have hMt := zMt.ci (fi' := f2) hMt0 (fun i9 k9 h9 => hfr2 i9 k9 (by omega))
    have hMx := zMx.ci (fi' := f2) hMx0 (fun i9 k9 h9 => hfr2 i9 k9 (by omega))
    obtain ⟨p22, p21, p0⟩ := hst2
    have p2 := hMt.2.1
    refine lv_iload_n hx hb dX12_rules_68 rfl (lv_at hl 2 rfl) ?_
    refine lv_if_eq (tgt := 120) hx hb dX12_rules_69 (by decide) (fun c181 => ?_) (fun c181 => ?_)
    · have zc181 := c181
      replace zc181 := zc_eq (nI_toInt (by omega)) ((by decide : (0 : Int32).toInt = 0)) zc181
      refine lv_iload_n hx hb dX12_rules_120 rfl (lv_at hl 3 rfl) ?_
      refine lv_if_eq (tgt := 141) hx hb dX12_rules_121 (by decide) (fun c182 => ?_) (fun c182 => ?_)
      · have zc182 := c182
        replace zc182 := zc_eq (rfl) ((by decide : (0 : Int32).toInt = 0)) zc182
        have zy3 := zc182
        refine lv_iload_n hx hb dX12_rules_141 rfl (lv_at hl 3 rfl) ?_
        refine lv_if_ne (tgt := 152) hx hb dX12_rules_142 (by decide) (fun c183 => False.elim (by have zc183 := zc_neq (rfl) ((by decide : (0 : Int32).toInt = 0)) c183; omega)) (fun c183 => ?_)
        refine lv_aload_n hx hb dX12_rules_145 rfl (lv_at hl 0 rfl) ?_
        refine lv_iconst (v := nI 1) hx hb dX12_rules_146 (by decide) ?_
        refine zPutI (D := D) (ci := 12) (ty := .int) (C := RX12) (T := TX12) (N := 71) hx hb hts hiX12 tyX12 tyX12_ok nmX12 hown hH hS (zk_30 hF) rfl 0 (by decide) rfl hw0 (fun _ h9 => h9) rfl (by decide +kernel) rfl rfl dX12_rules_147 (fun H locs hH hS => ?_)
        obtain ⟨f184, ef184⟩ : ∃ f9 : zFi, f9 = zu f2 30 0 (nI 1) := ⟨_, rfl⟩
        rw [← ef184] at hH
        have q185 : f184 30 22 = nI L := by rw [ef184, zu_n (fun h9 => absurd h9.2 (by decide))]; exact p22
        have q186 : f184 30 21 = nI 0 := by rw [ef184, zu_n (fun h9 => absurd h9.2 (by decide))]; exact p21
        have q187 : f184 30 23 = nI c := by rw [ef184, zu_n (fun h9 => absurd h9.2 (by decide))]; exact p23
        have q188 : f184 30 2 = nI n := by rw [ef184, zu_n (fun h9 => absurd h9.2 (by decide))]; exact p2
        have q189 : f184 30 0 = nI 1 := by rw [ef184]; exact zu_s
        have hMt := zMt.ci (fi' := f184) hMt (fun i9 k9 h9 => by rw [ef184]; exact zu_n (by omega))
        have hMx := zMx.ci (fi' := f184) hMx (fun i9 k9 h9 => by rw [ef184]; exact zu_n (by omega))
        have hMd := zMd.ci (fi' := f184) hMd (fun i9 k9 h9 => by rw [ef184]; exact zu_n (by omega))
        refine lv_iconst (v := nI 0) hx hb dX12_rules_150 (by decide) ?_
        refine W.widen (k := 0) (n := 0) (by decide) (by decide) ?_
        exact W.iret (v := nI 0) hx hb hr (fun t9 ht9 hW9 => ⟨⟨nI 0, f184, rfl, ⟨Or.inr (by rcases hlm with ⟨-, -, px, hpx, h91, h92⟩ | ⟨h9, -⟩; (exact ⟨px, hpx, h91, rfl, q189, by rw [ef184, zu_n (by omega)]; exact h92, zDot_cg (fun a b h => by rw [ef184, zu_n (by omega)]; exact hfr2 a b (by omega))⟩); (exfalso; rw [h9] at zy3; exact absurd zy3 (by decide))), ⟨q186, hMx, fun a b h => by rw [ef184, zu_n (by omega)]; exact hfr2 a b (by omega)⟩⟩, zEnd1 hH ht9 hW9⟩, hS.F ht9⟩) hS.2.2 dX12_rules_151
      · have zc182 := c182
        replace zc182 := zc_neq (rfl) ((by decide : (0 : Int32).toInt = 0)) zc182
        have zy3 := zc182
        refine lv_aload_n hx hb dX12_rules_124 rfl (lv_at hl 0 rfl) ?_
        refine va_calli (va_runV (As := []) (rest := []) ⟨hx, hb, hml, hown, hts⟩ (m_signX l hl0 D A sad τ f2 fr ol L c hF p22 p23 (by omega) (by omega)) (cwV 0 hts gX12_rules_X12_sign rfl rfl rfl (by decide +kernel) ⟨Nat.le_of_ble_eq_true rfl, Nat.le_of_ble_eq_true rfl⟩) ⟨zQc_bl, zRecv hH (zk_30 hF) rfl, zQc_at hz hS hA hH⟩ rfl rfl hl.1 rfl (lv_room (Nat.le_of_ble_eq_true rfl)) dX12_rules_125 ⟨Nat.le_of_ble_eq_true rfl, Nat.le_of_ble_eq_true rfl⟩) hS (fun q _ h => h) (fun q h => h) (fun r190 u9 t9 H1 locs ht9 hvm9 hw hB hz1 hk1 hS => ?_)
        have hH := zMv ht9 hvm9 hB
        clear hB
        generalize u9 = f191 at hw hH
        generalize H1 = H at hH hS ⊢
        obtain ⟨-, ⟨c192, hc193, hc194, q195, hx196⟩, hf197⟩ := hw
        rw [(funext (fun k9 => hfr2 _ k9 (by omega)) : f2 47 = fi 47)] at hx196
        have q198 : f191 30 22 = nI L := by rw [hf197 30 22 (by omega)]; exact p22
        have q199 : f191 30 21 = nI 0 := by rw [hf197 30 21 (by omega)]; exact p21
        have q200 : f191 30 0 = nI 0 := by rw [hf197 30 0 (by omega)]; exact p0
        have q201 : f191 30 2 = nI n := by rw [hf197 30 2 (by omega)]; exact p2
        have hMt := zMt.ci (fi' := f191) hMt (fun i9 k9 h9 => hf197 i9 k9 (by omega))
        have hMx := zMx.ci (fi' := f191) hMx (fun i9 k9 h9 => hf197 i9 k9 (by omega))
        have hMd := zMd.ci (fi' := f191) hMd (fun i9 k9 h9 => hf197 i9 k9 (by omega))
        obtain ⟨hcz2, hsg2⟩ := hx196
        refine lv_iconst (v := (-1)) hx hb dX12_rules_128 (by decide) ?_
        refine lv_icmp_eq (tgt := 141) hx hb dX12_rules_129 (by decide) (fun c202 => ?_) (fun c202 => ?_)
        · have zc202 := c202
          replace zc202 := zc_eq (rfl) ((by decide : ((-1) : Int32).toInt = (-1))) zc202
          have hs2n : c192 < L → False := fun h8 => by rcases hsg2 with h9 | h9; (have h7 := hB0 c192 h8; rw [← h9.2] at h7; omega); omega
          refine lv_iload_n hx hb dX12_rules_141 rfl (lv_at hl 3 rfl) ?_
          refine lv_if_ne (tgt := 152) hx hb dX12_rules_142 (by decide) (fun c203 => ?_) (fun c203 => False.elim (by have zc203 := zc_eq (rfl) ((by decide : (0 : Int32).toInt = 0)) c203; omega))
          obtain ⟨d0, hd0⟩ : ∃ w, f191 45 0 = w := ⟨_, rfl⟩
          obtain ⟨d1, hd1⟩ : ∃ w, f191 45 1 = w := ⟨_, rfl⟩
          obtain ⟨d2, hd2⟩ : ∃ w, f191 45 2 = w := ⟨_, rfl⟩
          obtain ⟨d3, hd3⟩ : ∃ w, f191 45 3 = w := ⟨_, rfl⟩
          obtain ⟨hm24, hDg, hTz⟩ : f2 30 24 = -1 ∧ (∀ k, k < 4 + n → zDmo f2 k = D9 k) ∧ zRls (fi 47) L (fi 31) n 401 (zS (fi 47) L 0) (zDot fi) 0 = .ok (mm, D9) := by
            rcases hlm with ⟨h9, -⟩ | ⟨h91, h92, h93, ⟨h94, -⟩ | ⟨-, ⟨h94, -⟩ | ⟨-, h94⟩⟩⟩
            · exfalso; rw [h9] at zy3; exact zy3 (by decide)
            · exfalso; omega
            · exfalso; rw [← hcz2] at h94; rcases hsg2 with h9 | h9; exact hs2n h9.1; omega
            · exact ⟨h92, h93, h94⟩
          have hdn : ∀ k, k < 4 → f191 45 k = D9 k := fun k hk => by rw [hf197 45 k (by omega)]; exact zDmo_n hDg k hk
          have hdt : ∀ t, t < n → f191 46 t = D9 (4 + t) := fun t ht => by rw [hf197 46 t (by omega)]; exact zDmo_t (by omega) hDg t ht
          have k24 : f191 30 24 = -1 := by rw [hf197 30 24 (by omega)]; exact hm24
          have hd4 : d0 = D9 0 ∧ d1 = D9 1 ∧ d2 = D9 2 ∧ d3 = D9 3 := ⟨hd0.symm.trans (hdn 0 (by omega)), hd1.symm.trans (hdn 1 (by omega)), hd2.symm.trans (hdn 2 (by omega)), hd3.symm.trans (hdn 3 (by omega))⟩
          refine lv_iconst (v := nI 0) hx hb dX12_rules_152 (by decide) ?_
          refine lv_istore (lv' := [(4, .int (nI 0)), (0, .ref (τ.1 30)), (1, .int (nI mm)), (2, .int (nI m2)), (3, .int y3)]) hx hb dX12_rules_153 hl (by decide) rfl (fun ls hl => ?_)
          refine lv_iload hx hb dX12_rules_155 (lv_at hl 0 rfl) ?_
          refine lv_iconst (v := nI 4) hx hb dX12_rules_157 (by decide) ?_
          refine lv_icmp_ge (tgt := 181) hx hb dX12_rules_158 (by decide) (fun c204 => absurd c204 (by decide)) (fun c204 => ?_)
          refine lv_aload_n hx hb dX12_rules_161 rfl (lv_at hl 1 rfl) ?_
          refine zGetR (D := D) (ci := 12) (C := RX12) (T := TX12) (N := 71) hx hb hts hiX12 hown hH (zk_30 hF) rfl 17 (by decide) rfl hw3 (fun _ h9 => h9) dX12_rules_162 (zr_30_17 hF) ?_
          refine lv_iload hx hb dX12_rules_165 (lv_at hl 0 rfl) ?_
          refine lv_aload_n hx hb dX12_rules_167 rfl (lv_at hl 1 rfl) ?_
          refine zGetR (D := D) (ci := 12) (C := RX12) (T := TX12) (N := 71) hx hb hts hiX12 hown hH (zk_30 hF) rfl 18 (by decide) rfl hw2 (fun _ h9 => h9) dX12_rules_168 (zr_30_18 hF) ?_
          refine lv_iload hx hb dX12_rules_171 (lv_at hl 0 rfl) ?_
          refine zIaldN (D := D) hx hb hH (zk_45 hF) (zn_45 hF) (by omega) (by omega) hd0 dX12_rules_173 ?_
          refine zIastN (D := D) hx hb hH hS (zk_44 hF) (zn_44 hF) (by omega) (by omega) dX12_rules_174 (fun H locs hH hS => ?_)
          obtain ⟨f205, ef205⟩ : ∃ f9 : zFi, f9 = zu f191 44 0 d0 := ⟨_, rfl⟩
          rw [← ef205] at hH
          have q206 : f205 30 22 = nI L := by rw [ef205, zu_n (fun h9 => absurd h9.1 (by decide))]; exact q198
          have q207 : f205 30 21 = nI 0 := by rw [ef205, zu_n (fun h9 => absurd h9.1 (by decide))]; exact q199
          have q208 : f205 30 0 = nI 0 := by rw [ef205, zu_n (fun h9 => absurd h9.1 (by decide))]; exact q200
          have q209 : f205 30 2 = nI n := by rw [ef205, zu_n (fun h9 => absurd h9.1 (by decide))]; exact q201
          have q210 : f205 30 23 = nI c192 := by rw [ef205, zu_n (fun h9 => absurd h9.1 (by decide))]; exact q195
          have q211 : f205 45 0 = d0 := by rw [ef205, zu_n (fun h9 => absurd h9.1 (by decide))]; exact hd0
          have q212 : f205 45 1 = d1 := by rw [ef205, zu_n (fun h9 => absurd h9.1 (by decide))]; exact hd1
          have q213 : f205 45 2 = d2 := by rw [ef205, zu_n (fun h9 => absurd h9.1 (by decide))]; exact hd2
          have q214 : f205 45 3 = d3 := by rw [ef205, zu_n (fun h9 => absurd h9.1 (by decide))]; exact hd3
          have q215 : f205 30 24 = (-1) := by rw [ef205, zu_n (fun h9 => absurd h9.1 (by decide))]; exact k24
          have q216 : f205 44 0 = d0 := by rw [ef205]; exact zu_s
          have hMt := zMt.ci (fi' := f205) hMt (fun i9 k9 h9 => by rw [ef205]; exact zu_n (by omega))
          have hMx := zMx.ci (fi' := f205) hMx (fun i9 k9 h9 => by rw [ef205]; exact zu_n (by omega))
          have hMd := zMd.ci (fi' := f205) hMd (fun i9 k9 h9 => by rw [ef205]; exact zu_n (by omega))
          refine lv_iinc (v := nI 1) (lv' := [(4, .int (nI 1)), (0, .ref (τ.1 30)), (1, .int (nI mm)), (2, .int (nI m2)), (3, .int y3)]) hx hb dX12_rules_175 hl (k := 0) rfl (by decide) (by decide) rfl (fun ls hl => ?_)
          refine lv_goto (tgt := 155) hx hb dX12_rules_178 (by decide) ?_
          refine lv_iload hx hb dX12_rules_155 (lv_at hl 0 rfl) ?_
          refine lv_iconst (v := nI 4) hx hb dX12_rules_157 (by decide) ?_
          refine lv_icmp_ge (tgt := 181) hx hb dX12_rules_158 (by decide) (fun c217 => absurd c217 (by decide)) (fun c217 => ?_)
          refine lv_aload_n hx hb dX12_rules_161 rfl (lv_at hl 1 rfl) ?_
          refine zGetR (D := D) (ci := 12) (C := RX12) (T := TX12) (N := 71) hx hb hts hiX12 hown hH (zk_30 hF) rfl 17 (by decide) rfl hw3 (fun _ h9 => h9) dX12_rules_162 (zr_30_17 hF) ?_
          refine lv_iload hx hb dX12_rules_165 (lv_at hl 0 rfl) ?_
          refine lv_aload_n hx hb dX12_rules_167 rfl (lv_at hl 1 rfl) ?_
          refine zGetR (D := D) (ci := 12) (C := RX12) (T := TX12) (N := 71) hx hb hts hiX12 hown hH (zk_30 hF) rfl 18 (by decide) rfl hw2 (fun _ h9 => h9) dX12_rules_168 (zr_30_18 hF) ?_
          refine lv_iload hx hb dX12_rules_171 (lv_at hl 0 rfl) ?_
          refine zIaldN (D := D) hx hb hH (zk_45 hF) (zn_45 hF) (by omega) (by omega) q212 dX12_rules_173 ?_
          refine zIastN (D := D) hx hb hH hS (zk_44 hF) (zn_44 hF) (by omega) (by omega) dX12_rules_174 (fun H locs hH hS => ?_)
          obtain ⟨f218, ef218⟩ : ∃ f9 : zFi, f9 = zu f205 44 1 d1 := ⟨_, rfl⟩
          rw [← ef218] at hH
          have q219 : f218 30 22 = nI L := by rw [ef218, zu_n (fun h9 => absurd h9.1 (by decide))]; exact q206
          have q220 : f218 30 21 = nI 0 := by rw [ef218, zu_n (fun h9 => absurd h9.1 (by decide))]; exact q207
          have q221 : f218 30 0 = nI 0 := by rw [ef218, zu_n (fun h9 => absurd h9.1 (by decide))]; exact q208
          have q222 : f218 30 2 = nI n := by rw [ef218, zu_n (fun h9 => absurd h9.1 (by decide))]; exact q209
          have q223 : f218 30 23 = nI c192 := by rw [ef218, zu_n (fun h9 => absurd h9.1 (by decide))]; exact q210
          have q224 : f218 45 0 = d0 := by rw [ef218, zu_n (fun h9 => absurd h9.1 (by decide))]; exact q211
          have q225 : f218 45 1 = d1 := by rw [ef218, zu_n (fun h9 => absurd h9.1 (by decide))]; exact q212
          have q226 : f218 45 2 = d2 := by rw [ef218, zu_n (fun h9 => absurd h9.1 (by decide))]; exact q213
          have q227 : f218 45 3 = d3 := by rw [ef218, zu_n (fun h9 => absurd h9.1 (by decide))]; exact q214
          have q228 : f218 30 24 = (-1) := by rw [ef218, zu_n (fun h9 => absurd h9.1 (by decide))]; exact q215
          have q229 : f218 44 0 = d0 := by rw [ef218, zu_n (fun h9 => absurd h9.2 (by decide))]; exact q216
          have q230 : f218 44 1 = d1 := by rw [ef218]; exact zu_s
          have hMt := zMt.ci (fi' := f218) hMt (fun i9 k9 h9 => by rw [ef218]; exact zu_n (by omega))
          have hMx := zMx.ci (fi' := f218) hMx (fun i9 k9 h9 => by rw [ef218]; exact zu_n (by omega))
          have hMd := zMd.ci (fi' := f218) hMd (fun i9 k9 h9 => by rw [ef218]; exact zu_n (by omega))
          refine lv_iinc (v := nI 2) (lv' := [(4, .int (nI 2)), (0, .ref (τ.1 30)), (1, .int (nI mm)), (2, .int (nI m2)), (3, .int y3)]) hx hb dX12_rules_175 hl (k := 0) rfl (by decide) (by decide) rfl (fun ls hl => ?_)
          refine lv_goto (tgt := 155) hx hb dX12_rules_178 (by decide) ?_
          refine lv_iload hx hb dX12_rules_155 (lv_at hl 0 rfl) ?_
          refine lv_iconst (v := nI 4) hx hb dX12_rules_157 (by decide) ?_
          refine lv_icmp_ge (tgt := 181) hx hb dX12_rules_158 (by decide) (fun c231 => absurd c231 (by decide)) (fun c231 => ?_)
          refine lv_aload_n hx hb dX12_rules_161 rfl (lv_at hl 1 rfl) ?_
          refine zGetR (D := D) (ci := 12) (C := RX12) (T := TX12) (N := 71) hx hb hts hiX12 hown hH (zk_30 hF) rfl 17 (by decide) rfl hw3 (fun _ h9 => h9) dX12_rules_162 (zr_30_17 hF) ?_
          refine lv_iload hx hb dX12_rules_165 (lv_at hl 0 rfl) ?_
          refine lv_aload_n hx hb dX12_rules_167 rfl (lv_at hl 1 rfl) ?_
          refine zGetR (D := D) (ci := 12) (C := RX12) (T := TX12) (N := 71) hx hb hts hiX12 hown hH (zk_30 hF) rfl 18 (by decide) rfl hw2 (fun _ h9 => h9) dX12_rules_168 (zr_30_18 hF) ?_
          refine lv_iload hx hb dX12_rules_171 (lv_at hl 0 rfl) ?_
          refine zIaldN (D := D) hx hb hH (zk_45 hF) (zn_45 hF) (by omega) (by omega) q226 dX12_rules_173 ?_
          refine zIastN (D := D) hx hb hH hS (zk_44 hF) (zn_44 hF) (by omega) (by omega) dX12_rules_174 (fun H locs hH hS => ?_)
          obtain ⟨f232, ef232⟩ : ∃ f9 : zFi, f9 = zu f218 44 2 d2 := ⟨_, rfl⟩
          rw [← ef232] at hH
          have q233 : f232 30 22 = nI L := by rw [ef232, zu_n (fun h9 => absurd h9.1 (by decide))]; exact q219
          have q234 : f232 30 21 = nI 0 := by rw [ef232, zu_n (fun h9 => absurd h9.1 (by decide))]; exact q220
          have q235 : f232 30 0 = nI 0 := by rw [ef232, zu_n (fun h9 => absurd h9.1 (by decide))]; exact q221
          have q236 : f232 30 2 = nI n := by rw [ef232, zu_n (fun h9 => absurd h9.1 (by decide))]; exact q222
          have q237 : f232 30 23 = nI c192 := by rw [ef232, zu_n (fun h9 => absurd h9.1 (by decide))]; exact q223
          have q238 : f232 45 0 = d0 := by rw [ef232, zu_n (fun h9 => absurd h9.1 (by decide))]; exact q224
          have q239 : f232 45 1 = d1 := by rw [ef232, zu_n (fun h9 => absurd h9.1 (by decide))]; exact q225
          have q240 : f232 45 2 = d2 := by rw [ef232, zu_n (fun h9 => absurd h9.1 (by decide))]; exact q226
          have q241 : f232 45 3 = d3 := by rw [ef232, zu_n (fun h9 => absurd h9.1 (by decide))]; exact q227
          have q242 : f232 30 24 = (-1) := by rw [ef232, zu_n (fun h9 => absurd h9.1 (by decide))]; exact q228
          have q243 : f232 44 0 = d0 := by rw [ef232, zu_n (fun h9 => absurd h9.2 (by decide))]; exact q229
          have q244 : f232 44 1 = d1 := by rw [ef232, zu_n (fun h9 => absurd h9.2 (by decide))]; exact q230
          have q245 : f232 44 2 = d2 := by rw [ef232]; exact zu_s
          have hMt := zMt.ci (fi' := f232) hMt (fun i9 k9 h9 => by rw [ef232]; exact zu_n (by omega))
          have hMx := zMx.ci (fi' := f232) hMx (fun i9 k9 h9 => by rw [ef232]; exact zu_n (by omega))
          have hMd := zMd.ci (fi' := f232) hMd (fun i9 k9 h9 => by rw [ef232]; exact zu_n (by omega))
          refine lv_iinc (v := nI 3) (lv' := [(4, .int (nI 3)), (0, .ref (τ.1 30)), (1, .int (nI mm)), (2, .int (nI m2)), (3, .int y3)]) hx hb dX12_rules_175 hl (k := 0) rfl (by decide) (by decide) rfl (fun ls hl => ?_)
          refine lv_goto (tgt := 155) hx hb dX12_rules_178 (by decide) ?_
          refine lv_iload hx hb dX12_rules_155 (lv_at hl 0 rfl) ?_
          refine lv_iconst (v := nI 4) hx hb dX12_rules_157 (by decide) ?_
          refine lv_icmp_ge (tgt := 181) hx hb dX12_rules_158 (by decide) (fun c246 => absurd c246 (by decide)) (fun c246 => ?_)
          refine lv_aload_n hx hb dX12_rules_161 rfl (lv_at hl 1 rfl) ?_
          refine zGetR (D := D) (ci := 12) (C := RX12) (T := TX12) (N := 71) hx hb hts hiX12 hown hH (zk_30 hF) rfl 17 (by decide) rfl hw3 (fun _ h9 => h9) dX12_rules_162 (zr_30_17 hF) ?_
          refine lv_iload hx hb dX12_rules_165 (lv_at hl 0 rfl) ?_
          refine lv_aload_n hx hb dX12_rules_167 rfl (lv_at hl 1 rfl) ?_
          refine zGetR (D := D) (ci := 12) (C := RX12) (T := TX12) (N := 71) hx hb hts hiX12 hown hH (zk_30 hF) rfl 18 (by decide) rfl hw2 (fun _ h9 => h9) dX12_rules_168 (zr_30_18 hF) ?_
          refine lv_iload hx hb dX12_rules_171 (lv_at hl 0 rfl) ?_
          refine zIaldN (D := D) hx hb hH (zk_45 hF) (zn_45 hF) (by omega) (by omega) q241 dX12_rules_173 ?_
          refine zIastN (D := D) hx hb hH hS (zk_44 hF) (zn_44 hF) (by omega) (by omega) dX12_rules_174 (fun H locs hH hS => ?_)
          obtain ⟨f247, ef247⟩ : ∃ f9 : zFi, f9 = zu f232 44 3 d3 := ⟨_, rfl⟩
          rw [← ef247] at hH
          have q248 : f247 30 22 = nI L := by rw [ef247, zu_n (fun h9 => absurd h9.1 (by decide))]; exact q233
          have q249 : f247 30 21 = nI 0 := by rw [ef247, zu_n (fun h9 => absurd h9.1 (by decide))]; exact q234
          have q250 : f247 30 0 = nI 0 := by rw [ef247, zu_n (fun h9 => absurd h9.1 (by decide))]; exact q235
          have q251 : f247 30 2 = nI n := by rw [ef247, zu_n (fun h9 => absurd h9.1 (by decide))]; exact q236
          have q252 : f247 30 23 = nI c192 := by rw [ef247, zu_n (fun h9 => absurd h9.1 (by decide))]; exact q237
          have q253 : f247 45 0 = d0 := by rw [ef247, zu_n (fun h9 => absurd h9.1 (by decide))]; exact q238
          have q254 : f247 45 1 = d1 := by rw [ef247, zu_n (fun h9 => absurd h9.1 (by decide))]; exact q239
          have q255 : f247 45 2 = d2 := by rw [ef247, zu_n (fun h9 => absurd h9.1 (by decide))]; exact q240
          have q256 : f247 45 3 = d3 := by rw [ef247, zu_n (fun h9 => absurd h9.1 (by decide))]; exact q241
          have q257 : f247 30 24 = (-1) := by rw [ef247, zu_n (fun h9 => absurd h9.1 (by decide))]; exact q242
          have q258 : f247 44 0 = d0 := by rw [ef247, zu_n (fun h9 => absurd h9.2 (by decide))]; exact q243
          have q259 : f247 44 1 = d1 := by rw [ef247, zu_n (fun h9 => absurd h9.2 (by decide))]; exact q244
          have q260 : f247 44 2 = d2 := by rw [ef247, zu_n (fun h9 => absurd h9.2 (by decide))]; exact q245
          have q261 : f247 44 3 = d3 := by rw [ef247]; exact zu_s
          have hMt := zMt.ci (fi' := f247) hMt (fun i9 k9 h9 => by rw [ef247]; exact zu_n (by omega))
          have hMx := zMx.ci (fi' := f247) hMx (fun i9 k9 h9 => by rw [ef247]; exact zu_n (by omega))
          have hMd := zMd.ci (fi' := f247) hMd (fun i9 k9 h9 => by rw [ef247]; exact zu_n (by omega))
          refine lv_iinc (v := nI 4) (lv' := [(4, .int (nI 4)), (0, .ref (τ.1 30)), (1, .int (nI mm)), (2, .int (nI m2)), (3, .int y3)]) hx hb dX12_rules_175 hl (k := 0) rfl (by decide) (by decide) rfl (fun ls hl => ?_)
          refine lv_goto (tgt := 155) hx hb dX12_rules_178 (by decide) ?_
          refine lv_iload hx hb dX12_rules_155 (lv_at hl 0 rfl) ?_
          refine lv_iconst (v := nI 4) hx hb dX12_rules_157 (by decide) ?_
          refine lv_icmp_ge (tgt := 181) hx hb dX12_rules_158 (by decide) (fun c262 => ?_) (fun c262 => absurd (by decide) c262)
          refine lv_iconst (v := nI 0) hx hb dX12_rules_181 (by decide) ?_
          refine lv_istore (lv' := [(4, .int (nI 0)), (0, .ref (τ.1 30)), (1, .int (nI mm)), (2, .int (nI m2)), (3, .int y3)]) hx hb dX12_rules_182 hl (by decide) rfl (fun ls hl => ?_)
          refine zLp (σ := Nat × zFi) (fun x9 k9 H locs ls => (fun (i3 : Nat) (f3 : zFi) => k9 = n - i3 ∧ (i3 ≤ n ∧ zMx f3 n ∧ zMd f3 n ∧ f3 30 21 = nI 0 ∧ (f3 44 0 = d0 ∧ f3 44 1 = d1 ∧ f3 44 2 = d2 ∧ f3 44 3 = d3) ∧ f3 30 0 = nI 0 ∧ f3 30 24 = -1 ∧ (∀ t, t < n → f3 46 t = D9 (4 + t)) ∧ (∀ t, t < i3 → f3 40 t = D9 (4 + t)) ∧ (∀ t, i3 ≤ t → f3 40 t = fi 40 t) ∧ ∀ a b, ¬ (a = 40 ∨ a = 44 ∨ a = 45 ∨ a = 46 ∨ (a = 30 ∧ (b = 0 ∨ (21 ≤ b ∧ b ≤ 25)))) → f3 a b = fi a b) ∧ zH D A τ f3 fr ol s H ∧ va_S A s.heap H locs ∧ lv_has ls 5 [(0, .ref (τ.1 30)), (1, .int (nI mm)), (4, .int (nI i3))]) x9.1 x9.2) (0, f247) (n - 0) (show n - 0 = n - 0 ∧ (0 ≤ n ∧ zMx f247 n ∧ zMd f247 n ∧ f247 30 21 = nI 0 ∧ (f247 44 0 = d0 ∧ f247 44 1 = d1 ∧ f247 44 2 = d2 ∧ f247 44 3 = d3) ∧ f247 30 0 = nI 0 ∧ f247 30 24 = -1 ∧ (∀ t, t < n → f247 46 t = D9 (4 + t)) ∧ (∀ t, t < 0 → f247 40 t = D9 (4 + t)) ∧ (∀ t, 0 ≤ t → f247 40 t = fi 40 t) ∧ ∀ a b, ¬ (a = 40 ∨ a = 44 ∨ a = 45 ∨ a = 46 ∨ (a = 30 ∧ (b = 0 ∨ (21 ≤ b ∧ b ≤ 25)))) → f247 a b = fi a b) ∧ zH D A τ f247 fr ol s _ ∧ va_S A s.heap _ _ ∧ lv_has _ 5 [(0, .ref (τ.1 30)), (1, .int (nI mm)), (4, .int (nI 0))] from ⟨rfl, ⟨Nat.zero_le _, hMx, hMd, q249, ⟨q258, q259, q260, q261⟩, q250, q257, fun t h => by rw [ef247, zu_n (by omega), ef232, zu_n (by omega), ef218, zu_n (by omega), ef205, zu_n (by omega)]; exact hdt t h, fun t h => absurd h (by omega), fun t h => by rw [ef247, zu_n (by omega), ef232, zu_n (by omega), ef218, zu_n (by omega), ef205, zu_n (by omega), hf197 40 t (by omega)]; exact hfr2 40 t (by omega), fun a b h => by rw [ef247, zu_n (by omega), ef232, zu_n (by omega), ef218, zu_n (by omega), ef205, zu_n (by omega), hf197 a b (by omega)]; exact hfr2 a b (by omega)⟩, hH, hS, lv_sub hl [1, 2, 0] rfl⟩) (fun k9 ih x9 H locs ls hv9 => ?_)
          obtain ⟨i3, f3⟩ := x9
          have hv9 : k9 = n - i3 ∧ (i3 ≤ n ∧ zMx f3 n ∧ zMd f3 n ∧ f3 30 21 = nI 0 ∧ (f3 44 0 = d0 ∧ f3 44 1 = d1 ∧ f3 44 2 = d2 ∧ f3 44 3 = d3) ∧ f3 30 0 = nI 0 ∧ f3 30 24 = -1 ∧ (∀ t, t < n → f3 46 t = D9 (4 + t)) ∧ (∀ t, t < i3 → f3 40 t = D9 (4 + t)) ∧ (∀ t, i3 ≤ t → f3 40 t = fi 40 t) ∧ ∀ a b, ¬ (a = 40 ∨ a = 44 ∨ a = 45 ∨ a = 46 ∨ (a = 30 ∧ (b = 0 ∨ (21 ≤ b ∧ b ≤ 25)))) → f3 a b = fi a b) ∧ zH D A τ f3 fr ol s H ∧ va_S A s.heap H locs ∧ lv_has ls 5 [(0, .ref (τ.1 30)), (1, .int (nI mm)), (4, .int (nI i3))] := hv9
          obtain ⟨hkih263, hv9, hH, hS, hl⟩ := hv9
          obtain ⟨h3, hMx, hMd, p21, h44, p0, p24, h46, hnw, hol, hfr3⟩ := hv9
          have ih263 := ih
          clear ih
          have hMt := zMt.ci (fi' := f3) hMt0 (fun i9 k9 h9 => hfr3 i9 k9 (by omega))
          have p2 := hMt.2.1
          obtain ⟨p440, p441, p442, p443⟩ := h44
          refine lv_iload hx hb dX12_rules_184 (lv_at hl 2 rfl) ?_
          refine lv_aload_n hx hb dX12_rules_186 rfl (lv_at hl 0 rfl) ?_
          refine zGetI (D := D) (ci := 12) (C := RX12) (T := TX12) (N := 71) hx hb hts hiX12 hown hH (zk_30 hF) rfl 2 (by decide) rfl hw4 (fun _ h9 => h9) dX12_rules_187 p2 ?_
          refine lv_icmp_ge (tgt := 213) hx hb dX12_rules_190 (by decide) (fun c264 => ?_) (fun c264 => ?_)
          · have zc264 := c264
            replace zc264 := zc_le (nI_toInt (by omega)) (nI_toInt (by omega)) zc264
            refine lv_iload_n hx hb dX12_rules_213 rfl (lv_at hl 1 rfl) ?_
            refine W.widen (k := 0) (n := 0) (by decide) (by decide) ?_
            exact W.iret (v := nI mm) hx hb hr (fun t9 ht9 hW9 => ⟨⟨nI mm, f3, rfl, ⟨Or.inl ⟨mm, D9, hTz, rfl, p0, p24, zDot_end (by obtain ⟨h91, h92, h93, h94⟩ := hd4; exact ⟨by rw [p440]; exact h91, by rw [p441]; exact h92, by rw [p442]; exact h93, by rw [p443]; exact h94⟩) (by omega) (fun t h => hnw t (by omega)) (fun t h => hol t (by omega))⟩, ⟨p21, hMx, fun a b h => hfr3 a b h⟩⟩, zEnd1 hH ht9 hW9⟩, hS.F ht9⟩) hS.2.2 dX12_rules_214
          · have zc264 := c264
            replace zc264 := zc_nle (nI_toInt (by omega)) (nI_toInt (by omega)) zc264
            refine lv_aload_n hx hb dX12_rules_193 rfl (lv_at hl 0 rfl) ?_
            refine zGetR (D := D) (ci := 12) (C := RX12) (T := TX12) (N := 71) hx hb hts hiX12 hown hH (zk_30 hF) rfl 12 (by decide) rfl hw5 (fun _ h9 => h9) dX12_rules_194 (zr_30_12 hF) ?_
            refine lv_iload hx hb dX12_rules_197 (lv_at hl 2 rfl) ?_
            refine lv_aload_n hx hb dX12_rules_199 rfl (lv_at hl 0 rfl) ?_
            refine zGetR (D := D) (ci := 12) (C := RX12) (T := TX12) (N := 71) hx hb hts hiX12 hown hH (zk_30 hF) rfl 19 (by decide) rfl hw6 (fun _ h9 => h9) dX12_rules_200 (zr_30_19 hF) ?_
            refine lv_iload hx hb dX12_rules_203 (lv_at hl 2 rfl) ?_
            refine zIaldN (D := D) hx hb hH (zk_46 hF) (zn_46 hF) (by omega) (by omega) rfl dX12_rules_205 ?_
            have hsv9 := hMd i3 (by omega)
            refine zIastN (D := D) hx hb hH hS (zk_40 hF) (zn_40 hF) (by omega) (by omega) dX12_rules_206 (fun H locs hH hS => ?_)
            obtain ⟨f265, ef265⟩ : ∃ f9 : zFi, f9 = zu f3 40 i3 (f3 46 i3) := ⟨_, rfl⟩
            rw [← ef265] at hH
            have q266 : f265 30 2 = nI n := by rw [ef265, zu_n (fun h9 => absurd h9.1 (by decide))]; exact p2
            have q267 : f265 30 0 = nI 0 := by rw [ef265, zu_n (fun h9 => absurd h9.1 (by decide))]; exact p0
            have q268 : f265 30 24 = (-1) := by rw [ef265, zu_n (fun h9 => absurd h9.1 (by decide))]; exact p24
            have q269 : f265 44 0 = d0 := by rw [ef265, zu_n (fun h9 => absurd h9.1 (by decide))]; exact p440
            have q270 : f265 44 1 = d1 := by rw [ef265, zu_n (fun h9 => absurd h9.1 (by decide))]; exact p441
            have q271 : f265 44 2 = d2 := by rw [ef265, zu_n (fun h9 => absurd h9.1 (by decide))]; exact p442
            have q272 : f265 44 3 = d3 := by rw [ef265, zu_n (fun h9 => absurd h9.1 (by decide))]; exact p443
            have q273 : f265 40 i3 = f3 46 i3 := by rw [ef265]; exact zu_s
            have hMt := zMt.ci (fi' := f265) hMt (fun i9 k9 h9 => by rw [ef265]; exact zu_n (by omega))
            have hMd := zMd.ci (fi' := f265) hMd (fun i9 k9 h9 => by rw [ef265]; exact zu_n (by omega))
            have hMx := hMx.set ef265 (hsv9)
            refine lv_iinc (v := nI (i3 + 1)) (lv' := [(4, .int (nI (i3 + 1))), (0, .ref (τ.1 30)), (1, .int (nI mm))]) hx hb dX12_rules_207 hl (k := 2) rfl (by rw [show (Int32.ofInt 1 : Int32) = nI 1 from by decide, nI_add]) (by decide) rfl (fun ls hl => ?_)
            refine lv_goto (tgt := 184) hx hb dX12_rules_210 (by decide) ?_
            exact ih263 (n - (i3 + 1)) (by omega) (i3 + 1, f265) _ _ _ (show n - (i3 + 1) = n - (i3 + 1) ∧ ((i3 + 1) ≤ n ∧ zMx f265 n ∧ zMd f265 n ∧ f265 30 21 = nI 0 ∧ (f265 44 0 = d0 ∧ f265 44 1 = d1 ∧ f265 44 2 = d2 ∧ f265 44 3 = d3) ∧ f265 30 0 = nI 0 ∧ f265 30 24 = -1 ∧ (∀ t, t < n → f265 46 t = D9 (4 + t)) ∧ (∀ t, t < (i3 + 1) → f265 40 t = D9 (4 + t)) ∧ (∀ t, (i3 + 1) ≤ t → f265 40 t = fi 40 t) ∧ ∀ a b, ¬ (a = 40 ∨ a = 44 ∨ a = 45 ∨ a = 46 ∨ (a = 30 ∧ (b = 0 ∨ (21 ≤ b ∧ b ≤ 25)))) → f265 a b = fi a b) ∧ zH D A τ f265 fr ol s _ ∧ va_S A s.heap _ _ ∧ lv_has _ 5 [(0, .ref (τ.1 30)), (1, .int (nI mm)), (4, .int (nI (i3 + 1)))] from ⟨rfl, ⟨by omega, hMx, hMd, by rw [ef265, zu_n (by omega)]; exact p21, ⟨q269, q270, q271, q272⟩, q267, q268, fun t h => by rw [ef265, zu_n (by omega)]; exact h46 t h, fun t h => by by_cases h7 : t = i3; (subst h7; rw [ef265, zu_s]; exact h46 t (by omega)); (rw [ef265, zu_n (by omega)]; exact hnw t (by omega)), fun t h => by rw [ef265, zu_n (by omega)]; exact hol t (by omega), fun a b h => by rw [ef265, zu_n (by omega)]; exact hfr3 a b h⟩, hH, hS, lv_sub hl [1, 2, 0] rfl⟩)
        · have zc202 := c202
          replace zc202 := zc_neq (rfl) ((by decide : ((-1) : Int32).toInt = (-1))) zc202
          have hs2y : c192 = L → False := fun h8 => by rcases hsg2 with h9 | h9; omega; exact absurd (by rw [h9.2]; decide) zc202
          refine lv_aload_n hx hb dX12_rules_132 rfl (lv_at hl 0 rfl) ?_
          refine lv_aload_n hx hb dX12_rules_133 rfl (lv_at hl 0 rfl) ?_
          refine zGetI (D := D) (ci := 12) (C := RX12) (T := TX12) (N := 71) hx hb hts hiX12 hown hH (zk_30 hF) rfl 23 (by decide) rfl hw7 (fun _ h9 => h9) dX12_rules_134 q195 ?_
          refine va_calli (va_runV (As := [.int (nI c192)]) (rest := []) ⟨hx, hb, hml, hown, hts⟩ (m_wrongX l hl0 D A sad τ f191 fr ol (nI c192) hF) (cwV 1 hts gX12_rules_X12_wrong rfl rfl rfl (by decide +kernel) ⟨Nat.le_of_ble_eq_true rfl, Nat.le_of_ble_eq_true rfl⟩) ⟨zQc_bl, zRecv hH (zk_30 hF) rfl, zQc_at hz hS hA hH⟩ rfl rfl hl.1 rfl (lv_room (Nat.le_of_ble_eq_true rfl)) dX12_rules_137 ⟨Nat.le_of_ble_eq_true rfl, Nat.le_of_ble_eq_true rfl⟩) hS (fun q _ h => h) (fun q h => h) (fun r274 u9 t9 H1 locs ht9 hvm9 hw hB hz1 hk1 hS => ?_)
          have hH := zMv ht9 hvm9 hB
          clear hB
          generalize u9 = f275 at hw hH
          generalize H1 = H at hH hS ⊢
          obtain ⟨rfl, ef275⟩ := hw
          have q276 : f275 30 22 = nI L := by rw [ef275, zu_n (fun h9 => absurd h9.2 (by decide))]; exact q198
          have q277 : f275 30 21 = nI 0 := by rw [ef275, zu_n (fun h9 => absurd h9.2 (by decide))]; exact q199
          have q278 : f275 30 0 = nI 0 := by rw [ef275, zu_n (fun h9 => absurd h9.2 (by decide))]; exact q200
          have q279 : f275 30 2 = nI n := by rw [ef275, zu_n (fun h9 => absurd h9.2 (by decide))]; exact q201
          have q280 : f275 30 23 = nI c192 := by rw [ef275, zu_n (fun h9 => absurd h9.2 (by decide))]; exact q195
          have q281 : f275 30 24 = nI c192 := by rw [ef275]; exact zu_s
          have hMt := zMt.ci (fi' := f275) hMt (fun i9 k9 h9 => by rw [ef275]; exact zu_n (by omega))
          have hMx := zMx.ci (fi' := f275) hMx (fun i9 k9 h9 => by rw [ef275]; exact zu_n (by omega))
          have hMd := zMd.ci (fi' := f275) hMd (fun i9 k9 h9 => by rw [ef275]; exact zu_n (by omega))
          refine lv_istore_n (lv' := [(3, .int 0), (0, .ref (τ.1 30)), (1, .int (nI mm)), (2, .int (nI m2))]) hx hb dX12_rules_140 rfl hl (by decide) rfl (fun ls hl => ?_)
          refine lv_iload_n hx hb dX12_rules_141 rfl (lv_at hl 0 rfl) ?_
          refine lv_if_ne (tgt := 152) hx hb dX12_rules_142 (by decide) (fun c282 => absurd (by decide) c282) (fun c282 => ?_)
          refine lv_aload_n hx hb dX12_rules_145 rfl (lv_at hl 1 rfl) ?_
          refine lv_iconst (v := nI 1) hx hb dX12_rules_146 (by decide) ?_
          refine zPutI (D := D) (ci := 12) (ty := .int) (C := RX12) (T := TX12) (N := 71) hx hb hts hiX12 tyX12 tyX12_ok nmX12 hown hH hS (zk_30 hF) rfl 0 (by decide) rfl hw0 (fun _ h9 => h9) rfl (by decide +kernel) rfl rfl dX12_rules_147 (fun H locs hH hS => ?_)
          obtain ⟨f283, ef283⟩ : ∃ f9 : zFi, f9 = zu f275 30 0 (nI 1) := ⟨_, rfl⟩
          rw [← ef283] at hH
          have q284 : f283 30 22 = nI L := by rw [ef283, zu_n (fun h9 => absurd h9.2 (by decide))]; exact q276
          have q285 : f283 30 21 = nI 0 := by rw [ef283, zu_n (fun h9 => absurd h9.2 (by decide))]; exact q277
          have q286 : f283 30 2 = nI n := by rw [ef283, zu_n (fun h9 => absurd h9.2 (by decide))]; exact q279
          have q287 : f283 30 23 = nI c192 := by rw [ef283, zu_n (fun h9 => absurd h9.2 (by decide))]; exact q280
          have q288 : f283 30 24 = nI c192 := by rw [ef283, zu_n (fun h9 => absurd h9.2 (by decide))]; exact q281
          have q289 : f283 30 0 = nI 1 := by rw [ef283]; exact zu_s
          have hMt := zMt.ci (fi' := f283) hMt (fun i9 k9 h9 => by rw [ef283]; exact zu_n (by omega))
          have hMx := zMx.ci (fi' := f283) hMx (fun i9 k9 h9 => by rw [ef283]; exact zu_n (by omega))
          have hMd := zMd.ci (fi' := f283) hMd (fun i9 k9 h9 => by rw [ef283]; exact zu_n (by omega))
          refine lv_iconst (v := nI 0) hx hb dX12_rules_150 (by decide) ?_
          refine W.widen (k := 0) (n := 0) (by decide) (by decide) ?_
          exact W.iret (v := nI 0) hx hb hr (fun t9 ht9 hW9 => ⟨⟨nI 0, f283, rfl, ⟨Or.inr ⟨c192, by omega, by rcases hlm with ⟨h9, -⟩ | ⟨h91, h92, h93, ⟨h94, -⟩ | ⟨-, ⟨h94, h95⟩ | ⟨h94, -⟩⟩⟩; (exfalso; rw [h9] at zy3; exact zy3 (by decide)); (exfalso; omega); (rw [hcz2]; exact h95); (exfalso; rw [← hcz2] at h94; exact hs2y h94), rfl, q289, by rw [ef283, zu_n (by omega), ef275, zu_s], zDot_cg (fun a b h => by rw [ef283, zu_n (by omega), ef275, zu_n (by omega), hf197 a b (by omega)]; exact hfr2 a b (by omega))⟩, ⟨q285, hMx, fun a b h => by rw [ef283, zu_n (by omega), ef275, zu_n (by omega), hf197 a b (by omega)]; exact hfr2 a b (by omega)⟩⟩, zEnd1 hH ht9 hW9⟩, hS.F ht9⟩) hS.2.2 dX12_rules_151
    · have zc181 := c181
      replace zc181 := zc_neq (nI_toInt (by omega)) ((by decide : (0 : Int32).toInt = 0)) zc181
      refine lv_iload_n hx hb dX12_rules_72 rfl (lv_at hl 3 rfl) ?_
      refine lv_if_eq (tgt := 120) hx hb dX12_rules_73 (by decide) (fun c290 => ?_) (fun c290 => ?_)
      · have zc290 := c290
        replace zc290 := zc_eq (rfl) ((by decide : (0 : Int32).toInt = 0)) zc290
        have zy3 := zc290
        refine lv_iload_n hx hb dX12_rules_120 rfl (lv_at hl 3 rfl) ?_
        refine lv_if_eq (tgt := 141) hx hb dX12_rules_121 (by decide) (fun c291 => ?_) (fun c291 => ?_)
        · have zc291 := c291
          replace zc291 := zc_eq (rfl) ((by decide : (0 : Int32).toInt = 0)) zc291
          have zy3 := zc291
          refine lv_iload_n hx hb dX12_rules_141 rfl (lv_at hl 3 rfl) ?_
          refine lv_if_ne (tgt := 152) hx hb dX12_rules_142 (by decide) (fun c292 => False.elim (by have zc292 := zc_neq (rfl) ((by decide : (0 : Int32).toInt = 0)) c292; omega)) (fun c292 => ?_)
          refine lv_aload_n hx hb dX12_rules_145 rfl (lv_at hl 0 rfl) ?_
          refine lv_iconst (v := nI 1) hx hb dX12_rules_146 (by decide) ?_
          refine zPutI (D := D) (ci := 12) (ty := .int) (C := RX12) (T := TX12) (N := 71) hx hb hts hiX12 tyX12 tyX12_ok nmX12 hown hH hS (zk_30 hF) rfl 0 (by decide) rfl hw0 (fun _ h9 => h9) rfl (by decide +kernel) rfl rfl dX12_rules_147 (fun H locs hH hS => ?_)
          obtain ⟨f293, ef293⟩ : ∃ f9 : zFi, f9 = zu f2 30 0 (nI 1) := ⟨_, rfl⟩
          rw [← ef293] at hH
          have q294 : f293 30 22 = nI L := by rw [ef293, zu_n (fun h9 => absurd h9.2 (by decide))]; exact p22
          have q295 : f293 30 21 = nI 0 := by rw [ef293, zu_n (fun h9 => absurd h9.2 (by decide))]; exact p21
          have q296 : f293 30 23 = nI c := by rw [ef293, zu_n (fun h9 => absurd h9.2 (by decide))]; exact p23
          have q297 : f293 30 2 = nI n := by rw [ef293, zu_n (fun h9 => absurd h9.2 (by decide))]; exact p2
          have q298 : f293 30 0 = nI 1 := by rw [ef293]; exact zu_s
          have hMt := zMt.ci (fi' := f293) hMt (fun i9 k9 h9 => by rw [ef293]; exact zu_n (by omega))
          have hMx := zMx.ci (fi' := f293) hMx (fun i9 k9 h9 => by rw [ef293]; exact zu_n (by omega))
          have hMd := zMd.ci (fi' := f293) hMd (fun i9 k9 h9 => by rw [ef293]; exact zu_n (by omega))
          refine lv_iconst (v := nI 0) hx hb dX12_rules_150 (by decide) ?_
          refine W.widen (k := 0) (n := 0) (by decide) (by decide) ?_
          exact W.iret (v := nI 0) hx hb hr (fun t9 ht9 hW9 => ⟨⟨nI 0, f293, rfl, ⟨Or.inr (by rcases hlm with ⟨-, -, px, hpx, h91, h92⟩ | ⟨h9, -⟩; (exact ⟨px, hpx, h91, rfl, q298, by rw [ef293, zu_n (by omega)]; exact h92, zDot_cg (fun a b h => by rw [ef293, zu_n (by omega)]; exact hfr2 a b (by omega))⟩); (exfalso; rw [h9] at zy3; exact absurd zy3 (by decide))), ⟨q295, hMx, fun a b h => by rw [ef293, zu_n (by omega)]; exact hfr2 a b (by omega)⟩⟩, zEnd1 hH ht9 hW9⟩, hS.F ht9⟩) hS.2.2 dX12_rules_151
        · have zc291 := c291
          replace zc291 := zc_neq (rfl) ((by decide : (0 : Int32).toInt = 0)) zc291
          have zy3 := zc291
          refine lv_aload_n hx hb dX12_rules_124 rfl (lv_at hl 0 rfl) ?_
          refine va_calli (va_runV (As := []) (rest := []) ⟨hx, hb, hml, hown, hts⟩ (m_signX l hl0 D A sad τ f2 fr ol L c hF p22 p23 (by omega) (by omega)) (cwV 0 hts gX12_rules_X12_sign rfl rfl rfl (by decide +kernel) ⟨Nat.le_of_ble_eq_true rfl, Nat.le_of_ble_eq_true rfl⟩) ⟨zQc_bl, zRecv hH (zk_30 hF) rfl, zQc_at hz hS hA hH⟩ rfl rfl hl.1 rfl (lv_room (Nat.le_of_ble_eq_true rfl)) dX12_rules_125 ⟨Nat.le_of_ble_eq_true rfl, Nat.le_of_ble_eq_true rfl⟩) hS (fun q _ h => h) (fun q h => h) (fun r299 u9 t9 H1 locs ht9 hvm9 hw hB hz1 hk1 hS => ?_)
          have hH := zMv ht9 hvm9 hB
          clear hB
          generalize u9 = f300 at hw hH
          generalize H1 = H at hH hS ⊢
          obtain ⟨-, ⟨c301, hc302, hc303, q304, hx305⟩, hf306⟩ := hw
          rw [(funext (fun k9 => hfr2 _ k9 (by omega)) : f2 47 = fi 47)] at hx305
          have q307 : f300 30 22 = nI L := by rw [hf306 30 22 (by omega)]; exact p22
          have q308 : f300 30 21 = nI 0 := by rw [hf306 30 21 (by omega)]; exact p21
          have q309 : f300 30 0 = nI 0 := by rw [hf306 30 0 (by omega)]; exact p0
          have q310 : f300 30 2 = nI n := by rw [hf306 30 2 (by omega)]; exact p2
          have hMt := zMt.ci (fi' := f300) hMt (fun i9 k9 h9 => hf306 i9 k9 (by omega))
          have hMx := zMx.ci (fi' := f300) hMx (fun i9 k9 h9 => hf306 i9 k9 (by omega))
          have hMd := zMd.ci (fi' := f300) hMd (fun i9 k9 h9 => hf306 i9 k9 (by omega))
          obtain ⟨hcz2, hsg2⟩ := hx305
          refine lv_iconst (v := (-1)) hx hb dX12_rules_128 (by decide) ?_
          refine lv_icmp_eq (tgt := 141) hx hb dX12_rules_129 (by decide) (fun c311 => ?_) (fun c311 => ?_)
          · have zc311 := c311
            replace zc311 := zc_eq (rfl) ((by decide : ((-1) : Int32).toInt = (-1))) zc311
            have hs2n : c301 < L → False := fun h8 => by rcases hsg2 with h9 | h9; (have h7 := hB0 c301 h8; rw [← h9.2] at h7; omega); omega
            refine lv_iload_n hx hb dX12_rules_141 rfl (lv_at hl 3 rfl) ?_
            refine lv_if_ne (tgt := 152) hx hb dX12_rules_142 (by decide) (fun c312 => ?_) (fun c312 => False.elim (by have zc312 := zc_eq (rfl) ((by decide : (0 : Int32).toInt = 0)) c312; omega))
            obtain ⟨d0, hd0⟩ : ∃ w, f300 45 0 = w := ⟨_, rfl⟩
            obtain ⟨d1, hd1⟩ : ∃ w, f300 45 1 = w := ⟨_, rfl⟩
            obtain ⟨d2, hd2⟩ : ∃ w, f300 45 2 = w := ⟨_, rfl⟩
            obtain ⟨d3, hd3⟩ : ∃ w, f300 45 3 = w := ⟨_, rfl⟩
            obtain ⟨hm24, hDg, hTz⟩ : f2 30 24 = -1 ∧ (∀ k, k < 4 + n → zDmo f2 k = D9 k) ∧ zRls (fi 47) L (fi 31) n 401 (zS (fi 47) L 0) (zDot fi) 0 = .ok (mm, D9) := by
              rcases hlm with ⟨h9, -⟩ | ⟨h91, h92, h93, ⟨h94, -⟩ | ⟨-, ⟨h94, -⟩ | ⟨-, h94⟩⟩⟩
              · exfalso; rw [h9] at zy3; exact zy3 (by decide)
              · exfalso; omega
              · exfalso; rw [← hcz2] at h94; rcases hsg2 with h9 | h9; exact hs2n h9.1; omega
              · exact ⟨h92, h93, h94⟩
            have hdn : ∀ k, k < 4 → f300 45 k = D9 k := fun k hk => by rw [hf306 45 k (by omega)]; exact zDmo_n hDg k hk
            have hdt : ∀ t, t < n → f300 46 t = D9 (4 + t) := fun t ht => by rw [hf306 46 t (by omega)]; exact zDmo_t (by omega) hDg t ht
            have k24 : f300 30 24 = -1 := by rw [hf306 30 24 (by omega)]; exact hm24
            have hd4 : d0 = D9 0 ∧ d1 = D9 1 ∧ d2 = D9 2 ∧ d3 = D9 3 := ⟨hd0.symm.trans (hdn 0 (by omega)), hd1.symm.trans (hdn 1 (by omega)), hd2.symm.trans (hdn 2 (by omega)), hd3.symm.trans (hdn 3 (by omega))⟩
            refine lv_iconst (v := nI 0) hx hb dX12_rules_152 (by decide) ?_
            refine lv_istore (lv' := [(4, .int (nI 0)), (0, .ref (τ.1 30)), (1, .int (nI mm)), (2, .int (nI m2)), (3, .int y3)]) hx hb dX12_rules_153 hl (by decide) rfl (fun ls hl => ?_)
            refine lv_iload hx hb dX12_rules_155 (lv_at hl 0 rfl) ?_
            refine lv_iconst (v := nI 4) hx hb dX12_rules_157 (by decide) ?_
            refine lv_icmp_ge (tgt := 181) hx hb dX12_rules_158 (by decide) (fun c313 => absurd c313 (by decide)) (fun c313 => ?_)
            refine lv_aload_n hx hb dX12_rules_161 rfl (lv_at hl 1 rfl) ?_
            refine zGetR (D := D) (ci := 12) (C := RX12) (T := TX12) (N := 71) hx hb hts hiX12 hown hH (zk_30 hF) rfl 17 (by decide) rfl hw3 (fun _ h9 => h9) dX12_rules_162 (zr_30_17 hF) ?_
            refine lv_iload hx hb dX12_rules_165 (lv_at hl 0 rfl) ?_
            refine lv_aload_n hx hb dX12_rules_167 rfl (lv_at hl 1 rfl) ?_
            refine zGetR (D := D) (ci := 12) (C := RX12) (T := TX12) (N := 71) hx hb hts hiX12 hown hH (zk_30 hF) rfl 18 (by decide) rfl hw2 (fun _ h9 => h9) dX12_rules_168 (zr_30_18 hF) ?_
            refine lv_iload hx hb dX12_rules_171 (lv_at hl 0 rfl) ?_
            refine zIaldN (D := D) hx hb hH (zk_45 hF) (zn_45 hF) (by omega) (by omega) hd0 dX12_rules_173 ?_
            refine zIastN (D := D) hx hb hH hS (zk_44 hF) (zn_44 hF) (by omega) (by omega) dX12_rules_174 (fun H locs hH hS => ?_)
            obtain ⟨f314, ef314⟩ : ∃ f9 : zFi, f9 = zu f300 44 0 d0 := ⟨_, rfl⟩
            rw [← ef314] at hH
            have q315 : f314 30 22 = nI L := by rw [ef314, zu_n (fun h9 => absurd h9.1 (by decide))]; exact q307
            have q316 : f314 30 21 = nI 0 := by rw [ef314, zu_n (fun h9 => absurd h9.1 (by decide))]; exact q308
            have q317 : f314 30 0 = nI 0 := by rw [ef314, zu_n (fun h9 => absurd h9.1 (by decide))]; exact q309
            have q318 : f314 30 2 = nI n := by rw [ef314, zu_n (fun h9 => absurd h9.1 (by decide))]; exact q310
            have q319 : f314 30 23 = nI c301 := by rw [ef314, zu_n (fun h9 => absurd h9.1 (by decide))]; exact q304
            have q320 : f314 45 0 = d0 := by rw [ef314, zu_n (fun h9 => absurd h9.1 (by decide))]; exact hd0
            have q321 : f314 45 1 = d1 := by rw [ef314, zu_n (fun h9 => absurd h9.1 (by decide))]; exact hd1
            have q322 : f314 45 2 = d2 := by rw [ef314, zu_n (fun h9 => absurd h9.1 (by decide))]; exact hd2
            have q323 : f314 45 3 = d3 := by rw [ef314, zu_n (fun h9 => absurd h9.1 (by decide))]; exact hd3
            have q324 : f314 30 24 = (-1) := by rw [ef314, zu_n (fun h9 => absurd h9.1 (by decide))]; exact k24
            have q325 : f314 44 0 = d0 := by rw [ef314]; exact zu_s
            have hMt := zMt.ci (fi' := f314) hMt (fun i9 k9 h9 => by rw [ef314]; exact zu_n (by omega))
            have hMx := zMx.ci (fi' := f314) hMx (fun i9 k9 h9 => by rw [ef314]; exact zu_n (by omega))
            have hMd := zMd.ci (fi' := f314) hMd (fun i9 k9 h9 => by rw [ef314]; exact zu_n (by omega))
            refine lv_iinc (v := nI 1) (lv' := [(4, .int (nI 1)), (0, .ref (τ.1 30)), (1, .int (nI mm)), (2, .int (nI m2)), (3, .int y3)]) hx hb dX12_rules_175 hl (k := 0) rfl (by decide) (by decide) rfl (fun ls hl => ?_)
            refine lv_goto (tgt := 155) hx hb dX12_rules_178 (by decide) ?_
            refine lv_iload hx hb dX12_rules_155 (lv_at hl 0 rfl) ?_
            refine lv_iconst (v := nI 4) hx hb dX12_rules_157 (by decide) ?_
            refine lv_icmp_ge (tgt := 181) hx hb dX12_rules_158 (by decide) (fun c326 => absurd c326 (by decide)) (fun c326 => ?_)
            refine lv_aload_n hx hb dX12_rules_161 rfl (lv_at hl 1 rfl) ?_
            refine zGetR (D := D) (ci := 12) (C := RX12) (T := TX12) (N := 71) hx hb hts hiX12 hown hH (zk_30 hF) rfl 17 (by decide) rfl hw3 (fun _ h9 => h9) dX12_rules_162 (zr_30_17 hF) ?_
            refine lv_iload hx hb dX12_rules_165 (lv_at hl 0 rfl) ?_
            refine lv_aload_n hx hb dX12_rules_167 rfl (lv_at hl 1 rfl) ?_
            refine zGetR (D := D) (ci := 12) (C := RX12) (T := TX12) (N := 71) hx hb hts hiX12 hown hH (zk_30 hF) rfl 18 (by decide) rfl hw2 (fun _ h9 => h9) dX12_rules_168 (zr_30_18 hF) ?_
            refine lv_iload hx hb dX12_rules_171 (lv_at hl 0 rfl) ?_
            refine zIaldN (D := D) hx hb hH (zk_45 hF) (zn_45 hF) (by omega) (by omega) q321 dX12_rules_173 ?_
            refine zIastN (D := D) hx hb hH hS (zk_44 hF) (zn_44 hF) (by omega) (by omega) dX12_rules_174 (fun H locs hH hS => ?_)
            obtain ⟨f327, ef327⟩ : ∃ f9 : zFi, f9 = zu f314 44 1 d1 := ⟨_, rfl⟩
            rw [← ef327] at hH
            have q328 : f327 30 22 = nI L := by rw [ef327, zu_n (fun h9 => absurd h9.1 (by decide))]; exact q315
            have q329 : f327 30 21 = nI 0 := by rw [ef327, zu_n (fun h9 => absurd h9.1 (by decide))]; exact q316
            have q330 : f327 30 0 = nI 0 := by rw [ef327, zu_n (fun h9 => absurd h9.1 (by decide))]; exact q317
            have q331 : f327 30 2 = nI n := by rw [ef327, zu_n (fun h9 => absurd h9.1 (by decide))]; exact q318
            have q332 : f327 30 23 = nI c301 := by rw [ef327, zu_n (fun h9 => absurd h9.1 (by decide))]; exact q319
            have q333 : f327 45 0 = d0 := by rw [ef327, zu_n (fun h9 => absurd h9.1 (by decide))]; exact q320
            have q334 : f327 45 1 = d1 := by rw [ef327, zu_n (fun h9 => absurd h9.1 (by decide))]; exact q321
            have q335 : f327 45 2 = d2 := by rw [ef327, zu_n (fun h9 => absurd h9.1 (by decide))]; exact q322
            have q336 : f327 45 3 = d3 := by rw [ef327, zu_n (fun h9 => absurd h9.1 (by decide))]; exact q323
            have q337 : f327 30 24 = (-1) := by rw [ef327, zu_n (fun h9 => absurd h9.1 (by decide))]; exact q324
            have q338 : f327 44 0 = d0 := by rw [ef327, zu_n (fun h9 => absurd h9.2 (by decide))]; exact q325
            have q339 : f327 44 1 = d1 := by rw [ef327]; exact zu_s
            have hMt := zMt.ci (fi' := f327) hMt (fun i9 k9 h9 => by rw [ef327]; exact zu_n (by omega))
            have hMx := zMx.ci (fi' := f327) hMx (fun i9 k9 h9 => by rw [ef327]; exact zu_n (by omega))
            have hMd := zMd.ci (fi' := f327) hMd (fun i9 k9 h9 => by rw [ef327]; exact zu_n (by omega))
            refine lv_iinc (v := nI 2) (lv' := [(4, .int (nI 2)), (0, .ref (τ.1 30)), (1, .int (nI mm)), (2, .int (nI m2)), (3, .int y3)]) hx hb dX12_rules_175 hl (k := 0) rfl (by decide) (by decide) rfl (fun ls hl => ?_)
            refine lv_goto (tgt := 155) hx hb dX12_rules_178 (by decide) ?_
            refine lv_iload hx hb dX12_rules_155 (lv_at hl 0 rfl) ?_
            refine lv_iconst (v := nI 4) hx hb dX12_rules_157 (by decide) ?_
            refine lv_icmp_ge (tgt := 181) hx hb dX12_rules_158 (by decide) (fun c340 => absurd c340 (by decide)) (fun c340 => ?_)
            refine lv_aload_n hx hb dX12_rules_161 rfl (lv_at hl 1 rfl) ?_
            refine zGetR (D := D) (ci := 12) (C := RX12) (T := TX12) (N := 71) hx hb hts hiX12 hown hH (zk_30 hF) rfl 17 (by decide) rfl hw3 (fun _ h9 => h9) dX12_rules_162 (zr_30_17 hF) ?_
            refine lv_iload hx hb dX12_rules_165 (lv_at hl 0 rfl) ?_
            refine lv_aload_n hx hb dX12_rules_167 rfl (lv_at hl 1 rfl) ?_
            refine zGetR (D := D) (ci := 12) (C := RX12) (T := TX12) (N := 71) hx hb hts hiX12 hown hH (zk_30 hF) rfl 18 (by decide) rfl hw2 (fun _ h9 => h9) dX12_rules_168 (zr_30_18 hF) ?_
            refine lv_iload hx hb dX12_rules_171 (lv_at hl 0 rfl) ?_
            refine zIaldN (D := D) hx hb hH (zk_45 hF) (zn_45 hF) (by omega) (by omega) q335 dX12_rules_173 ?_
            refine zIastN (D := D) hx hb hH hS (zk_44 hF) (zn_44 hF) (by omega) (by omega) dX12_rules_174 (fun H locs hH hS => ?_)
            obtain ⟨f341, ef341⟩ : ∃ f9 : zFi, f9 = zu f327 44 2 d2 := ⟨_, rfl⟩
            rw [← ef341] at hH
            have q342 : f341 30 22 = nI L := by rw [ef341, zu_n (fun h9 => absurd h9.1 (by decide))]; exact q328
            have q343 : f341 30 21 = nI 0 := by rw [ef341, zu_n (fun h9 => absurd h9.1 (by decide))]; exact q329
            have q344 : f341 30 0 = nI 0 := by rw [ef341, zu_n (fun h9 => absurd h9.1 (by decide))]; exact q330
            have q345 : f341 30 2 = nI n := by rw [ef341, zu_n (fun h9 => absurd h9.1 (by decide))]; exact q331
            have q346 : f341 30 23 = nI c301 := by rw [ef341, zu_n (fun h9 => absurd h9.1 (by decide))]; exact q332
            have q347 : f341 45 0 = d0 := by rw [ef341, zu_n (fun h9 => absurd h9.1 (by decide))]; exact q333
            have q348 : f341 45 1 = d1 := by rw [ef341, zu_n (fun h9 => absurd h9.1 (by decide))]; exact q334
            have q349 : f341 45 2 = d2 := by rw [ef341, zu_n (fun h9 => absurd h9.1 (by decide))]; exact q335
            have q350 : f341 45 3 = d3 := by rw [ef341, zu_n (fun h9 => absurd h9.1 (by decide))]; exact q336
            have q351 : f341 30 24 = (-1) := by rw [ef341, zu_n (fun h9 => absurd h9.1 (by decide))]; exact q337
            have q352 : f341 44 0 = d0 := by rw [ef341, zu_n (fun h9 => absurd h9.2 (by decide))]; exact q338
            have q353 : f341 44 1 = d1 := by rw [ef341, zu_n (fun h9 => absurd h9.2 (by decide))]; exact q339
            have q354 : f341 44 2 = d2 := by rw [ef341]; exact zu_s
            have hMt := zMt.ci (fi' := f341) hMt (fun i9 k9 h9 => by rw [ef341]; exact zu_n (by omega))
            have hMx := zMx.ci (fi' := f341) hMx (fun i9 k9 h9 => by rw [ef341]; exact zu_n (by omega))
            have hMd := zMd.ci (fi' := f341) hMd (fun i9 k9 h9 => by rw [ef341]; exact zu_n (by omega))
            refine lv_iinc (v := nI 3) (lv' := [(4, .int (nI 3)), (0, .ref (τ.1 30)), (1, .int (nI mm)), (2, .int (nI m2)), (3, .int y3)]) hx hb dX12_rules_175 hl (k := 0) rfl (by decide) (by decide) rfl (fun ls hl => ?_)
            refine lv_goto (tgt := 155) hx hb dX12_rules_178 (by decide) ?_
            refine lv_iload hx hb dX12_rules_155 (lv_at hl 0 rfl) ?_
            refine lv_iconst (v := nI 4) hx hb dX12_rules_157 (by decide) ?_
            refine lv_icmp_ge (tgt := 181) hx hb dX12_rules_158 (by decide) (fun c355 => absurd c355 (by decide)) (fun c355 => ?_)
            refine lv_aload_n hx hb dX12_rules_161 rfl (lv_at hl 1 rfl) ?_
            refine zGetR (D := D) (ci := 12) (C := RX12) (T := TX12) (N := 71) hx hb hts hiX12 hown hH (zk_30 hF) rfl 17 (by decide) rfl hw3 (fun _ h9 => h9) dX12_rules_162 (zr_30_17 hF) ?_
            refine lv_iload hx hb dX12_rules_165 (lv_at hl 0 rfl) ?_
            refine lv_aload_n hx hb dX12_rules_167 rfl (lv_at hl 1 rfl) ?_
            refine zGetR (D := D) (ci := 12) (C := RX12) (T := TX12) (N := 71) hx hb hts hiX12 hown hH (zk_30 hF) rfl 18 (by decide) rfl hw2 (fun _ h9 => h9) dX12_rules_168 (zr_30_18 hF) ?_
            refine lv_iload hx hb dX12_rules_171 (lv_at hl 0 rfl) ?_
            refine zIaldN (D := D) hx hb hH (zk_45 hF) (zn_45 hF) (by omega) (by omega) q350 dX12_rules_173 ?_
            refine zIastN (D := D) hx hb hH hS (zk_44 hF) (zn_44 hF) (by omega) (by omega) dX12_rules_174 (fun H locs hH hS => ?_)
            obtain ⟨f356, ef356⟩ : ∃ f9 : zFi, f9 = zu f341 44 3 d3 := ⟨_, rfl⟩
            rw [← ef356] at hH
            have q357 : f356 30 22 = nI L := by rw [ef356, zu_n (fun h9 => absurd h9.1 (by decide))]; exact q342
            have q358 : f356 30 21 = nI 0 := by rw [ef356, zu_n (fun h9 => absurd h9.1 (by decide))]; exact q343
            have q359 : f356 30 0 = nI 0 := by rw [ef356, zu_n (fun h9 => absurd h9.1 (by decide))]; exact q344
            have q360 : f356 30 2 = nI n := by rw [ef356, zu_n (fun h9 => absurd h9.1 (by decide))]; exact q345
            have q361 : f356 30 23 = nI c301 := by rw [ef356, zu_n (fun h9 => absurd h9.1 (by decide))]; exact q346
            have q362 : f356 45 0 = d0 := by rw [ef356, zu_n (fun h9 => absurd h9.1 (by decide))]; exact q347
            have q363 : f356 45 1 = d1 := by rw [ef356, zu_n (fun h9 => absurd h9.1 (by decide))]; exact q348
            have q364 : f356 45 2 = d2 := by rw [ef356, zu_n (fun h9 => absurd h9.1 (by decide))]; exact q349
            have q365 : f356 45 3 = d3 := by rw [ef356, zu_n (fun h9 => absurd h9.1 (by decide))]; exact q350
            have q366 : f356 30 24 = (-1) := by rw [ef356, zu_n (fun h9 => absurd h9.1 (by decide))]; exact q351
            have q367 : f356 44 0 = d0 := by rw [ef356, zu_n (fun h9 => absurd h9.2 (by decide))]; exact q352
            have q368 : f356 44 1 = d1 := by rw [ef356, zu_n (fun h9 => absurd h9.2 (by decide))]; exact q353
            have q369 : f356 44 2 = d2 := by rw [ef356, zu_n (fun h9 => absurd h9.2 (by decide))]; exact q354
            have q370 : f356 44 3 = d3 := by rw [ef356]; exact zu_s
            have hMt := zMt.ci (fi' := f356) hMt (fun i9 k9 h9 => by rw [ef356]; exact zu_n (by omega))
            have hMx := zMx.ci (fi' := f356) hMx (fun i9 k9 h9 => by rw [ef356]; exact zu_n (by omega))
            have hMd := zMd.ci (fi' := f356) hMd (fun i9 k9 h9 => by rw [ef356]; exact zu_n (by omega))
            refine lv_iinc (v := nI 4) (lv' := [(4, .int (nI 4)), (0, .ref (τ.1 30)), (1, .int (nI mm)), (2, .int (nI m2)), (3, .int y3)]) hx hb dX12_rules_175 hl (k := 0) rfl (by decide) (by decide) rfl (fun ls hl => ?_)
            refine lv_goto (tgt := 155) hx hb dX12_rules_178 (by decide) ?_
            refine lv_iload hx hb dX12_rules_155 (lv_at hl 0 rfl) ?_
            refine lv_iconst (v := nI 4) hx hb dX12_rules_157 (by decide) ?_
            refine lv_icmp_ge (tgt := 181) hx hb dX12_rules_158 (by decide) (fun c371 => ?_) (fun c371 => absurd (by decide) c371)
            refine lv_iconst (v := nI 0) hx hb dX12_rules_181 (by decide) ?_
            refine lv_istore (lv' := [(4, .int (nI 0)), (0, .ref (τ.1 30)), (1, .int (nI mm)), (2, .int (nI m2)), (3, .int y3)]) hx hb dX12_rules_182 hl (by decide) rfl (fun ls hl => ?_)
            refine zLp (σ := Nat × zFi) (fun x9 k9 H locs ls => (fun (i3 : Nat) (f3 : zFi) => k9 = n - i3 ∧ (i3 ≤ n ∧ zMx f3 n ∧ zMd f3 n ∧ f3 30 21 = nI 0 ∧ (f3 44 0 = d0 ∧ f3 44 1 = d1 ∧ f3 44 2 = d2 ∧ f3 44 3 = d3) ∧ f3 30 0 = nI 0 ∧ f3 30 24 = -1 ∧ (∀ t, t < n → f3 46 t = D9 (4 + t)) ∧ (∀ t, t < i3 → f3 40 t = D9 (4 + t)) ∧ (∀ t, i3 ≤ t → f3 40 t = fi 40 t) ∧ ∀ a b, ¬ (a = 40 ∨ a = 44 ∨ a = 45 ∨ a = 46 ∨ (a = 30 ∧ (b = 0 ∨ (21 ≤ b ∧ b ≤ 25)))) → f3 a b = fi a b) ∧ zH D A τ f3 fr ol s H ∧ va_S A s.heap H locs ∧ lv_has ls 5 [(0, .ref (τ.1 30)), (1, .int (nI mm)), (4, .int (nI i3))]) x9.1 x9.2) (0, f356) (n - 0) (show n - 0 = n - 0 ∧ (0 ≤ n ∧ zMx f356 n ∧ zMd f356 n ∧ f356 30 21 = nI 0 ∧ (f356 44 0 = d0 ∧ f356 44 1 = d1 ∧ f356 44 2 = d2 ∧ f356 44 3 = d3) ∧ f356 30 0 = nI 0 ∧ f356 30 24 = -1 ∧ (∀ t, t < n → f356 46 t = D9 (4 + t)) ∧ (∀ t, t < 0 → f356 40 t = D9 (4 + t)) ∧ (∀ t, 0 ≤ t → f356 40 t = fi 40 t) ∧ ∀ a b, ¬ (a = 40 ∨ a = 44 ∨ a = 45 ∨ a = 46 ∨ (a = 30 ∧ (b = 0 ∨ (21 ≤ b ∧ b ≤ 25)))) → f356 a b = fi a b) ∧ zH D A τ f356 fr ol s _ ∧ va_S A s.heap _ _ ∧ lv_has _ 5 [(0, .ref (τ.1 30)), (1, .int (nI mm)), (4, .int (nI 0))] from ⟨rfl, ⟨Nat.zero_le _, hMx, hMd, q358, ⟨q367, q368, q369, q370⟩, q359, q366, fun t h => by rw [ef356, zu_n (by omega), ef341, zu_n (by omega), ef327, zu_n (by omega), ef314, zu_n (by omega)]; exact hdt t h, fun t h => absurd h (by omega), fun t h => by rw [ef356, zu_n (by omega), ef341, zu_n (by omega), ef327, zu_n (by omega), ef314, zu_n (by omega), hf306 40 t (by omega)]; exact hfr2 40 t (by omega), fun a b h => by rw [ef356, zu_n (by omega), ef341, zu_n (by omega), ef327, zu_n (by omega), ef314, zu_n (by omega), hf306 a b (by omega)]; exact hfr2 a b (by omega)⟩, hH, hS, lv_sub hl [1, 2, 0] rfl⟩) (fun k9 ih x9 H locs ls hv9 => ?_)
            obtain ⟨i3, f3⟩ := x9
            have hv9 : k9 = n - i3 ∧ (i3 ≤ n ∧ zMx f3 n ∧ zMd f3 n ∧ f3 30 21 = nI 0 ∧ (f3 44 0 = d0 ∧ f3 44 1 = d1 ∧ f3 44 2 = d2 ∧ f3 44 3 = d3) ∧ f3 30 0 = nI 0 ∧ f3 30 24 = -1 ∧ (∀ t, t < n → f3 46 t = D9 (4 + t)) ∧ (∀ t, t < i3 → f3 40 t = D9 (4 + t)) ∧ (∀ t, i3 ≤ t → f3 40 t = fi 40 t) ∧ ∀ a b, ¬ (a = 40 ∨ a = 44 ∨ a = 45 ∨ a = 46 ∨ (a = 30 ∧ (b = 0 ∨ (21 ≤ b ∧ b ≤ 25)))) → f3 a b = fi a b) ∧ zH D A τ f3 fr ol s H ∧ va_S A s.heap H locs ∧ lv_has ls 5 [(0, .ref (τ.1 30)), (1, .int (nI mm)), (4, .int (nI i3))] := hv9
            obtain ⟨hkih372, hv9, hH, hS, hl⟩ := hv9
            obtain ⟨h3, hMx, hMd, p21, h44, p0, p24, h46, hnw, hol, hfr3⟩ := hv9
            have ih372 := ih
            clear ih
            have hMt := zMt.ci (fi' := f3) hMt0 (fun i9 k9 h9 => hfr3 i9 k9 (by omega))
            have p2 := hMt.2.1
            obtain ⟨p440, p441, p442, p443⟩ := h44
            refine lv_iload hx hb dX12_rules_184 (lv_at hl 2 rfl) ?_
            refine lv_aload_n hx hb dX12_rules_186 rfl (lv_at hl 0 rfl) ?_
            refine zGetI (D := D) (ci := 12) (C := RX12) (T := TX12) (N := 71) hx hb hts hiX12 hown hH (zk_30 hF) rfl 2 (by decide) rfl hw4 (fun _ h9 => h9) dX12_rules_187 p2 ?_
            refine lv_icmp_ge (tgt := 213) hx hb dX12_rules_190 (by decide) (fun c373 => ?_) (fun c373 => ?_)
            · have zc373 := c373
              replace zc373 := zc_le (nI_toInt (by omega)) (nI_toInt (by omega)) zc373
              refine lv_iload_n hx hb dX12_rules_213 rfl (lv_at hl 1 rfl) ?_
              refine W.widen (k := 0) (n := 0) (by decide) (by decide) ?_
              exact W.iret (v := nI mm) hx hb hr (fun t9 ht9 hW9 => ⟨⟨nI mm, f3, rfl, ⟨Or.inl ⟨mm, D9, hTz, rfl, p0, p24, zDot_end (by obtain ⟨h91, h92, h93, h94⟩ := hd4; exact ⟨by rw [p440]; exact h91, by rw [p441]; exact h92, by rw [p442]; exact h93, by rw [p443]; exact h94⟩) (by omega) (fun t h => hnw t (by omega)) (fun t h => hol t (by omega))⟩, ⟨p21, hMx, fun a b h => hfr3 a b h⟩⟩, zEnd1 hH ht9 hW9⟩, hS.F ht9⟩) hS.2.2 dX12_rules_214
            · have zc373 := c373
              replace zc373 := zc_nle (nI_toInt (by omega)) (nI_toInt (by omega)) zc373
              refine lv_aload_n hx hb dX12_rules_193 rfl (lv_at hl 0 rfl) ?_
              refine zGetR (D := D) (ci := 12) (C := RX12) (T := TX12) (N := 71) hx hb hts hiX12 hown hH (zk_30 hF) rfl 12 (by decide) rfl hw5 (fun _ h9 => h9) dX12_rules_194 (zr_30_12 hF) ?_
              refine lv_iload hx hb dX12_rules_197 (lv_at hl 2 rfl) ?_
              refine lv_aload_n hx hb dX12_rules_199 rfl (lv_at hl 0 rfl) ?_
              refine zGetR (D := D) (ci := 12) (C := RX12) (T := TX12) (N := 71) hx hb hts hiX12 hown hH (zk_30 hF) rfl 19 (by decide) rfl hw6 (fun _ h9 => h9) dX12_rules_200 (zr_30_19 hF) ?_
              refine lv_iload hx hb dX12_rules_203 (lv_at hl 2 rfl) ?_
              refine zIaldN (D := D) hx hb hH (zk_46 hF) (zn_46 hF) (by omega) (by omega) rfl dX12_rules_205 ?_
              have hsv9 := hMd i3 (by omega)
              refine zIastN (D := D) hx hb hH hS (zk_40 hF) (zn_40 hF) (by omega) (by omega) dX12_rules_206 (fun H locs hH hS => ?_)
              obtain ⟨f374, ef374⟩ : ∃ f9 : zFi, f9 = zu f3 40 i3 (f3 46 i3) := ⟨_, rfl⟩
              rw [← ef374] at hH
              have q375 : f374 30 2 = nI n := by rw [ef374, zu_n (fun h9 => absurd h9.1 (by decide))]; exact p2
              have q376 : f374 30 0 = nI 0 := by rw [ef374, zu_n (fun h9 => absurd h9.1 (by decide))]; exact p0
              have q377 : f374 30 24 = (-1) := by rw [ef374, zu_n (fun h9 => absurd h9.1 (by decide))]; exact p24
              have q378 : f374 44 0 = d0 := by rw [ef374, zu_n (fun h9 => absurd h9.1 (by decide))]; exact p440
              have q379 : f374 44 1 = d1 := by rw [ef374, zu_n (fun h9 => absurd h9.1 (by decide))]; exact p441
              have q380 : f374 44 2 = d2 := by rw [ef374, zu_n (fun h9 => absurd h9.1 (by decide))]; exact p442
              have q381 : f374 44 3 = d3 := by rw [ef374, zu_n (fun h9 => absurd h9.1 (by decide))]; exact p443
              have q382 : f374 40 i3 = f3 46 i3 := by rw [ef374]; exact zu_s
              have hMt := zMt.ci (fi' := f374) hMt (fun i9 k9 h9 => by rw [ef374]; exact zu_n (by omega))
              have hMd := zMd.ci (fi' := f374) hMd (fun i9 k9 h9 => by rw [ef374]; exact zu_n (by omega))
              have hMx := hMx.set ef374 (hsv9)
              refine lv_iinc (v := nI (i3 + 1)) (lv' := [(4, .int (nI (i3 + 1))), (0, .ref (τ.1 30)), (1, .int (nI mm))]) hx hb dX12_rules_207 hl (k := 2) rfl (by rw [show (Int32.ofInt 1 : Int32) = nI 1 from by decide, nI_add]) (by decide) rfl (fun ls hl => ?_)
              refine lv_goto (tgt := 184) hx hb dX12_rules_210 (by decide) ?_
              exact ih372 (n - (i3 + 1)) (by omega) (i3 + 1, f374) _ _ _ (show n - (i3 + 1) = n - (i3 + 1) ∧ ((i3 + 1) ≤ n ∧ zMx f374 n ∧ zMd f374 n ∧ f374 30 21 = nI 0 ∧ (f374 44 0 = d0 ∧ f374 44 1 = d1 ∧ f374 44 2 = d2 ∧ f374 44 3 = d3) ∧ f374 30 0 = nI 0 ∧ f374 30 24 = -1 ∧ (∀ t, t < n → f374 46 t = D9 (4 + t)) ∧ (∀ t, t < (i3 + 1) → f374 40 t = D9 (4 + t)) ∧ (∀ t, (i3 + 1) ≤ t → f374 40 t = fi 40 t) ∧ ∀ a b, ¬ (a = 40 ∨ a = 44 ∨ a = 45 ∨ a = 46 ∨ (a = 30 ∧ (b = 0 ∨ (21 ≤ b ∧ b ≤ 25)))) → f374 a b = fi a b) ∧ zH D A τ f374 fr ol s _ ∧ va_S A s.heap _ _ ∧ lv_has _ 5 [(0, .ref (τ.1 30)), (1, .int (nI mm)), (4, .int (nI (i3 + 1)))] from ⟨rfl, ⟨by omega, hMx, hMd, by rw [ef374, zu_n (by omega)]; exact p21, ⟨q378, q379, q380, q381⟩, q376, q377, fun t h => by rw [ef374, zu_n (by omega)]; exact h46 t h, fun t h => by by_cases h7 : t = i3; (subst h7; rw [ef374, zu_s]; exact h46 t (by omega)); (rw [ef374, zu_n (by omega)]; exact hnw t (by omega)), fun t h => by rw [ef374, zu_n (by omega)]; exact hol t (by omega), fun a b h => by rw [ef374, zu_n (by omega)]; exact hfr3 a b h⟩, hH, hS, lv_sub hl [1, 2, 0] rfl⟩)
          · have zc311 := c311
            replace zc311 := zc_neq (rfl) ((by decide : ((-1) : Int32).toInt = (-1))) zc311
            have hs2y : c301 = L → False := fun h8 => by rcases hsg2 with h9 | h9; omega; exact absurd (by rw [h9.2]; decide) zc311
            refine lv_aload_n hx hb dX12_rules_132 rfl (lv_at hl 0 rfl) ?_
            refine lv_aload_n hx hb dX12_rules_133 rfl (lv_at hl 0 rfl) ?_
            refine zGetI (D := D) (ci := 12) (C := RX12) (T := TX12) (N := 71) hx hb hts hiX12 hown hH (zk_30 hF) rfl 23 (by decide) rfl hw7 (fun _ h9 => h9) dX12_rules_134 q304 ?_
            refine va_calli (va_runV (As := [.int (nI c301)]) (rest := []) ⟨hx, hb, hml, hown, hts⟩ (m_wrongX l hl0 D A sad τ f300 fr ol (nI c301) hF) (cwV 1 hts gX12_rules_X12_wrong rfl rfl rfl (by decide +kernel) ⟨Nat.le_of_ble_eq_true rfl, Nat.le_of_ble_eq_true rfl⟩) ⟨zQc_bl, zRecv hH (zk_30 hF) rfl, zQc_at hz hS hA hH⟩ rfl rfl hl.1 rfl (lv_room (Nat.le_of_ble_eq_true rfl)) dX12_rules_137 ⟨Nat.le_of_ble_eq_true rfl, Nat.le_of_ble_eq_true rfl⟩) hS (fun q _ h => h) (fun q h => h) (fun r383 u9 t9 H1 locs ht9 hvm9 hw hB hz1 hk1 hS => ?_)
            have hH := zMv ht9 hvm9 hB
            clear hB
            generalize u9 = f384 at hw hH
            generalize H1 = H at hH hS ⊢
            obtain ⟨rfl, ef384⟩ := hw
            have q385 : f384 30 22 = nI L := by rw [ef384, zu_n (fun h9 => absurd h9.2 (by decide))]; exact q307
            have q386 : f384 30 21 = nI 0 := by rw [ef384, zu_n (fun h9 => absurd h9.2 (by decide))]; exact q308
            have q387 : f384 30 0 = nI 0 := by rw [ef384, zu_n (fun h9 => absurd h9.2 (by decide))]; exact q309
            have q388 : f384 30 2 = nI n := by rw [ef384, zu_n (fun h9 => absurd h9.2 (by decide))]; exact q310
            have q389 : f384 30 23 = nI c301 := by rw [ef384, zu_n (fun h9 => absurd h9.2 (by decide))]; exact q304
            have q390 : f384 30 24 = nI c301 := by rw [ef384]; exact zu_s
            have hMt := zMt.ci (fi' := f384) hMt (fun i9 k9 h9 => by rw [ef384]; exact zu_n (by omega))
            have hMx := zMx.ci (fi' := f384) hMx (fun i9 k9 h9 => by rw [ef384]; exact zu_n (by omega))
            have hMd := zMd.ci (fi' := f384) hMd (fun i9 k9 h9 => by rw [ef384]; exact zu_n (by omega))
            refine lv_istore_n (lv' := [(3, .int 0), (0, .ref (τ.1 30)), (1, .int (nI mm)), (2, .int (nI m2))]) hx hb dX12_rules_140 rfl hl (by decide) rfl (fun ls hl => ?_)
            refine lv_iload_n hx hb dX12_rules_141 rfl (lv_at hl 0 rfl) ?_
            refine lv_if_ne (tgt := 152) hx hb dX12_rules_142 (by decide) (fun c391 => absurd (by decide) c391) (fun c391 => ?_)
            refine lv_aload_n hx hb dX12_rules_145 rfl (lv_at hl 1 rfl) ?_
            refine lv_iconst (v := nI 1) hx hb dX12_rules_146 (by decide) ?_
            refine zPutI (D := D) (ci := 12) (ty := .int) (C := RX12) (T := TX12) (N := 71) hx hb hts hiX12 tyX12 tyX12_ok nmX12 hown hH hS (zk_30 hF) rfl 0 (by decide) rfl hw0 (fun _ h9 => h9) rfl (by decide +kernel) rfl rfl dX12_rules_147 (fun H locs hH hS => ?_)
            obtain ⟨f392, ef392⟩ : ∃ f9 : zFi, f9 = zu f384 30 0 (nI 1) := ⟨_, rfl⟩
            rw [← ef392] at hH
            have q393 : f392 30 22 = nI L := by rw [ef392, zu_n (fun h9 => absurd h9.2 (by decide))]; exact q385
            have q394 : f392 30 21 = nI 0 := by rw [ef392, zu_n (fun h9 => absurd h9.2 (by decide))]; exact q386
            have q395 : f392 30 2 = nI n := by rw [ef392, zu_n (fun h9 => absurd h9.2 (by decide))]; exact q388
            have q396 : f392 30 23 = nI c301 := by rw [ef392, zu_n (fun h9 => absurd h9.2 (by decide))]; exact q389
            have q397 : f392 30 24 = nI c301 := by rw [ef392, zu_n (fun h9 => absurd h9.2 (by decide))]; exact q390
            have q398 : f392 30 0 = nI 1 := by rw [ef392]; exact zu_s
            have hMt := zMt.ci (fi' := f392) hMt (fun i9 k9 h9 => by rw [ef392]; exact zu_n (by omega))
            have hMx := zMx.ci (fi' := f392) hMx (fun i9 k9 h9 => by rw [ef392]; exact zu_n (by omega))
            have hMd := zMd.ci (fi' := f392) hMd (fun i9 k9 h9 => by rw [ef392]; exact zu_n (by omega))
            refine lv_iconst (v := nI 0) hx hb dX12_rules_150 (by decide) ?_
            refine W.widen (k := 0) (n := 0) (by decide) (by decide) ?_
            exact W.iret (v := nI 0) hx hb hr (fun t9 ht9 hW9 => ⟨⟨nI 0, f392, rfl, ⟨Or.inr ⟨c301, by omega, by rcases hlm with ⟨h9, -⟩ | ⟨h91, h92, h93, ⟨h94, -⟩ | ⟨-, ⟨h94, h95⟩ | ⟨h94, -⟩⟩⟩; (exfalso; rw [h9] at zy3; exact zy3 (by decide)); (exfalso; omega); (rw [hcz2]; exact h95); (exfalso; rw [← hcz2] at h94; exact hs2y h94), rfl, q398, by rw [ef392, zu_n (by omega), ef384, zu_s], zDot_cg (fun a b h => by rw [ef392, zu_n (by omega), ef384, zu_n (by omega), hf306 a b (by omega)]; exact hfr2 a b (by omega))⟩, ⟨q394, hMx, fun a b h => by rw [ef392, zu_n (by omega), ef384, zu_n (by omega), hf306 a b (by omega)]; exact hfr2 a b (by omega)⟩⟩, zEnd1 hH ht9 hW9⟩, hS.F ht9⟩) hS.2.2 dX12_rules_151
      · have zc290 := c290
        replace zc290 := zc_neq (rfl) ((by decide : (0 : Int32).toInt = 0)) zc290
        have zy3 := zc290
        refine lv_aload_n hx hb dX12_rules_76 rfl (lv_at hl 0 rfl) ?_
        obtain ⟨hy3, hm24, hDg, hmc, hTz⟩ : y3 = nI 1 ∧ f2 30 24 = -1 ∧ (∀ k, k < 4 + n → zDmo f2 k = D9 k) ∧ mm ≤ c ∧ zRls (fi 47) L (fi 31) n 401 (zS (fi 47) L 0) (zDot fi) 0 = zRls (fi 47) L (fi 31) n (401 - mm) (zS (fi 47) L c) D9 mm := by
          rcases hlm with ⟨h9, -⟩ | ⟨h91, h92, h93, ⟨-, h94, h95⟩ | ⟨h94, -⟩⟩
          · exfalso; rw [h9] at zy3; exact zy3 (by decide)
          · exact ⟨h91, h92, h93, h94, h95⟩
          · omega
        refine va_calli (va_runV (As := []) (rest := []) ⟨hx, hb, hml, hown, hts⟩ (m_readRuleX l hl0 D A sad τ f2 fr ol L c hF p22 p23 (by omega) (by omega) n hMt hMd) (cwV 0 hts gX12_rules_X12_readRule rfl rfl rfl (by decide +kernel) ⟨Nat.le_of_ble_eq_true rfl, Nat.le_of_ble_eq_true rfl⟩) ⟨zQc_bl, zRecv hH (zk_30 hF) rfl, zQc_at hz hS hA hH⟩ rfl rfl hl.1 rfl (lv_room (Nat.le_of_ble_eq_true rfl)) dX12_rules_77 ⟨Nat.le_of_ble_eq_true rfl, Nat.le_of_ble_eq_true rfl⟩) hS (fun q _ h => h) (fun q h => h) (fun r399 u9 t9 H1 locs ht9 hvm9 hw hB hz1 hk1 hS => ?_)
        have hH := zMv ht9 hvm9 hB
        clear hB
        generalize u9 = f400 at hw hH
        generalize H1 = H at hH hS ⊢
        obtain ⟨-, ⟨c401, hc402, hc403, q404, hx405⟩, hMd, hf406⟩ := hw
        rw [(funext (fun k9 => hfr2 _ k9 (by omega)) : f2 47 = fi 47)] at hx405
        rw [(funext (fun k9 => hfr2 _ k9 (by omega)) : f2 31 = fi 31)] at hx405
        have q407 : f400 30 22 = nI L := by rw [hf406 30 22 (by omega)]; exact p22
        have q408 : f400 30 21 = nI 0 := by rw [hf406 30 21 (by omega)]; exact p21
        have q409 : f400 30 0 = nI 0 := by rw [hf406 30 0 (by omega)]; exact p0
        have q410 : f400 30 2 = nI n := by rw [hf406 30 2 (by omega)]; exact p2
        have hMt := zMt.ci (fi' := f400) hMt (fun i9 k9 h9 => hf406 i9 k9 (by omega))
        have hMx := zMx.ci (fi' := f400) hMx (fun i9 k9 h9 => hf406 i9 k9 (by omega))
        rcases hx405 with ⟨xx, hru, hze, rfl, h24, hdm⟩ | ⟨px, hpx, hru, rfl, h24⟩
        · skip
          refine lv_istore_n (lv' := [(3, .int 1), (0, .ref (τ.1 30)), (1, .int (nI mm)), (2, .int (nI m2))]) hx hb dX12_rules_80 rfl hl (by decide) rfl (fun ls hl => ?_)
          refine lv_iinc (v := nI (mm + 1)) (lv' := [(1, .int (nI (mm + 1))), (3, .int 1), (0, .ref (τ.1 30)), (2, .int (nI m2))]) hx hb dX12_rules_81 hl (k := 2) rfl (by rw [show (Int32.ofInt 1 : Int32) = nI 1 from by decide, nI_add]) (by decide) rfl (fun ls hl => ?_)
          refine lv_iload_n hx hb dX12_rules_84 rfl (lv_at hl 1 rfl) ?_
          refine lv_if_eq (tgt := 101) hx hb dX12_rules_85 (by decide) (fun c411 => absurd c411 (by decide)) (fun c411 => ?_)
          refine lv_aload_n hx hb dX12_rules_88 rfl (lv_at hl 2 rfl) ?_
          refine va_calli (va_runV (As := []) (rest := []) ⟨hx, hb, hml, hown, hts⟩ (m_signX l hl0 D A sad τ f400 fr ol L c401 hF q407 q404 (by omega) (by omega)) (cwV 0 hts gX12_rules_X12_sign rfl rfl rfl (by decide +kernel) ⟨Nat.le_of_ble_eq_true rfl, Nat.le_of_ble_eq_true rfl⟩) ⟨zQc_bl, zRecv hH (zk_30 hF) rfl, zQc_at hz hS hA hH⟩ rfl rfl hl.1 rfl (lv_room (Nat.le_of_ble_eq_true rfl)) dX12_rules_89 ⟨Nat.le_of_ble_eq_true rfl, Nat.le_of_ble_eq_true rfl⟩) hS (fun q _ h => h) (fun q h => h) (fun r412 u9 t9 H1 locs ht9 hvm9 hw hB hz1 hk1 hS => ?_)
          have hH := zMv ht9 hvm9 hB
          clear hB
          generalize u9 = f413 at hw hH
          generalize H1 = H at hH hS ⊢
          obtain ⟨-, ⟨c414, hc415, hc416, q417, hx418⟩, hf419⟩ := hw
          rw [(funext (fun k9 => by rw [hf406 47 k9 (by omega)]; exact hfr2 _ k9 (by omega)) : f400 47 = fi 47)] at hx418
          have q420 : f413 30 22 = nI L := by rw [hf419 30 22 (by omega)]; exact q407
          have q421 : f413 30 21 = nI 0 := by rw [hf419 30 21 (by omega)]; exact q408
          have q422 : f413 30 0 = nI 0 := by rw [hf419 30 0 (by omega)]; exact q409
          have q423 : f413 30 2 = nI n := by rw [hf419 30 2 (by omega)]; exact q410
          have hMt := zMt.ci (fi' := f413) hMt (fun i9 k9 h9 => hf419 i9 k9 (by omega))
          have hMx := zMx.ci (fi' := f413) hMx (fun i9 k9 h9 => hf419 i9 k9 (by omega))
          have hMd := zMd.ci (fi' := f413) hMd (fun i9 k9 h9 => hf419 i9 k9 (by omega))
          obtain ⟨hcz, hsg⟩ := hx418
          refine lv_bipush (v := nI 59) hx hb dX12_rules_92 (by decide) ?_
          refine lv_icmp_ne (tgt := 101) hx hb dX12_rules_94 (by decide) (fun c424 => ?_) (fun c424 => ?_)
          · have zc424 := c424
            replace zc424 := zc_neq (rfl) (nI_toInt (by omega)) zc424
            have hb59 : c414 < L → ¬ (fi 47 c414).toInt = 59 := fun h8 => by rcases hsg with h9 | h9; (rw [← h9.2]; omega); omega
            refine lv_iconst (v := nI 0) hx hb dX12_rules_101 (by decide) ?_
            refine lv_istore_n (lv' := [(2, .int (nI 0)), (1, .int (nI (mm + 1))), (3, .int 1), (0, .ref (τ.1 30))]) hx hb dX12_rules_102 rfl hl (by decide) rfl (fun ls hl => ?_)
            refine lv_iload_n hx hb dX12_rules_103 rfl (lv_at hl 0 rfl) ?_
            refine lv_if_eq (tgt := 68) hx hb dX12_rules_104 (by decide) (fun c425 => ?_) (fun c425 => absurd (by decide) c425)
            exact ih180 (2 * (L - c414) + 0) (by omega) (mm + 1, 0, nI 1, c414, (zup D9 xx.2.1 xx.2.2), f413) _ _ _ (show 2 * (L - c414) + 0 = 2 * (L - c414) + 0 ∧ (c414 ≤ L ∧ 0 ≤ 1 ∧ f413 30 23 = nI c414 ∧ zMd f413 n ∧ (f413 30 22 = nI L ∧ f413 30 21 = nI 0 ∧ f413 30 0 = nI 0) ∧ zLm (zRls (fi 47) L (fi 31) n 401 (zS (fi 47) L 0) (zDot fi) 0) (fi 47) (fi 31) L n (mm + 1) 0 (nI 1) c414 ((zup D9 xx.2.1 xx.2.2)) f413 ∧ ∀ a b, ¬ (a = 45 ∨ a = 46 ∨ (a = 30 ∧ (b = 0 ∨ (21 ≤ b ∧ b ≤ 25)))) → f413 a b = fi a b) ∧ zH D A τ f413 fr ol s _ ∧ va_S A s.heap _ _ ∧ lv_has _ 5 [(0, .ref (τ.1 30)), (1, .int (nI (mm + 1))), (2, .int (nI 0)), (3, .int (nI 1))] from ⟨rfl, ⟨by omega, by omega, q417, hMd, ⟨q420, q421, q422⟩, Or.inr ⟨rfl, by rw [hf419 30 24 (by omega)]; exact h24.trans hm24, fun k hk => by rw [zDmo_cg (g := f400) (fun i k q => by rw [hf419 i k (by omega)]), hdm]; exact zup_ag hDg k hk, Or.inr ⟨rfl, by rw [show zS (fi 47) L c414 = c414 from by rw [hcz]; exact zS_idem (by omega)]; exact zLm_n hmc (by omega) hL4 hTz hru (hcz.trans hze) (by omega) hb59⟩⟩, fun a b h => by rw [hf419 a b (by omega), hf406 a b (by omega)]; exact hfr2 a b h⟩, hH, hS, lv_sub hl [3, 1, 0, 2] rfl⟩)
          · have zc424 := c424
            replace zc424 := zc_eq (rfl) (nI_toInt (by omega)) zc424
            have hcl : c414 < L := by rcases hsg with h9 | h9; exact h9.1; (rw [h9.2] at zc424; exact absurd zc424 (by decide))
            have hb59 : (fi 47 c414).toInt = 59 := by rcases hsg with h9 | h9; (rw [← h9.2]; omega); omega
            refine lv_iconst (v := nI 1) hx hb dX12_rules_97 (by decide) ?_
            refine lv_goto (tgt := 102) hx hb dX12_rules_98 (by decide) ?_
            refine lv_istore_n (lv' := [(2, .int (nI 1)), (1, .int (nI (mm + 1))), (3, .int 1), (0, .ref (τ.1 30))]) hx hb dX12_rules_102 rfl hl (by decide) rfl (fun ls hl => ?_)
            refine lv_iload_n hx hb dX12_rules_103 rfl (lv_at hl 0 rfl) ?_
            refine lv_if_eq (tgt := 68) hx hb dX12_rules_104 (by decide) (fun c426 => absurd c426 (by decide)) (fun c426 => ?_)
            refine lv_aload_n hx hb dX12_rules_107 rfl (lv_at hl 3 rfl) ?_
            refine lv_dup hx hb dX12_rules_108 rfl ?_
            refine zGetI (D := D) (ci := 12) (C := RX12) (T := TX12) (N := 71) hx hb hts hiX12 hown hH (zk_30 hF) rfl 23 (by decide) rfl hw7 (fun _ h9 => h9) dX12_rules_109 q417 ?_
            refine lv_iconst (v := nI 1) hx hb dX12_rules_112 (by decide) ?_
            refine lv_iadd hx hb dX12_rules_113 ?_
            refine lv_topi (fun v427 ev427 => ?_)
            obtain rfl : v427 = nI (c414 + 1) := ev427.trans (nI_add _ _)
            refine zPutI (D := D) (ci := 12) (ty := .int) (C := RX12) (T := TX12) (N := 71) hx hb hts hiX12 tyX12 tyX12_ok nmX12 hown hH hS (zk_30 hF) rfl 23 (by decide) rfl hw7 (fun _ h9 => h9) rfl (by decide +kernel) rfl rfl dX12_rules_114 (fun H locs hH hS => ?_)
            obtain ⟨f428, ef428⟩ : ∃ f9 : zFi, f9 = zu f413 30 23 (nI (c414 + 1)) := ⟨_, rfl⟩
            rw [← ef428] at hH
            have q429 : f428 30 22 = nI L := by rw [ef428, zu_n (fun h9 => absurd h9.2 (by decide))]; exact q420
            have q430 : f428 30 21 = nI 0 := by rw [ef428, zu_n (fun h9 => absurd h9.2 (by decide))]; exact q421
            have q431 : f428 30 0 = nI 0 := by rw [ef428, zu_n (fun h9 => absurd h9.2 (by decide))]; exact q422
            have q432 : f428 30 2 = nI n := by rw [ef428, zu_n (fun h9 => absurd h9.2 (by decide))]; exact q423
            have q433 : f428 30 23 = nI (c414 + 1) := by rw [ef428]; exact zu_s
            have hMt := zMt.ci (fi' := f428) hMt (fun i9 k9 h9 => by rw [ef428]; exact zu_n (by omega))
            have hMx := zMx.ci (fi' := f428) hMx (fun i9 k9 h9 => by rw [ef428]; exact zu_n (by omega))
            have hMd := zMd.ci (fi' := f428) hMd (fun i9 k9 h9 => by rw [ef428]; exact zu_n (by omega))
            refine lv_goto (tgt := 68) hx hb dX12_rules_117 (by decide) ?_
            exact ih180 (2 * (L - (c414 + 1)) + 1) (by omega) (mm + 1, 1, nI 1, c414 + 1, (zup D9 xx.2.1 xx.2.2), f428) _ _ _ (show 2 * (L - (c414 + 1)) + 1 = 2 * (L - (c414 + 1)) + 1 ∧ ((c414 + 1) ≤ L ∧ 1 ≤ 1 ∧ f428 30 23 = nI (c414 + 1) ∧ zMd f428 n ∧ (f428 30 22 = nI L ∧ f428 30 21 = nI 0 ∧ f428 30 0 = nI 0) ∧ zLm (zRls (fi 47) L (fi 31) n 401 (zS (fi 47) L 0) (zDot fi) 0) (fi 47) (fi 31) L n (mm + 1) 1 (nI 1) (c414 + 1) ((zup D9 xx.2.1 xx.2.2)) f428 ∧ ∀ a b, ¬ (a = 45 ∨ a = 46 ∨ (a = 30 ∧ (b = 0 ∨ (21 ≤ b ∧ b ≤ 25)))) → f428 a b = fi a b) ∧ zH D A τ f428 fr ol s _ ∧ va_S A s.heap _ _ ∧ lv_has _ 5 [(0, .ref (τ.1 30)), (1, .int (nI (mm + 1))), (2, .int (nI 1)), (3, .int (nI 1))] from ⟨rfl, ⟨by omega, by omega, q433, hMd, ⟨q429, q430, q431⟩, Or.inr ⟨rfl, by rw [ef428, zu_n (by omega), hf419 30 24 (by omega)]; exact h24.trans hm24, fun k hk => by rw [zDmo_cg (g := f400) (fun i k q => by rw [ef428, zu_n (by omega), hf419 i k (by omega)]), hdm]; exact zup_ag hDg k hk, Or.inl ⟨rfl, by omega, zLm_y hmc (by omega) hL4 hTz hru (hcz.trans hze) hcl hb59⟩⟩, fun a b h => by rw [ef428, zu_n (by omega), hf419 a b (by omega), hf406 a b (by omega)]; exact hfr2 a b h⟩, hH, hS, lv_sub hl [3, 1, 0, 2] rfl⟩)
        · skip
          refine lv_istore_n (lv' := [(3, .int 0), (0, .ref (τ.1 30)), (1, .int (nI mm)), (2, .int (nI m2))]) hx hb dX12_rules_80 rfl hl (by decide) rfl (fun ls hl => ?_)
          refine lv_iinc (v := nI (mm + 1)) (lv' := [(1, .int (nI (mm + 1))), (3, .int 0), (0, .ref (τ.1 30)), (2, .int (nI m2))]) hx hb dX12_rules_81 hl (k := 2) rfl (by rw [show (Int32.ofInt 1 : Int32) = nI 1 from by decide, nI_add]) (by decide) rfl (fun ls hl => ?_)
          refine lv_iload_n hx hb dX12_rules_84 rfl (lv_at hl 1 rfl) ?_
          refine lv_if_eq (tgt := 101) hx hb dX12_rules_85 (by decide) (fun c434 => ?_) (fun c434 => absurd (by decide) c434)
          refine lv_iconst (v := nI 0) hx hb dX12_rules_101 (by decide) ?_
          refine lv_istore_n (lv' := [(2, .int (nI 0)), (1, .int (nI (mm + 1))), (3, .int 0), (0, .ref (τ.1 30))]) hx hb dX12_rules_102 rfl hl (by decide) rfl (fun ls hl => ?_)
          refine lv_iload_n hx hb dX12_rules_103 rfl (lv_at hl 0 rfl) ?_
          refine lv_if_eq (tgt := 68) hx hb dX12_rules_104 (by decide) (fun c435 => ?_) (fun c435 => absurd (by decide) c435)
          exact ih180 (2 * (L - c401) + 0) (by omega) (mm + 1, 0, nI 0, c401, D9, f400) _ _ _ (show 2 * (L - c401) + 0 = 2 * (L - c401) + 0 ∧ (c401 ≤ L ∧ 0 ≤ 1 ∧ f400 30 23 = nI c401 ∧ zMd f400 n ∧ (f400 30 22 = nI L ∧ f400 30 21 = nI 0 ∧ f400 30 0 = nI 0) ∧ zLm (zRls (fi 47) L (fi 31) n 401 (zS (fi 47) L 0) (zDot fi) 0) (fi 47) (fi 31) L n (mm + 1) 0 (nI 0) c401 D9 f400 ∧ ∀ a b, ¬ (a = 45 ∨ a = 46 ∨ (a = 30 ∧ (b = 0 ∨ (21 ≤ b ∧ b ≤ 25)))) → f400 a b = fi a b) ∧ zH D A τ f400 fr ol s _ ∧ va_S A s.heap _ _ ∧ lv_has _ 5 [(0, .ref (τ.1 30)), (1, .int (nI (mm + 1))), (2, .int (nI 0)), (3, .int (nI 0))] from ⟨rfl, ⟨by omega, by omega, q404, hMd, ⟨q407, q408, q409⟩, Or.inl ⟨rfl, rfl, px, hpx, zLm_e hmc (by omega) hL4 hTz hru, h24⟩, fun a b h => by rw [hf406 a b (by omega)]; exact hfr2 a b h⟩, hH, hS, lv_sub hl [3, 1, 0, 2] rfl⟩)
  · have zc179 := c179
    replace zc179 := zc_nle (nI_toInt (by omega)) (nI_toInt (by omega)) zc179
    refine lv_aload_n hx hb dX12_rules_44 rfl (lv_at hl 0 rfl) ?_
    refine zGetR (D := D) (ci := 12) (C := RX12) (T := TX12) (N := 71) hx hb hts hiX12 hown hH (zk_30 hF) rfl 19 (by decide) rfl hw6 (fun _ h9 => h9) dX12_rules_45 (zr_30_19 hF) ?_
    refine lv_iload_n hx hb dX12_rules_48 rfl (lv_at hl 1 rfl) ?_
    refine lv_aload_n hx hb dX12_rules_49 rfl (lv_at hl 0 rfl) ?_
    refine zGetR (D := D) (ci := 12) (C := RX12) (T := TX12) (N := 71) hx hb hts hiX12 hown hH (zk_30 hF) rfl 12 (by decide) rfl hw5 (fun _ h9 => h9) dX12_rules_50 (zr_30_12 hF) ?_
    refine lv_iload_n hx hb dX12_rules_53 rfl (lv_at hl 1 rfl) ?_
    refine zIaldN (D := D) hx hb hH (zk_40 hF) (zn_40 hF) (by omega) (by omega) rfl dX12_rules_54 ?_
    refine zIastN (D := D) hx hb hH hS (zk_46 hF) (zn_46 hF) (by omega) (by omega) dX12_rules_55 (fun H locs hH hS => ?_)
    obtain ⟨f436, ef436⟩ : ∃ f9 : zFi, f9 = zu f 46 i (f 40 i) := ⟨_, rfl⟩
    rw [← ef436] at hH
    have q437 : f436 30 22 = nI L := by rw [ef436, zu_n (fun h9 => absurd h9.1 (by decide))]; exact p22
    have q438 : f436 30 21 = nI 0 := by rw [ef436, zu_n (fun h9 => absurd h9.1 (by decide))]; exact p21
    have q439 : f436 30 23 = nI 0 := by rw [ef436, zu_n (fun h9 => absurd h9.1 (by decide))]; exact p23
    have q440 : f436 30 24 = (-1) := by rw [ef436, zu_n (fun h9 => absurd h9.1 (by decide))]; exact p24
    have q441 : f436 30 0 = nI 0 := by rw [ef436, zu_n (fun h9 => absurd h9.1 (by decide))]; exact p0
    have q442 : f436 30 2 = nI n := by rw [ef436, zu_n (fun h9 => absurd h9.1 (by decide))]; exact p2
    have q443 : f436 45 0 = r0 := by rw [ef436, zu_n (fun h9 => absurd h9.1 (by decide))]; exact p450
    have q444 : f436 45 1 = r1 := by rw [ef436, zu_n (fun h9 => absurd h9.1 (by decide))]; exact p451
    have q445 : f436 45 2 = r2 := by rw [ef436, zu_n (fun h9 => absurd h9.1 (by decide))]; exact p452
    have q446 : f436 45 3 = r3 := by rw [ef436, zu_n (fun h9 => absurd h9.1 (by decide))]; exact p453
    have q447 : f436 46 i = f 40 i := by rw [ef436]; exact zu_s
    have hMt := zMt.ci (fi' := f436) hMt (fun i9 k9 h9 => by rw [ef436]; exact zu_n (by omega))
    have hMx := zMx.ci (fi' := f436) hMx (fun i9 k9 h9 => by rw [ef436]; exact zu_n (by omega))
    refine lv_iinc (v := nI (i + 1)) (lv' := [(1, .int (nI (i + 1))), (0, .ref (τ.1 30))]) hx hb dX12_rules_56 hl (k := 1) rfl (by rw [show (Int32.ofInt 1 : Int32) = nI 1 from by decide, nI_add]) (by decide) rfl (fun ls hl => ?_)
    refine lv_goto (tgt := 36) hx hb dX12_rules_59 (by decide) ?_
    exact ih178 (n - (i + 1)) (by omega) (i + 1, f436) _ _ _ (show n - (i + 1) = n - (i + 1) ∧ ((i + 1) ≤ n ∧ ((∀ t, t < (i + 1) → f436 46 t = -1 ∨ ∃ t2, t2 < n ∧ f436 46 t = nI t2) ∧ ∀ t, t < (i + 1) → f436 46 t = fi 40 t) ∧ (f436 45 0 = r0 ∧ f436 45 1 = r1 ∧ f436 45 2 = r2 ∧ f436 45 3 = r3) ∧ (f436 30 22 = nI L ∧ f436 30 21 = nI 0 ∧ f436 30 0 = nI 0) ∧ f436 30 23 = nI 0 ∧ f436 30 24 = -1 ∧ ∀ a b, ¬ (a = 45 ∨ a = 46 ∨ (a = 30 ∧ (b = 0 ∨ (21 ≤ b ∧ b ≤ 25)))) → f436 a b = fi a b) ∧ zH D A τ f436 fr ol s _ ∧ va_S A s.heap _ _ ∧ lv_has _ 5 [(0, .ref (τ.1 30)), (1, .int (nI (i + 1)))] from ⟨rfl, ⟨by omega, ⟨fun j h => by by_cases h7 : j = i; (subst h7; rw [ef436, zu_s, hfr _ _ (by omega)]; exact hMx0 j (by omega)); (rw [ef436, zu_n (by omega)]; exact hdo j (by omega)), fun j h => by by_cases h7 : j = i; (subst h7; rw [ef436, zu_s, hfr _ _ (by omega)]); (rw [ef436, zu_n (by omega)]; exact hcp j (by omega))⟩, ⟨q443, q444, q445, q446⟩, ⟨q437, q438, q441⟩, q439, q440, fun a b h => by rw [ef436, zu_n (by omega)]; exact hfr a b h⟩, hH, hS, lv_sub hl [1, 0] rfl⟩)
set_option maxHeartbeats 4000000 in
set_option maxRecDepth 100000 in
/-- readLine -/
theorem m_readLineX (l : Launch) (hl0 : l.stackTraces = false) (D : va_G) (A : Nat → Prop) (sad : Nat → Nat) (τ : zTy) (fi : zFi) (fr : zFr) (ol : Int64) (L a : Nat) (hF : zFix τ fr) (he : fi 30 22 = nI L) (ha : fi 30 23 = nI a) (hL4 : L ≤ 400) (haL : a ≤ L) (l0 : Nat) (hMl : zMl fi l0) (hl7 : l0 < 8) : Met l yX12_readLine wsX12_readLine ({ frames := 3, cells := 0, slots := 0, locals := 70 }) (va_Pc [.ref (τ.1 30)] (zQc D A sad τ fi fr ol)) (va_Qi (fun (r : Int32) (u : zFi) => True ∧ (∃ c, a ≤ c ∧ c ≤ L ∧ u 30 23 = nI c ∧ ((∃ x, zLn1 (fi 47) L (zS (fi 47) L a) = .ok x ∧ zS (fi 47) L c = x.1 ∧ r = 1 ∧ u 30 24 = fi 30 24 ∧ u 48 l0 = x.2.1 ∧ u 49 l0 = x.2.2 ∧ (∀ j, j < l0 → u 48 j = fi 48 j ∧ u 49 j = fi 49 j) ∧ zMl u (l0 + 1)) ∨ (∃ p, p ≤ 400 ∧ zLn1 (fi 47) L (zS (fi 47) L a) = .error p ∧ r = 0 ∧ u 30 24 = nI p))) ∧ ∀ a b, ¬ (a = 48 ∨ a = 49 ∨ (a = 30 ∧ 23 ≤ b ∧ b ≤ 26)) → u a b = fi a b) (fun (u : zFi) (t : State) => zH D A τ u fr ol t t.heap) A) 0 0 A := by
  refine Met.ofW (cc := cX12_readLine) (maxL := 1) (ret := (some .boolean)) (by decide) rfl ?_
  intro p9 e9 s m args below meth c9 s₁ B hml hv
  obtain ⟨rfl, hz, hH, hA⟩ := hv
  have hx := B.exec
  have hb := B.bytes
  have hr := B.returns
  have hts := atoms_spec (ws := wsX12_readLine) B.pre
  have hown : s.vm.findClass RX12 = some m.cls := findClass_of_methodNamed B.named
  have hlocks := B.notSynchronized
  have hS : va_S A s.heap s.heap [] := va_S.rf
  have hl := lv_entry ([.ref (τ.1 30)]) (n := 1) (Nat.le_of_ble_eq_true rfl)
  rw [lg_entry_eq]
  generalize (lg_sl ([.ref (τ.1 30)]) ++ List.replicate (1 - (lg_sl ([.ref (τ.1 30)])).length) Slot.unset).toArray = ls at hl ⊢
  have hl : lv_has ls 1 [(0, .ref (τ.1 30))] := hl
  have hMl0 := hMl
  obtain ⟨w24, hw24⟩ : ∃ w, fi 30 24 = w := ⟨_, rfl⟩
  have hiX12 : ∀ w ∈ u_ws RX12 TX12 71, w ∈ wsX12_readLine := fun _ h => List.mem_cons_of_mem _ (List.mem_append_right _ h)
  have hw1 := hts (.fieldLink RX12 65 "PostHouseModel" "lineCode" "[I") (by decide +kernel)
  have hw2 := hts (.fieldLink RX12 262 "PostHouseModel" "lines" "I") (by decide +kernel)
  have hw3 := hts (.fieldLink RX12 229 "PostHouseModel" "number" "I") (by decide +kernel)
  have hw4 := hts (.constantLong RX12 265 120) (by decide +kernel)
  have hw5 := hts (.fieldLink RX12 68 "PostHouseModel" "lineMany" "[I") (by decide +kernel)
  refine lv_aload_n hx hb dX12_readLine_0 rfl (lv_at hl 0 rfl) ?_
  refine lv_iconst (v := nI 4) hx hb dX12_readLine_1 (by decide) ?_
  refine lv_iconst (v := nI 4) hx hb dX12_readLine_2 (by decide) ?_
  refine lv_iconst (v := nI 0) hx hb dX12_readLine_3 (by decide) ?_
  refine lv_sipush (v := nI 9999) hx hb dX12_readLine_4 (by decide) ?_
  refine va_calli (va_runV (As := [.int (nI 4), .int (nI 4), .int (nI 0), .int (nI 9999)]) (rest := []) ⟨hx, hb, hml, hown, hts⟩ (m_digitsX l hl0 D A sad τ fi fr ol L a hF he ha (by omega) (by omega) 4 4 (by omega) (by omega) (nI 0) (nI 9999)) (cwV 4 hts gX12_readLine_X12_digits rfl rfl rfl (by decide +kernel) ⟨Nat.le_of_ble_eq_true rfl, Nat.le_of_ble_eq_true rfl⟩) ⟨zQc_bl, zRecv hH (zk_30 hF) rfl, zQc_at hz hS hA hH⟩ rfl rfl hl.1 rfl (lv_room (Nat.le_of_ble_eq_true rfl)) dX12_readLine_7 ⟨Nat.le_of_ble_eq_true rfl, Nat.le_of_ble_eq_true rfl⟩) hS (fun q _ h => h) (fun q h => h) (fun r101 u9 t9 H1 locs ht9 hvm9 hw hB hz1 hk1 hS => ?_)
  have hH := zMv ht9 hvm9 hB
  clear hB
  generalize u9 = f102 at hw hH
  generalize H1 = H at hH hS ⊢
  obtain ⟨-, ⟨c103, hc104, hc105, q106, hx107⟩, hf108⟩ := hw
  have q109 : f102 30 22 = nI L := by rw [hf108 30 22 (by omega)]; exact he
  have q110 : f102 30 26 = nI l0 := by rw [hf108 30 26 (by omega)]; exact hMl.2.1
  rcases hx107 with ⟨v1, _, hn1, rfl, rfl, h251, h241⟩ | ⟨hn1, rfl, h241⟩
  · skip
    have q111 : f102 30 24 = w24 := h241.trans hw24
    refine lv_if_ne (tgt := 15) hx hb dX12_readLine_10 (by decide) (fun c112 => ?_) (fun c112 => absurd c112 (by decide))
    refine lv_aload_n hx hb dX12_readLine_15 rfl (lv_at hl 0 rfl) ?_
    refine zGetR (D := D) (ci := 12) (C := RX12) (T := TX12) (N := 71) hx hb hts hiX12 hown hH (zk_30 hF) rfl 27 (by decide) rfl hw1 (fun _ h9 => h9) dX12_readLine_16 (zr_30_27 hF) ?_
    refine lv_aload_n hx hb dX12_readLine_19 rfl (lv_at hl 0 rfl) ?_
    refine zGetI (D := D) (ci := 12) (C := RX12) (T := TX12) (N := 71) hx hb hts hiX12 hown hH (zk_30 hF) rfl 26 (by decide) rfl hw2 (fun _ h9 => h9) dX12_readLine_20 q110 ?_
    refine lv_aload_n hx hb dX12_readLine_23 rfl (lv_at hl 0 rfl) ?_
    refine zGetI (D := D) (ci := 12) (C := RX12) (T := TX12) (N := 71) hx hb hts hiX12 hown hH (zk_30 hF) rfl 25 (by decide) rfl hw3 (fun _ h9 => h9) dX12_readLine_24 h251 ?_
    refine zIastN (D := D) hx hb hH hS (zk_48 hF) (zn_48 hF) (by omega) (by omega) dX12_readLine_27 (fun H locs hH hS => ?_)
    obtain ⟨f113, ef113⟩ : ∃ f9 : zFi, f9 = zu f102 48 l0 v1 := ⟨_, rfl⟩
    rw [← ef113] at hH
    have q114 : f113 30 22 = nI L := by rw [ef113, zu_n (fun h9 => absurd h9.1 (by decide))]; exact q109
    have q115 : f113 30 26 = nI l0 := by rw [ef113, zu_n (fun h9 => absurd h9.1 (by decide))]; exact q110
    have q116 : f113 30 23 = nI c103 := by rw [ef113, zu_n (fun h9 => absurd h9.1 (by decide))]; exact q106
    have q117 : f113 30 25 = v1 := by rw [ef113, zu_n (fun h9 => absurd h9.1 (by decide))]; exact h251
    have q118 : f113 30 24 = w24 := by rw [ef113, zu_n (fun h9 => absurd h9.1 (by decide))]; exact q111
    have q119 : f113 48 l0 = v1 := by rw [ef113]; exact zu_s
    refine lv_aload_n hx hb dX12_readLine_28 rfl (lv_at hl 0 rfl) ?_
    refine lv_ldc2 (v := 120) hx hb hown hw4 dX12_readLine_29 ?_
    refine va_calli (va_runV (As := [.long 120]) (rest := []) ⟨hx, hb, hml, hown, hts⟩ (m_passesX l hl0 D A sad τ f113 fr ol L c103 hF q114 q116 (by omega) (by omega) 120 ([120]) zWs_x) (cwV 1 hts gX12_readLine_X12_passes rfl rfl rfl (by decide +kernel) ⟨Nat.le_of_ble_eq_true rfl, Nat.le_of_ble_eq_true rfl⟩) ⟨zQc_bl, zRecv hH (zk_30 hF) rfl, zQc_at hz hS hA hH⟩ rfl rfl hl.1 rfl (lv_room (Nat.le_of_ble_eq_true rfl)) dX12_readLine_32 ⟨Nat.le_of_ble_eq_true rfl, Nat.le_of_ble_eq_true rfl⟩) hS (fun q _ h => h) (fun q h => h) (fun r120 u9 t9 H1 locs ht9 hvm9 hw hB hz1 hk1 hS => ?_)
    have hH := zMv ht9 hvm9 hB
    clear hB
    generalize u9 = f121 at hw hH
    generalize H1 = H at hH hS ⊢
    obtain ⟨-, ⟨c122, hc123, hc124, q125, hx126⟩, hf127⟩ := hw
    rw [(funext (fun k9 => by rw [ef113, zu_n (by omega), hf108 47 k9 (by omega)]) : f113 47 = fi 47)] at hx126
    have q128 : f121 30 22 = nI L := by rw [hf127 30 22 (by omega)]; exact q114
    have q129 : f121 30 26 = nI l0 := by rw [hf127 30 26 (by omega)]; exact q115
    have q130 : f121 30 25 = v1 := by rw [hf127 30 25 (by omega)]; exact q117
    have q131 : f121 48 l0 = v1 := by rw [hf127 48 l0 (by omega)]; exact q119
    rcases hx126 with ⟨_, hWx, rfl, rfl, h24x⟩ | ⟨hWx, rfl, h24x⟩
    · skip
      have q132 : f121 30 24 = w24 := h24x.trans q118
      refine lv_if_eq (tgt := 51) hx hb dX12_readLine_35 (by decide) (fun c133 => absurd c133 (by decide)) (fun c133 => ?_)
      refine lv_aload_n hx hb dX12_readLine_38 rfl (lv_at hl 0 rfl) ?_
      refine lv_iconst (v := nI 1) hx hb dX12_readLine_39 (by decide) ?_
      refine lv_bipush (v := nI 6) hx hb dX12_readLine_40 (by decide) ?_
      refine lv_iconst (v := nI 1) hx hb dX12_readLine_42 (by decide) ?_
      refine lv_bipush (v := nI 99) hx hb dX12_readLine_43 (by decide) ?_
      refine va_calli (va_runV (As := [.int (nI 1), .int (nI 6), .int (nI 1), .int (nI 99)]) (rest := []) ⟨hx, hb, hml, hown, hts⟩ (m_digitsX l hl0 D A sad τ f121 fr ol L c122 hF q128 q125 (by omega) (by omega) 1 6 (by omega) (by omega) (nI 1) (nI 99)) (cwV 4 hts gX12_readLine_X12_digits rfl rfl rfl (by decide +kernel) ⟨Nat.le_of_ble_eq_true rfl, Nat.le_of_ble_eq_true rfl⟩) ⟨zQc_bl, zRecv hH (zk_30 hF) rfl, zQc_at hz hS hA hH⟩ rfl rfl hl.1 rfl (lv_room (Nat.le_of_ble_eq_true rfl)) dX12_readLine_45 ⟨Nat.le_of_ble_eq_true rfl, Nat.le_of_ble_eq_true rfl⟩) hS (fun q _ h => h) (fun q h => h) (fun r134 u9 t9 H1 locs ht9 hvm9 hw hB hz1 hk1 hS => ?_)
      have hH := zMv ht9 hvm9 hB
      clear hB
      generalize u9 = f135 at hw hH
      generalize H1 = H at hH hS ⊢
      obtain ⟨-, ⟨c136, hc137, hc138, q139, hx140⟩, hf141⟩ := hw
      rw [(funext (fun k9 => by rw [hf127 47 k9 (by omega), ef113, zu_n (by omega), hf108 47 k9 (by omega)]) : f121 47 = fi 47)] at hx140
      have q142 : f135 30 22 = nI L := by rw [hf141 30 22 (by omega)]; exact q128
      have q143 : f135 30 26 = nI l0 := by rw [hf141 30 26 (by omega)]; exact q129
      have q144 : f135 48 l0 = v1 := by rw [hf141 48 l0 (by omega)]; exact q131
      rcases hx140 with ⟨v2, _, hn2, rfl, rfl, h252, h242⟩ | ⟨hn2, rfl, h242⟩
      · skip
        have q145 : f135 30 24 = w24 := h242.trans q132
        refine lv_if_ne (tgt := 53) hx hb dX12_readLine_48 (by decide) (fun c146 => ?_) (fun c146 => absurd c146 (by decide))
        refine lv_aload_n hx hb dX12_readLine_53 rfl (lv_at hl 0 rfl) ?_
        refine zGetR (D := D) (ci := 12) (C := RX12) (T := TX12) (N := 71) hx hb hts hiX12 hown hH (zk_30 hF) rfl 28 (by decide) rfl hw5 (fun _ h9 => h9) dX12_readLine_54 (zr_30_28 hF) ?_
        refine lv_aload_n hx hb dX12_readLine_57 rfl (lv_at hl 0 rfl) ?_
        refine zGetI (D := D) (ci := 12) (C := RX12) (T := TX12) (N := 71) hx hb hts hiX12 hown hH (zk_30 hF) rfl 26 (by decide) rfl hw2 (fun _ h9 => h9) dX12_readLine_58 q143 ?_
        refine lv_aload_n hx hb dX12_readLine_61 rfl (lv_at hl 0 rfl) ?_
        refine zGetI (D := D) (ci := 12) (C := RX12) (T := TX12) (N := 71) hx hb hts hiX12 hown hH (zk_30 hF) rfl 25 (by decide) rfl hw3 (fun _ h9 => h9) dX12_readLine_62 h252 ?_
        refine zIastN (D := D) hx hb hH hS (zk_49 hF) (zn_49 hF) (by omega) (by omega) dX12_readLine_65 (fun H locs hH hS => ?_)
        obtain ⟨f147, ef147⟩ : ∃ f9 : zFi, f9 = zu f135 49 l0 v2 := ⟨_, rfl⟩
        rw [← ef147] at hH
        have q148 : f147 30 22 = nI L := by rw [ef147, zu_n (fun h9 => absurd h9.1 (by decide))]; exact q142
        have q149 : f147 30 26 = nI l0 := by rw [ef147, zu_n (fun h9 => absurd h9.1 (by decide))]; exact q143
        have q150 : f147 48 l0 = v1 := by rw [ef147, zu_n (fun h9 => absurd h9.1 (by decide))]; exact q144
        have q151 : f147 30 23 = nI c136 := by rw [ef147, zu_n (fun h9 => absurd h9.1 (by decide))]; exact q139
        have q152 : f147 30 25 = v2 := by rw [ef147, zu_n (fun h9 => absurd h9.1 (by decide))]; exact h252
        have q153 : f147 30 24 = w24 := by rw [ef147, zu_n (fun h9 => absurd h9.1 (by decide))]; exact q145
        have q154 : f147 49 l0 = v2 := by rw [ef147]; exact zu_s
        refine lv_aload_n hx hb dX12_readLine_66 rfl (lv_at hl 0 rfl) ?_
        refine lv_dup hx hb dX12_readLine_67 rfl ?_
        refine zGetI (D := D) (ci := 12) (C := RX12) (T := TX12) (N := 71) hx hb hts hiX12 hown hH (zk_30 hF) rfl 26 (by decide) rfl hw2 (fun _ h9 => h9) dX12_readLine_68 q149 ?_
        refine lv_iconst (v := nI 1) hx hb dX12_readLine_71 (by decide) ?_
        refine lv_iadd hx hb dX12_readLine_72 ?_
        refine lv_topi (fun v155 ev155 => ?_)
        obtain rfl : v155 = nI (l0 + 1) := ev155.trans (nI_add _ _)
        refine zPutI (D := D) (ci := 12) (ty := .int) (C := RX12) (T := TX12) (N := 71) hx hb hts hiX12 tyX12 tyX12_ok nmX12 hown hH hS (zk_30 hF) rfl 26 (by decide) rfl hw2 (fun _ h9 => h9) rfl (by decide +kernel) rfl rfl dX12_readLine_73 (fun H locs hH hS => ?_)
        obtain ⟨f156, ef156⟩ : ∃ f9 : zFi, f9 = zu f147 30 26 (nI (l0 + 1)) := ⟨_, rfl⟩
        rw [← ef156] at hH
        have q157 : f156 30 22 = nI L := by rw [ef156, zu_n (fun h9 => absurd h9.2 (by decide))]; exact q148
        have q158 : f156 48 l0 = v1 := by rw [ef156, zu_n (fun h9 => absurd h9.1 (by decide))]; exact q150
        have q159 : f156 30 23 = nI c136 := by rw [ef156, zu_n (fun h9 => absurd h9.2 (by decide))]; exact q151
        have q160 : f156 30 25 = v2 := by rw [ef156, zu_n (fun h9 => absurd h9.2 (by decide))]; exact q152
        have q161 : f156 30 24 = w24 := by rw [ef156, zu_n (fun h9 => absurd h9.2 (by decide))]; exact q153
        have q162 : f156 49 l0 = v2 := by rw [ef156, zu_n (fun h9 => absurd h9.1 (by decide))]; exact q154
        have q163 : f156 30 26 = nI (l0 + 1) := by rw [ef156]; exact zu_s
        refine lv_iconst (v := nI 1) hx hb dX12_readLine_76 (by decide) ?_
        have hbd : 1 ≤ v2.toInt ∧ v2.toInt ≤ 99 := by have h9 := zNum_bd hn2; rw [nI_toInt (by omega), nI_toInt (by omega)] at h9; exact h9
        refine W.widen (k := 0) (n := 0) (by decide) (by decide) ?_
        exact W.zret (v := nI 1) hx hb hr (by decide) (fun t9 ht9 hW9 => ⟨⟨nI 1, f156, rfl, ⟨trivial, ⟨c136, by omega, by omega, q159, Or.inl ⟨(zS (fi 47) L c136, v1, v2), by simp only [zLn1, hn1, hWx, hn2], rfl, rfl, q161.trans hw24.symm, q158, q162, fun j h => ⟨by rw [ef156, zu_n (by omega), ef147, zu_n (by omega), hf141 48 j (by omega), hf127 48 j (by omega), ef113, zu_n (by omega), hf108 48 j (by omega)], by rw [ef156, zu_n (by omega), ef147, zu_n (by omega), hf141 49 j (by omega), hf127 49 j (by omega), ef113, zu_n (by omega), hf108 49 j (by omega)]⟩, hMl0.add hl7 q163 (by rw [q162]; exact hbd.1) (by rw [q162]; exact hbd.2) (fun j h => by rw [ef156, zu_n (by omega), ef147, zu_n (by omega), hf141 49 j (by omega), hf127 49 j (by omega), ef113, zu_n (by omega), hf108 49 j (by omega)])⟩⟩, fun a b h => by rw [ef156, zu_n (by omega), ef147, zu_n (by omega), hf141 a b (by omega), hf127 a b (by omega), ef113, zu_n (by omega), hf108 a b (by omega)]⟩, zEnd1 hH ht9 hW9⟩, hS.F ht9⟩) hS.2.2 dX12_readLine_77
      · skip
        refine lv_if_ne (tgt := 53) hx hb dX12_readLine_48 (by decide) (fun c164 => absurd (by decide) c164) (fun c164 => ?_)
        refine lv_iconst (v := nI 0) hx hb dX12_readLine_51 (by decide) ?_
        refine W.widen (k := 0) (n := 0) (by decide) (by decide) ?_
        exact W.zret (v := nI 0) hx hb hr (by decide) (fun t9 ht9 hW9 => ⟨⟨nI 0, f135, rfl, ⟨trivial, ⟨c136, by omega, by omega, q139, Or.inr ⟨zS (fi 47) L c122, by have h9 := zS_le (b := fi 47) (n := L) (a := c122) (by omega); omega, by simp only [zLn1, hn1, hWx, hn2], rfl, h242⟩⟩, fun a b h => by rw [hf141 a b (by omega), hf127 a b (by omega), ef113, zu_n (by omega), hf108 a b (by omega)]⟩, zEnd1 hH ht9 hW9⟩, hS.F ht9⟩) hS.2.2 dX12_readLine_52
    · skip
      refine lv_if_eq (tgt := 51) hx hb dX12_readLine_35 (by decide) (fun c165 => ?_) (fun c165 => absurd (by decide) c165)
      refine lv_iconst (v := nI 0) hx hb dX12_readLine_51 (by decide) ?_
      refine W.widen (k := 0) (n := 0) (by decide) (by decide) ?_
      exact W.zret (v := nI 0) hx hb hr (by decide) (fun t9 ht9 hW9 => ⟨⟨nI 0, f121, rfl, ⟨trivial, ⟨c122, by omega, by omega, q125, Or.inr ⟨zS (fi 47) L c103, by have h9 := zS_le (b := fi 47) (n := L) (a := c103) (by omega); omega, by simp only [zLn1, hn1, hWx], rfl, h24x⟩⟩, fun a b h => by rw [hf127 a b (by omega), ef113, zu_n (by omega), hf108 a b (by omega)]⟩, zEnd1 hH ht9 hW9⟩, hS.F ht9⟩) hS.2.2 dX12_readLine_52
  · skip
    refine lv_if_ne (tgt := 15) hx hb dX12_readLine_10 (by decide) (fun c166 => absurd (by decide) c166) (fun c166 => ?_)
    refine lv_iconst (v := nI 0) hx hb dX12_readLine_13 (by decide) ?_
    refine W.widen (k := 0) (n := 0) (by decide) (by decide) ?_
    exact W.zret (v := nI 0) hx hb hr (by decide) (fun t9 ht9 hW9 => ⟨⟨nI 0, f102, rfl, ⟨trivial, ⟨c103, by omega, by omega, q106, Or.inr ⟨zS (fi 47) L a, by have h9 := zS_le (b := fi 47) (n := L) (a := a) (by omega); omega, by simp only [zLn1, hn1], rfl, h241⟩⟩, fun a b h => by rw [hf108 a b (by omega)]⟩, zEnd1 hH ht9 hW9⟩, hS.F ht9⟩) hS.2.2 dX12_readLine_14
set_option maxHeartbeats 4000000 in
set_option maxRecDepth 100000 in
/-- readLetter -/
theorem m_readLetterX (l : Launch) (hl0 : l.stackTraces = false) (D : va_G) (A : Nat → Prop) (sad : Nat → Nat) (τ : zTy) (fi : zFi) (fr : zFr) (ol : Int64) (L a : Nat) (hF : zFix τ fr) (he : fi 30 22 = nI L) (ha : fi 30 23 = nI a) (hL4 : L ≤ 400) (haL : a ≤ L) (hB0 : ∀ j, j < L → 0 ≤ (fi 47 j).toInt) : Met l yX12_readLetter wsX12_readLetter ({ frames := 4, cells := 0, slots := 0, locals := 90 }) (va_Pc [.ref (τ.1 30)] (zQc D A sad τ fi fr ol)) (va_Qi (fun (r : Int32) (u : zFi) => ((∃ x, zLet (fi 47) L (zS (fi 47) L a) = .ok x ∧ r = 1 ∧ u 30 24 = fi 30 24 ∧ zMl u x.1 ∧ (∀ k, k < x.1 → u 48 k = x.2.1 k ∧ u 49 k = x.2.2.1 k) ∧ u 30 29 = x.2.2.2.1 ∧ u 30 30 = x.2.2.2.2) ∨ (∃ p, p ≤ 400 ∧ zLet (fi 47) L (zS (fi 47) L a) = .error p ∧ r = 0 ∧ u 30 24 = nI p)) ∧ ∀ a b, ¬ (a = 48 ∨ a = 49 ∨ (a = 30 ∧ 23 ≤ b ∧ b ≤ 30)) → u a b = fi a b) (fun (u : zFi) (t : State) => zH D A τ u fr ol t t.heap) A) 0 0 A := by
  refine Met.ofW (cc := cX12_readLetter) (maxL := 2) (ret := (some .boolean)) (by decide) rfl ?_
  intro p9 e9 s m args below meth c9 s₁ B hml hv
  obtain ⟨rfl, hz, hH, hA⟩ := hv
  have hx := B.exec
  have hb := B.bytes
  have hr := B.returns
  have hts := atoms_spec (ws := wsX12_readLetter) B.pre
  have hown : s.vm.findClass RX12 = some m.cls := findClass_of_methodNamed B.named
  have hlocks := B.notSynchronized
  have hS : va_S A s.heap s.heap [] := va_S.rf
  have hl := lv_entry ([.ref (τ.1 30)]) (n := 2) (Nat.le_of_ble_eq_true rfl)
  rw [lg_entry_eq]
  generalize (lg_sl ([.ref (τ.1 30)]) ++ List.replicate (2 - (lg_sl ([.ref (τ.1 30)])).length) Slot.unset).toArray = ls at hl ⊢
  have hl : lv_has ls 2 [(0, .ref (τ.1 30))] := hl
  obtain ⟨w24, hw24⟩ : ∃ w, fi 30 24 = w := ⟨_, rfl⟩
  have hw0 := hts (.fieldLink RX12 262 "PostHouseModel" "lines" "I") (by decide +kernel)
  have hiX12 : ∀ w ∈ u_ws RX12 TX12 71, w ∈ wsX12_readLetter := fun _ h => List.mem_cons_of_mem _ (List.mem_append_right _ h)
  have hw2 := hts (.constantLong RX12 270 7566701) (by decide +kernel)
  have hw3 := hts (.constant RX12 254 999999) (by decide +kernel)
  have hw4 := hts (.fieldLink RX12 229 "PostHouseModel" "number" "I") (by decide +kernel)
  have hw5 := hts (.fieldLink RX12 272 "PostHouseModel" "sum" "I") (by decide +kernel)
  have hw6 := hts (.fieldLink RX12 275 "PostHouseModel" "money" "I") (by decide +kernel)
  have hw7 := hts (.constantLong RX12 278 470020941177) (by decide +kernel)
  have hw8 := hts (.fieldLink RX12 206 "PostHouseModel" "at" "I") (by decide +kernel)
  refine lv_aload_n hx hb dX12_readLetter_0 rfl (lv_at hl 0 rfl) ?_
  refine lv_iconst (v := nI 0) hx hb dX12_readLetter_1 (by decide) ?_
  refine zPutI (D := D) (ci := 12) (ty := .int) (C := RX12) (T := TX12) (N := 71) hx hb hts hiX12 tyX12 tyX12_ok nmX12 hown hH hS (zk_30 hF) rfl 26 (by decide) rfl hw0 (fun _ h9 => h9) rfl (by decide +kernel) rfl rfl dX12_readLetter_2 (fun H locs hH hS => ?_)
  obtain ⟨f101, ef101⟩ : ∃ f9 : zFi, f9 = zu fi 30 26 (nI 0) := ⟨_, rfl⟩
  rw [← ef101] at hH
  have q102 : f101 30 22 = nI L := by rw [ef101, zu_n (fun h9 => absurd h9.2 (by decide))]; exact he
  have q103 : f101 30 23 = nI a := by rw [ef101, zu_n (fun h9 => absurd h9.2 (by decide))]; exact ha
  have q104 : f101 30 24 = w24 := by rw [ef101, zu_n (fun h9 => absurd h9.2 (by decide))]; exact hw24
  have q105 : f101 30 26 = nI 0 := by rw [ef101]; exact zu_s
  refine lv_iconst (v := nI 1) hx hb dX12_readLetter_5 (by decide) ?_
  refine lv_istore_n (lv' := [(1, .int (nI 1)), (0, .ref (τ.1 30))]) hx hb dX12_readLetter_6 rfl hl (by decide) rfl (fun ls hl => ?_)
  refine zLp (σ := Nat × Nat × Nat × (Nat → Int32) × (Nat → Int32) × zFi) (fun x9 k9 H locs ls => (fun (m1 : Nat) (c : Nat) (l0 : Nat) (C : Nat → Int32) (P : Nat → Int32) (f : zFi) => k9 = 2 * (L - c) + m1 ∧ (m1 ≤ 1 ∧ c ≤ L ∧ f 30 23 = nI c ∧ zMl f l0 ∧ (m1 = 1 → l0 < 8) ∧ f 30 22 = nI L ∧ f 30 24 = w24 ∧ (∀ k, k < l0 → f 48 k = C k ∧ f 49 k = P k) ∧ ((m1 = 1 ∧ zLin (fi 47) L 8 (zS (fi 47) L a) 0 (fun _ => 0) (fun _ => 0) = zLin (fi 47) L (8 - l0) (zS (fi 47) L c) l0 C P) ∨ (m1 = 0 ∧ zLin (fi 47) L 8 (zS (fi 47) L a) 0 (fun _ => 0) (fun _ => 0) = .ok (zS (fi 47) L c, l0, C, P))) ∧ ∀ a b, ¬ (a = 48 ∨ a = 49 ∨ (a = 30 ∧ 23 ≤ b ∧ b ≤ 30)) → f a b = fi a b) ∧ zH D A τ f fr ol s H ∧ va_S A s.heap H locs ∧ lv_has ls 2 [(0, .ref (τ.1 30)), (1, .int (nI m1))]) x9.1 x9.2.1 x9.2.2.1 x9.2.2.2.1 x9.2.2.2.2.1 x9.2.2.2.2.2) (1, a, 0, (fun _ => 0), (fun _ => 0), f101) (2 * (L - a) + 1) (show 2 * (L - a) + 1 = 2 * (L - a) + 1 ∧ (1 ≤ 1 ∧ a ≤ L ∧ f101 30 23 = nI a ∧ zMl f101 0 ∧ (1 = 1 → 0 < 8) ∧ f101 30 22 = nI L ∧ f101 30 24 = w24 ∧ (∀ k, k < 0 → f101 48 k = ((fun _ => 0)) k ∧ f101 49 k = ((fun _ => 0)) k) ∧ ((1 = 1 ∧ zLin (fi 47) L 8 (zS (fi 47) L a) 0 (fun _ => 0) (fun _ => 0) = zLin (fi 47) L (8 - 0) (zS (fi 47) L a) 0 ((fun _ => 0)) ((fun _ => 0))) ∨ (1 = 0 ∧ zLin (fi 47) L 8 (zS (fi 47) L a) 0 (fun _ => 0) (fun _ => 0) = .ok (zS (fi 47) L a, 0, ((fun _ => 0)), ((fun _ => 0))))) ∧ ∀ a b, ¬ (a = 48 ∨ a = 49 ∨ (a = 30 ∧ 23 ≤ b ∧ b ≤ 30)) → f101 a b = fi a b) ∧ zH D A τ f101 fr ol s _ ∧ va_S A s.heap _ _ ∧ lv_has _ 2 [(0, .ref (τ.1 30)), (1, .int (nI 1))] from ⟨rfl, ⟨by omega, haL, q103, ⟨by omega, q105, fun j h => absurd h (by omega)⟩, by omega, q102, q104, fun k h => absurd h (by omega), Or.inl ⟨rfl, rfl⟩, fun a b h => by rw [ef101, zu_n (by omega)]⟩, hH, hS, lv_sub hl [1, 0] rfl⟩) (fun k9 ih x9 H locs ls hv9 => ?_)
  obtain ⟨m1, c, l0, C, P, f⟩ := x9
  have hv9 : k9 = 2 * (L - c) + m1 ∧ (m1 ≤ 1 ∧ c ≤ L ∧ f 30 23 = nI c ∧ zMl f l0 ∧ (m1 = 1 → l0 < 8) ∧ f 30 22 = nI L ∧ f 30 24 = w24 ∧ (∀ k, k < l0 → f 48 k = C k ∧ f 49 k = P k) ∧ ((m1 = 1 ∧ zLin (fi 47) L 8 (zS (fi 47) L a) 0 (fun _ => 0) (fun _ => 0) = zLin (fi 47) L (8 - l0) (zS (fi 47) L c) l0 C P) ∨ (m1 = 0 ∧ zLin (fi 47) L 8 (zS (fi 47) L a) 0 (fun _ => 0) (fun _ => 0) = .ok (zS (fi 47) L c, l0, C, P))) ∧ ∀ a b, ¬ (a = 48 ∨ a = 49 ∨ (a = 30 ∧ 23 ≤ b ∧ b ≤ 30)) → f a b = fi a b) ∧ zH D A τ f fr ol s H ∧ va_S A s.heap H locs ∧ lv_has ls 2 [(0, .ref (τ.1 30)), (1, .int (nI m1))] := hv9
  obtain ⟨hkih106, hv9, hH, hS, hl⟩ := hv9
  obtain ⟨h1, h2, p23, hMl, h8, p22, p24, hCP, hTT, hfr⟩ := hv9
  have ih106 := ih
  clear ih
  have p26 := hMl.2.1
  refine lv_iload_n hx hb dX12_readLetter_7 rfl (lv_at hl 1 rfl) ?_
  refine lv_if_eq (tgt := 74) hx hb dX12_readLetter_8 (by decide) (fun c107 => ?_) (fun c107 => ?_)
  · have zc107 := c107
    replace zc107 := zc_eq (nI_toInt (by omega)) ((by decide : (0 : Int32).toInt = 0)) zc107
    have hT0 : zLin (fi 47) L 8 (zS (fi 47) L a) 0 (fun _ => 0) (fun _ => 0) = .ok (zS (fi 47) L c, l0, C, P) := by rcases hTT with h9 | h9; (exfalso; omega); exact h9.2
    refine lv_aload_n hx hb dX12_readLetter_74 rfl (lv_at hl 0 rfl) ?_
    refine lv_ldc2 (v := 7566701) hx hb hown hw2 dX12_readLetter_75 ?_
    refine va_calli (va_runV (As := [.long 7566701]) (rest := []) ⟨hx, hb, hml, hown, hts⟩ (m_passesX l hl0 D A sad τ f fr ol L c hF p22 p23 (by omega) (by omega) 7566701 ([115, 117, 109]) zWs_sum) (cwV 1 hts gX12_readLetter_X12_passes rfl rfl rfl (by decide +kernel) ⟨Nat.le_of_ble_eq_true rfl, Nat.le_of_ble_eq_true rfl⟩) ⟨zQc_bl, zRecv hH (zk_30 hF) rfl, zQc_at hz hS hA hH⟩ rfl rfl hl.1 rfl (lv_room (Nat.le_of_ble_eq_true rfl)) dX12_readLetter_78 ⟨Nat.le_of_ble_eq_true rfl, Nat.le_of_ble_eq_true rfl⟩) hS (fun q _ h => h) (fun q h => h) (fun r108 u9 t9 H1 locs ht9 hvm9 hw hB hz1 hk1 hS => ?_)
    have hH := zMv ht9 hvm9 hB
    clear hB
    generalize u9 = f109 at hw hH
    generalize H1 = H at hH hS ⊢
    obtain ⟨-, ⟨c110, hc111, hc112, q113, hx114⟩, hf115⟩ := hw
    rw [(funext (fun k9 => hfr _ k9 (by omega)) : f 47 = fi 47)] at hx114
    have q116 : f109 30 22 = nI L := by rw [hf115 30 22 (by omega)]; exact p22
    have q117 : f109 30 26 = nI l0 := by rw [hf115 30 26 (by omega)]; exact p26
    have hMl := zMl.ci (fi' := f109) hMl (fun i9 k9 h9 => hf115 i9 k9 (by omega))
    rcases hx114 with ⟨_, hWsum, rfl, rfl, h24sum⟩ | ⟨hWsum, rfl, h24sum⟩
    · skip
      have q118 : f109 30 24 = w24 := h24sum.trans p24
      refine lv_if_eq (tgt := 97) hx hb dX12_readLetter_81 (by decide) (fun c119 => absurd c119 (by decide)) (fun c119 => ?_)
      refine lv_aload_n hx hb dX12_readLetter_84 rfl (lv_at hl 0 rfl) ?_
      refine lv_iconst (v := nI 1) hx hb dX12_readLetter_85 (by decide) ?_
      refine lv_bipush (v := nI 6) hx hb dX12_readLetter_86 (by decide) ?_
      refine lv_iconst (v := nI 0) hx hb dX12_readLetter_88 (by decide) ?_
      refine lv_ldc (v := nI 999999) hx hb hown hw3 dX12_readLetter_89 ?_
      refine va_calli (va_runV (As := [.int (nI 1), .int (nI 6), .int (nI 0), .int (nI 999999)]) (rest := []) ⟨hx, hb, hml, hown, hts⟩ (m_digitsX l hl0 D A sad τ f109 fr ol L c110 hF q116 q113 (by omega) (by omega) 1 6 (by omega) (by omega) (nI 0) (nI 999999)) (cwV 4 hts gX12_readLetter_X12_digits rfl rfl rfl (by decide +kernel) ⟨Nat.le_of_ble_eq_true rfl, Nat.le_of_ble_eq_true rfl⟩) ⟨zQc_bl, zRecv hH (zk_30 hF) rfl, zQc_at hz hS hA hH⟩ rfl rfl hl.1 rfl (lv_room (Nat.le_of_ble_eq_true rfl)) dX12_readLetter_91 ⟨Nat.le_of_ble_eq_true rfl, Nat.le_of_ble_eq_true rfl⟩) hS (fun q _ h => h) (fun q h => h) (fun r120 u9 t9 H1 locs ht9 hvm9 hw hB hz1 hk1 hS => ?_)
      have hH := zMv ht9 hvm9 hB
      clear hB
      generalize u9 = f121 at hw hH
      generalize H1 = H at hH hS ⊢
      obtain ⟨-, ⟨c122, hc123, hc124, q125, hx126⟩, hf127⟩ := hw
      rw [(funext (fun k9 => by rw [hf115 47 k9 (by omega)]; exact hfr _ k9 (by omega)) : f109 47 = fi 47)] at hx126
      have q128 : f121 30 22 = nI L := by rw [hf127 30 22 (by omega)]; exact q116
      have q129 : f121 30 26 = nI l0 := by rw [hf127 30 26 (by omega)]; exact q117
      have hMl := zMl.ci (fi' := f121) hMl (fun i9 k9 h9 => hf127 i9 k9 (by omega))
      rcases hx126 with ⟨vs, _, hns, rfl, rfl, h25s, h24s⟩ | ⟨hns, rfl, h24s⟩
      · skip
        have q130 : f121 30 24 = w24 := h24s.trans q118
        refine lv_if_ne (tgt := 99) hx hb dX12_readLetter_94 (by decide) (fun c131 => ?_) (fun c131 => absurd c131 (by decide))
        refine lv_aload_n hx hb dX12_readLetter_99 rfl (lv_at hl 0 rfl) ?_
        refine lv_aload_n hx hb dX12_readLetter_100 rfl (lv_at hl 0 rfl) ?_
        refine zGetI (D := D) (ci := 12) (C := RX12) (T := TX12) (N := 71) hx hb hts hiX12 hown hH (zk_30 hF) rfl 25 (by decide) rfl hw4 (fun _ h9 => h9) dX12_readLetter_101 h25s ?_
        refine zPutI (D := D) (ci := 12) (ty := .int) (C := RX12) (T := TX12) (N := 71) hx hb hts hiX12 tyX12 tyX12_ok nmX12 hown hH hS (zk_30 hF) rfl 29 (by decide) rfl hw5 (fun _ h9 => h9) rfl (by decide +kernel) rfl rfl dX12_readLetter_104 (fun H locs hH hS => ?_)
        obtain ⟨f132, ef132⟩ : ∃ f9 : zFi, f9 = zu f121 30 29 vs := ⟨_, rfl⟩
        rw [← ef132] at hH
        have q133 : f132 30 22 = nI L := by rw [ef132, zu_n (fun h9 => absurd h9.2 (by decide))]; exact q128
        have q134 : f132 30 26 = nI l0 := by rw [ef132, zu_n (fun h9 => absurd h9.2 (by decide))]; exact q129
        have q135 : f132 30 23 = nI c122 := by rw [ef132, zu_n (fun h9 => absurd h9.2 (by decide))]; exact q125
        have q136 : f132 30 25 = vs := by rw [ef132, zu_n (fun h9 => absurd h9.2 (by decide))]; exact h25s
        have q137 : f132 30 24 = w24 := by rw [ef132, zu_n (fun h9 => absurd h9.2 (by decide))]; exact q130
        have q138 : f132 30 29 = vs := by rw [ef132]; exact zu_s
        have hMl := zMl.ci (fi' := f132) hMl (fun i9 k9 h9 => by rw [ef132]; exact zu_n (by omega))
        refine lv_aload_n hx hb dX12_readLetter_107 rfl (lv_at hl 0 rfl) ?_
        refine lv_aload_n hx hb dX12_readLetter_108 rfl (lv_at hl 0 rfl) ?_
        refine zGetI (D := D) (ci := 12) (C := RX12) (T := TX12) (N := 71) hx hb hts hiX12 hown hH (zk_30 hF) rfl 25 (by decide) rfl hw4 (fun _ h9 => h9) dX12_readLetter_109 q136 ?_
        refine zPutI (D := D) (ci := 12) (ty := .int) (C := RX12) (T := TX12) (N := 71) hx hb hts hiX12 tyX12 tyX12_ok nmX12 hown hH hS (zk_30 hF) rfl 30 (by decide) rfl hw6 (fun _ h9 => h9) rfl (by decide +kernel) rfl rfl dX12_readLetter_112 (fun H locs hH hS => ?_)
        obtain ⟨f139, ef139⟩ : ∃ f9 : zFi, f9 = zu f132 30 30 vs := ⟨_, rfl⟩
        rw [← ef139] at hH
        have q140 : f139 30 22 = nI L := by rw [ef139, zu_n (fun h9 => absurd h9.2 (by decide))]; exact q133
        have q141 : f139 30 26 = nI l0 := by rw [ef139, zu_n (fun h9 => absurd h9.2 (by decide))]; exact q134
        have q142 : f139 30 23 = nI c122 := by rw [ef139, zu_n (fun h9 => absurd h9.2 (by decide))]; exact q135
        have q143 : f139 30 25 = vs := by rw [ef139, zu_n (fun h9 => absurd h9.2 (by decide))]; exact q136
        have q144 : f139 30 24 = w24 := by rw [ef139, zu_n (fun h9 => absurd h9.2 (by decide))]; exact q137
        have q145 : f139 30 29 = vs := by rw [ef139, zu_n (fun h9 => absurd h9.2 (by decide))]; exact q138
        have q146 : f139 30 30 = vs := by rw [ef139]; exact zu_s
        have hMl := zMl.ci (fi' := f139) hMl (fun i9 k9 h9 => by rw [ef139]; exact zu_n (by omega))
        refine lv_aload_n hx hb dX12_readLetter_115 rfl (lv_at hl 0 rfl) ?_
        refine va_calli (va_runV (As := []) (rest := []) ⟨hx, hb, hml, hown, hts⟩ (m_signX l hl0 D A sad τ f139 fr ol L c122 hF q140 q142 (by omega) (by omega)) (cwV 0 hts gX12_readLetter_X12_sign rfl rfl rfl (by decide +kernel) ⟨Nat.le_of_ble_eq_true rfl, Nat.le_of_ble_eq_true rfl⟩) ⟨zQc_bl, zRecv hH (zk_30 hF) rfl, zQc_at hz hS hA hH⟩ rfl rfl hl.1 rfl (lv_room (Nat.le_of_ble_eq_true rfl)) dX12_readLetter_116 ⟨Nat.le_of_ble_eq_true rfl, Nat.le_of_ble_eq_true rfl⟩) hS (fun q _ h => h) (fun q h => h) (fun r147 u9 t9 H1 locs ht9 hvm9 hw hB hz1 hk1 hS => ?_)
        have hH := zMv ht9 hvm9 hB
        clear hB
        generalize u9 = f148 at hw hH
        generalize H1 = H at hH hS ⊢
        obtain ⟨-, ⟨c149, hc150, hc151, q152, hx153⟩, hf154⟩ := hw
        rw [(funext (fun k9 => by rw [ef139, zu_n (by omega), ef132, zu_n (by omega), hf127 47 k9 (by omega), hf115 47 k9 (by omega)]; exact hfr _ k9 (by omega)) : f139 47 = fi 47)] at hx153
        have q155 : f148 30 22 = nI L := by rw [hf154 30 22 (by omega)]; exact q140
        have q156 : f148 30 26 = nI l0 := by rw [hf154 30 26 (by omega)]; exact q141
        have q157 : f148 30 25 = vs := by rw [hf154 30 25 (by omega)]; exact q143
        have q158 : f148 30 24 = w24 := by rw [hf154 30 24 (by omega)]; exact q144
        have q159 : f148 30 29 = vs := by rw [hf154 30 29 (by omega)]; exact q145
        have q160 : f148 30 30 = vs := by rw [hf154 30 30 (by omega)]; exact q146
        have hMl := zMl.ci (fi' := f148) hMl (fun i9 k9 h9 => hf154 i9 k9 (by omega))
        obtain ⟨hcz5, hsg5⟩ := hx153
        refine lv_iconst (v := (-1)) hx hb dX12_readLetter_119 (by decide) ?_
        refine lv_icmp_ne (tgt := 125) hx hb dX12_readLetter_120 (by decide) (fun c161 => ?_) (fun c161 => ?_)
        · have zc161 := c161
          replace zc161 := zc_neq (rfl) ((by decide : ((-1) : Int32).toInt = (-1))) zc161
          have hend5 : c149 < L := by rcases hsg5 with h9 | h9; exact h9.1; exact absurd (by rw [h9.2]; decide) zc161
          refine lv_aload_n hx hb dX12_readLetter_125 rfl (lv_at hl 0 rfl) ?_
          refine lv_ldc2 (v := 470020941177) hx hb hown hw7 dX12_readLetter_126 ?_
          refine va_calli (va_runV (As := [.long 470020941177]) (rest := []) ⟨hx, hb, hml, hown, hts⟩ (m_passesX l hl0 D A sad τ f148 fr ol L c149 hF q155 q152 (by omega) (by omega) 470020941177 ([109, 111, 110, 101, 121]) zWs_money) (cwV 1 hts gX12_readLetter_X12_passes rfl rfl rfl (by decide +kernel) ⟨Nat.le_of_ble_eq_true rfl, Nat.le_of_ble_eq_true rfl⟩) ⟨zQc_bl, zRecv hH (zk_30 hF) rfl, zQc_at hz hS hA hH⟩ rfl rfl hl.1 rfl (lv_room (Nat.le_of_ble_eq_true rfl)) dX12_readLetter_129 ⟨Nat.le_of_ble_eq_true rfl, Nat.le_of_ble_eq_true rfl⟩) hS (fun q _ h => h) (fun q h => h) (fun r162 u9 t9 H1 locs ht9 hvm9 hw hB hz1 hk1 hS => ?_)
          have hH := zMv ht9 hvm9 hB
          clear hB
          generalize u9 = f163 at hw hH
          generalize H1 = H at hH hS ⊢
          obtain ⟨-, ⟨c164, hc165, hc166, q167, hx168⟩, hf169⟩ := hw
          rw [(funext (fun k9 => by rw [hf154 47 k9 (by omega), ef139, zu_n (by omega), ef132, zu_n (by omega), hf127 47 k9 (by omega), hf115 47 k9 (by omega)]; exact hfr _ k9 (by omega)) : f148 47 = fi 47)] at hx168
          have q170 : f163 30 22 = nI L := by rw [hf169 30 22 (by omega)]; exact q155
          have q171 : f163 30 26 = nI l0 := by rw [hf169 30 26 (by omega)]; exact q156
          have q172 : f163 30 25 = vs := by rw [hf169 30 25 (by omega)]; exact q157
          have q173 : f163 30 29 = vs := by rw [hf169 30 29 (by omega)]; exact q159
          have q174 : f163 30 30 = vs := by rw [hf169 30 30 (by omega)]; exact q160
          have hMl := zMl.ci (fi' := f163) hMl (fun i9 k9 h9 => hf169 i9 k9 (by omega))
          rcases hx168 with ⟨_, hWmoney, rfl, rfl, h24money⟩ | ⟨hWmoney, rfl, h24money⟩
          · skip
            have q175 : f163 30 24 = w24 := h24money.trans q158
            refine lv_if_eq (tgt := 148) hx hb dX12_readLetter_132 (by decide) (fun c176 => absurd c176 (by decide)) (fun c176 => ?_)
            refine lv_aload_n hx hb dX12_readLetter_135 rfl (lv_at hl 0 rfl) ?_
            refine lv_iconst (v := nI 1) hx hb dX12_readLetter_136 (by decide) ?_
            refine lv_bipush (v := nI 6) hx hb dX12_readLetter_137 (by decide) ?_
            refine lv_iconst (v := nI 0) hx hb dX12_readLetter_139 (by decide) ?_
            refine lv_ldc (v := nI 999999) hx hb hown hw3 dX12_readLetter_140 ?_
            refine va_calli (va_runV (As := [.int (nI 1), .int (nI 6), .int (nI 0), .int (nI 999999)]) (rest := []) ⟨hx, hb, hml, hown, hts⟩ (m_digitsX l hl0 D A sad τ f163 fr ol L c164 hF q170 q167 (by omega) (by omega) 1 6 (by omega) (by omega) (nI 0) (nI 999999)) (cwV 4 hts gX12_readLetter_X12_digits rfl rfl rfl (by decide +kernel) ⟨Nat.le_of_ble_eq_true rfl, Nat.le_of_ble_eq_true rfl⟩) ⟨zQc_bl, zRecv hH (zk_30 hF) rfl, zQc_at hz hS hA hH⟩ rfl rfl hl.1 rfl (lv_room (Nat.le_of_ble_eq_true rfl)) dX12_readLetter_142 ⟨Nat.le_of_ble_eq_true rfl, Nat.le_of_ble_eq_true rfl⟩) hS (fun q _ h => h) (fun q h => h) (fun r177 u9 t9 H1 locs ht9 hvm9 hw hB hz1 hk1 hS => ?_)
            have hH := zMv ht9 hvm9 hB
            clear hB
            generalize u9 = f178 at hw hH
            generalize H1 = H at hH hS ⊢
            obtain ⟨-, ⟨c179, hc180, hc181, q182, hx183⟩, hf184⟩ := hw
            rw [(funext (fun k9 => by rw [hf169 47 k9 (by omega), hf154 47 k9 (by omega), ef139, zu_n (by omega), ef132, zu_n (by omega), hf127 47 k9 (by omega), hf115 47 k9 (by omega)]; exact hfr _ k9 (by omega)) : f163 47 = fi 47)] at hx183
            have q185 : f178 30 22 = nI L := by rw [hf184 30 22 (by omega)]; exact q170
            have q186 : f178 30 26 = nI l0 := by rw [hf184 30 26 (by omega)]; exact q171
            have q187 : f178 30 29 = vs := by rw [hf184 30 29 (by omega)]; exact q173
            have q188 : f178 30 30 = vs := by rw [hf184 30 30 (by omega)]; exact q174
            have hMl := zMl.ci (fi' := f178) hMl (fun i9 k9 h9 => hf184 i9 k9 (by omega))
            rcases hx183 with ⟨vm, _, hnm, rfl, rfl, h25m, h24m⟩ | ⟨hnm, rfl, h24m⟩
            · skip
              have q189 : f178 30 24 = w24 := h24m.trans q175
              refine lv_if_ne (tgt := 150) hx hb dX12_readLetter_145 (by decide) (fun c190 => ?_) (fun c190 => absurd c190 (by decide))
              refine lv_aload_n hx hb dX12_readLetter_150 rfl (lv_at hl 0 rfl) ?_
              refine lv_aload_n hx hb dX12_readLetter_151 rfl (lv_at hl 0 rfl) ?_
              refine zGetI (D := D) (ci := 12) (C := RX12) (T := TX12) (N := 71) hx hb hts hiX12 hown hH (zk_30 hF) rfl 25 (by decide) rfl hw4 (fun _ h9 => h9) dX12_readLetter_152 h25m ?_
              refine zPutI (D := D) (ci := 12) (ty := .int) (C := RX12) (T := TX12) (N := 71) hx hb hts hiX12 tyX12 tyX12_ok nmX12 hown hH hS (zk_30 hF) rfl 30 (by decide) rfl hw6 (fun _ h9 => h9) rfl (by decide +kernel) rfl rfl dX12_readLetter_155 (fun H locs hH hS => ?_)
              obtain ⟨f191, ef191⟩ : ∃ f9 : zFi, f9 = zu f178 30 30 vm := ⟨_, rfl⟩
              rw [← ef191] at hH
              have q192 : f191 30 22 = nI L := by rw [ef191, zu_n (fun h9 => absurd h9.2 (by decide))]; exact q185
              have q193 : f191 30 26 = nI l0 := by rw [ef191, zu_n (fun h9 => absurd h9.2 (by decide))]; exact q186
              have q194 : f191 30 29 = vs := by rw [ef191, zu_n (fun h9 => absurd h9.2 (by decide))]; exact q187
              have q195 : f191 30 23 = nI c179 := by rw [ef191, zu_n (fun h9 => absurd h9.2 (by decide))]; exact q182
              have q196 : f191 30 25 = vm := by rw [ef191, zu_n (fun h9 => absurd h9.2 (by decide))]; exact h25m
              have q197 : f191 30 24 = w24 := by rw [ef191, zu_n (fun h9 => absurd h9.2 (by decide))]; exact q189
              have q198 : f191 30 30 = vm := by rw [ef191]; exact zu_s
              have hMl := zMl.ci (fi' := f191) hMl (fun i9 k9 h9 => by rw [ef191]; exact zu_n (by omega))
              refine lv_aload_n hx hb dX12_readLetter_158 rfl (lv_at hl 0 rfl) ?_
              refine va_calli (va_runV (As := []) (rest := []) ⟨hx, hb, hml, hown, hts⟩ (m_signX l hl0 D A sad τ f191 fr ol L c179 hF q192 q195 (by omega) (by omega)) (cwV 0 hts gX12_readLetter_X12_sign rfl rfl rfl (by decide +kernel) ⟨Nat.le_of_ble_eq_true rfl, Nat.le_of_ble_eq_true rfl⟩) ⟨zQc_bl, zRecv hH (zk_30 hF) rfl, zQc_at hz hS hA hH⟩ rfl rfl hl.1 rfl (lv_room (Nat.le_of_ble_eq_true rfl)) dX12_readLetter_159 ⟨Nat.le_of_ble_eq_true rfl, Nat.le_of_ble_eq_true rfl⟩) hS (fun q _ h => h) (fun q h => h) (fun r199 u9 t9 H1 locs ht9 hvm9 hw hB hz1 hk1 hS => ?_)
              have hH := zMv ht9 hvm9 hB
              clear hB
              generalize u9 = f200 at hw hH
              generalize H1 = H at hH hS ⊢
              obtain ⟨-, ⟨c201, hc202, hc203, q204, hx205⟩, hf206⟩ := hw
              rw [(funext (fun k9 => by rw [ef191, zu_n (by omega), hf184 47 k9 (by omega), hf169 47 k9 (by omega), hf154 47 k9 (by omega), ef139, zu_n (by omega), ef132, zu_n (by omega), hf127 47 k9 (by omega), hf115 47 k9 (by omega)]; exact hfr _ k9 (by omega)) : f191 47 = fi 47)] at hx205
              have q207 : f200 30 22 = nI L := by rw [hf206 30 22 (by omega)]; exact q192
              have q208 : f200 30 26 = nI l0 := by rw [hf206 30 26 (by omega)]; exact q193
              have q209 : f200 30 29 = vs := by rw [hf206 30 29 (by omega)]; exact q194
              have q210 : f200 30 25 = vm := by rw [hf206 30 25 (by omega)]; exact q196
              have q211 : f200 30 24 = w24 := by rw [hf206 30 24 (by omega)]; exact q197
              have q212 : f200 30 30 = vm := by rw [hf206 30 30 (by omega)]; exact q198
              have hMl := zMl.ci (fi' := f200) hMl (fun i9 k9 h9 => hf206 i9 k9 (by omega))
              obtain ⟨hcz6, hsg6⟩ := hx205
              refine lv_iconst (v := (-1)) hx hb dX12_readLetter_162 (by decide) ?_
              refine lv_icmp_eq (tgt := 177) hx hb dX12_readLetter_163 (by decide) (fun c213 => ?_) (fun c213 => ?_)
              · have zc213 := c213
                replace zc213 := zc_eq (rfl) ((by decide : ((-1) : Int32).toInt = (-1))) zc213
                have hend6 : c201 = L := by rcases hsg6 with h9 | h9; (exfalso; have h7 := hB0 c201 h9.1; rw [← h9.2] at h7; omega); exact h9.1
                refine lv_iconst (v := nI 1) hx hb dX12_readLetter_177 (by decide) ?_
                refine lv_goto (tgt := 182) hx hb dX12_readLetter_178 (by decide) ?_
                have hid : zS (fi 47) L c149 = zS (fi 47) L c122 := by rw [hcz5]; exact zS_idem (by omega)
                have hWm := hWmoney
                rw [hid] at hWm
                refine W.widen (k := 0) (n := 0) (by decide) (by decide) ?_
                exact W.zret (v := nI 1) hx hb hr (by decide) (fun t9 ht9 hW9 => ⟨⟨nI 1, f200, rfl, ⟨Or.inl ⟨(l0, C, P, vs, vm), by simp only [zLet, zLe0, hT0, hWsum, hns, hWm, hnm, ← hcz6, hend6, Nat.lt_irrefl, if_false], rfl, q211.trans hw24.symm, hMl, fun k hk => ⟨by rw [hf206 48 k (by omega), ef191, zu_n (by omega), hf184 48 k (by omega), hf169 48 k (by omega), hf154 48 k (by omega), ef139, zu_n (by omega), ef132, zu_n (by omega), hf127 48 k (by omega), hf115 48 k (by omega)]; exact (hCP k hk).1, by rw [hf206 49 k (by omega), ef191, zu_n (by omega), hf184 49 k (by omega), hf169 49 k (by omega), hf154 49 k (by omega), ef139, zu_n (by omega), ef132, zu_n (by omega), hf127 49 k (by omega), hf115 49 k (by omega)]; exact (hCP k hk).2⟩, q209, q212⟩, fun a b h => by rw [hf206 a b (by omega), ef191, zu_n (by omega), hf184 a b (by omega), hf169 a b (by omega), hf154 a b (by omega), ef139, zu_n (by omega), ef132, zu_n (by omega), hf127 a b (by omega), hf115 a b (by omega)]; exact hfr a b h⟩, zEnd1 hH ht9 hW9⟩, hS.F ht9⟩) hS.2.2 dX12_readLetter_182
              · have zc213 := c213
                replace zc213 := zc_neq (rfl) ((by decide : ((-1) : Int32).toInt = (-1))) zc213
                have hend6 : c201 < L := by rcases hsg6 with h9 | h9; exact h9.1; exact absurd (by rw [h9.2]; decide) zc213
                refine lv_aload_n hx hb dX12_readLetter_166 rfl (lv_at hl 0 rfl) ?_
                refine lv_aload_n hx hb dX12_readLetter_167 rfl (lv_at hl 0 rfl) ?_
                refine zGetI (D := D) (ci := 12) (C := RX12) (T := TX12) (N := 71) hx hb hts hiX12 hown hH (zk_30 hF) rfl 23 (by decide) rfl hw8 (fun _ h9 => h9) dX12_readLetter_168 q204 ?_
                refine va_calli (va_runV (As := [.int (nI c201)]) (rest := []) ⟨hx, hb, hml, hown, hts⟩ (m_wrongX l hl0 D A sad τ f200 fr ol (nI c201) hF) (cwV 1 hts gX12_readLetter_X12_wrong rfl rfl rfl (by decide +kernel) ⟨Nat.le_of_ble_eq_true rfl, Nat.le_of_ble_eq_true rfl⟩) ⟨zQc_bl, zRecv hH (zk_30 hF) rfl, zQc_at hz hS hA hH⟩ rfl rfl hl.1 rfl (lv_room (Nat.le_of_ble_eq_true rfl)) dX12_readLetter_171 ⟨Nat.le_of_ble_eq_true rfl, Nat.le_of_ble_eq_true rfl⟩) hS (fun q _ h => h) (fun q h => h) (fun r214 u9 t9 H1 locs ht9 hvm9 hw hB hz1 hk1 hS => ?_)
                have hH := zMv ht9 hvm9 hB
                clear hB
                generalize u9 = f215 at hw hH
                generalize H1 = H at hH hS ⊢
                obtain ⟨rfl, ef215⟩ := hw
                have q216 : f215 30 22 = nI L := by rw [ef215, zu_n (fun h9 => absurd h9.2 (by decide))]; exact q207
                have q217 : f215 30 26 = nI l0 := by rw [ef215, zu_n (fun h9 => absurd h9.2 (by decide))]; exact q208
                have q218 : f215 30 29 = vs := by rw [ef215, zu_n (fun h9 => absurd h9.2 (by decide))]; exact q209
                have q219 : f215 30 25 = vm := by rw [ef215, zu_n (fun h9 => absurd h9.2 (by decide))]; exact q210
                have q220 : f215 30 30 = vm := by rw [ef215, zu_n (fun h9 => absurd h9.2 (by decide))]; exact q212
                have q221 : f215 30 23 = nI c201 := by rw [ef215, zu_n (fun h9 => absurd h9.2 (by decide))]; exact q204
                have q222 : f215 30 24 = nI c201 := by rw [ef215]; exact zu_s
                have hMl := zMl.ci (fi' := f215) hMl (fun i9 k9 h9 => by rw [ef215]; exact zu_n (by omega))
                refine lv_if_eq (tgt := 181) hx hb dX12_readLetter_174 (by decide) (fun c223 => ?_) (fun c223 => absurd (by decide) c223)
                refine lv_iconst (v := nI 0) hx hb dX12_readLetter_181 (by decide) ?_
                have hid : zS (fi 47) L c149 = zS (fi 47) L c122 := by rw [hcz5]; exact zS_idem (by omega)
                have hWm := hWmoney
                rw [hid] at hWm
                refine W.widen (k := 0) (n := 0) (by decide) (by decide) ?_
                exact W.zret (v := nI 0) hx hb hr (by decide) (fun t9 ht9 hW9 => ⟨⟨nI 0, f215, rfl, ⟨Or.inr ⟨c201, by omega, by rw [hcz6]; simp only [zLet, zLe0, hT0, hWsum, hns, hWm, hnm]; rw [if_pos (by rw [← hcz6]; exact hend6)], rfl, by rw [ef215, zu_s]⟩, fun a b h => by rw [ef215, zu_n (by omega), hf206 a b (by omega), ef191, zu_n (by omega), hf184 a b (by omega), hf169 a b (by omega), hf154 a b (by omega), ef139, zu_n (by omega), ef132, zu_n (by omega), hf127 a b (by omega), hf115 a b (by omega)]; exact hfr a b h⟩, zEnd1 hH ht9 hW9⟩, hS.F ht9⟩) hS.2.2 dX12_readLetter_182
            · skip
              refine lv_if_ne (tgt := 150) hx hb dX12_readLetter_145 (by decide) (fun c224 => absurd (by decide) c224) (fun c224 => ?_)
              refine lv_iconst (v := nI 0) hx hb dX12_readLetter_148 (by decide) ?_
              have hid : zS (fi 47) L c149 = zS (fi 47) L c122 := by rw [hcz5]; exact zS_idem (by omega)
              have hWm := hWmoney
              rw [hid] at hWm
              refine W.widen (k := 0) (n := 0) (by decide) (by decide) ?_
              exact W.zret (v := nI 0) hx hb hr (by decide) (fun t9 ht9 hW9 => ⟨⟨nI 0, f178, rfl, ⟨Or.inr ⟨zS (fi 47) L c164, by have h9 := zS_le (b := fi 47) (n := L) (a := c164) (by omega); omega, by simp only [zLet, zLe0, hT0, hWsum, hns, hWm, hnm], rfl, h24m⟩, fun a b h => by rw [hf184 a b (by omega), hf169 a b (by omega), hf154 a b (by omega), ef139, zu_n (by omega), ef132, zu_n (by omega), hf127 a b (by omega), hf115 a b (by omega)]; exact hfr a b h⟩, zEnd1 hH ht9 hW9⟩, hS.F ht9⟩) hS.2.2 dX12_readLetter_149
          · skip
            refine lv_if_eq (tgt := 148) hx hb dX12_readLetter_132 (by decide) (fun c225 => ?_) (fun c225 => absurd (by decide) c225)
            refine lv_iconst (v := nI 0) hx hb dX12_readLetter_148 (by decide) ?_
            have hid : zS (fi 47) L c149 = zS (fi 47) L c122 := by rw [hcz5]; exact zS_idem (by omega)
            have hWm := hWmoney
            rw [hid] at hWm
            refine W.widen (k := 0) (n := 0) (by decide) (by decide) ?_
            exact W.zret (v := nI 0) hx hb hr (by decide) (fun t9 ht9 hW9 => ⟨⟨nI 0, f163, rfl, ⟨Or.inr ⟨c149, by omega, by rw [hcz5]; simp only [zLet, zLe0, hT0, hWsum, hns, hWm]; rw [if_pos (by rw [← hcz5]; exact hend5)], rfl, by rw [h24money, hid, hcz5]⟩, fun a b h => by rw [hf169 a b (by omega), hf154 a b (by omega), ef139, zu_n (by omega), ef132, zu_n (by omega), hf127 a b (by omega), hf115 a b (by omega)]; exact hfr a b h⟩, zEnd1 hH ht9 hW9⟩, hS.F ht9⟩) hS.2.2 dX12_readLetter_149
        · have zc161 := c161
          replace zc161 := zc_eq (rfl) ((by decide : ((-1) : Int32).toInt = (-1))) zc161
          have hend5 : c149 = L := by rcases hsg5 with h9 | h9; (exfalso; have h7 := hB0 c149 h9.1; rw [← h9.2] at h7; omega); exact h9.1
          refine lv_iconst (v := nI 1) hx hb dX12_readLetter_123 (by decide) ?_
          refine W.widen (k := 0) (n := 0) (by decide) (by decide) ?_
          exact W.zret (v := nI 1) hx hb hr (by decide) (fun t9 ht9 hW9 => ⟨⟨nI 1, f148, rfl, ⟨Or.inl ⟨(l0, C, P, vs, vs), by simp only [zLet, zLe0, hT0, hWsum, hns, ← hcz5, hend5, zWrd_not (b := fi 47) (n := L) (a := L) (ws := [109, 111, 110, 101, 121]) (by omega) (by decide) (fun h9 => absurd h9 (by omega)), Nat.lt_irrefl, if_false], rfl, q158.trans hw24.symm, hMl, fun k hk => ⟨by rw [hf154 48 k (by omega), ef139, zu_n (by omega), ef132, zu_n (by omega), hf127 48 k (by omega), hf115 48 k (by omega)]; exact (hCP k hk).1, by rw [hf154 49 k (by omega), ef139, zu_n (by omega), ef132, zu_n (by omega), hf127 49 k (by omega), hf115 49 k (by omega)]; exact (hCP k hk).2⟩, q159, q160⟩, fun a b h => by rw [hf154 a b (by omega), ef139, zu_n (by omega), ef132, zu_n (by omega), hf127 a b (by omega), hf115 a b (by omega)]; exact hfr a b h⟩, zEnd1 hH ht9 hW9⟩, hS.F ht9⟩) hS.2.2 dX12_readLetter_124
      · skip
        refine lv_if_ne (tgt := 99) hx hb dX12_readLetter_94 (by decide) (fun c226 => absurd (by decide) c226) (fun c226 => ?_)
        refine lv_iconst (v := nI 0) hx hb dX12_readLetter_97 (by decide) ?_
        refine W.widen (k := 0) (n := 0) (by decide) (by decide) ?_
        exact W.zret (v := nI 0) hx hb hr (by decide) (fun t9 ht9 hW9 => ⟨⟨nI 0, f121, rfl, ⟨Or.inr ⟨zS (fi 47) L c110, by have h9 := zS_le (b := fi 47) (n := L) (a := c110) (by omega); omega, by simp only [zLet, zLe0, hT0, hWsum, hns], rfl, h24s⟩, fun a b h => by rw [hf127 a b (by omega), hf115 a b (by omega)]; exact hfr a b h⟩, zEnd1 hH ht9 hW9⟩, hS.F ht9⟩) hS.2.2 dX12_readLetter_98
    · skip
      refine lv_if_eq (tgt := 97) hx hb dX12_readLetter_81 (by decide) (fun c227 => ?_) (fun c227 => absurd (by decide) c227)
      refine lv_iconst (v := nI 0) hx hb dX12_readLetter_97 (by decide) ?_
      refine W.widen (k := 0) (n := 0) (by decide) (by decide) ?_
      exact W.zret (v := nI 0) hx hb hr (by decide) (fun t9 ht9 hW9 => ⟨⟨nI 0, f109, rfl, ⟨Or.inr ⟨zS (fi 47) L c, by have h9 := zS_le (b := fi 47) (n := L) (a := c) (by omega); omega, by simp only [zLet, zLe0, hT0, hWsum], rfl, h24sum⟩, fun a b h => by rw [hf115 a b (by omega)]; exact hfr a b h⟩, zEnd1 hH ht9 hW9⟩, hS.F ht9⟩) hS.2.2 dX12_readLetter_98
  · have zc107 := c107
    replace zc107 := zc_neq (nI_toInt (by omega)) ((by decide : (0 : Int32).toInt = 0)) zc107
    refine lv_aload_n hx hb dX12_readLetter_11 rfl (lv_at hl 0 rfl) ?_
    have hT1 : zLin (fi 47) L 8 (zS (fi 47) L a) 0 (fun _ => 0) (fun _ => 0) = zLin (fi 47) L (8 - l0) (zS (fi 47) L c) l0 C P := by rcases hTT with h9 | h9; exact h9.2; exfalso; omega
    have hl7 := h8 (by omega)
    refine va_calli (va_runV (As := []) (rest := []) ⟨hx, hb, hml, hown, hts⟩ (m_readLineX l hl0 D A sad τ f fr ol L c hF p22 p23 (by omega) (by omega) l0 hMl hl7) (cwV 0 hts gX12_readLetter_X12_readLine rfl rfl rfl (by decide +kernel) ⟨Nat.le_of_ble_eq_true rfl, Nat.le_of_ble_eq_true rfl⟩) ⟨zQc_bl, zRecv hH (zk_30 hF) rfl, zQc_at hz hS hA hH⟩ rfl rfl hl.1 rfl (lv_room (Nat.le_of_ble_eq_true rfl)) dX12_readLetter_12 ⟨Nat.le_of_ble_eq_true rfl, Nat.le_of_ble_eq_true rfl⟩) hS (fun q _ h => h) (fun q h => h) (fun r228 u9 t9 H1 locs ht9 hvm9 hw hB hz1 hk1 hS => ?_)
    have hH := zMv ht9 hvm9 hB
    clear hB
    generalize u9 = f229 at hw hH
    generalize H1 = H at hH hS ⊢
    obtain ⟨-, ⟨c230, hc231, hc232, q233, hx234⟩, hf235⟩ := hw
    rw [(funext (fun k9 => hfr _ k9 (by omega)) : f 47 = fi 47)] at hx234
    have q236 : f229 30 22 = nI L := by rw [hf235 30 22 (by omega)]; exact p22
    rcases hx234 with ⟨xx, hln, hze, rfl, h24L, h48, h49, hjj, hmz⟩ | ⟨px, hpx, hln, rfl, h24L⟩
    · skip
      have q237 : f229 30 24 = w24 := h24L.trans p24
      have hMl := hmz
      have hmlq := hMl.2.1
      have hCP1 := zup_cp hCP h48 h49 hjj
      refine lv_if_ne (tgt := 20) hx hb dX12_readLetter_15 (by decide) (fun c238 => ?_) (fun c238 => absurd c238 (by decide))
      refine lv_aload_n hx hb dX12_readLetter_20 rfl (lv_at hl 0 rfl) ?_
      refine va_calli (va_runV (As := []) (rest := []) ⟨hx, hb, hml, hown, hts⟩ (m_signX l hl0 D A sad τ f229 fr ol L c230 hF q236 q233 (by omega) (by omega)) (cwV 0 hts gX12_readLetter_X12_sign rfl rfl rfl (by decide +kernel) ⟨Nat.le_of_ble_eq_true rfl, Nat.le_of_ble_eq_true rfl⟩) ⟨zQc_bl, zRecv hH (zk_30 hF) rfl, zQc_at hz hS hA hH⟩ rfl rfl hl.1 rfl (lv_room (Nat.le_of_ble_eq_true rfl)) dX12_readLetter_21 ⟨Nat.le_of_ble_eq_true rfl, Nat.le_of_ble_eq_true rfl⟩) hS (fun q _ h => h) (fun q h => h) (fun r239 u9 t9 H1 locs ht9 hvm9 hw hB hz1 hk1 hS => ?_)
      have hH := zMv ht9 hvm9 hB
      clear hB
      generalize u9 = f240 at hw hH
      generalize H1 = H at hH hS ⊢
      obtain ⟨-, ⟨c241, hc242, hc243, q244, hx245⟩, hf246⟩ := hw
      rw [(funext (fun k9 => by rw [hf235 47 k9 (by omega)]; exact hfr _ k9 (by omega)) : f229 47 = fi 47)] at hx245
      have q247 : f240 30 22 = nI L := by rw [hf246 30 22 (by omega)]; exact q236
      have q248 : f240 30 24 = w24 := by rw [hf246 30 24 (by omega)]; exact q237
      have q249 : f240 30 26 = nI (l0 + 1) := by rw [hf246 30 26 (by omega)]; exact hmlq
      have hMl := zMl.ci (fi' := f240) hMl (fun i9 k9 h9 => hf246 i9 k9 (by omega))
      obtain ⟨hcz, hsg⟩ := hx245
      refine lv_bipush (v := nI 44) hx hb dX12_readLetter_24 (by decide) ?_
      refine lv_icmp_ne (tgt := 33) hx hb dX12_readLetter_26 (by decide) (fun c250 => ?_) (fun c250 => ?_)
      · have zc250 := c250
        replace zc250 := zc_neq (rfl) (nI_toInt (by omega)) zc250
        have hb44 : c241 < L → ¬ (fi 47 c241).toInt = 44 := fun h8 => by rcases hsg with h9 | h9; (rw [← h9.2]; omega); omega
        refine lv_iconst (v := nI 0) hx hb dX12_readLetter_33 (by decide) ?_
        refine lv_istore_n (lv' := [(1, .int (nI 0)), (0, .ref (τ.1 30))]) hx hb dX12_readLetter_34 rfl hl (by decide) rfl (fun ls hl => ?_)
        refine lv_iload_n hx hb dX12_readLetter_35 rfl (lv_at hl 0 rfl) ?_
        refine lv_if_eq (tgt := 57) hx hb dX12_readLetter_36 (by decide) (fun c251 => ?_) (fun c251 => absurd (by decide) c251)
        refine lv_iload_n hx hb dX12_readLetter_57 rfl (lv_at hl 0 rfl) ?_
        refine lv_if_eq (tgt := 7) hx hb dX12_readLetter_58 (by decide) (fun c252 => ?_) (fun c252 => absurd (by decide) c252)
        exact ih106 (2 * (L - c241) + 0) (by omega) (0, c241, l0 + 1, (zup C l0 xx.2.1), (zup P l0 xx.2.2), f240) _ _ _ (show 2 * (L - c241) + 0 = 2 * (L - c241) + 0 ∧ (0 ≤ 1 ∧ c241 ≤ L ∧ f240 30 23 = nI c241 ∧ zMl f240 (l0 + 1) ∧ (0 = 1 → (l0 + 1) < 8) ∧ f240 30 22 = nI L ∧ f240 30 24 = w24 ∧ (∀ k, k < (l0 + 1) → f240 48 k = ((zup C l0 xx.2.1)) k ∧ f240 49 k = ((zup P l0 xx.2.2)) k) ∧ ((0 = 1 ∧ zLin (fi 47) L 8 (zS (fi 47) L a) 0 (fun _ => 0) (fun _ => 0) = zLin (fi 47) L (8 - (l0 + 1)) (zS (fi 47) L c241) (l0 + 1) ((zup C l0 xx.2.1)) ((zup P l0 xx.2.2))) ∨ (0 = 0 ∧ zLin (fi 47) L 8 (zS (fi 47) L a) 0 (fun _ => 0) (fun _ => 0) = .ok (zS (fi 47) L c241, (l0 + 1), ((zup C l0 xx.2.1)), ((zup P l0 xx.2.2))))) ∧ ∀ a b, ¬ (a = 48 ∨ a = 49 ∨ (a = 30 ∧ 23 ≤ b ∧ b ≤ 30)) → f240 a b = fi a b) ∧ zH D A τ f240 fr ol s _ ∧ va_S A s.heap _ _ ∧ lv_has _ 2 [(0, .ref (τ.1 30)), (1, .int (nI 0))] from ⟨rfl, ⟨by omega, by omega, q244, hMl, by omega, q247, q248, fun k hk => ⟨by rw [hf246 48 k (by omega)]; exact (hCP1 k hk).1, by rw [hf246 49 k (by omega)]; exact (hCP1 k hk).2⟩, Or.inr ⟨rfl, by rw [show zS (fi 47) L c241 = c241 from by rw [hcz]; exact zS_idem (by omega)]; exact zLin_n hl7 hT1 hln (hcz.trans hze) (Or.inr hb44)⟩, fun a b h => by rw [hf246 a b (by omega), hf235 a b (by omega)]; exact hfr a b h⟩, hH, hS, lv_sub hl [1, 0] rfl⟩)
      · have zc250 := c250
        replace zc250 := zc_eq (rfl) (nI_toInt (by omega)) zc250
        have hcl : c241 < L := by rcases hsg with h9 | h9; exact h9.1; (rw [h9.2] at zc250; exact absurd zc250 (by decide))
        have hb44 : (fi 47 c241).toInt = 44 := by rcases hsg with h9 | h9; (rw [← h9.2]; omega); omega
        refine lv_iconst (v := nI 1) hx hb dX12_readLetter_29 (by decide) ?_
        refine lv_goto (tgt := 34) hx hb dX12_readLetter_30 (by decide) ?_
        refine lv_istore_n (lv' := [(1, .int (nI 1)), (0, .ref (τ.1 30))]) hx hb dX12_readLetter_34 rfl hl (by decide) rfl (fun ls hl => ?_)
        refine lv_iload_n hx hb dX12_readLetter_35 rfl (lv_at hl 0 rfl) ?_
        refine lv_if_eq (tgt := 57) hx hb dX12_readLetter_36 (by decide) (fun c253 => absurd c253 (by decide)) (fun c253 => ?_)
        refine lv_aload_n hx hb dX12_readLetter_39 rfl (lv_at hl 1 rfl) ?_
        refine zGetI (D := D) (ci := 12) (C := RX12) (T := TX12) (N := 71) hx hb hts hiX12 hown hH (zk_30 hF) rfl 26 (by decide) rfl hw0 (fun _ h9 => h9) dX12_readLetter_40 q249 ?_
        refine lv_bipush (v := nI 8) hx hb dX12_readLetter_43 (by decide) ?_
        refine lv_icmp_ne (tgt := 57) hx hb dX12_readLetter_45 (by decide) (fun c254 => ?_) (fun c254 => ?_)
        · have zc254 := c254
          replace zc254 := zc_neq (nI_toInt (by omega)) (nI_toInt (by omega)) zc254
          refine lv_iload_n hx hb dX12_readLetter_57 rfl (lv_at hl 0 rfl) ?_
          refine lv_if_eq (tgt := 7) hx hb dX12_readLetter_58 (by decide) (fun c255 => absurd c255 (by decide)) (fun c255 => ?_)
          refine lv_aload_n hx hb dX12_readLetter_61 rfl (lv_at hl 1 rfl) ?_
          refine lv_dup hx hb dX12_readLetter_62 rfl ?_
          refine zGetI (D := D) (ci := 12) (C := RX12) (T := TX12) (N := 71) hx hb hts hiX12 hown hH (zk_30 hF) rfl 23 (by decide) rfl hw8 (fun _ h9 => h9) dX12_readLetter_63 q244 ?_
          refine lv_iconst (v := nI 1) hx hb dX12_readLetter_66 (by decide) ?_
          refine lv_iadd hx hb dX12_readLetter_67 ?_
          refine lv_topi (fun v256 ev256 => ?_)
          obtain rfl : v256 = nI (c241 + 1) := ev256.trans (nI_add _ _)
          refine zPutI (D := D) (ci := 12) (ty := .int) (C := RX12) (T := TX12) (N := 71) hx hb hts hiX12 tyX12 tyX12_ok nmX12 hown hH hS (zk_30 hF) rfl 23 (by decide) rfl hw8 (fun _ h9 => h9) rfl (by decide +kernel) rfl rfl dX12_readLetter_68 (fun H locs hH hS => ?_)
          obtain ⟨f257, ef257⟩ : ∃ f9 : zFi, f9 = zu f240 30 23 (nI (c241 + 1)) := ⟨_, rfl⟩
          rw [← ef257] at hH
          have q258 : f257 30 22 = nI L := by rw [ef257, zu_n (fun h9 => absurd h9.2 (by decide))]; exact q247
          have q259 : f257 30 24 = w24 := by rw [ef257, zu_n (fun h9 => absurd h9.2 (by decide))]; exact q248
          have q260 : f257 30 26 = nI (l0 + 1) := by rw [ef257, zu_n (fun h9 => absurd h9.2 (by decide))]; exact q249
          have q261 : f257 30 23 = nI (c241 + 1) := by rw [ef257]; exact zu_s
          have hMl := zMl.ci (fi' := f257) hMl (fun i9 k9 h9 => by rw [ef257]; exact zu_n (by omega))
          refine lv_goto (tgt := 7) hx hb dX12_readLetter_71 (by decide) ?_
          exact ih106 (2 * (L - (c241 + 1)) + 1) (by omega) (1, c241 + 1, l0 + 1, (zup C l0 xx.2.1), (zup P l0 xx.2.2), f257) _ _ _ (show 2 * (L - (c241 + 1)) + 1 = 2 * (L - (c241 + 1)) + 1 ∧ (1 ≤ 1 ∧ (c241 + 1) ≤ L ∧ f257 30 23 = nI (c241 + 1) ∧ zMl f257 (l0 + 1) ∧ (1 = 1 → (l0 + 1) < 8) ∧ f257 30 22 = nI L ∧ f257 30 24 = w24 ∧ (∀ k, k < (l0 + 1) → f257 48 k = ((zup C l0 xx.2.1)) k ∧ f257 49 k = ((zup P l0 xx.2.2)) k) ∧ ((1 = 1 ∧ zLin (fi 47) L 8 (zS (fi 47) L a) 0 (fun _ => 0) (fun _ => 0) = zLin (fi 47) L (8 - (l0 + 1)) (zS (fi 47) L (c241 + 1)) (l0 + 1) ((zup C l0 xx.2.1)) ((zup P l0 xx.2.2))) ∨ (1 = 0 ∧ zLin (fi 47) L 8 (zS (fi 47) L a) 0 (fun _ => 0) (fun _ => 0) = .ok (zS (fi 47) L (c241 + 1), (l0 + 1), ((zup C l0 xx.2.1)), ((zup P l0 xx.2.2))))) ∧ ∀ a b, ¬ (a = 48 ∨ a = 49 ∨ (a = 30 ∧ 23 ≤ b ∧ b ≤ 30)) → f257 a b = fi a b) ∧ zH D A τ f257 fr ol s _ ∧ va_S A s.heap _ _ ∧ lv_has _ 2 [(0, .ref (τ.1 30)), (1, .int (nI 1))] from ⟨rfl, ⟨by omega, by omega, q261, hMl, by omega, q258, q259, fun k hk => ⟨by rw [ef257, zu_n (by omega), hf246 48 k (by omega)]; exact (hCP1 k hk).1, by rw [ef257, zu_n (by omega), hf246 49 k (by omega)]; exact (hCP1 k hk).2⟩, Or.inl ⟨rfl, zLin_y hl7 hT1 hln (hcz.trans hze) hcl hb44 (by omega)⟩, fun a b h => by rw [ef257, zu_n (by omega), hf246 a b (by omega), hf235 a b (by omega)]; exact hfr a b h⟩, hH, hS, lv_sub hl [1, 0] rfl⟩)
        · have zc254 := c254
          replace zc254 := zc_eq (nI_toInt (by omega)) (nI_toInt (by omega)) zc254
          refine lv_aload_n hx hb dX12_readLetter_48 rfl (lv_at hl 1 rfl) ?_
          refine lv_aload_n hx hb dX12_readLetter_49 rfl (lv_at hl 1 rfl) ?_
          refine zGetI (D := D) (ci := 12) (C := RX12) (T := TX12) (N := 71) hx hb hts hiX12 hown hH (zk_30 hF) rfl 23 (by decide) rfl hw8 (fun _ h9 => h9) dX12_readLetter_50 q244 ?_
          refine va_calli (va_runV (As := [.int (nI c241)]) (rest := []) ⟨hx, hb, hml, hown, hts⟩ (m_wrongX l hl0 D A sad τ f240 fr ol (nI c241) hF) (cwV 1 hts gX12_readLetter_X12_wrong rfl rfl rfl (by decide +kernel) ⟨Nat.le_of_ble_eq_true rfl, Nat.le_of_ble_eq_true rfl⟩) ⟨zQc_bl, zRecv hH (zk_30 hF) rfl, zQc_at hz hS hA hH⟩ rfl rfl hl.1 rfl (lv_room (Nat.le_of_ble_eq_true rfl)) dX12_readLetter_53 ⟨Nat.le_of_ble_eq_true rfl, Nat.le_of_ble_eq_true rfl⟩) hS (fun q _ h => h) (fun q h => h) (fun r262 u9 t9 H1 locs ht9 hvm9 hw hB hz1 hk1 hS => ?_)
          have hH := zMv ht9 hvm9 hB
          clear hB
          generalize u9 = f263 at hw hH
          generalize H1 = H at hH hS ⊢
          obtain ⟨rfl, ef263⟩ := hw
          have q264 : f263 30 22 = nI L := by rw [ef263, zu_n (fun h9 => absurd h9.2 (by decide))]; exact q247
          have q265 : f263 30 26 = nI (l0 + 1) := by rw [ef263, zu_n (fun h9 => absurd h9.2 (by decide))]; exact q249
          have q266 : f263 30 23 = nI c241 := by rw [ef263, zu_n (fun h9 => absurd h9.2 (by decide))]; exact q244
          have q267 : f263 30 24 = nI c241 := by rw [ef263]; exact zu_s
          have hMl := zMl.ci (fi' := f263) hMl (fun i9 k9 h9 => by rw [ef263]; exact zu_n (by omega))
          refine W.widen (k := 0) (n := 0) (by decide) (by decide) ?_
          exact W.zret (v := 0) hx hb hr (by decide) (fun t9 ht9 hW9 => ⟨⟨0, f263, rfl, ⟨Or.inr ⟨c241, by omega, by simp only [zLet, zLe0, zLin_n hl7 hT1 hln (hcz.trans hze) (Or.inl (by omega)), zWrd_not (b := fi 47) (n := L) (a := c241) (ws := [115, 117, 109]) (by omega) (by decide) (fun _ h9 => by have h91 := h9.1; omega)], rfl, by rw [ef263, zu_s]⟩, fun a b h => by rw [ef263, zu_n (by omega), hf246 a b (by omega), hf235 a b (by omega)]; exact hfr a b h⟩, zEnd1 hH ht9 hW9⟩, hS.F ht9⟩) hS.2.2 dX12_readLetter_56
    · skip
      refine lv_if_ne (tgt := 20) hx hb dX12_readLetter_15 (by decide) (fun c268 => absurd (by decide) c268) (fun c268 => ?_)
      refine lv_iconst (v := nI 0) hx hb dX12_readLetter_18 (by decide) ?_
      refine W.widen (k := 0) (n := 0) (by decide) (by decide) ?_
      exact W.zret (v := nI 0) hx hb hr (by decide) (fun t9 ht9 hW9 => ⟨⟨nI 0, f229, rfl, ⟨Or.inr ⟨px, hpx, by simp only [zLet, zLe0, zLin_e hl7 hT1 hln], rfl, h24L⟩, fun a b h => by rw [hf235 a b (by omega)]; exact hfr a b h⟩, zEnd1 hH ht9 hW9⟩, hS.F ht9⟩) hS.2.2 dX12_readLetter_19
set_option maxHeartbeats 4000000 in
set_option maxRecDepth 100000 in
/-- letter -/
theorem m_letterX (l : Launch) (hl0 : l.stackTraces = false) (D : va_G) (A : Nat → Prop) (sad : Nat → Nat) (τ : zTy) (fi : zFi) (fr : zFr) (ol : Int64) (L : Nat) (hF : zFix τ fr) (hn : fi 30 21 = nI L) (hL4 : L ≤ 400) (n : Nat) (hMt : zMt fi n) (o : Nat) (hMo : zMo fi n o) (g Ln d : Nat) (hMq : zMq τ fi fr g Ln d) (hd5 : d < 512) (hB0 : ∀ j, j < L → 0 ≤ (fi 47 j).toInt) : Met l yX12_letter wsX12_letter ({ frames := 5, cells := 8, slots := 11264, locals := 111 }) (va_Pc [.ref (τ.1 30)] (zQc D A sad τ fi fr ol)) (va_Qi (fun (r : Int32) (u : zTy × zFi × zFr) => ((∃ o2, o ≤ o2 ∧ o2 ≤ o + 1 ∧ zMo u.2.1 n o2) ∧ (∃ g2 L2 d2, d2 ≤ d + 1 ∧ zMq u.1 u.2.1 u.2.2 g2 L2 d2) ∧ u.2.1 30 21 = nI 0 ∧ zGz τ fr u.1 u.2.2 ∧ ∀ a b, ¬ (a = 48 ∨ a = 49 ∨ (50 ≤ a ∧ a ≤ 64) ∨ (200 ≤ a ∧ a < 240) ∨ (a = 30 ∧ (b = 0 ∨ (21 ≤ b ∧ b ≤ 36) ∨ b = 45))) → u.2.1 a b = fi a b) ∧ u.2.1 30 24 = (zFv (zLet (fi 47) L (zS (fi 47) L 0)))) (fun (u : zTy × zFi × zFr) (t : State) => zH D A u.1 u.2.1 u.2.2 ol t t.heap) A) 8 11264 A := by
  refine Met.ofW (cc := cX12_letter) (maxL := 6) (ret := (some .int)) (by decide) rfl ?_
  intro p9 e9 s m args below meth c9 s₁ B hml hv
  obtain ⟨rfl, hz, hH, hA⟩ := hv
  have hx := B.exec
  have hb := B.bytes
  have hr := B.returns
  have hts := atoms_spec (ws := wsX12_letter) B.pre
  have hown : s.vm.findClass RX12 = some m.cls := findClass_of_methodNamed B.named
  have hlocks := B.notSynchronized
  have hS : va_S A s.heap s.heap [] := va_S.rf
  have hl := lv_entry ([.ref (τ.1 30)]) (n := 6) (Nat.le_of_ble_eq_true rfl)
  rw [lg_entry_eq]
  generalize (lg_sl ([.ref (τ.1 30)]) ++ List.replicate (6 - (lg_sl ([.ref (τ.1 30)])).length) Slot.unset).toArray = ls at hl ⊢
  have hl : lv_has ls 6 [(0, .ref (τ.1 30))] := hl
  have hm30 := hMt.1
  have hLn : g ≤ 3 ∧ Ln ≤ 512 := by have := hMq.1; omega
  have hdL := hMq.2.1
  have ho60 := hMo.1
  have hw0 := hts (.fieldLink RX12 165 "PostHouseModel" "thrown" "I") (by decide +kernel)
  have hiX12 : ∀ w ∈ u_ws RX12 TX12 71, w ∈ wsX12_letter := fun _ h => List.mem_cons_of_mem _ (List.mem_append_right _ h)
  have hw2 := hts (.fieldLink RX12 71 "PostHouseModel" "doubtWaits" "[Z") (by decide +kernel)
  have hw3 := hts (.fieldLink RX12 320 "PostHouseModel" "doubts" "I") (by decide +kernel)
  have hw4 := hts (.fieldLink RX12 75 "PostHouseModel" "doubtMendings" "[I") (by decide +kernel)
  have hw5 := hts (.fieldLink RX12 283 "PostHouseModel" "mendings" "I") (by decide +kernel)
  have hw6 := hts (.fieldLink RX12 78 "PostHouseModel" "doubtLines" "[I") (by decide +kernel)
  have hw7 := hts (.fieldLink RX12 262 "PostHouseModel" "lines" "I") (by decide +kernel)
  have hw8 := hts (.fieldLink RX12 81 "PostHouseModel" "doubtKnown" "[I") (by decide +kernel)
  have hw9 := hts (.fieldLink RX12 84 "PostHouseModel" "doubtSum" "[I") (by decide +kernel)
  have hw10 := hts (.fieldLink RX12 272 "PostHouseModel" "sum" "I") (by decide +kernel)
  have hw11 := hts (.fieldLink RX12 87 "PostHouseModel" "doubtMoney" "[I") (by decide +kernel)
  have hw12 := hts (.fieldLink RX12 275 "PostHouseModel" "money" "I") (by decide +kernel)
  have hw13 := hts (.fieldLink RX12 311 "PostHouseModel" "waiting" "I") (by decide +kernel)
  have hw14 := hts (.fieldLink RX12 90 "PostHouseModel" "doubtCode" "[I") (by decide +kernel)
  have hw15 := hts (.fieldLink RX12 65 "PostHouseModel" "lineCode" "[I") (by decide +kernel)
  have hw16 := hts (.fieldLink RX12 93 "PostHouseModel" "doubtMany" "[I") (by decide +kernel)
  have hw17 := hts (.fieldLink RX12 68 "PostHouseModel" "lineMany" "[I") (by decide +kernel)
  have hw18 := hts (.fieldLink RX12 293 "PostHouseModel" "mendLine" "I") (by decide +kernel)
  have hw19 := hts (.fieldLink RX12 296 "PostHouseModel" "mendCode" "I") (by decide +kernel)
  have hw20 := hts (.fieldLink RX12 171 "PostHouseModel" "orders" "I") (by decide +kernel)
  have hw21 := hts (.fieldLink RX12 314 "PostHouseModel" "mended" "I") (by decide +kernel)
  refine lv_aload_n hx hb dX12_letter_0 rfl (lv_at hl 0 rfl) ?_
  refine va_callv (va_runV (As := []) (rest := []) ⟨hx, hb, hml, hown, hts⟩ (m_beginX l hl0 D A sad τ fi fr ol L hF hn) (cwV 0 hts gX12_letter_X12_beginText rfl rfl rfl (by decide +kernel) ⟨Nat.le_of_ble_eq_true rfl, Nat.le_of_ble_eq_true rfl⟩) ⟨zQc_bl, zRecv hH (zk_30 hF) rfl, zQc_at hz hS hA hH⟩ rfl rfl hl.1 rfl (lv_room (Nat.le_of_ble_eq_true rfl)) dX12_letter_1 ⟨Nat.le_of_ble_eq_true rfl, Nat.le_of_ble_eq_true rfl⟩) hS (fun q _ h => h) (fun q h => h) (fun u9 t9 H1 locs ht9 hvm9 hw hB hz1 hk1 hS => ?_)
  have hH := zMv ht9 hvm9 hB
  clear hB
  generalize u9 = f102 at hw hH
  generalize H1 = H at hH hS ⊢
  obtain ⟨q21, q22, q23, q24, hf21⟩ := hw
  have q103 : f102 30 45 = nI o := by rw [hf21 30 45 (by omega)]; exact hMo.2.1
  have q104 : f102 30 35 = nI d := by rw [hf21 30 35 (by omega)]; exact hMq.2.2.1
  have q105 : f102 30 2 = nI n := by rw [hf21 30 2 (by omega)]; exact hMt.2.1
  have hMt := zMt.ci (fi' := f102) hMt (fun i9 k9 h9 => hf21 i9 k9 (by omega))
  have hMo := zMo.ci (fi' := f102) hMo (fun i9 k9 h9 => hf21 i9 k9 (by omega))
  have hMq := zMq.ci (fi' := f102) hMq (fun i9 k9 h9 => hf21 i9 k9 (by omega))
  refine lv_aload_n hx hb dX12_letter_4 rfl (lv_at hl 0 rfl) ?_
  refine lv_iconst (v := nI 0) hx hb dX12_letter_5 (by decide) ?_
  refine zPutI (D := D) (ci := 12) (ty := .int) (C := RX12) (T := TX12) (N := 71) hx hb hts hiX12 tyX12 tyX12_ok nmX12 hown hH hS (zk_30 hF) rfl 0 (by decide) rfl hw0 (fun _ h9 => h9) rfl (by decide +kernel) rfl rfl dX12_letter_6 (fun H locs hH hS => ?_)
  obtain ⟨f106, ef106⟩ : ∃ f9 : zFi, f9 = zu f102 30 0 (nI 0) := ⟨_, rfl⟩
  rw [← ef106] at hH
  have q107 : f106 30 45 = nI o := by rw [ef106, zu_n (fun h9 => absurd h9.2 (by decide))]; exact q103
  have q108 : f106 30 35 = nI d := by rw [ef106, zu_n (fun h9 => absurd h9.2 (by decide))]; exact q104
  have q109 : f106 30 2 = nI n := by rw [ef106, zu_n (fun h9 => absurd h9.2 (by decide))]; exact q105
  have q110 : f106 30 21 = nI 0 := by rw [ef106, zu_n (fun h9 => absurd h9.2 (by decide))]; exact q21
  have q111 : f106 30 22 = nI L := by rw [ef106, zu_n (fun h9 => absurd h9.2 (by decide))]; exact q22
  have q112 : f106 30 23 = nI 0 := by rw [ef106, zu_n (fun h9 => absurd h9.2 (by decide))]; exact q23
  have q113 : f106 30 24 = (-1) := by rw [ef106, zu_n (fun h9 => absurd h9.2 (by decide))]; exact q24
  have q114 : f106 30 0 = nI 0 := by rw [ef106]; exact zu_s
  have hMt := zMt.ci (fi' := f106) hMt (fun i9 k9 h9 => by rw [ef106]; exact zu_n (by omega))
  have hMo := zMo.ci (fi' := f106) hMo (fun i9 k9 h9 => by rw [ef106]; exact zu_n (by omega))
  have hMq := zMq.ci (fi' := f106) hMq (fun i9 k9 h9 => by rw [ef106]; exact zu_n (by omega))
  refine lv_aload_n hx hb dX12_letter_9 rfl (lv_at hl 0 rfl) ?_
  refine va_calli (va_runV (As := []) (rest := []) ⟨hx, hb, hml, hown, hts⟩ (m_readLetterX l hl0 D A sad τ f106 fr ol L 0 hF q111 q112 (by omega) (by omega) ((fun j hj => by rw [ef106, zu_n (by omega), hf21 47 j (by omega)]; exact hB0 j hj))) (cwV 0 hts gX12_letter_X12_readLetter rfl rfl rfl (by decide +kernel) ⟨Nat.le_of_ble_eq_true rfl, Nat.le_of_ble_eq_true rfl⟩) ⟨zQc_bl, zRecv hH (zk_30 hF) rfl, zQc_at hz hS hA hH⟩ rfl rfl hl.1 rfl (lv_room (Nat.le_of_ble_eq_true rfl)) dX12_letter_10 ⟨Nat.le_of_ble_eq_true rfl, Nat.le_of_ble_eq_true rfl⟩) hS (fun q _ h => h) (fun q h => h) (fun r115 u9 t9 H1 locs ht9 hvm9 hw hB hz1 hk1 hS => ?_)
  have hH := zMv ht9 hvm9 hB
  clear hB
  generalize u9 = f116 at hw hH
  generalize H1 = H at hH hS ⊢
  obtain ⟨hr117, hf118⟩ := hw
  rw [(funext (fun k9 => by rw [ef106, zu_n (by omega), hf21 47 k9 (by omega)]) : f106 47 = fi 47)] at hr117
  have q119 : f116 30 45 = nI o := by rw [hf118 30 45 (by omega)]; exact q107
  have q120 : f116 30 35 = nI d := by rw [hf118 30 35 (by omega)]; exact q108
  have q121 : f116 30 2 = nI n := by rw [hf118 30 2 (by omega)]; exact q109
  have q122 : f116 30 21 = nI 0 := by rw [hf118 30 21 (by omega)]; exact q110
  have q123 : f116 30 22 = nI L := by rw [hf118 30 22 (by omega)]; exact q111
  have q124 : f116 30 0 = nI 0 := by rw [hf118 30 0 (by omega)]; exact q114
  have hMt := zMt.ci (fi' := f116) hMt (fun i9 k9 h9 => hf118 i9 k9 (by omega))
  have hMo := zMo.ci (fi' := f116) hMo (fun i9 k9 h9 => hf118 i9 k9 (by omega))
  have hMq := zMq.ci (fi' := f116) hMq (fun i9 k9 h9 => hf118 i9 k9 (by omega))
  rcases hr117 with ⟨xx, hle, rfl, h24, hMl, -⟩ | ⟨px, -, hle, rfl, h24⟩
  · skip
    obtain ⟨l0, hl0e⟩ : ∃ l, l = xx.1 := ⟨_, rfl⟩
    rw [← hl0e] at hMl
    have k24 : f116 30 24 = (zFv (zLet (fi 47) L (zS (fi 47) L 0))) := h24.trans (q113.trans (by rw [hle]; rfl))
    have hl8 := hMl.1
    refine lv_if_ne (tgt := 23) hx hb dX12_letter_13 (by decide) (fun c125 => ?_) (fun c125 => absurd c125 (by decide))
    refine zCut (σ := zFi × Int32 × Int32 × Int32) 186 (fun x9 => (fun (f6 : zFi) (y1 : Int32) (y2 : Int32) (y3 : Int32) => []) x9.1 x9.2.1 x9.2.2.1 x9.2.2.2) (fun x9 H locs ls => (fun (f6 : zFi) (y1 : Int32) (y2 : Int32) (y3 : Int32) => (zMl f6 l0 ∧ f6 30 21 = nI 0 ∧ f6 30 24 = (zFv (zLet (fi 47) L (zS (fi 47) L 0))) ∧ zMo f6 n o ∧ zMq τ f6 fr g Ln d ∧ ∀ a b, ¬ (a = 48 ∨ a = 49 ∨ (a = 30 ∧ (b = 0 ∨ (21 ≤ b ∧ b ≤ 34)))) → f6 a b = fi a b) ∧ zH D A τ f6 fr ol s H ∧ va_S A s.heap H locs ∧ lv_has ls 6 [(0, .ref (τ.1 30)), (1, .int y1), (2, .int y2), (3, .int y3)]) x9.1 x9.2.1 x9.2.2.1 x9.2.2.2) (fun x9 H locs ls hv9 => ?_) (fun hJ126 => ?_)
    · skip
      obtain ⟨f6, y1, y2, y3⟩ := x9
      have hv9 : (zMl f6 l0 ∧ f6 30 21 = nI 0 ∧ f6 30 24 = (zFv (zLet (fi 47) L (zS (fi 47) L 0))) ∧ zMo f6 n o ∧ zMq τ f6 fr g Ln d ∧ ∀ a b, ¬ (a = 48 ∨ a = 49 ∨ (a = 30 ∧ (b = 0 ∨ (21 ≤ b ∧ b ≤ 34)))) → f6 a b = fi a b) ∧ zH D A τ f6 fr ol s H ∧ va_S A s.heap H locs ∧ lv_has ls 6 [(0, .ref (τ.1 30)), (1, .int y1), (2, .int y2), (3, .int y3)] := hv9
      obtain ⟨hv9, hH, hS, hl⟩ := hv9
      obtain ⟨hMl, q21, q24, hMo, hMq, hfr6⟩ := hv9
      show W _ _ _ _ _ _ _ _ _ _ _ _ _ _ _ (F0 m 186 ls [])
      have p26 := hMl.2.1
      have p45 := hMo.2.1
      have p35 := hMq.2.2.1
      refine zCutC (c2 := 8) (s2 := 11264) (σ := zTy × zFi × zFr × Nat × Nat) 202 (fun x9 => (fun (T : zTy) (f7 : zFi) (G : zFr) (g3 : Nat) (L3 : Nat) => []) x9.1 x9.2.1 x9.2.2.1 x9.2.2.2.1 x9.2.2.2.2) (fun x9 H locs ls => (fun (T : zTy) (f7 : zFi) (G : zFr) (g3 : Nat) (L3 : Nat) => (zGz τ fr T G ∧ zMq T f7 G g3 L3 d ∧ d < L3 ∧ zMl f7 l0 ∧ zMo f7 n o ∧ f7 30 21 = nI 0 ∧ f7 30 24 = (zFv (zLet (fi 47) L (zS (fi 47) L 0))) ∧ ∀ a b, ¬ (a = 48 ∨ a = 49 ∨ (50 ≤ a ∧ a ≤ 64) ∨ (200 ≤ a ∧ a < 240) ∨ (a = 30 ∧ (b = 0 ∨ (21 ≤ b ∧ b ≤ 36) ∨ b = 45))) → f7 a b = fi a b) ∧ zH D A T f7 G ol s H ∧ va_S A s.heap H locs ∧ lv_has ls 6 [(0, .ref (T.1 30)), (3, .int y3)]) x9.1 x9.2.1 x9.2.2.1 x9.2.2.2.1 x9.2.2.2.2) (fun x9 H locs ls hv9 => ?_) (fun hJ127 => ?_)
      · skip
        obtain ⟨T, f7, G, g3, L3⟩ := x9
        have hv9 : (zGz τ fr T G ∧ zMq T f7 G g3 L3 d ∧ d < L3 ∧ zMl f7 l0 ∧ zMo f7 n o ∧ f7 30 21 = nI 0 ∧ f7 30 24 = (zFv (zLet (fi 47) L (zS (fi 47) L 0))) ∧ ∀ a b, ¬ (a = 48 ∨ a = 49 ∨ (50 ≤ a ∧ a ≤ 64) ∨ (200 ≤ a ∧ a < 240) ∨ (a = 30 ∧ (b = 0 ∨ (21 ≤ b ∧ b ≤ 36) ∨ b = 45))) → f7 a b = fi a b) ∧ zH D A T f7 G ol s H ∧ va_S A s.heap H locs ∧ lv_has ls 6 [(0, .ref (T.1 30)), (3, .int y3)] := hv9
        obtain ⟨hv9, hH, hS, hl⟩ := hv9
        obtain ⟨hGz, hMq, hdL3, hMl, hMo, q21, q24, hfr7⟩ := hv9
        show W _ _ _ _ _ _ _ _ _ _ _ _ _ _ _ (F0 m 202 ls [])
        have p26 := hMl.2.1
        have p35 := hMq.2.2.1
        have hLn3 : g3 ≤ 3 ∧ L3 ≤ 512 := by have := hMq.1; omega
        refine lv_aload_n hx hb dX12_letter_202 rfl (lv_at hl 0 rfl) ?_
        refine zGetR (D := D) (ci := 12) (C := RX12) (T := TX12) (N := 71) hx hb hts hiX12 hown hH (zk_30 hGz.2.2) rfl 37 (by decide) rfl hw2 (fun _ h9 => h9) dX12_letter_203 hMq.2.2.2.2.1.1 ?_
        refine lv_aload_n hx hb dX12_letter_206 rfl (lv_at hl 0 rfl) ?_
        refine zGetI (D := D) (ci := 12) (C := RX12) (T := TX12) (N := 71) hx hb hts hiX12 hown hH (zk_30 hGz.2.2) rfl 35 (by decide) rfl hw3 (fun _ h9 => h9) dX12_letter_207 p35 ?_
        refine lv_iconst (v := nI 1) hx hb dX12_letter_210 (by decide) ?_
        refine zZastN (D := D) hx hb hH hS hMq.2.2.2.1.1.1 hMq.2.2.2.1.1.2 (by omega) (by omega) dX12_letter_211 (fun H locs hH hS => ?_)
        obtain ⟨f128, ef128⟩ : ∃ f9 : zFi, f9 = zu f7 (200 + 10 * g3) d (vp_nar .boolean (nI 1)) := ⟨_, rfl⟩
        rw [← ef128] at hH
        have q129 : f128 30 26 = nI l0 := by rw [ef128, zu_n (fun h9 => by omega)]; exact p26
        have q130 : f128 30 35 = nI d := by rw [ef128, zu_n (fun h9 => by omega)]; exact p35
        have q131 : f128 30 24 = (zFv (zLet (fi 47) L (zS (fi 47) L 0))) := by rw [ef128, zu_n (fun h9 => by omega)]; exact q24
        have q132 : f128 (200 + 10 * g3) d = (vp_nar .boolean (nI 1)) := by rw [ef128]; exact zu_s
        refine lv_aload_n hx hb dX12_letter_212 rfl (lv_at hl 0 rfl) ?_
        refine zGetR (D := D) (ci := 12) (C := RX12) (T := TX12) (N := 71) hx hb hts hiX12 hown hH (zk_30 hGz.2.2) rfl 38 (by decide) rfl hw4 (fun _ h9 => h9) dX12_letter_213 hMq.2.2.2.2.1.2.1 ?_
        refine lv_aload_n hx hb dX12_letter_216 rfl (lv_at hl 0 rfl) ?_
        refine zGetI (D := D) (ci := 12) (C := RX12) (T := TX12) (N := 71) hx hb hts hiX12 hown hH (zk_30 hGz.2.2) rfl 35 (by decide) rfl hw3 (fun _ h9 => h9) dX12_letter_217 q130 ?_
        refine lv_aload_n hx hb dX12_letter_220 rfl (lv_at hl 0 rfl) ?_
        refine zGetI (D := D) (ci := 12) (C := RX12) (T := TX12) (N := 71) hx hb hts hiX12 hown hH (zk_30 hGz.2.2) rfl 31 (by decide) rfl hw5 (fun _ h9 => h9) dX12_letter_221 rfl ?_
        refine zIastN (D := D) hx hb hH hS hMq.2.2.2.1.2.1.1 hMq.2.2.2.1.2.1.2 (by omega) (by omega) dX12_letter_224 (fun H locs hH hS => ?_)
        obtain ⟨f133, ef133⟩ : ∃ f9 : zFi, f9 = zu f128 (201 + 10 * g3) d (f128 30 31) := ⟨_, rfl⟩
        rw [← ef133] at hH
        have q134 : f133 30 26 = nI l0 := by rw [ef133, zu_n (fun h9 => by omega)]; exact q129
        have q135 : f133 30 35 = nI d := by rw [ef133, zu_n (fun h9 => by omega)]; exact q130
        have q136 : f133 30 24 = (zFv (zLet (fi 47) L (zS (fi 47) L 0))) := by rw [ef133, zu_n (fun h9 => by omega)]; exact q131
        have q137 : f133 (200 + 10 * g3) d = (vp_nar .boolean (nI 1)) := by rw [ef133, zu_n (fun h9 => by omega)]; exact q132
        have q138 : f133 (201 + 10 * g3) d = f128 30 31 := by rw [ef133]; exact zu_s
        refine lv_aload_n hx hb dX12_letter_225 rfl (lv_at hl 0 rfl) ?_
        refine zGetR (D := D) (ci := 12) (C := RX12) (T := TX12) (N := 71) hx hb hts hiX12 hown hH (zk_30 hGz.2.2) rfl 39 (by decide) rfl hw6 (fun _ h9 => h9) dX12_letter_226 hMq.2.2.2.2.1.2.2.1 ?_
        refine lv_aload_n hx hb dX12_letter_229 rfl (lv_at hl 0 rfl) ?_
        refine zGetI (D := D) (ci := 12) (C := RX12) (T := TX12) (N := 71) hx hb hts hiX12 hown hH (zk_30 hGz.2.2) rfl 35 (by decide) rfl hw3 (fun _ h9 => h9) dX12_letter_230 q135 ?_
        refine lv_aload_n hx hb dX12_letter_233 rfl (lv_at hl 0 rfl) ?_
        refine zGetI (D := D) (ci := 12) (C := RX12) (T := TX12) (N := 71) hx hb hts hiX12 hown hH (zk_30 hGz.2.2) rfl 26 (by decide) rfl hw7 (fun _ h9 => h9) dX12_letter_234 q134 ?_
        refine zIastN (D := D) hx hb hH hS hMq.2.2.2.1.2.2.1.1 hMq.2.2.2.1.2.2.1.2 (by omega) (by omega) dX12_letter_237 (fun H locs hH hS => ?_)
        obtain ⟨f139, ef139⟩ : ∃ f9 : zFi, f9 = zu f133 (202 + 10 * g3) d (nI l0) := ⟨_, rfl⟩
        rw [← ef139] at hH
        have q140 : f139 30 26 = nI l0 := by rw [ef139, zu_n (fun h9 => by omega)]; exact q134
        have q141 : f139 30 35 = nI d := by rw [ef139, zu_n (fun h9 => by omega)]; exact q135
        have q142 : f139 30 24 = (zFv (zLet (fi 47) L (zS (fi 47) L 0))) := by rw [ef139, zu_n (fun h9 => by omega)]; exact q136
        have q143 : f139 (200 + 10 * g3) d = (vp_nar .boolean (nI 1)) := by rw [ef139, zu_n (fun h9 => by omega)]; exact q137
        have q144 : f139 (201 + 10 * g3) d = f128 30 31 := by rw [ef139, zu_n (fun h9 => by omega)]; exact q138
        have q145 : f139 (202 + 10 * g3) d = nI l0 := by rw [ef139]; exact zu_s
        refine lv_aload_n hx hb dX12_letter_238 rfl (lv_at hl 0 rfl) ?_
        refine zGetR (D := D) (ci := 12) (C := RX12) (T := TX12) (N := 71) hx hb hts hiX12 hown hH (zk_30 hGz.2.2) rfl 40 (by decide) rfl hw8 (fun _ h9 => h9) dX12_letter_239 hMq.2.2.2.2.1.2.2.2.1 ?_
        refine lv_aload_n hx hb dX12_letter_242 rfl (lv_at hl 0 rfl) ?_
        refine zGetI (D := D) (ci := 12) (C := RX12) (T := TX12) (N := 71) hx hb hts hiX12 hown hH (zk_30 hGz.2.2) rfl 35 (by decide) rfl hw3 (fun _ h9 => h9) dX12_letter_243 q141 ?_
        refine lv_iload_n hx hb dX12_letter_246 rfl (lv_at hl 1 rfl) ?_
        refine zIastN (D := D) hx hb hH hS hMq.2.2.2.1.2.2.2.1.1 hMq.2.2.2.1.2.2.2.1.2 (by omega) (by omega) dX12_letter_247 (fun H locs hH hS => ?_)
        obtain ⟨f146, ef146⟩ : ∃ f9 : zFi, f9 = zu f139 (203 + 10 * g3) d y3 := ⟨_, rfl⟩
        rw [← ef146] at hH
        have q147 : f146 30 26 = nI l0 := by rw [ef146, zu_n (fun h9 => by omega)]; exact q140
        have q148 : f146 30 35 = nI d := by rw [ef146, zu_n (fun h9 => by omega)]; exact q141
        have q149 : f146 30 24 = (zFv (zLet (fi 47) L (zS (fi 47) L 0))) := by rw [ef146, zu_n (fun h9 => by omega)]; exact q142
        have q150 : f146 (200 + 10 * g3) d = (vp_nar .boolean (nI 1)) := by rw [ef146, zu_n (fun h9 => by omega)]; exact q143
        have q151 : f146 (201 + 10 * g3) d = f128 30 31 := by rw [ef146, zu_n (fun h9 => by omega)]; exact q144
        have q152 : f146 (202 + 10 * g3) d = nI l0 := by rw [ef146, zu_n (fun h9 => by omega)]; exact q145
        have q153 : f146 (203 + 10 * g3) d = y3 := by rw [ef146]; exact zu_s
        refine lv_aload_n hx hb dX12_letter_248 rfl (lv_at hl 0 rfl) ?_
        refine zGetR (D := D) (ci := 12) (C := RX12) (T := TX12) (N := 71) hx hb hts hiX12 hown hH (zk_30 hGz.2.2) rfl 41 (by decide) rfl hw9 (fun _ h9 => h9) dX12_letter_249 hMq.2.2.2.2.1.2.2.2.2.1 ?_
        refine lv_aload_n hx hb dX12_letter_252 rfl (lv_at hl 0 rfl) ?_
        refine zGetI (D := D) (ci := 12) (C := RX12) (T := TX12) (N := 71) hx hb hts hiX12 hown hH (zk_30 hGz.2.2) rfl 35 (by decide) rfl hw3 (fun _ h9 => h9) dX12_letter_253 q148 ?_
        refine lv_aload_n hx hb dX12_letter_256 rfl (lv_at hl 0 rfl) ?_
        refine zGetI (D := D) (ci := 12) (C := RX12) (T := TX12) (N := 71) hx hb hts hiX12 hown hH (zk_30 hGz.2.2) rfl 29 (by decide) rfl hw10 (fun _ h9 => h9) dX12_letter_257 rfl ?_
        refine zIastN (D := D) hx hb hH hS hMq.2.2.2.1.2.2.2.2.1.1 hMq.2.2.2.1.2.2.2.2.1.2 (by omega) (by omega) dX12_letter_260 (fun H locs hH hS => ?_)
        obtain ⟨f154, ef154⟩ : ∃ f9 : zFi, f9 = zu f146 (204 + 10 * g3) d (f146 30 29) := ⟨_, rfl⟩
        rw [← ef154] at hH
        have q155 : f154 30 26 = nI l0 := by rw [ef154, zu_n (fun h9 => by omega)]; exact q147
        have q156 : f154 30 35 = nI d := by rw [ef154, zu_n (fun h9 => by omega)]; exact q148
        have q157 : f154 30 24 = (zFv (zLet (fi 47) L (zS (fi 47) L 0))) := by rw [ef154, zu_n (fun h9 => by omega)]; exact q149
        have q158 : f154 (200 + 10 * g3) d = (vp_nar .boolean (nI 1)) := by rw [ef154, zu_n (fun h9 => by omega)]; exact q150
        have q159 : f154 (201 + 10 * g3) d = f128 30 31 := by rw [ef154, zu_n (fun h9 => by omega)]; exact q151
        have q160 : f154 (202 + 10 * g3) d = nI l0 := by rw [ef154, zu_n (fun h9 => by omega)]; exact q152
        have q161 : f154 (203 + 10 * g3) d = y3 := by rw [ef154, zu_n (fun h9 => by omega)]; exact q153
        have q162 : f154 (204 + 10 * g3) d = f146 30 29 := by rw [ef154]; exact zu_s
        refine lv_aload_n hx hb dX12_letter_261 rfl (lv_at hl 0 rfl) ?_
        refine zGetR (D := D) (ci := 12) (C := RX12) (T := TX12) (N := 71) hx hb hts hiX12 hown hH (zk_30 hGz.2.2) rfl 42 (by decide) rfl hw11 (fun _ h9 => h9) dX12_letter_262 hMq.2.2.2.2.1.2.2.2.2.2.1 ?_
        refine lv_aload_n hx hb dX12_letter_265 rfl (lv_at hl 0 rfl) ?_
        refine zGetI (D := D) (ci := 12) (C := RX12) (T := TX12) (N := 71) hx hb hts hiX12 hown hH (zk_30 hGz.2.2) rfl 35 (by decide) rfl hw3 (fun _ h9 => h9) dX12_letter_266 q156 ?_
        refine lv_aload_n hx hb dX12_letter_269 rfl (lv_at hl 0 rfl) ?_
        refine zGetI (D := D) (ci := 12) (C := RX12) (T := TX12) (N := 71) hx hb hts hiX12 hown hH (zk_30 hGz.2.2) rfl 30 (by decide) rfl hw12 (fun _ h9 => h9) dX12_letter_270 rfl ?_
        refine zIastN (D := D) hx hb hH hS hMq.2.2.2.1.2.2.2.2.2.1.1 hMq.2.2.2.1.2.2.2.2.2.1.2 (by omega) (by omega) dX12_letter_273 (fun H locs hH hS => ?_)
        obtain ⟨f163, ef163⟩ : ∃ f9 : zFi, f9 = zu f154 (205 + 10 * g3) d (f154 30 30) := ⟨_, rfl⟩
        rw [← ef163] at hH
        have q164 : f163 30 26 = nI l0 := by rw [ef163, zu_n (fun h9 => by omega)]; exact q155
        have q165 : f163 30 35 = nI d := by rw [ef163, zu_n (fun h9 => by omega)]; exact q156
        have q166 : f163 30 24 = (zFv (zLet (fi 47) L (zS (fi 47) L 0))) := by rw [ef163, zu_n (fun h9 => by omega)]; exact q157
        have q167 : f163 (200 + 10 * g3) d = (vp_nar .boolean (nI 1)) := by rw [ef163, zu_n (fun h9 => by omega)]; exact q158
        have q168 : f163 (201 + 10 * g3) d = f128 30 31 := by rw [ef163, zu_n (fun h9 => by omega)]; exact q159
        have q169 : f163 (202 + 10 * g3) d = nI l0 := by rw [ef163, zu_n (fun h9 => by omega)]; exact q160
        have q170 : f163 (203 + 10 * g3) d = y3 := by rw [ef163, zu_n (fun h9 => by omega)]; exact q161
        have q171 : f163 (204 + 10 * g3) d = f146 30 29 := by rw [ef163, zu_n (fun h9 => by omega)]; exact q162
        have q172 : f163 (205 + 10 * g3) d = f154 30 30 := by rw [ef163]; exact zu_s
        refine lv_iconst (v := nI 0) hx hb dX12_letter_274 (by decide) ?_
        refine lv_istore (lv' := [(5, .int (nI 0)), (0, .ref (T.1 30)), (3, .int y3)]) hx hb dX12_letter_275 hl (by decide) rfl (fun ls hl => ?_)
        refine zLp (σ := Nat × zFi) (fun x9 k9 H locs ls => (fun (i : Nat) (f8 : zFi) => k9 = l0 - i ∧ (i ≤ l0 ∧ (∀ k, k < i → f8 (207 + 10 * g3) (8 * d + k) = f7 49 k) ∧ (∀ b, b < 8 * d → f8 (207 + 10 * g3) b = f7 (207 + 10 * g3) b) ∧ ∀ a b, ¬ (a = 206 + 10 * g3 ∨ a = 207 + 10 * g3) → f8 a b = f163 a b) ∧ zH D A T f8 G ol s H ∧ va_S A s.heap H locs ∧ lv_has ls 6 [(0, .ref (T.1 30)), (5, .int (nI i))]) x9.1 x9.2) (0, f163) (l0 - 0) (show l0 - 0 = l0 - 0 ∧ (0 ≤ l0 ∧ (∀ k, k < 0 → f163 (207 + 10 * g3) (8 * d + k) = f7 49 k) ∧ (∀ b, b < 8 * d → f163 (207 + 10 * g3) b = f7 (207 + 10 * g3) b) ∧ ∀ a b, ¬ (a = 206 + 10 * g3 ∨ a = 207 + 10 * g3) → f163 a b = f163 a b) ∧ zH D A T f163 G ol s _ ∧ va_S A s.heap _ _ ∧ lv_has _ 6 [(0, .ref (T.1 30)), (5, .int (nI 0))] from ⟨rfl, ⟨Nat.zero_le _, fun k h => absurd h (by omega), fun b h => by rw [ef163, zu_n (by omega), ef154, zu_n (by omega), ef146, zu_n (by omega), ef139, zu_n (by omega), ef133, zu_n (by omega), ef128, zu_n (by omega)], fun _ _ _ => rfl⟩, hH, hS, lv_sub hl [1, 0] rfl⟩) (fun k9 ih x9 H locs ls hv9 => ?_)
        obtain ⟨i, f8⟩ := x9
        have hv9 : k9 = l0 - i ∧ (i ≤ l0 ∧ (∀ k, k < i → f8 (207 + 10 * g3) (8 * d + k) = f7 49 k) ∧ (∀ b, b < 8 * d → f8 (207 + 10 * g3) b = f7 (207 + 10 * g3) b) ∧ ∀ a b, ¬ (a = 206 + 10 * g3 ∨ a = 207 + 10 * g3) → f8 a b = f163 a b) ∧ zH D A T f8 G ol s H ∧ va_S A s.heap H locs ∧ lv_has ls 6 [(0, .ref (T.1 30)), (5, .int (nI i))] := hv9
        obtain ⟨hkih173, hv9, hH, hS, hl⟩ := hv9
        obtain ⟨h1, hcp, hco, hfr8⟩ := hv9
        have ih173 := ih
        clear ih
        have p26 : f8 30 26 = nI l0 := by rw [hfr8 _ _ (by omega), ef163, zu_n (by omega), ef154, zu_n (by omega), ef146, zu_n (by omega), ef139, zu_n (by omega), ef133, zu_n (by omega), ef128, zu_n (by omega)]; exact hMl.2.1
        have p35 : f8 30 35 = nI d := by rw [hfr8 _ _ (by omega), ef163, zu_n (by omega), ef154, zu_n (by omega), ef146, zu_n (by omega), ef139, zu_n (by omega), ef133, zu_n (by omega), ef128, zu_n (by omega)]; exact hMq.2.2.1
        refine lv_iload hx hb dX12_letter_277 (lv_at hl 1 rfl) ?_
        refine lv_aload_n hx hb dX12_letter_279 rfl (lv_at hl 0 rfl) ?_
        refine zGetI (D := D) (ci := 12) (C := RX12) (T := TX12) (N := 71) hx hb hts hiX12 hown hH (zk_30 hGz.2.2) rfl 26 (by decide) rfl hw7 (fun _ h9 => h9) dX12_letter_280 p26 ?_
        refine lv_icmp_ge (tgt := 336) hx hb dX12_letter_283 (by decide) (fun c174 => ?_) (fun c174 => ?_)
        · have zc174 := c174
          replace zc174 := zc_le (nI_toInt (by omega)) (nI_toInt (by omega)) zc174
          refine lv_aload_n hx hb dX12_letter_336 rfl (lv_at hl 0 rfl) ?_
          refine lv_dup hx hb dX12_letter_337 rfl ?_
          refine zGetI (D := D) (ci := 12) (C := RX12) (T := TX12) (N := 71) hx hb hts hiX12 hown hH (zk_30 hGz.2.2) rfl 35 (by decide) rfl hw3 (fun _ h9 => h9) dX12_letter_338 p35 ?_
          refine lv_iconst (v := nI 1) hx hb dX12_letter_341 (by decide) ?_
          refine lv_iadd hx hb dX12_letter_342 ?_
          refine lv_topi (fun v175 ev175 => ?_)
          obtain rfl : v175 = nI (d + 1) := ev175.trans (nI_add _ _)
          refine zPutI (D := D) (ci := 12) (ty := .int) (C := RX12) (T := TX12) (N := 71) hx hb hts hiX12 tyX12 tyX12_ok nmX12 hown hH hS (zk_30 hGz.2.2) rfl 35 (by decide) rfl hw3 (fun _ h9 => h9) rfl (by decide +kernel) rfl rfl dX12_letter_343 (fun H locs hH hS => ?_)
          obtain ⟨f176, ef176⟩ : ∃ f9 : zFi, f9 = zu f8 30 35 (nI (d + 1)) := ⟨_, rfl⟩
          rw [← ef176] at hH
          have q177 : f176 30 26 = nI l0 := by rw [ef176, zu_n (fun h9 => absurd h9.2 (by decide))]; exact p26
          have q178 : f176 30 35 = nI (d + 1) := by rw [ef176]; exact zu_s
          refine lv_aload_n hx hb dX12_letter_346 rfl (lv_at hl 0 rfl) ?_
          refine lv_dup hx hb dX12_letter_347 rfl ?_
          refine zGetI (D := D) (ci := 12) (C := RX12) (T := TX12) (N := 71) hx hb hts hiX12 hown hH (zk_30 hGz.2.2) rfl 36 (by decide) rfl hw13 (fun _ h9 => h9) dX12_letter_348 rfl ?_
          refine lv_iconst (v := nI 1) hx hb dX12_letter_351 (by decide) ?_
          refine lv_iadd hx hb dX12_letter_352 ?_
          refine lv_topi (fun v179 ev179 => ?_)
          refine zPutI (D := D) (ci := 12) (ty := .int) (C := RX12) (T := TX12) (N := 71) hx hb hts hiX12 tyX12 tyX12_ok nmX12 hown hH hS (zk_30 hGz.2.2) rfl 36 (by decide) rfl hw13 (fun _ h9 => h9) rfl (by decide +kernel) rfl rfl dX12_letter_353 (fun H locs hH hS => ?_)
          obtain ⟨f180, ef180⟩ : ∃ f9 : zFi, f9 = zu f176 30 36 v179 := ⟨_, rfl⟩
          rw [← ef180] at hH
          have q181 : f180 30 26 = nI l0 := by rw [ef180, zu_n (fun h9 => absurd h9.2 (by decide))]; exact q177
          have q182 : f180 30 35 = nI (d + 1) := by rw [ef180, zu_n (fun h9 => absurd h9.2 (by decide))]; exact q178
          have q183 : f180 30 36 = v179 := by rw [ef180]; exact zu_s
          refine lv_iconst (v := (-1)) hx hb dX12_letter_356 (by decide) ?_
          refine lv_aload_n hx hb dX12_letter_357 rfl (lv_at hl 0 rfl) ?_
          refine zGetI (D := D) (ci := 12) (C := RX12) (T := TX12) (N := 71) hx hb hts hiX12 hown hH (zk_30 hGz.2.2) rfl 35 (by decide) rfl hw3 (fun _ h9 => h9) dX12_letter_358 q182 ?_
          refine lv_isub hx hb dX12_letter_361 ?_
          refine lv_topi (fun v184 ev184 => ?_)
          refine W.widen (k := 8) (n := 11264) (by decide) (by decide) ?_
          exact W.iret (v := v184) hx hb hr (fun t9 ht9 hW9 => ⟨⟨v184, (T, f180, G), rfl, (show ((∃ o2, o ≤ o2 ∧ o2 ≤ o + 1 ∧ zMo f180 n o2) ∧ (∃ g2 L2 d2, d2 ≤ d + 1 ∧ zMq T f180 G g2 L2 d2) ∧ f180 30 21 = nI 0 ∧ zGz τ fr T G ∧ ∀ a b, ¬ (a = 48 ∨ a = 49 ∨ (50 ≤ a ∧ a ≤ 64) ∨ (200 ≤ a ∧ a < 240) ∨ (a = 30 ∧ (b = 0 ∨ (21 ≤ b ∧ b ≤ 36) ∨ b = 45))) → f180 a b = fi a b) ∧ f180 30 24 = (zFv (zLet (fi 47) L (zS (fi 47) L 0))) from ⟨⟨⟨o, by omega, by omega, zMo.ci hMo (fun i9 k9 h9 => by rw [ef180, zu_n (by omega), ef176, zu_n (by omega), hfr8 _ _ (by omega), ef163, zu_n (by omega), ef154, zu_n (by omega), ef146, zu_n (by omega), ef139, zu_n (by omega), ef133, zu_n (by omega), ef128, zu_n (by omega)])⟩, ⟨g3, L3, d + 1, by omega, zMq.add (l0 := l0) hMq hdL3 hl8 q182 (by rw [ef180, zu_n (by omega), ef176, zu_n (by omega), hfr8 _ _ (by omega), ef163, zu_n (by omega), ef154, zu_n (by omega), ef146, zu_n (by omega), ef139, zu_s]) (fun k h => by rw [ef180, zu_n (by omega), ef176, zu_n (by omega), hfr8 _ _ (by omega), ef163, zu_n (by omega), ef154, zu_n (by omega), ef146, zu_n (by omega), ef139, zu_n (by omega), ef133, zu_n (by omega), ef128, zu_n (by omega)]) (fun k h => by rw [ef180, zu_n (by omega), ef176, zu_n (by omega), hcp k (by omega)]; exact hMl.2.2 k h) (fun k h => by rw [ef180, zu_n (by omega), ef176, zu_n (by omega), hco k h])⟩, by rw [ef180, zu_n (by omega), ef176, zu_n (by omega), hfr8 _ _ (by omega), ef163, zu_n (by omega), ef154, zu_n (by omega), ef146, zu_n (by omega), ef139, zu_n (by omega), ef133, zu_n (by omega), ef128, zu_n (by omega)]; exact q21, hGz, fun a b h => by rw [ef180, zu_n (by omega), ef176, zu_n (by omega), hfr8 _ _ (by omega), ef163, zu_n (by omega), ef154, zu_n (by omega), ef146, zu_n (by omega), ef139, zu_n (by omega), ef133, zu_n (by omega), ef128, zu_n (by omega)]; exact hfr7 a b h⟩, by rw [ef180, zu_n (by omega), ef176, zu_n (by omega), hfr8 _ _ (by omega), ef163, zu_n (by omega), ef154, zu_n (by omega), ef146, zu_n (by omega), ef139, zu_n (by omega), ef133, zu_n (by omega), ef128, zu_n (by omega)]; exact q24⟩), zEnd1 hH ht9 hW9⟩, hS.F ht9⟩) hS.2.2 dX12_letter_362
        · have zc174 := c174
          replace zc174 := zc_nle (nI_toInt (by omega)) (nI_toInt (by omega)) zc174
          refine lv_aload_n hx hb dX12_letter_286 rfl (lv_at hl 0 rfl) ?_
          refine zGetR (D := D) (ci := 12) (C := RX12) (T := TX12) (N := 71) hx hb hts hiX12 hown hH (zk_30 hGz.2.2) rfl 43 (by decide) rfl hw14 (fun _ h9 => h9) dX12_letter_287 hMq.2.2.2.2.1.2.2.2.2.2.2.1 ?_
          refine lv_bipush (v := nI 8) hx hb dX12_letter_290 (by decide) ?_
          refine lv_aload_n hx hb dX12_letter_292 rfl (lv_at hl 0 rfl) ?_
          refine zGetI (D := D) (ci := 12) (C := RX12) (T := TX12) (N := 71) hx hb hts hiX12 hown hH (zk_30 hGz.2.2) rfl 35 (by decide) rfl hw3 (fun _ h9 => h9) dX12_letter_293 p35 ?_
          refine lv_imul hx hb dX12_letter_296 ?_
          refine lv_topi (fun v185 ev185 => ?_)
          obtain rfl : v185 = nI (8 * d) := ev185.trans (pk_mul _ _)
          refine lv_iload hx hb dX12_letter_297 (lv_at hl 1 rfl) ?_
          refine lv_iadd hx hb dX12_letter_299 ?_
          refine lv_topi (fun v186 ev186 => ?_)
          obtain rfl : v186 = nI (8 * d + i) := ev186.trans (nI_add _ _)
          refine lv_aload_n hx hb dX12_letter_300 rfl (lv_at hl 0 rfl) ?_
          refine zGetR (D := D) (ci := 12) (C := RX12) (T := TX12) (N := 71) hx hb hts hiX12 hown hH (zk_30 hGz.2.2) rfl 27 (by decide) rfl hw15 (fun _ h9 => h9) dX12_letter_301 (zr_30_27 hGz.2.2) ?_
          refine lv_iload hx hb dX12_letter_304 (lv_at hl 1 rfl) ?_
          refine zIaldN (D := D) hx hb hH (zk_48 hGz.2.2) (zn_48 hGz.2.2) (by omega) (by omega) rfl dX12_letter_306 ?_
          refine zIastN (D := D) hx hb hH hS hMq.2.2.2.1.2.2.2.2.2.2.1.1 hMq.2.2.2.1.2.2.2.2.2.2.1.2 (by omega) (by omega) dX12_letter_307 (fun H locs hH hS => ?_)
          obtain ⟨f187, ef187⟩ : ∃ f9 : zFi, f9 = zu f8 (206 + 10 * g3) (8 * d + i) (f8 48 i) := ⟨_, rfl⟩
          rw [← ef187] at hH
          have q188 : f187 30 26 = nI l0 := by rw [ef187, zu_n (fun h9 => by omega)]; exact p26
          have q189 : f187 30 35 = nI d := by rw [ef187, zu_n (fun h9 => by omega)]; exact p35
          have q190 : f187 (206 + 10 * g3) (8 * d + i) = f8 48 i := by rw [ef187]; exact zu_s
          refine lv_aload_n hx hb dX12_letter_308 rfl (lv_at hl 0 rfl) ?_
          refine zGetR (D := D) (ci := 12) (C := RX12) (T := TX12) (N := 71) hx hb hts hiX12 hown hH (zk_30 hGz.2.2) rfl 44 (by decide) rfl hw16 (fun _ h9 => h9) dX12_letter_309 hMq.2.2.2.2.1.2.2.2.2.2.2.2 ?_
          refine lv_bipush (v := nI 8) hx hb dX12_letter_312 (by decide) ?_
          refine lv_aload_n hx hb dX12_letter_314 rfl (lv_at hl 0 rfl) ?_
          refine zGetI (D := D) (ci := 12) (C := RX12) (T := TX12) (N := 71) hx hb hts hiX12 hown hH (zk_30 hGz.2.2) rfl 35 (by decide) rfl hw3 (fun _ h9 => h9) dX12_letter_315 q189 ?_
          refine lv_imul hx hb dX12_letter_318 ?_
          refine lv_topi (fun v191 ev191 => ?_)
          obtain rfl : v191 = nI (8 * d) := ev191.trans (pk_mul _ _)
          refine lv_iload hx hb dX12_letter_319 (lv_at hl 1 rfl) ?_
          refine lv_iadd hx hb dX12_letter_321 ?_
          refine lv_topi (fun v192 ev192 => ?_)
          obtain rfl : v192 = nI (8 * d + i) := ev192.trans (nI_add _ _)
          refine lv_aload_n hx hb dX12_letter_322 rfl (lv_at hl 0 rfl) ?_
          refine zGetR (D := D) (ci := 12) (C := RX12) (T := TX12) (N := 71) hx hb hts hiX12 hown hH (zk_30 hGz.2.2) rfl 28 (by decide) rfl hw17 (fun _ h9 => h9) dX12_letter_323 (zr_30_28 hGz.2.2) ?_
          refine lv_iload hx hb dX12_letter_326 (lv_at hl 1 rfl) ?_
          refine zIaldN (D := D) hx hb hH (zk_49 hGz.2.2) (zn_49 hGz.2.2) (by omega) (by omega) rfl dX12_letter_328 ?_
          refine zIastN (D := D) hx hb hH hS hMq.2.2.2.1.2.2.2.2.2.2.2.1 hMq.2.2.2.1.2.2.2.2.2.2.2.2 (by omega) (by omega) dX12_letter_329 (fun H locs hH hS => ?_)
          obtain ⟨f193, ef193⟩ : ∃ f9 : zFi, f9 = zu f187 (207 + 10 * g3) (8 * d + i) (f187 49 i) := ⟨_, rfl⟩
          rw [← ef193] at hH
          have q194 : f193 30 26 = nI l0 := by rw [ef193, zu_n (fun h9 => by omega)]; exact q188
          have q195 : f193 30 35 = nI d := by rw [ef193, zu_n (fun h9 => by omega)]; exact q189
          have q196 : f193 (206 + 10 * g3) (8 * d + i) = f8 48 i := by rw [ef193, zu_n (fun h9 => by omega)]; exact q190
          have q197 : f193 (207 + 10 * g3) (8 * d + i) = f187 49 i := by rw [ef193]; exact zu_s
          refine lv_iinc (v := nI (i + 1)) (lv' := [(5, .int (nI (i + 1))), (0, .ref (T.1 30))]) hx hb dX12_letter_330 hl (k := 1) rfl (by rw [show (Int32.ofInt 1 : Int32) = nI 1 from by decide, nI_add]) (by decide) rfl (fun ls hl => ?_)
          refine lv_goto (tgt := 277) hx hb dX12_letter_333 (by decide) ?_
          exact ih173 (l0 - (i + 1)) (by omega) (i + 1, f193) _ _ _ (show l0 - (i + 1) = l0 - (i + 1) ∧ ((i + 1) ≤ l0 ∧ (∀ k, k < (i + 1) → f193 (207 + 10 * g3) (8 * d + k) = f7 49 k) ∧ (∀ b, b < 8 * d → f193 (207 + 10 * g3) b = f7 (207 + 10 * g3) b) ∧ ∀ a b, ¬ (a = 206 + 10 * g3 ∨ a = 207 + 10 * g3) → f193 a b = f163 a b) ∧ zH D A T f193 G ol s _ ∧ va_S A s.heap _ _ ∧ lv_has _ 6 [(0, .ref (T.1 30)), (5, .int (nI (i + 1)))] from ⟨rfl, ⟨by omega, fun k h => by by_cases h7 : k = i; (subst h7; rw [ef193, zu_s, ef187, zu_n (by omega), hfr8 _ _ (by omega), ef163, zu_n (by omega), ef154, zu_n (by omega), ef146, zu_n (by omega), ef139, zu_n (by omega), ef133, zu_n (by omega), ef128, zu_n (by omega)]); (rw [ef193, zu_n (by omega), ef187, zu_n (by omega)]; exact hcp k (by omega)), fun b h => by rw [ef193, zu_n (by omega), ef187, zu_n (by omega)]; exact hco b h, fun a b h => by rw [ef193, zu_n (by omega), ef187, zu_n (by omega)]; exact hfr8 a b h⟩, hH, hS, lv_sub hl [1, 0] rfl⟩)
      · skip
        refine lv_aload_n hx hb dX12_letter_186 rfl (lv_at hl 0 rfl) ?_
        refine zGetI (D := D) (ci := 12) (C := RX12) (T := TX12) (N := 71) hx hb hts hiX12 hown hH (zk_30 hF) rfl 35 (by decide) rfl hw3 (fun _ h9 => h9) dX12_letter_187 p35 ?_
        refine lv_aload_n hx hb dX12_letter_190 rfl (lv_at hl 0 rfl) ?_
        refine zGetR (D := D) (ci := 12) (C := RX12) (T := TX12) (N := 71) hx hb hts hiX12 hown hH (zk_30 hF) rfl 39 (by decide) rfl hw6 (fun _ h9 => h9) dX12_letter_191 hMq.2.2.2.2.1.2.2.1 ?_
        refine zAlen (D := D) hx hb hH hMq.2.2.2.1.2.2.1.1 (by decide) (by decide) hMq.2.2.2.1.2.2.1.2 dX12_letter_194 ?_
        refine lv_icmp_ne (tgt := 202) hx hb dX12_letter_195 (by decide) (fun c198 => ?_) (fun c198 => ?_)
        · have zc198 := c198
          replace zc198 := zc_neq (nI_toInt (by omega)) (nI_toInt (by omega)) zc198
          refine W.widen (k := 8) (n := 11264) (by decide) (by decide) ?_
          exact hJ127 (τ, f6, fr, g, Ln) _ _ _ (show (zGz τ fr τ fr ∧ zMq τ f6 fr g Ln d ∧ d < Ln ∧ zMl f6 l0 ∧ zMo f6 n o ∧ f6 30 21 = nI 0 ∧ f6 30 24 = (zFv (zLet (fi 47) L (zS (fi 47) L 0))) ∧ ∀ a b, ¬ (a = 48 ∨ a = 49 ∨ (50 ≤ a ∧ a ≤ 64) ∨ (200 ≤ a ∧ a < 240) ∨ (a = 30 ∧ (b = 0 ∨ (21 ≤ b ∧ b ≤ 36) ∨ b = 45))) → f6 a b = fi a b) ∧ zH D A τ f6 fr ol s _ ∧ va_S A s.heap _ _ ∧ lv_has _ 6 [(0, .ref (τ.1 30)), (3, .int y3)] from ⟨⟨zGz.rf hF, hMq, by omega, hMl, hMo, q21, q24, fun a b h => hfr6 a b (by omega)⟩, hH, hS, lv_sub hl [0, 3] rfl⟩)
        · have zc198 := c198
          replace zc198 := zc_eq (nI_toInt (by omega)) (nI_toInt (by omega)) zc198
          rcases hMq.1 with ⟨hg0, hL0⟩ | ⟨hg0, hL0⟩ | ⟨hg0, hL0⟩ | ⟨hg0, hL0⟩
          · skip
            refine lv_aload_n hx hb dX12_letter_198 rfl (lv_at hl 0 rfl) ?_
            refine va_callv (va_runV (As := []) (rest := []) ⟨hx, hb, hml, hown, hts⟩ (m_grow_0 l hl0 D A sad τ f6 fr ol hF (by have h9 := hMq; rw [hg0, hL0, show d = 64 by omega] at h9; exact h9)) (cwV 0 hts gX12_letter_X12_grow rfl rfl rfl (by decide +kernel) ⟨Nat.le_of_ble_eq_true rfl, Nat.le_of_ble_eq_true rfl⟩) ⟨zQc_bl, zRecv hH (zk_30 hF) rfl, zQc_at hz hS hA hH⟩ rfl rfl hl.1 rfl (lv_room (Nat.le_of_ble_eq_true rfl)) dX12_letter_199 ⟨Nat.le_of_ble_eq_true rfl, Nat.le_of_ble_eq_true rfl⟩) hS (fun q _ h => h) (fun q h => h) (fun u9 t9 H1 locs ht9 hvm9 hw hB hz1 hk1 hS => ?_)
            obtain ⟨τ200, f201, g202⟩ := u9
            have hH := zMv ht9 hvm9 hB
            clear hB
            simp only at hw hH
            generalize H1 = H at hH hS ⊢
            refine W.widen (k := 8) (n := 2816) (by decide) (by decide) ?_
            obtain ⟨hq7, hz7, hf7⟩ := hw
            have ha7 : ∀ i, ¬ (200 ≤ i ∧ i < 240) → τ200.1 i = τ.1 i := fun i h => (hz7.1 i h).1
            rw [show τ.1 30 = τ200.1 30 from (ha7 30 (by omega)).symm] at hl
            have q203 : f201 30 26 = nI l0 := by rw [hf7 30 26 (by omega)]; exact p26
            have q204 : f201 30 45 = nI o := by rw [hf7 30 45 (by omega)]; exact p45
            have q205 : f201 30 35 = nI d := by rw [hf7 30 35 (by omega)]; exact p35
            have q206 : f201 30 21 = nI 0 := by rw [hf7 30 21 (by omega)]; exact q21
            have q207 : f201 30 24 = (zFv (zLet (fi 47) L (zS (fi 47) L 0))) := by rw [hf7 30 24 (by omega)]; exact q24
            have hMl := zMl.ci (fi' := f201) hMl (fun i9 k9 h9 => hf7 i9 k9 (by omega))
            have hMo := zMo.ci (fi' := f201) hMo (fun i9 k9 h9 => hf7 i9 k9 (by omega))
            have hMq7 : zMq τ200 f201 g202 1 128 d := by have h9 := hq7; rw [show (64 : Nat) = d by omega] at h9; exact h9
            refine W.widen (k := 8) (n := 11264) (by decide) (by decide) ?_
            exact hJ127 (τ200, f201, g202, 1, 128) _ _ _ (show (zGz τ fr τ200 g202 ∧ zMq τ200 f201 g202 1 128 d ∧ d < 128 ∧ zMl f201 l0 ∧ zMo f201 n o ∧ f201 30 21 = nI 0 ∧ f201 30 24 = (zFv (zLet (fi 47) L (zS (fi 47) L 0))) ∧ ∀ a b, ¬ (a = 48 ∨ a = 49 ∨ (50 ≤ a ∧ a ≤ 64) ∨ (200 ≤ a ∧ a < 240) ∨ (a = 30 ∧ (b = 0 ∨ (21 ≤ b ∧ b ≤ 36) ∨ b = 45))) → f201 a b = fi a b) ∧ zH D A τ200 f201 g202 ol s _ ∧ va_S A s.heap _ _ ∧ lv_has _ 6 [(0, .ref (τ200.1 30)), (3, .int y3)] from ⟨⟨hz7, hMq7, by omega, hMl, hMo, q206, q207, fun a b h => by rw [hf7 a b (by omega)]; exact hfr6 a b (by omega)⟩, hH, hS, lv_sub hl [0, 3] rfl⟩)
          · skip
            refine lv_aload_n hx hb dX12_letter_198 rfl (lv_at hl 0 rfl) ?_
            refine va_callv (va_runV (As := []) (rest := []) ⟨hx, hb, hml, hown, hts⟩ (m_grow_1 l hl0 D A sad τ f6 fr ol hF (by have h9 := hMq; rw [hg0, hL0, show d = 128 by omega] at h9; exact h9)) (cwV 0 hts gX12_letter_X12_grow rfl rfl rfl (by decide +kernel) ⟨Nat.le_of_ble_eq_true rfl, Nat.le_of_ble_eq_true rfl⟩) ⟨zQc_bl, zRecv hH (zk_30 hF) rfl, zQc_at hz hS hA hH⟩ rfl rfl hl.1 rfl (lv_room (Nat.le_of_ble_eq_true rfl)) dX12_letter_199 ⟨Nat.le_of_ble_eq_true rfl, Nat.le_of_ble_eq_true rfl⟩) hS (fun q _ h => h) (fun q h => h) (fun u9 t9 H1 locs ht9 hvm9 hw hB hz1 hk1 hS => ?_)
            obtain ⟨τ209, f210, g211⟩ := u9
            have hH := zMv ht9 hvm9 hB
            clear hB
            simp only at hw hH
            generalize H1 = H at hH hS ⊢
            refine W.widen (k := 8) (n := 5632) (by decide) (by decide) ?_
            obtain ⟨hq7, hz7, hf7⟩ := hw
            have ha7 : ∀ i, ¬ (200 ≤ i ∧ i < 240) → τ209.1 i = τ.1 i := fun i h => (hz7.1 i h).1
            rw [show τ.1 30 = τ209.1 30 from (ha7 30 (by omega)).symm] at hl
            have q212 : f210 30 26 = nI l0 := by rw [hf7 30 26 (by omega)]; exact p26
            have q213 : f210 30 45 = nI o := by rw [hf7 30 45 (by omega)]; exact p45
            have q214 : f210 30 35 = nI d := by rw [hf7 30 35 (by omega)]; exact p35
            have q215 : f210 30 21 = nI 0 := by rw [hf7 30 21 (by omega)]; exact q21
            have q216 : f210 30 24 = (zFv (zLet (fi 47) L (zS (fi 47) L 0))) := by rw [hf7 30 24 (by omega)]; exact q24
            have hMl := zMl.ci (fi' := f210) hMl (fun i9 k9 h9 => hf7 i9 k9 (by omega))
            have hMo := zMo.ci (fi' := f210) hMo (fun i9 k9 h9 => hf7 i9 k9 (by omega))
            have hMq7 : zMq τ209 f210 g211 2 256 d := by have h9 := hq7; rw [show (128 : Nat) = d by omega] at h9; exact h9
            refine W.widen (k := 8) (n := 11264) (by decide) (by decide) ?_
            exact hJ127 (τ209, f210, g211, 2, 256) _ _ _ (show (zGz τ fr τ209 g211 ∧ zMq τ209 f210 g211 2 256 d ∧ d < 256 ∧ zMl f210 l0 ∧ zMo f210 n o ∧ f210 30 21 = nI 0 ∧ f210 30 24 = (zFv (zLet (fi 47) L (zS (fi 47) L 0))) ∧ ∀ a b, ¬ (a = 48 ∨ a = 49 ∨ (50 ≤ a ∧ a ≤ 64) ∨ (200 ≤ a ∧ a < 240) ∨ (a = 30 ∧ (b = 0 ∨ (21 ≤ b ∧ b ≤ 36) ∨ b = 45))) → f210 a b = fi a b) ∧ zH D A τ209 f210 g211 ol s _ ∧ va_S A s.heap _ _ ∧ lv_has _ 6 [(0, .ref (τ209.1 30)), (3, .int y3)] from ⟨⟨hz7, hMq7, by omega, hMl, hMo, q215, q216, fun a b h => by rw [hf7 a b (by omega)]; exact hfr6 a b (by omega)⟩, hH, hS, lv_sub hl [0, 3] rfl⟩)
          · skip
            refine lv_aload_n hx hb dX12_letter_198 rfl (lv_at hl 0 rfl) ?_
            refine va_callv (va_runV (As := []) (rest := []) ⟨hx, hb, hml, hown, hts⟩ (m_grow_2 l hl0 D A sad τ f6 fr ol hF (by have h9 := hMq; rw [hg0, hL0, show d = 256 by omega] at h9; exact h9)) (cwV 0 hts gX12_letter_X12_grow rfl rfl rfl (by decide +kernel) ⟨Nat.le_of_ble_eq_true rfl, Nat.le_of_ble_eq_true rfl⟩) ⟨zQc_bl, zRecv hH (zk_30 hF) rfl, zQc_at hz hS hA hH⟩ rfl rfl hl.1 rfl (lv_room (Nat.le_of_ble_eq_true rfl)) dX12_letter_199 ⟨Nat.le_of_ble_eq_true rfl, Nat.le_of_ble_eq_true rfl⟩) hS (fun q _ h => h) (fun q h => h) (fun u9 t9 H1 locs ht9 hvm9 hw hB hz1 hk1 hS => ?_)
            obtain ⟨τ218, f219, g220⟩ := u9
            have hH := zMv ht9 hvm9 hB
            clear hB
            simp only at hw hH
            generalize H1 = H at hH hS ⊢
            refine W.widen (k := 8) (n := 11264) (by decide) (by decide) ?_
            obtain ⟨hq7, hz7, hf7⟩ := hw
            have ha7 : ∀ i, ¬ (200 ≤ i ∧ i < 240) → τ218.1 i = τ.1 i := fun i h => (hz7.1 i h).1
            rw [show τ.1 30 = τ218.1 30 from (ha7 30 (by omega)).symm] at hl
            have q221 : f219 30 26 = nI l0 := by rw [hf7 30 26 (by omega)]; exact p26
            have q222 : f219 30 45 = nI o := by rw [hf7 30 45 (by omega)]; exact p45
            have q223 : f219 30 35 = nI d := by rw [hf7 30 35 (by omega)]; exact p35
            have q224 : f219 30 21 = nI 0 := by rw [hf7 30 21 (by omega)]; exact q21
            have q225 : f219 30 24 = (zFv (zLet (fi 47) L (zS (fi 47) L 0))) := by rw [hf7 30 24 (by omega)]; exact q24
            have hMl := zMl.ci (fi' := f219) hMl (fun i9 k9 h9 => hf7 i9 k9 (by omega))
            have hMo := zMo.ci (fi' := f219) hMo (fun i9 k9 h9 => hf7 i9 k9 (by omega))
            have hMq7 : zMq τ218 f219 g220 3 512 d := by have h9 := hq7; rw [show (256 : Nat) = d by omega] at h9; exact h9
            refine W.widen (k := 8) (n := 11264) (by decide) (by decide) ?_
            exact hJ127 (τ218, f219, g220, 3, 512) _ _ _ (show (zGz τ fr τ218 g220 ∧ zMq τ218 f219 g220 3 512 d ∧ d < 512 ∧ zMl f219 l0 ∧ zMo f219 n o ∧ f219 30 21 = nI 0 ∧ f219 30 24 = (zFv (zLet (fi 47) L (zS (fi 47) L 0))) ∧ ∀ a b, ¬ (a = 48 ∨ a = 49 ∨ (50 ≤ a ∧ a ≤ 64) ∨ (200 ≤ a ∧ a < 240) ∨ (a = 30 ∧ (b = 0 ∨ (21 ≤ b ∧ b ≤ 36) ∨ b = 45))) → f219 a b = fi a b) ∧ zH D A τ218 f219 g220 ol s _ ∧ va_S A s.heap _ _ ∧ lv_has _ 6 [(0, .ref (τ218.1 30)), (3, .int y3)] from ⟨⟨hz7, hMq7, by omega, hMl, hMo, q224, q225, fun a b h => by rw [hf7 a b (by omega)]; exact hfr6 a b (by omega)⟩, hH, hS, lv_sub hl [0, 3] rfl⟩)
          · exact absurd hd5 (by omega)
    · skip
      refine lv_aload_n hx hb dX12_letter_23 rfl (lv_at hl 0 rfl) ?_
      refine lv_iconst (v := (-1)) hx hb dX12_letter_24 (by decide) ?_
      refine lv_iconst (v := nI 0) hx hb dX12_letter_25 (by decide) ?_
      refine va_calli (va_runV (As := [.int ((-1)), .int (nI 0)]) (rest := []) ⟨hx, hb, hml, hown, hts⟩ (m_total l hl0 D A sad τ f116 fr ol ((-1)) (nI 0) hF n hMt l0 hMl) (cwV 2 hts gX12_letter_X12_total rfl rfl rfl (by decide +kernel) ⟨Nat.le_of_ble_eq_true rfl, Nat.le_of_ble_eq_true rfl⟩) ⟨zQc_bl, zRecv hH (zk_30 hF) rfl, zQc_at hz hS hA hH⟩ rfl rfl hl.1 rfl (lv_room (Nat.le_of_ble_eq_true rfl)) dX12_letter_26 ⟨Nat.le_of_ble_eq_true rfl, Nat.le_of_ble_eq_true rfl⟩) hS (fun q _ h => h) (fun q h => h) (fun r226 u9 t9 H1 locs ht9 hvm9 hw hB hz1 hk1 hS => ?_)
      have hH := zMv ht9 hvm9 hB
      generalize H1 = H at hH hS ⊢
      clear hw
      refine lv_aload_n hx hb dX12_letter_29 rfl (lv_at hl 0 rfl) ?_
      refine zGetI (D := D) (ci := 12) (C := RX12) (T := TX12) (N := 71) hx hb hts hiX12 hown hH (zk_30 hF) rfl 29 (by decide) rfl hw10 (fun _ h9 => h9) dX12_letter_30 rfl ?_
      refine lv_icmp_ne (tgt := 40) hx hb dX12_letter_33 (by decide) (fun c227 => ?_) (fun c227 => ?_)
      · have zc227 := c227
        replace zc227 := zc_neq (rfl) (rfl) zc227
        refine lv_iconst (v := nI 0) hx hb dX12_letter_40 (by decide) ?_
        refine lv_istore_n (lv' := [(1, .int (nI 0)), (0, .ref (τ.1 30))]) hx hb dX12_letter_41 rfl hl (by decide) rfl (fun ls hl => ?_)
        refine lv_aload_n hx hb dX12_letter_42 rfl (lv_at hl 1 rfl) ?_
        refine lv_iconst (v := nI 0) hx hb dX12_letter_43 (by decide) ?_
        refine zPutI (D := D) (ci := 12) (ty := .int) (C := RX12) (T := TX12) (N := 71) hx hb hts hiX12 tyX12 tyX12_ok nmX12 hown hH hS (zk_30 hF) rfl 31 (by decide) rfl hw5 (fun _ h9 => h9) rfl (by decide +kernel) rfl rfl dX12_letter_44 (fun H locs hH hS => ?_)
        obtain ⟨f228, ef228⟩ : ∃ f9 : zFi, f9 = zu f116 30 31 (nI 0) := ⟨_, rfl⟩
        rw [← ef228] at hH
        have q229 : f228 30 45 = nI o := by rw [ef228, zu_n (fun h9 => absurd h9.2 (by decide))]; exact q119
        have q230 : f228 30 35 = nI d := by rw [ef228, zu_n (fun h9 => absurd h9.2 (by decide))]; exact q120
        have q231 : f228 30 2 = nI n := by rw [ef228, zu_n (fun h9 => absurd h9.2 (by decide))]; exact q121
        have q232 : f228 30 21 = nI 0 := by rw [ef228, zu_n (fun h9 => absurd h9.2 (by decide))]; exact q122
        have q233 : f228 30 22 = nI L := by rw [ef228, zu_n (fun h9 => absurd h9.2 (by decide))]; exact q123
        have q234 : f228 30 0 = nI 0 := by rw [ef228, zu_n (fun h9 => absurd h9.2 (by decide))]; exact q124
        have q235 : f228 30 26 = nI l0 := by rw [ef228, zu_n (fun h9 => absurd h9.2 (by decide))]; exact hMl.2.1
        have q236 : f228 30 24 = (zFv (zLet (fi 47) L (zS (fi 47) L 0))) := by rw [ef228, zu_n (fun h9 => absurd h9.2 (by decide))]; exact k24
        have q237 : f228 30 31 = nI 0 := by rw [ef228]; exact zu_s
        have hMt := zMt.ci (fi' := f228) hMt (fun i9 k9 h9 => by rw [ef228]; exact zu_n (by omega))
        have hMo := zMo.ci (fi' := f228) hMo (fun i9 k9 h9 => by rw [ef228]; exact zu_n (by omega))
        have hMq := zMq.ci (fi' := f228) hMq (fun i9 k9 h9 => by rw [ef228]; exact zu_n (by omega))
        have hMl := zMl.ci (fi' := f228) hMl (fun i9 k9 h9 => by rw [ef228]; exact zu_n (by omega))
        refine lv_iload_n hx hb dX12_letter_47 rfl (lv_at hl 0 rfl) ?_
        refine lv_if_ne (tgt := 55) hx hb dX12_letter_48 (by decide) (fun c238 => absurd (by decide) c238) (fun c238 => ?_)
        refine lv_aload_n hx hb dX12_letter_51 rfl (lv_at hl 1 rfl) ?_
        refine va_callv (va_runV (As := []) (rest := []) ⟨hx, hb, hml, hown, hts⟩ (m_findM l hl0 D A sad τ f228 fr ol hF n hMt l0 hMl) (cwV 0 hts gX12_letter_X12_findMendings rfl rfl rfl (by decide +kernel) ⟨Nat.le_of_ble_eq_true rfl, Nat.le_of_ble_eq_true rfl⟩) ⟨zQc_bl, zRecv hH (zk_30 hF) rfl, zQc_at hz hS hA hH⟩ rfl rfl hl.1 rfl (lv_room (Nat.le_of_ble_eq_true rfl)) dX12_letter_52 ⟨Nat.le_of_ble_eq_true rfl, Nat.le_of_ble_eq_true rfl⟩) hS (fun q _ h => h) (fun q h => h) (fun u9 t9 H1 locs ht9 hvm9 hw hB hz1 hk1 hS => ?_)
        have hH := zMv ht9 hvm9 hB
        clear hB
        generalize u9 = f240 at hw hH
        generalize H1 = H at hH hS ⊢
        obtain ⟨hfm, hf241⟩ := hw
        have q242 : f240 30 45 = nI o := by rw [hf241 30 45 (by omega)]; exact q229
        have q243 : f240 30 35 = nI d := by rw [hf241 30 35 (by omega)]; exact q230
        have q244 : f240 30 2 = nI n := by rw [hf241 30 2 (by omega)]; exact q231
        have q245 : f240 30 21 = nI 0 := by rw [hf241 30 21 (by omega)]; exact q232
        have q246 : f240 30 22 = nI L := by rw [hf241 30 22 (by omega)]; exact q233
        have q247 : f240 30 0 = nI 0 := by rw [hf241 30 0 (by omega)]; exact q234
        have q248 : f240 30 26 = nI l0 := by rw [hf241 30 26 (by omega)]; exact q235
        have q249 : f240 30 24 = (zFv (zLet (fi 47) L (zS (fi 47) L 0))) := by rw [hf241 30 24 (by omega)]; exact q236
        have hMt := zMt.ci (fi' := f240) hMt (fun i9 k9 h9 => hf241 i9 k9 (by omega))
        have hMo := zMo.ci (fi' := f240) hMo (fun i9 k9 h9 => hf241 i9 k9 (by omega))
        have hMq := zMq.ci (fi' := f240) hMq (fun i9 k9 h9 => hf241 i9 k9 (by omega))
        have hMl := zMl.ci (fi' := f240) hMl (fun i9 k9 h9 => hf241 i9 k9 (by omega))
        refine lv_iload_n hx hb dX12_letter_55 rfl (lv_at hl 0 rfl) ?_
        refine lv_if_ne (tgt := 71) hx hb dX12_letter_56 (by decide) (fun c250 => absurd (by decide) c250) (fun c250 => ?_)
        refine lv_aload_n hx hb dX12_letter_59 rfl (lv_at hl 1 rfl) ?_
        refine zGetI (D := D) (ci := 12) (C := RX12) (T := TX12) (N := 71) hx hb hts hiX12 hown hH (zk_30 hF) rfl 31 (by decide) rfl hw5 (fun _ h9 => h9) dX12_letter_60 rfl ?_
        refine lv_iconst (v := nI 1) hx hb dX12_letter_63 (by decide) ?_
        refine lv_icmp_ne (tgt := 71) hx hb dX12_letter_64 (by decide) (fun c251 => ?_) (fun c251 => ?_)
        · have zc251 := c251
          replace zc251 := zc_neq (rfl) (nI_toInt (by omega)) zc251
          refine lv_iconst (v := nI 0) hx hb dX12_letter_71 (by decide) ?_
          refine lv_istore_n (lv' := [(2, .int (nI 0)), (1, .int (nI 0)), (0, .ref (τ.1 30))]) hx hb dX12_letter_72 rfl hl (by decide) rfl (fun ls hl => ?_)
          refine lv_iload_n hx hb dX12_letter_73 rfl (lv_at hl 0 rfl) ?_
          refine lv_if_eq (tgt := 90) hx hb dX12_letter_74 (by decide) (fun c252 => ?_) (fun c252 => absurd (by decide) c252)
          refine lv_aload_n hx hb dX12_letter_90 rfl (lv_at hl 2 rfl) ?_
          refine va_calli (va_runV (As := []) (rest := []) ⟨hx, hb, hml, hown, hts⟩ (m_known l hl0 D A sad τ f240 fr ol hF n hMt l0 hMl) (cwV 0 hts gX12_letter_X12_known rfl rfl rfl (by decide +kernel) ⟨Nat.le_of_ble_eq_true rfl, Nat.le_of_ble_eq_true rfl⟩) ⟨zQc_bl, zRecv hH (zk_30 hF) rfl, zQc_at hz hS hA hH⟩ rfl rfl hl.1 rfl (lv_room (Nat.le_of_ble_eq_true rfl)) dX12_letter_91 ⟨Nat.le_of_ble_eq_true rfl, Nat.le_of_ble_eq_true rfl⟩) hS (fun q _ h => h) (fun q h => h) (fun r253 u9 t9 H1 locs ht9 hvm9 hw hB hz1 hk1 hS => ?_)
          have hH := zMv ht9 hvm9 hB
          generalize H1 = H at hH hS ⊢
          clear hw
          refine lv_istore_n (lv' := [(3, .int r253), (2, .int (nI 0)), (1, .int (nI 0)), (0, .ref (τ.1 30))]) hx hb dX12_letter_94 rfl hl (by decide) rfl (fun ls hl => ?_)
          refine lv_iload_n hx hb dX12_letter_95 rfl (lv_at hl 2 rfl) ?_
          refine lv_if_ne (tgt := 103) hx hb dX12_letter_96 (by decide) (fun c254 => absurd (by decide) c254) (fun c254 => ?_)
          refine lv_iload_n hx hb dX12_letter_99 rfl (lv_at hl 1 rfl) ?_
          refine lv_if_eq (tgt := 122) hx hb dX12_letter_100 (by decide) (fun c255 => ?_) (fun c255 => absurd (by decide) c255)
          refine lv_iconst (v := nI 0) hx hb dX12_letter_122 (by decide) ?_
          refine lv_istore (lv' := [(4, .int (nI 0)), (3, .int r253), (2, .int (nI 0)), (1, .int (nI 0)), (0, .ref (τ.1 30))]) hx hb dX12_letter_123 hl (by decide) rfl (fun ls hl => ?_)
          refine lv_iload hx hb dX12_letter_125 (lv_at hl 0 rfl) ?_
          refine lv_if_eq (tgt := 142) hx hb dX12_letter_127 (by decide) (fun c256 => ?_) (fun c256 => absurd (by decide) c256)
          refine lv_aload_n hx hb dX12_letter_142 rfl (lv_at hl 4 rfl) ?_
          refine zGetI (D := D) (ci := 12) (C := RX12) (T := TX12) (N := 71) hx hb hts hiX12 hown hH (zk_30 hF) rfl 36 (by decide) rfl hw13 (fun _ h9 => h9) dX12_letter_143 rfl ?_
          refine lv_bipush (v := nI 20) hx hb dX12_letter_146 (by decide) ?_
          refine lv_icmp_ne (tgt := 158) hx hb dX12_letter_148 (by decide) (fun c257 => ?_) (fun c257 => ?_)
          · have zc257 := c257
            replace zc257 := zc_neq (rfl) (nI_toInt (by omega)) zc257
            refine lv_iload hx hb dX12_letter_158 (lv_at hl 0 rfl) ?_
            refine lv_if_eq (tgt := 186) hx hb dX12_letter_160 (by decide) (fun c258 => ?_) (fun c258 => absurd (by decide) c258)
            exact hJ126 (f240, nI 0, nI 0, r253) _ _ _ (show (zMl f240 l0 ∧ f240 30 21 = nI 0 ∧ f240 30 24 = (zFv (zLet (fi 47) L (zS (fi 47) L 0))) ∧ zMo f240 n o ∧ zMq τ f240 fr g Ln d ∧ ∀ a b, ¬ (a = 48 ∨ a = 49 ∨ (a = 30 ∧ (b = 0 ∨ (21 ≤ b ∧ b ≤ 34)))) → f240 a b = fi a b) ∧ zH D A τ f240 fr ol s _ ∧ va_S A s.heap _ _ ∧ lv_has _ 6 [(0, .ref (τ.1 30)), (1, .int (nI 0)), (2, .int (nI 0)), (3, .int r253)] from ⟨⟨hMl, q245, q249, hMo, hMq, fun a b h => by rw [hf241 a b (by omega), ef228, zu_n (by omega), hf118 a b (by omega), ef106, zu_n (by omega), hf21 a b (by omega)]⟩, hH, hS, lv_sub hl [4, 3, 2, 1] rfl⟩)
          · have zc257 := c257
            replace zc257 := zc_eq (rfl) (nI_toInt (by omega)) zc257
            refine lv_aload_n hx hb dX12_letter_151 rfl (lv_at hl 4 rfl) ?_
            refine lv_iconst (v := nI 2) hx hb dX12_letter_152 (by decide) ?_
            refine zPutI (D := D) (ci := 12) (ty := .int) (C := RX12) (T := TX12) (N := 71) hx hb hts hiX12 tyX12 tyX12_ok nmX12 hown hH hS (zk_30 hF) rfl 0 (by decide) rfl hw0 (fun _ h9 => h9) rfl (by decide +kernel) rfl rfl dX12_letter_153 (fun H locs hH hS => ?_)
            obtain ⟨f259, ef259⟩ : ∃ f9 : zFi, f9 = zu f240 30 0 (nI 2) := ⟨_, rfl⟩
            rw [← ef259] at hH
            have q260 : f259 30 45 = nI o := by rw [ef259, zu_n (fun h9 => absurd h9.2 (by decide))]; exact q242
            have q261 : f259 30 35 = nI d := by rw [ef259, zu_n (fun h9 => absurd h9.2 (by decide))]; exact q243
            have q262 : f259 30 2 = nI n := by rw [ef259, zu_n (fun h9 => absurd h9.2 (by decide))]; exact q244
            have q263 : f259 30 21 = nI 0 := by rw [ef259, zu_n (fun h9 => absurd h9.2 (by decide))]; exact q245
            have q264 : f259 30 22 = nI L := by rw [ef259, zu_n (fun h9 => absurd h9.2 (by decide))]; exact q246
            have q265 : f259 30 26 = nI l0 := by rw [ef259, zu_n (fun h9 => absurd h9.2 (by decide))]; exact q248
            have q266 : f259 30 24 = (zFv (zLet (fi 47) L (zS (fi 47) L 0))) := by rw [ef259, zu_n (fun h9 => absurd h9.2 (by decide))]; exact q249
            have q267 : f259 30 0 = nI 2 := by rw [ef259]; exact zu_s
            have hMt := zMt.ci (fi' := f259) hMt (fun i9 k9 h9 => by rw [ef259]; exact zu_n (by omega))
            have hMo := zMo.ci (fi' := f259) hMo (fun i9 k9 h9 => by rw [ef259]; exact zu_n (by omega))
            have hMq := zMq.ci (fi' := f259) hMq (fun i9 k9 h9 => by rw [ef259]; exact zu_n (by omega))
            have hMl := zMl.ci (fi' := f259) hMl (fun i9 k9 h9 => by rw [ef259]; exact zu_n (by omega))
            refine lv_iconst (v := nI 0) hx hb dX12_letter_156 (by decide) ?_
            refine W.widen (k := 8) (n := 11264) (by decide) (by decide) ?_
            exact W.iret (v := nI 0) hx hb hr (fun t9 ht9 hW9 => ⟨⟨nI 0, (τ, f259, fr), rfl, (show ((∃ o2, o ≤ o2 ∧ o2 ≤ o + 1 ∧ zMo f259 n o2) ∧ (∃ g2 L2 d2, d2 ≤ d + 1 ∧ zMq τ f259 fr g2 L2 d2) ∧ f259 30 21 = nI 0 ∧ zGz τ fr τ fr ∧ ∀ a b, ¬ (a = 48 ∨ a = 49 ∨ (50 ≤ a ∧ a ≤ 64) ∨ (200 ≤ a ∧ a < 240) ∨ (a = 30 ∧ (b = 0 ∨ (21 ≤ b ∧ b ≤ 36) ∨ b = 45))) → f259 a b = fi a b) ∧ f259 30 24 = (zFv (zLet (fi 47) L (zS (fi 47) L 0))) from ⟨⟨⟨o, by omega, by omega, hMo⟩, ⟨g, Ln, d, by omega, hMq⟩, q263, zGz.rf hF, fun a b h => by rw [ef259, zu_n (by omega), hf241 a b (by omega), ef228, zu_n (by omega), hf118 a b (by omega), ef106, zu_n (by omega), hf21 a b (by omega)]⟩, q266⟩), zEnd1 hH ht9 hW9⟩, hS.F ht9⟩) hS.2.2 dX12_letter_157
        · have zc251 := c251
          replace zc251 := zc_eq (rfl) (nI_toInt (by omega)) zc251
          obtain ⟨km, hkm, hkq⟩ : ∃ k, k < 8 ∧ f240 30 32 = nI k := by rcases hfm with h9 | h9; (rw [h9] at zc251; exact absurd zc251 (by decide)); exact h9
          refine lv_iconst (v := nI 1) hx hb dX12_letter_67 (by decide) ?_
          refine lv_goto (tgt := 72) hx hb dX12_letter_68 (by decide) ?_
          refine lv_istore_n (lv' := [(2, .int (nI 1)), (1, .int (nI 0)), (0, .ref (τ.1 30))]) hx hb dX12_letter_72 rfl hl (by decide) rfl (fun ls hl => ?_)
          refine lv_iload_n hx hb dX12_letter_73 rfl (lv_at hl 0 rfl) ?_
          refine lv_if_eq (tgt := 90) hx hb dX12_letter_74 (by decide) (fun c268 => absurd c268 (by decide)) (fun c268 => ?_)
          refine lv_aload_n hx hb dX12_letter_77 rfl (lv_at hl 2 rfl) ?_
          refine zGetR (D := D) (ci := 12) (C := RX12) (T := TX12) (N := 71) hx hb hts hiX12 hown hH (zk_30 hF) rfl 27 (by decide) rfl hw15 (fun _ h9 => h9) dX12_letter_78 (zr_30_27 hF) ?_
          refine lv_aload_n hx hb dX12_letter_81 rfl (lv_at hl 2 rfl) ?_
          refine zGetI (D := D) (ci := 12) (C := RX12) (T := TX12) (N := 71) hx hb hts hiX12 hown hH (zk_30 hF) rfl 32 (by decide) rfl hw18 (fun _ h9 => h9) dX12_letter_82 hkq ?_
          refine lv_aload_n hx hb dX12_letter_85 rfl (lv_at hl 2 rfl) ?_
          refine zGetI (D := D) (ci := 12) (C := RX12) (T := TX12) (N := 71) hx hb hts hiX12 hown hH (zk_30 hF) rfl 33 (by decide) rfl hw19 (fun _ h9 => h9) dX12_letter_86 rfl ?_
          refine zIastN (D := D) hx hb hH hS (zk_48 hF) (zn_48 hF) (by omega) (by omega) dX12_letter_89 (fun H locs hH hS => ?_)
          obtain ⟨f269, ef269⟩ : ∃ f9 : zFi, f9 = zu f240 48 km (f240 30 33) := ⟨_, rfl⟩
          rw [← ef269] at hH
          have q270 : f269 30 45 = nI o := by rw [ef269, zu_n (fun h9 => absurd h9.1 (by decide))]; exact q242
          have q271 : f269 30 35 = nI d := by rw [ef269, zu_n (fun h9 => absurd h9.1 (by decide))]; exact q243
          have q272 : f269 30 2 = nI n := by rw [ef269, zu_n (fun h9 => absurd h9.1 (by decide))]; exact q244
          have q273 : f269 30 21 = nI 0 := by rw [ef269, zu_n (fun h9 => absurd h9.1 (by decide))]; exact q245
          have q274 : f269 30 22 = nI L := by rw [ef269, zu_n (fun h9 => absurd h9.1 (by decide))]; exact q246
          have q275 : f269 30 0 = nI 0 := by rw [ef269, zu_n (fun h9 => absurd h9.1 (by decide))]; exact q247
          have q276 : f269 30 26 = nI l0 := by rw [ef269, zu_n (fun h9 => absurd h9.1 (by decide))]; exact q248
          have q277 : f269 30 24 = (zFv (zLet (fi 47) L (zS (fi 47) L 0))) := by rw [ef269, zu_n (fun h9 => absurd h9.1 (by decide))]; exact q249
          have q278 : f269 30 32 = nI km := by rw [ef269, zu_n (fun h9 => absurd h9.1 (by decide))]; exact hkq
          have q279 : f269 48 km = f240 30 33 := by rw [ef269]; exact zu_s
          have hMt := zMt.ci (fi' := f269) hMt (fun i9 k9 h9 => by rw [ef269]; exact zu_n (by omega))
          have hMo := zMo.ci (fi' := f269) hMo (fun i9 k9 h9 => by rw [ef269]; exact zu_n (by omega))
          have hMq := zMq.ci (fi' := f269) hMq (fun i9 k9 h9 => by rw [ef269]; exact zu_n (by omega))
          have hMl := zMl.ci (fi' := f269) hMl (fun i9 k9 h9 => by rw [ef269]; exact zu_n (by omega))
          refine lv_aload_n hx hb dX12_letter_90 rfl (lv_at hl 2 rfl) ?_
          refine va_calli (va_runV (As := []) (rest := []) ⟨hx, hb, hml, hown, hts⟩ (m_known l hl0 D A sad τ f269 fr ol hF n hMt l0 hMl) (cwV 0 hts gX12_letter_X12_known rfl rfl rfl (by decide +kernel) ⟨Nat.le_of_ble_eq_true rfl, Nat.le_of_ble_eq_true rfl⟩) ⟨zQc_bl, zRecv hH (zk_30 hF) rfl, zQc_at hz hS hA hH⟩ rfl rfl hl.1 rfl (lv_room (Nat.le_of_ble_eq_true rfl)) dX12_letter_91 ⟨Nat.le_of_ble_eq_true rfl, Nat.le_of_ble_eq_true rfl⟩) hS (fun q _ h => h) (fun q h => h) (fun r280 u9 t9 H1 locs ht9 hvm9 hw hB hz1 hk1 hS => ?_)
          have hH := zMv ht9 hvm9 hB
          generalize H1 = H at hH hS ⊢
          clear hw
          refine lv_istore_n (lv' := [(3, .int r280), (2, .int (nI 1)), (1, .int (nI 0)), (0, .ref (τ.1 30))]) hx hb dX12_letter_94 rfl hl (by decide) rfl (fun ls hl => ?_)
          refine lv_iload_n hx hb dX12_letter_95 rfl (lv_at hl 2 rfl) ?_
          refine lv_if_ne (tgt := 103) hx hb dX12_letter_96 (by decide) (fun c281 => absurd (by decide) c281) (fun c281 => ?_)
          refine lv_iload_n hx hb dX12_letter_99 rfl (lv_at hl 1 rfl) ?_
          refine lv_if_eq (tgt := 122) hx hb dX12_letter_100 (by decide) (fun c282 => absurd c282 (by decide)) (fun c282 => ?_)
          refine lv_aload_n hx hb dX12_letter_103 rfl (lv_at hl 3 rfl) ?_
          refine zGetI (D := D) (ci := 12) (C := RX12) (T := TX12) (N := 71) hx hb hts hiX12 hown hH (zk_30 hF) rfl 30 (by decide) rfl hw12 (fun _ h9 => h9) dX12_letter_104 rfl ?_
          refine lv_aload_n hx hb dX12_letter_107 rfl (lv_at hl 3 rfl) ?_
          refine lv_aload_n hx hb dX12_letter_108 rfl (lv_at hl 3 rfl) ?_
          refine zGetI (D := D) (ci := 12) (C := RX12) (T := TX12) (N := 71) hx hb hts hiX12 hown hH (zk_30 hF) rfl 29 (by decide) rfl hw10 (fun _ h9 => h9) dX12_letter_109 rfl ?_
          refine va_calli (va_runV (As := [.int (f269 30 29)]) (rest := [.int (f269 30 30)]) ⟨hx, hb, hml, hown, hts⟩ (m_due l hl0 D A sad τ f269 fr ol (f269 30 29) hF) (cwV 1 hts gX12_letter_X12_due rfl rfl rfl (by decide +kernel) ⟨Nat.le_of_ble_eq_true rfl, Nat.le_of_ble_eq_true rfl⟩) ⟨zQc_bl, zRecv hH (zk_30 hF) rfl, zQc_at hz hS hA hH⟩ rfl rfl hl.1 rfl (lv_room (Nat.le_of_ble_eq_true rfl)) dX12_letter_112 ⟨Nat.le_of_ble_eq_true rfl, Nat.le_of_ble_eq_true rfl⟩) hS (fun q _ h => h) (fun q h => h) (fun r283 u9 t9 H1 locs ht9 hvm9 hw hB hz1 hk1 hS => ?_)
          have hH := zMv ht9 hvm9 hB
          generalize H1 = H at hH hS ⊢
          clear hw
          refine lv_icmp_lt (tgt := 122) hx hb dX12_letter_115 (by decide) (fun c284 => ?_) (fun c284 => ?_)
          · have zc284 := c284
            replace zc284 := zc_lt (rfl) (rfl) zc284
            refine lv_iconst (v := nI 0) hx hb dX12_letter_122 (by decide) ?_
            refine lv_istore (lv' := [(4, .int (nI 0)), (3, .int r280), (2, .int (nI 1)), (1, .int (nI 0)), (0, .ref (τ.1 30))]) hx hb dX12_letter_123 hl (by decide) rfl (fun ls hl => ?_)
            refine lv_iload hx hb dX12_letter_125 (lv_at hl 0 rfl) ?_
            refine lv_if_eq (tgt := 142) hx hb dX12_letter_127 (by decide) (fun c285 => ?_) (fun c285 => absurd (by decide) c285)
            refine lv_aload_n hx hb dX12_letter_142 rfl (lv_at hl 4 rfl) ?_
            refine zGetI (D := D) (ci := 12) (C := RX12) (T := TX12) (N := 71) hx hb hts hiX12 hown hH (zk_30 hF) rfl 36 (by decide) rfl hw13 (fun _ h9 => h9) dX12_letter_143 rfl ?_
            refine lv_bipush (v := nI 20) hx hb dX12_letter_146 (by decide) ?_
            refine lv_icmp_ne (tgt := 158) hx hb dX12_letter_148 (by decide) (fun c286 => ?_) (fun c286 => ?_)
            · have zc286 := c286
              replace zc286 := zc_neq (rfl) (nI_toInt (by omega)) zc286
              refine lv_iload hx hb dX12_letter_158 (lv_at hl 0 rfl) ?_
              refine lv_if_eq (tgt := 186) hx hb dX12_letter_160 (by decide) (fun c287 => ?_) (fun c287 => absurd (by decide) c287)
              exact hJ126 (f269, nI 0, nI 1, r280) _ _ _ (show (zMl f269 l0 ∧ f269 30 21 = nI 0 ∧ f269 30 24 = (zFv (zLet (fi 47) L (zS (fi 47) L 0))) ∧ zMo f269 n o ∧ zMq τ f269 fr g Ln d ∧ ∀ a b, ¬ (a = 48 ∨ a = 49 ∨ (a = 30 ∧ (b = 0 ∨ (21 ≤ b ∧ b ≤ 34)))) → f269 a b = fi a b) ∧ zH D A τ f269 fr ol s _ ∧ va_S A s.heap _ _ ∧ lv_has _ 6 [(0, .ref (τ.1 30)), (1, .int (nI 0)), (2, .int (nI 1)), (3, .int r280)] from ⟨⟨hMl, q273, q277, hMo, hMq, fun a b h => by rw [ef269, zu_n (by omega), hf241 a b (by omega), ef228, zu_n (by omega), hf118 a b (by omega), ef106, zu_n (by omega), hf21 a b (by omega)]⟩, hH, hS, lv_sub hl [4, 3, 2, 1] rfl⟩)
            · have zc286 := c286
              replace zc286 := zc_eq (rfl) (nI_toInt (by omega)) zc286
              refine lv_aload_n hx hb dX12_letter_151 rfl (lv_at hl 4 rfl) ?_
              refine lv_iconst (v := nI 2) hx hb dX12_letter_152 (by decide) ?_
              refine zPutI (D := D) (ci := 12) (ty := .int) (C := RX12) (T := TX12) (N := 71) hx hb hts hiX12 tyX12 tyX12_ok nmX12 hown hH hS (zk_30 hF) rfl 0 (by decide) rfl hw0 (fun _ h9 => h9) rfl (by decide +kernel) rfl rfl dX12_letter_153 (fun H locs hH hS => ?_)
              obtain ⟨f288, ef288⟩ : ∃ f9 : zFi, f9 = zu f269 30 0 (nI 2) := ⟨_, rfl⟩
              rw [← ef288] at hH
              have q289 : f288 30 45 = nI o := by rw [ef288, zu_n (fun h9 => absurd h9.2 (by decide))]; exact q270
              have q290 : f288 30 35 = nI d := by rw [ef288, zu_n (fun h9 => absurd h9.2 (by decide))]; exact q271
              have q291 : f288 30 2 = nI n := by rw [ef288, zu_n (fun h9 => absurd h9.2 (by decide))]; exact q272
              have q292 : f288 30 21 = nI 0 := by rw [ef288, zu_n (fun h9 => absurd h9.2 (by decide))]; exact q273
              have q293 : f288 30 22 = nI L := by rw [ef288, zu_n (fun h9 => absurd h9.2 (by decide))]; exact q274
              have q294 : f288 30 26 = nI l0 := by rw [ef288, zu_n (fun h9 => absurd h9.2 (by decide))]; exact q276
              have q295 : f288 30 24 = (zFv (zLet (fi 47) L (zS (fi 47) L 0))) := by rw [ef288, zu_n (fun h9 => absurd h9.2 (by decide))]; exact q277
              have q296 : f288 30 32 = nI km := by rw [ef288, zu_n (fun h9 => absurd h9.2 (by decide))]; exact q278
              have q297 : f288 48 km = f240 30 33 := by rw [ef288, zu_n (fun h9 => absurd h9.1 (by decide))]; exact q279
              have q298 : f288 30 0 = nI 2 := by rw [ef288]; exact zu_s
              have hMt := zMt.ci (fi' := f288) hMt (fun i9 k9 h9 => by rw [ef288]; exact zu_n (by omega))
              have hMo := zMo.ci (fi' := f288) hMo (fun i9 k9 h9 => by rw [ef288]; exact zu_n (by omega))
              have hMq := zMq.ci (fi' := f288) hMq (fun i9 k9 h9 => by rw [ef288]; exact zu_n (by omega))
              have hMl := zMl.ci (fi' := f288) hMl (fun i9 k9 h9 => by rw [ef288]; exact zu_n (by omega))
              refine lv_iconst (v := nI 0) hx hb dX12_letter_156 (by decide) ?_
              refine W.widen (k := 8) (n := 11264) (by decide) (by decide) ?_
              exact W.iret (v := nI 0) hx hb hr (fun t9 ht9 hW9 => ⟨⟨nI 0, (τ, f288, fr), rfl, (show ((∃ o2, o ≤ o2 ∧ o2 ≤ o + 1 ∧ zMo f288 n o2) ∧ (∃ g2 L2 d2, d2 ≤ d + 1 ∧ zMq τ f288 fr g2 L2 d2) ∧ f288 30 21 = nI 0 ∧ zGz τ fr τ fr ∧ ∀ a b, ¬ (a = 48 ∨ a = 49 ∨ (50 ≤ a ∧ a ≤ 64) ∨ (200 ≤ a ∧ a < 240) ∨ (a = 30 ∧ (b = 0 ∨ (21 ≤ b ∧ b ≤ 36) ∨ b = 45))) → f288 a b = fi a b) ∧ f288 30 24 = (zFv (zLet (fi 47) L (zS (fi 47) L 0))) from ⟨⟨⟨o, by omega, by omega, hMo⟩, ⟨g, Ln, d, by omega, hMq⟩, q292, zGz.rf hF, fun a b h => by rw [ef288, zu_n (by omega), ef269, zu_n (by omega), hf241 a b (by omega), ef228, zu_n (by omega), hf118 a b (by omega), ef106, zu_n (by omega), hf21 a b (by omega)]⟩, q295⟩), zEnd1 hH ht9 hW9⟩, hS.F ht9⟩) hS.2.2 dX12_letter_157
          · have zc284 := c284
            replace zc284 := zc_nlt (rfl) (rfl) zc284
            refine lv_iconst (v := nI 1) hx hb dX12_letter_118 (by decide) ?_
            refine lv_goto (tgt := 123) hx hb dX12_letter_119 (by decide) ?_
            refine lv_istore (lv' := [(4, .int (nI 1)), (3, .int r280), (2, .int (nI 1)), (1, .int (nI 0)), (0, .ref (τ.1 30))]) hx hb dX12_letter_123 hl (by decide) rfl (fun ls hl => ?_)
            refine lv_iload hx hb dX12_letter_125 (lv_at hl 0 rfl) ?_
            refine lv_if_eq (tgt := 142) hx hb dX12_letter_127 (by decide) (fun c299 => absurd c299 (by decide)) (fun c299 => ?_)
            refine lv_aload_n hx hb dX12_letter_130 rfl (lv_at hl 4 rfl) ?_
            refine zGetI (D := D) (ci := 12) (C := RX12) (T := TX12) (N := 71) hx hb hts hiX12 hown hH (zk_30 hF) rfl 45 (by decide) rfl hw20 (fun _ h9 => h9) dX12_letter_131 q270 ?_
            refine lv_bipush (v := nI 60) hx hb dX12_letter_134 (by decide) ?_
            refine lv_icmp_ne (tgt := 158) hx hb dX12_letter_136 (by decide) (fun c300 => ?_) (fun c300 => ?_)
            · have zc300 := c300
              replace zc300 := zc_neq (nI_toInt (by omega)) (nI_toInt (by omega)) zc300
              refine lv_iload hx hb dX12_letter_158 (lv_at hl 0 rfl) ?_
              refine lv_if_eq (tgt := 186) hx hb dX12_letter_160 (by decide) (fun c301 => absurd c301 (by decide)) (fun c301 => ?_)
              refine lv_aload_n hx hb dX12_letter_163 rfl (lv_at hl 4 rfl) ?_
              refine lv_dup hx hb dX12_letter_164 rfl ?_
              refine zGetI (D := D) (ci := 12) (C := RX12) (T := TX12) (N := 71) hx hb hts hiX12 hown hH (zk_30 hF) rfl 34 (by decide) rfl hw21 (fun _ h9 => h9) dX12_letter_165 rfl ?_
              refine lv_iload_n hx hb dX12_letter_168 rfl (lv_at hl 2 rfl) ?_
              refine lv_if_eq (tgt := 176) hx hb dX12_letter_169 (by decide) (fun c302 => absurd c302 (by decide)) (fun c302 => ?_)
              refine lv_iconst (v := nI 1) hx hb dX12_letter_172 (by decide) ?_
              refine lv_goto (tgt := 177) hx hb dX12_letter_173 (by decide) ?_
              refine lv_iadd hx hb dX12_letter_177 ?_
              refine lv_topi (fun v303 ev303 => ?_)
              refine zPutI (D := D) (ci := 12) (ty := .int) (C := RX12) (T := TX12) (N := 71) hx hb hts hiX12 tyX12 tyX12_ok nmX12 hown hH hS (zk_30 hF) rfl 34 (by decide) rfl hw21 (fun _ h9 => h9) rfl (by decide +kernel) rfl rfl dX12_letter_178 (fun H locs hH hS => ?_)
              obtain ⟨f304, ef304⟩ : ∃ f9 : zFi, f9 = zu f269 30 34 v303 := ⟨_, rfl⟩
              rw [← ef304] at hH
              have q305 : f304 30 45 = nI o := by rw [ef304, zu_n (fun h9 => absurd h9.2 (by decide))]; exact q270
              have q306 : f304 30 35 = nI d := by rw [ef304, zu_n (fun h9 => absurd h9.2 (by decide))]; exact q271
              have q307 : f304 30 2 = nI n := by rw [ef304, zu_n (fun h9 => absurd h9.2 (by decide))]; exact q272
              have q308 : f304 30 21 = nI 0 := by rw [ef304, zu_n (fun h9 => absurd h9.2 (by decide))]; exact q273
              have q309 : f304 30 22 = nI L := by rw [ef304, zu_n (fun h9 => absurd h9.2 (by decide))]; exact q274
              have q310 : f304 30 0 = nI 0 := by rw [ef304, zu_n (fun h9 => absurd h9.2 (by decide))]; exact q275
              have q311 : f304 30 26 = nI l0 := by rw [ef304, zu_n (fun h9 => absurd h9.2 (by decide))]; exact q276
              have q312 : f304 30 24 = (zFv (zLet (fi 47) L (zS (fi 47) L 0))) := by rw [ef304, zu_n (fun h9 => absurd h9.2 (by decide))]; exact q277
              have q313 : f304 30 32 = nI km := by rw [ef304, zu_n (fun h9 => absurd h9.2 (by decide))]; exact q278
              have q314 : f304 48 km = f240 30 33 := by rw [ef304, zu_n (fun h9 => absurd h9.1 (by decide))]; exact q279
              have q315 : f304 30 34 = v303 := by rw [ef304]; exact zu_s
              have hMt := zMt.ci (fi' := f304) hMt (fun i9 k9 h9 => by rw [ef304]; exact zu_n (by omega))
              have hMo := zMo.ci (fi' := f304) hMo (fun i9 k9 h9 => by rw [ef304]; exact zu_n (by omega))
              have hMq := zMq.ci (fi' := f304) hMq (fun i9 k9 h9 => by rw [ef304]; exact zu_n (by omega))
              have hMl := zMl.ci (fi' := f304) hMl (fun i9 k9 h9 => by rw [ef304]; exact zu_n (by omega))
              refine lv_aload_n hx hb dX12_letter_181 rfl (lv_at hl 4 rfl) ?_
              refine va_calli (va_runV (As := []) (rest := []) ⟨hx, hb, hml, hown, hts⟩ (m_makeOrder l hl0 D A sad τ f304 fr ol hF n hMt l0 hMl o hMo (by omega)) (cwV 0 hts gX12_letter_X12_makeOrder rfl rfl rfl (by decide +kernel) ⟨Nat.le_of_ble_eq_true rfl, Nat.le_of_ble_eq_true rfl⟩) ⟨zQc_bl, zRecv hH (zk_30 hF) rfl, zQc_at hz hS hA hH⟩ rfl rfl hl.1 rfl (lv_room (Nat.le_of_ble_eq_true rfl)) dX12_letter_182 ⟨Nat.le_of_ble_eq_true rfl, Nat.le_of_ble_eq_true rfl⟩) hS (fun q _ h => h) (fun q h => h) (fun r316 u9 t9 H1 locs ht9 hvm9 hw hB hz1 hk1 hS => ?_)
              have hH := zMv ht9 hvm9 hB
              clear hB
              generalize u9 = f317 at hw hH
              generalize H1 = H at hH hS ⊢
              obtain ⟨rfl, hMo, hf318⟩ := hw
              have q319 : f317 30 35 = nI d := by rw [hf318 30 35 (by omega)]; exact q306
              have q320 : f317 30 2 = nI n := by rw [hf318 30 2 (by omega)]; exact q307
              have q321 : f317 30 21 = nI 0 := by rw [hf318 30 21 (by omega)]; exact q308
              have q322 : f317 30 22 = nI L := by rw [hf318 30 22 (by omega)]; exact q309
              have q323 : f317 30 0 = nI 0 := by rw [hf318 30 0 (by omega)]; exact q310
              have q324 : f317 30 26 = nI l0 := by rw [hf318 30 26 (by omega)]; exact q311
              have q325 : f317 30 24 = (zFv (zLet (fi 47) L (zS (fi 47) L 0))) := by rw [hf318 30 24 (by omega)]; exact q312
              have q326 : f317 30 32 = nI km := by rw [hf318 30 32 (by omega)]; exact q313
              have q327 : f317 48 km = f240 30 33 := by rw [hf318 48 km (by omega)]; exact q314
              have q328 : f317 30 34 = v303 := by rw [hf318 30 34 (by omega)]; exact q315
              have hMt := zMt.ci (fi' := f317) hMt (fun i9 k9 h9 => hf318 i9 k9 (by omega))
              have hMq := zMq.ci (fi' := f317) hMq (fun i9 k9 h9 => hf318 i9 k9 (by omega))
              have hMl := zMl.ci (fi' := f317) hMl (fun i9 k9 h9 => hf318 i9 k9 (by omega))
              refine W.widen (k := 8) (n := 11264) (by decide) (by decide) ?_
              exact W.iret (v := nI o) hx hb hr (fun t9 ht9 hW9 => ⟨⟨nI o, (τ, f317, fr), rfl, (show ((∃ o2, o ≤ o2 ∧ o2 ≤ o + 1 ∧ zMo f317 n o2) ∧ (∃ g2 L2 d2, d2 ≤ d + 1 ∧ zMq τ f317 fr g2 L2 d2) ∧ f317 30 21 = nI 0 ∧ zGz τ fr τ fr ∧ ∀ a b, ¬ (a = 48 ∨ a = 49 ∨ (50 ≤ a ∧ a ≤ 64) ∨ (200 ≤ a ∧ a < 240) ∨ (a = 30 ∧ (b = 0 ∨ (21 ≤ b ∧ b ≤ 36) ∨ b = 45))) → f317 a b = fi a b) ∧ f317 30 24 = (zFv (zLet (fi 47) L (zS (fi 47) L 0))) from ⟨⟨⟨o + 1, by omega, by omega, hMo⟩, ⟨g, Ln, d, by omega, hMq⟩, q321, zGz.rf hF, fun a b h => by rw [hf318 a b (by omega), ef304, zu_n (by omega), ef269, zu_n (by omega), hf241 a b (by omega), ef228, zu_n (by omega), hf118 a b (by omega), ef106, zu_n (by omega), hf21 a b (by omega)]⟩, q325⟩), zEnd1 hH ht9 hW9⟩, hS.F ht9⟩) hS.2.2 dX12_letter_185
            · have zc300 := c300
              replace zc300 := zc_eq (nI_toInt (by omega)) (nI_toInt (by omega)) zc300
              refine lv_goto (tgt := 151) hx hb dX12_letter_139 (by decide) ?_
              refine lv_aload_n hx hb dX12_letter_151 rfl (lv_at hl 4 rfl) ?_
              refine lv_iconst (v := nI 2) hx hb dX12_letter_152 (by decide) ?_
              refine zPutI (D := D) (ci := 12) (ty := .int) (C := RX12) (T := TX12) (N := 71) hx hb hts hiX12 tyX12 tyX12_ok nmX12 hown hH hS (zk_30 hF) rfl 0 (by decide) rfl hw0 (fun _ h9 => h9) rfl (by decide +kernel) rfl rfl dX12_letter_153 (fun H locs hH hS => ?_)
              obtain ⟨f329, ef329⟩ : ∃ f9 : zFi, f9 = zu f269 30 0 (nI 2) := ⟨_, rfl⟩
              rw [← ef329] at hH
              have q330 : f329 30 45 = nI o := by rw [ef329, zu_n (fun h9 => absurd h9.2 (by decide))]; exact q270
              have q331 : f329 30 35 = nI d := by rw [ef329, zu_n (fun h9 => absurd h9.2 (by decide))]; exact q271
              have q332 : f329 30 2 = nI n := by rw [ef329, zu_n (fun h9 => absurd h9.2 (by decide))]; exact q272
              have q333 : f329 30 21 = nI 0 := by rw [ef329, zu_n (fun h9 => absurd h9.2 (by decide))]; exact q273
              have q334 : f329 30 22 = nI L := by rw [ef329, zu_n (fun h9 => absurd h9.2 (by decide))]; exact q274
              have q335 : f329 30 26 = nI l0 := by rw [ef329, zu_n (fun h9 => absurd h9.2 (by decide))]; exact q276
              have q336 : f329 30 24 = (zFv (zLet (fi 47) L (zS (fi 47) L 0))) := by rw [ef329, zu_n (fun h9 => absurd h9.2 (by decide))]; exact q277
              have q337 : f329 30 32 = nI km := by rw [ef329, zu_n (fun h9 => absurd h9.2 (by decide))]; exact q278
              have q338 : f329 48 km = f240 30 33 := by rw [ef329, zu_n (fun h9 => absurd h9.1 (by decide))]; exact q279
              have q339 : f329 30 0 = nI 2 := by rw [ef329]; exact zu_s
              have hMt := zMt.ci (fi' := f329) hMt (fun i9 k9 h9 => by rw [ef329]; exact zu_n (by omega))
              have hMo := zMo.ci (fi' := f329) hMo (fun i9 k9 h9 => by rw [ef329]; exact zu_n (by omega))
              have hMq := zMq.ci (fi' := f329) hMq (fun i9 k9 h9 => by rw [ef329]; exact zu_n (by omega))
              have hMl := zMl.ci (fi' := f329) hMl (fun i9 k9 h9 => by rw [ef329]; exact zu_n (by omega))
              refine lv_iconst (v := nI 0) hx hb dX12_letter_156 (by decide) ?_
              refine W.widen (k := 8) (n := 11264) (by decide) (by decide) ?_
              exact W.iret (v := nI 0) hx hb hr (fun t9 ht9 hW9 => ⟨⟨nI 0, (τ, f329, fr), rfl, (show ((∃ o2, o ≤ o2 ∧ o2 ≤ o + 1 ∧ zMo f329 n o2) ∧ (∃ g2 L2 d2, d2 ≤ d + 1 ∧ zMq τ f329 fr g2 L2 d2) ∧ f329 30 21 = nI 0 ∧ zGz τ fr τ fr ∧ ∀ a b, ¬ (a = 48 ∨ a = 49 ∨ (50 ≤ a ∧ a ≤ 64) ∨ (200 ≤ a ∧ a < 240) ∨ (a = 30 ∧ (b = 0 ∨ (21 ≤ b ∧ b ≤ 36) ∨ b = 45))) → f329 a b = fi a b) ∧ f329 30 24 = (zFv (zLet (fi 47) L (zS (fi 47) L 0))) from ⟨⟨⟨o, by omega, by omega, hMo⟩, ⟨g, Ln, d, by omega, hMq⟩, q333, zGz.rf hF, fun a b h => by rw [ef329, zu_n (by omega), ef269, zu_n (by omega), hf241 a b (by omega), ef228, zu_n (by omega), hf118 a b (by omega), ef106, zu_n (by omega), hf21 a b (by omega)]⟩, q336⟩), zEnd1 hH ht9 hW9⟩, hS.F ht9⟩) hS.2.2 dX12_letter_157
      · have zc227 := c227
        replace zc227 := zc_eq (rfl) (rfl) zc227
        refine lv_iconst (v := nI 1) hx hb dX12_letter_36 (by decide) ?_
        refine lv_goto (tgt := 41) hx hb dX12_letter_37 (by decide) ?_
        refine lv_istore_n (lv' := [(1, .int (nI 1)), (0, .ref (τ.1 30))]) hx hb dX12_letter_41 rfl hl (by decide) rfl (fun ls hl => ?_)
        refine lv_aload_n hx hb dX12_letter_42 rfl (lv_at hl 1 rfl) ?_
        refine lv_iconst (v := nI 0) hx hb dX12_letter_43 (by decide) ?_
        refine zPutI (D := D) (ci := 12) (ty := .int) (C := RX12) (T := TX12) (N := 71) hx hb hts hiX12 tyX12 tyX12_ok nmX12 hown hH hS (zk_30 hF) rfl 31 (by decide) rfl hw5 (fun _ h9 => h9) rfl (by decide +kernel) rfl rfl dX12_letter_44 (fun H locs hH hS => ?_)
        obtain ⟨f340, ef340⟩ : ∃ f9 : zFi, f9 = zu f116 30 31 (nI 0) := ⟨_, rfl⟩
        rw [← ef340] at hH
        have q341 : f340 30 45 = nI o := by rw [ef340, zu_n (fun h9 => absurd h9.2 (by decide))]; exact q119
        have q342 : f340 30 35 = nI d := by rw [ef340, zu_n (fun h9 => absurd h9.2 (by decide))]; exact q120
        have q343 : f340 30 2 = nI n := by rw [ef340, zu_n (fun h9 => absurd h9.2 (by decide))]; exact q121
        have q344 : f340 30 21 = nI 0 := by rw [ef340, zu_n (fun h9 => absurd h9.2 (by decide))]; exact q122
        have q345 : f340 30 22 = nI L := by rw [ef340, zu_n (fun h9 => absurd h9.2 (by decide))]; exact q123
        have q346 : f340 30 0 = nI 0 := by rw [ef340, zu_n (fun h9 => absurd h9.2 (by decide))]; exact q124
        have q347 : f340 30 26 = nI l0 := by rw [ef340, zu_n (fun h9 => absurd h9.2 (by decide))]; exact hMl.2.1
        have q348 : f340 30 24 = (zFv (zLet (fi 47) L (zS (fi 47) L 0))) := by rw [ef340, zu_n (fun h9 => absurd h9.2 (by decide))]; exact k24
        have q349 : f340 30 31 = nI 0 := by rw [ef340]; exact zu_s
        have hMt := zMt.ci (fi' := f340) hMt (fun i9 k9 h9 => by rw [ef340]; exact zu_n (by omega))
        have hMo := zMo.ci (fi' := f340) hMo (fun i9 k9 h9 => by rw [ef340]; exact zu_n (by omega))
        have hMq := zMq.ci (fi' := f340) hMq (fun i9 k9 h9 => by rw [ef340]; exact zu_n (by omega))
        have hMl := zMl.ci (fi' := f340) hMl (fun i9 k9 h9 => by rw [ef340]; exact zu_n (by omega))
        refine lv_iload_n hx hb dX12_letter_47 rfl (lv_at hl 0 rfl) ?_
        refine lv_if_ne (tgt := 55) hx hb dX12_letter_48 (by decide) (fun c350 => ?_) (fun c350 => absurd c350 (by decide))
        refine lv_iload_n hx hb dX12_letter_55 rfl (lv_at hl 0 rfl) ?_
        refine lv_if_ne (tgt := 71) hx hb dX12_letter_56 (by decide) (fun c351 => ?_) (fun c351 => absurd c351 (by decide))
        refine lv_iconst (v := nI 0) hx hb dX12_letter_71 (by decide) ?_
        refine lv_istore_n (lv' := [(2, .int (nI 0)), (1, .int (nI 1)), (0, .ref (τ.1 30))]) hx hb dX12_letter_72 rfl hl (by decide) rfl (fun ls hl => ?_)
        refine lv_iload_n hx hb dX12_letter_73 rfl (lv_at hl 0 rfl) ?_
        refine lv_if_eq (tgt := 90) hx hb dX12_letter_74 (by decide) (fun c352 => ?_) (fun c352 => absurd (by decide) c352)
        refine lv_aload_n hx hb dX12_letter_90 rfl (lv_at hl 2 rfl) ?_
        refine va_calli (va_runV (As := []) (rest := []) ⟨hx, hb, hml, hown, hts⟩ (m_known l hl0 D A sad τ f340 fr ol hF n hMt l0 hMl) (cwV 0 hts gX12_letter_X12_known rfl rfl rfl (by decide +kernel) ⟨Nat.le_of_ble_eq_true rfl, Nat.le_of_ble_eq_true rfl⟩) ⟨zQc_bl, zRecv hH (zk_30 hF) rfl, zQc_at hz hS hA hH⟩ rfl rfl hl.1 rfl (lv_room (Nat.le_of_ble_eq_true rfl)) dX12_letter_91 ⟨Nat.le_of_ble_eq_true rfl, Nat.le_of_ble_eq_true rfl⟩) hS (fun q _ h => h) (fun q h => h) (fun r353 u9 t9 H1 locs ht9 hvm9 hw hB hz1 hk1 hS => ?_)
        have hH := zMv ht9 hvm9 hB
        generalize H1 = H at hH hS ⊢
        clear hw
        refine lv_istore_n (lv' := [(3, .int r353), (2, .int (nI 0)), (1, .int (nI 1)), (0, .ref (τ.1 30))]) hx hb dX12_letter_94 rfl hl (by decide) rfl (fun ls hl => ?_)
        refine lv_iload_n hx hb dX12_letter_95 rfl (lv_at hl 2 rfl) ?_
        refine lv_if_ne (tgt := 103) hx hb dX12_letter_96 (by decide) (fun c354 => ?_) (fun c354 => absurd c354 (by decide))
        refine lv_aload_n hx hb dX12_letter_103 rfl (lv_at hl 3 rfl) ?_
        refine zGetI (D := D) (ci := 12) (C := RX12) (T := TX12) (N := 71) hx hb hts hiX12 hown hH (zk_30 hF) rfl 30 (by decide) rfl hw12 (fun _ h9 => h9) dX12_letter_104 rfl ?_
        refine lv_aload_n hx hb dX12_letter_107 rfl (lv_at hl 3 rfl) ?_
        refine lv_aload_n hx hb dX12_letter_108 rfl (lv_at hl 3 rfl) ?_
        refine zGetI (D := D) (ci := 12) (C := RX12) (T := TX12) (N := 71) hx hb hts hiX12 hown hH (zk_30 hF) rfl 29 (by decide) rfl hw10 (fun _ h9 => h9) dX12_letter_109 rfl ?_
        refine va_calli (va_runV (As := [.int (f340 30 29)]) (rest := [.int (f340 30 30)]) ⟨hx, hb, hml, hown, hts⟩ (m_due l hl0 D A sad τ f340 fr ol (f340 30 29) hF) (cwV 1 hts gX12_letter_X12_due rfl rfl rfl (by decide +kernel) ⟨Nat.le_of_ble_eq_true rfl, Nat.le_of_ble_eq_true rfl⟩) ⟨zQc_bl, zRecv hH (zk_30 hF) rfl, zQc_at hz hS hA hH⟩ rfl rfl hl.1 rfl (lv_room (Nat.le_of_ble_eq_true rfl)) dX12_letter_112 ⟨Nat.le_of_ble_eq_true rfl, Nat.le_of_ble_eq_true rfl⟩) hS (fun q _ h => h) (fun q h => h) (fun r355 u9 t9 H1 locs ht9 hvm9 hw hB hz1 hk1 hS => ?_)
        have hH := zMv ht9 hvm9 hB
        generalize H1 = H at hH hS ⊢
        clear hw
        refine lv_icmp_lt (tgt := 122) hx hb dX12_letter_115 (by decide) (fun c356 => ?_) (fun c356 => ?_)
        · have zc356 := c356
          replace zc356 := zc_lt (rfl) (rfl) zc356
          refine lv_iconst (v := nI 0) hx hb dX12_letter_122 (by decide) ?_
          refine lv_istore (lv' := [(4, .int (nI 0)), (3, .int r353), (2, .int (nI 0)), (1, .int (nI 1)), (0, .ref (τ.1 30))]) hx hb dX12_letter_123 hl (by decide) rfl (fun ls hl => ?_)
          refine lv_iload hx hb dX12_letter_125 (lv_at hl 0 rfl) ?_
          refine lv_if_eq (tgt := 142) hx hb dX12_letter_127 (by decide) (fun c357 => ?_) (fun c357 => absurd (by decide) c357)
          refine lv_aload_n hx hb dX12_letter_142 rfl (lv_at hl 4 rfl) ?_
          refine zGetI (D := D) (ci := 12) (C := RX12) (T := TX12) (N := 71) hx hb hts hiX12 hown hH (zk_30 hF) rfl 36 (by decide) rfl hw13 (fun _ h9 => h9) dX12_letter_143 rfl ?_
          refine lv_bipush (v := nI 20) hx hb dX12_letter_146 (by decide) ?_
          refine lv_icmp_ne (tgt := 158) hx hb dX12_letter_148 (by decide) (fun c358 => ?_) (fun c358 => ?_)
          · have zc358 := c358
            replace zc358 := zc_neq (rfl) (nI_toInt (by omega)) zc358
            refine lv_iload hx hb dX12_letter_158 (lv_at hl 0 rfl) ?_
            refine lv_if_eq (tgt := 186) hx hb dX12_letter_160 (by decide) (fun c359 => ?_) (fun c359 => absurd (by decide) c359)
            exact hJ126 (f340, nI 1, nI 0, r353) _ _ _ (show (zMl f340 l0 ∧ f340 30 21 = nI 0 ∧ f340 30 24 = (zFv (zLet (fi 47) L (zS (fi 47) L 0))) ∧ zMo f340 n o ∧ zMq τ f340 fr g Ln d ∧ ∀ a b, ¬ (a = 48 ∨ a = 49 ∨ (a = 30 ∧ (b = 0 ∨ (21 ≤ b ∧ b ≤ 34)))) → f340 a b = fi a b) ∧ zH D A τ f340 fr ol s _ ∧ va_S A s.heap _ _ ∧ lv_has _ 6 [(0, .ref (τ.1 30)), (1, .int (nI 1)), (2, .int (nI 0)), (3, .int r353)] from ⟨⟨hMl, q344, q348, hMo, hMq, fun a b h => by rw [ef340, zu_n (by omega), hf118 a b (by omega), ef106, zu_n (by omega), hf21 a b (by omega)]⟩, hH, hS, lv_sub hl [4, 3, 2, 1] rfl⟩)
          · have zc358 := c358
            replace zc358 := zc_eq (rfl) (nI_toInt (by omega)) zc358
            refine lv_aload_n hx hb dX12_letter_151 rfl (lv_at hl 4 rfl) ?_
            refine lv_iconst (v := nI 2) hx hb dX12_letter_152 (by decide) ?_
            refine zPutI (D := D) (ci := 12) (ty := .int) (C := RX12) (T := TX12) (N := 71) hx hb hts hiX12 tyX12 tyX12_ok nmX12 hown hH hS (zk_30 hF) rfl 0 (by decide) rfl hw0 (fun _ h9 => h9) rfl (by decide +kernel) rfl rfl dX12_letter_153 (fun H locs hH hS => ?_)
            obtain ⟨f360, ef360⟩ : ∃ f9 : zFi, f9 = zu f340 30 0 (nI 2) := ⟨_, rfl⟩
            rw [← ef360] at hH
            have q361 : f360 30 45 = nI o := by rw [ef360, zu_n (fun h9 => absurd h9.2 (by decide))]; exact q341
            have q362 : f360 30 35 = nI d := by rw [ef360, zu_n (fun h9 => absurd h9.2 (by decide))]; exact q342
            have q363 : f360 30 2 = nI n := by rw [ef360, zu_n (fun h9 => absurd h9.2 (by decide))]; exact q343
            have q364 : f360 30 21 = nI 0 := by rw [ef360, zu_n (fun h9 => absurd h9.2 (by decide))]; exact q344
            have q365 : f360 30 22 = nI L := by rw [ef360, zu_n (fun h9 => absurd h9.2 (by decide))]; exact q345
            have q366 : f360 30 26 = nI l0 := by rw [ef360, zu_n (fun h9 => absurd h9.2 (by decide))]; exact q347
            have q367 : f360 30 24 = (zFv (zLet (fi 47) L (zS (fi 47) L 0))) := by rw [ef360, zu_n (fun h9 => absurd h9.2 (by decide))]; exact q348
            have q368 : f360 30 31 = nI 0 := by rw [ef360, zu_n (fun h9 => absurd h9.2 (by decide))]; exact q349
            have q369 : f360 30 0 = nI 2 := by rw [ef360]; exact zu_s
            have hMt := zMt.ci (fi' := f360) hMt (fun i9 k9 h9 => by rw [ef360]; exact zu_n (by omega))
            have hMo := zMo.ci (fi' := f360) hMo (fun i9 k9 h9 => by rw [ef360]; exact zu_n (by omega))
            have hMq := zMq.ci (fi' := f360) hMq (fun i9 k9 h9 => by rw [ef360]; exact zu_n (by omega))
            have hMl := zMl.ci (fi' := f360) hMl (fun i9 k9 h9 => by rw [ef360]; exact zu_n (by omega))
            refine lv_iconst (v := nI 0) hx hb dX12_letter_156 (by decide) ?_
            refine W.widen (k := 8) (n := 11264) (by decide) (by decide) ?_
            exact W.iret (v := nI 0) hx hb hr (fun t9 ht9 hW9 => ⟨⟨nI 0, (τ, f360, fr), rfl, (show ((∃ o2, o ≤ o2 ∧ o2 ≤ o + 1 ∧ zMo f360 n o2) ∧ (∃ g2 L2 d2, d2 ≤ d + 1 ∧ zMq τ f360 fr g2 L2 d2) ∧ f360 30 21 = nI 0 ∧ zGz τ fr τ fr ∧ ∀ a b, ¬ (a = 48 ∨ a = 49 ∨ (50 ≤ a ∧ a ≤ 64) ∨ (200 ≤ a ∧ a < 240) ∨ (a = 30 ∧ (b = 0 ∨ (21 ≤ b ∧ b ≤ 36) ∨ b = 45))) → f360 a b = fi a b) ∧ f360 30 24 = (zFv (zLet (fi 47) L (zS (fi 47) L 0))) from ⟨⟨⟨o, by omega, by omega, hMo⟩, ⟨g, Ln, d, by omega, hMq⟩, q364, zGz.rf hF, fun a b h => by rw [ef360, zu_n (by omega), ef340, zu_n (by omega), hf118 a b (by omega), ef106, zu_n (by omega), hf21 a b (by omega)]⟩, q367⟩), zEnd1 hH ht9 hW9⟩, hS.F ht9⟩) hS.2.2 dX12_letter_157
        · have zc356 := c356
          replace zc356 := zc_nlt (rfl) (rfl) zc356
          refine lv_iconst (v := nI 1) hx hb dX12_letter_118 (by decide) ?_
          refine lv_goto (tgt := 123) hx hb dX12_letter_119 (by decide) ?_
          refine lv_istore (lv' := [(4, .int (nI 1)), (3, .int r353), (2, .int (nI 0)), (1, .int (nI 1)), (0, .ref (τ.1 30))]) hx hb dX12_letter_123 hl (by decide) rfl (fun ls hl => ?_)
          refine lv_iload hx hb dX12_letter_125 (lv_at hl 0 rfl) ?_
          refine lv_if_eq (tgt := 142) hx hb dX12_letter_127 (by decide) (fun c370 => absurd c370 (by decide)) (fun c370 => ?_)
          refine lv_aload_n hx hb dX12_letter_130 rfl (lv_at hl 4 rfl) ?_
          refine zGetI (D := D) (ci := 12) (C := RX12) (T := TX12) (N := 71) hx hb hts hiX12 hown hH (zk_30 hF) rfl 45 (by decide) rfl hw20 (fun _ h9 => h9) dX12_letter_131 q341 ?_
          refine lv_bipush (v := nI 60) hx hb dX12_letter_134 (by decide) ?_
          refine lv_icmp_ne (tgt := 158) hx hb dX12_letter_136 (by decide) (fun c371 => ?_) (fun c371 => ?_)
          · have zc371 := c371
            replace zc371 := zc_neq (nI_toInt (by omega)) (nI_toInt (by omega)) zc371
            refine lv_iload hx hb dX12_letter_158 (lv_at hl 0 rfl) ?_
            refine lv_if_eq (tgt := 186) hx hb dX12_letter_160 (by decide) (fun c372 => absurd c372 (by decide)) (fun c372 => ?_)
            refine lv_aload_n hx hb dX12_letter_163 rfl (lv_at hl 4 rfl) ?_
            refine lv_dup hx hb dX12_letter_164 rfl ?_
            refine zGetI (D := D) (ci := 12) (C := RX12) (T := TX12) (N := 71) hx hb hts hiX12 hown hH (zk_30 hF) rfl 34 (by decide) rfl hw21 (fun _ h9 => h9) dX12_letter_165 rfl ?_
            refine lv_iload_n hx hb dX12_letter_168 rfl (lv_at hl 2 rfl) ?_
            refine lv_if_eq (tgt := 176) hx hb dX12_letter_169 (by decide) (fun c373 => ?_) (fun c373 => absurd (by decide) c373)
            refine lv_iconst (v := nI 0) hx hb dX12_letter_176 (by decide) ?_
            refine lv_iadd hx hb dX12_letter_177 ?_
            refine lv_topi (fun v374 ev374 => ?_)
            refine zPutI (D := D) (ci := 12) (ty := .int) (C := RX12) (T := TX12) (N := 71) hx hb hts hiX12 tyX12 tyX12_ok nmX12 hown hH hS (zk_30 hF) rfl 34 (by decide) rfl hw21 (fun _ h9 => h9) rfl (by decide +kernel) rfl rfl dX12_letter_178 (fun H locs hH hS => ?_)
            obtain ⟨f375, ef375⟩ : ∃ f9 : zFi, f9 = zu f340 30 34 v374 := ⟨_, rfl⟩
            rw [← ef375] at hH
            have q376 : f375 30 45 = nI o := by rw [ef375, zu_n (fun h9 => absurd h9.2 (by decide))]; exact q341
            have q377 : f375 30 35 = nI d := by rw [ef375, zu_n (fun h9 => absurd h9.2 (by decide))]; exact q342
            have q378 : f375 30 2 = nI n := by rw [ef375, zu_n (fun h9 => absurd h9.2 (by decide))]; exact q343
            have q379 : f375 30 21 = nI 0 := by rw [ef375, zu_n (fun h9 => absurd h9.2 (by decide))]; exact q344
            have q380 : f375 30 22 = nI L := by rw [ef375, zu_n (fun h9 => absurd h9.2 (by decide))]; exact q345
            have q381 : f375 30 0 = nI 0 := by rw [ef375, zu_n (fun h9 => absurd h9.2 (by decide))]; exact q346
            have q382 : f375 30 26 = nI l0 := by rw [ef375, zu_n (fun h9 => absurd h9.2 (by decide))]; exact q347
            have q383 : f375 30 24 = (zFv (zLet (fi 47) L (zS (fi 47) L 0))) := by rw [ef375, zu_n (fun h9 => absurd h9.2 (by decide))]; exact q348
            have q384 : f375 30 31 = nI 0 := by rw [ef375, zu_n (fun h9 => absurd h9.2 (by decide))]; exact q349
            have q385 : f375 30 34 = v374 := by rw [ef375]; exact zu_s
            have hMt := zMt.ci (fi' := f375) hMt (fun i9 k9 h9 => by rw [ef375]; exact zu_n (by omega))
            have hMo := zMo.ci (fi' := f375) hMo (fun i9 k9 h9 => by rw [ef375]; exact zu_n (by omega))
            have hMq := zMq.ci (fi' := f375) hMq (fun i9 k9 h9 => by rw [ef375]; exact zu_n (by omega))
            have hMl := zMl.ci (fi' := f375) hMl (fun i9 k9 h9 => by rw [ef375]; exact zu_n (by omega))
            refine lv_aload_n hx hb dX12_letter_181 rfl (lv_at hl 4 rfl) ?_
            refine va_calli (va_runV (As := []) (rest := []) ⟨hx, hb, hml, hown, hts⟩ (m_makeOrder l hl0 D A sad τ f375 fr ol hF n hMt l0 hMl o hMo (by omega)) (cwV 0 hts gX12_letter_X12_makeOrder rfl rfl rfl (by decide +kernel) ⟨Nat.le_of_ble_eq_true rfl, Nat.le_of_ble_eq_true rfl⟩) ⟨zQc_bl, zRecv hH (zk_30 hF) rfl, zQc_at hz hS hA hH⟩ rfl rfl hl.1 rfl (lv_room (Nat.le_of_ble_eq_true rfl)) dX12_letter_182 ⟨Nat.le_of_ble_eq_true rfl, Nat.le_of_ble_eq_true rfl⟩) hS (fun q _ h => h) (fun q h => h) (fun r386 u9 t9 H1 locs ht9 hvm9 hw hB hz1 hk1 hS => ?_)
            have hH := zMv ht9 hvm9 hB
            clear hB
            generalize u9 = f387 at hw hH
            generalize H1 = H at hH hS ⊢
            obtain ⟨rfl, hMo, hf388⟩ := hw
            have q389 : f387 30 35 = nI d := by rw [hf388 30 35 (by omega)]; exact q377
            have q390 : f387 30 2 = nI n := by rw [hf388 30 2 (by omega)]; exact q378
            have q391 : f387 30 21 = nI 0 := by rw [hf388 30 21 (by omega)]; exact q379
            have q392 : f387 30 22 = nI L := by rw [hf388 30 22 (by omega)]; exact q380
            have q393 : f387 30 0 = nI 0 := by rw [hf388 30 0 (by omega)]; exact q381
            have q394 : f387 30 26 = nI l0 := by rw [hf388 30 26 (by omega)]; exact q382
            have q395 : f387 30 24 = (zFv (zLet (fi 47) L (zS (fi 47) L 0))) := by rw [hf388 30 24 (by omega)]; exact q383
            have q396 : f387 30 31 = nI 0 := by rw [hf388 30 31 (by omega)]; exact q384
            have q397 : f387 30 34 = v374 := by rw [hf388 30 34 (by omega)]; exact q385
            have hMt := zMt.ci (fi' := f387) hMt (fun i9 k9 h9 => hf388 i9 k9 (by omega))
            have hMq := zMq.ci (fi' := f387) hMq (fun i9 k9 h9 => hf388 i9 k9 (by omega))
            have hMl := zMl.ci (fi' := f387) hMl (fun i9 k9 h9 => hf388 i9 k9 (by omega))
            refine W.widen (k := 8) (n := 11264) (by decide) (by decide) ?_
            exact W.iret (v := nI o) hx hb hr (fun t9 ht9 hW9 => ⟨⟨nI o, (τ, f387, fr), rfl, (show ((∃ o2, o ≤ o2 ∧ o2 ≤ o + 1 ∧ zMo f387 n o2) ∧ (∃ g2 L2 d2, d2 ≤ d + 1 ∧ zMq τ f387 fr g2 L2 d2) ∧ f387 30 21 = nI 0 ∧ zGz τ fr τ fr ∧ ∀ a b, ¬ (a = 48 ∨ a = 49 ∨ (50 ≤ a ∧ a ≤ 64) ∨ (200 ≤ a ∧ a < 240) ∨ (a = 30 ∧ (b = 0 ∨ (21 ≤ b ∧ b ≤ 36) ∨ b = 45))) → f387 a b = fi a b) ∧ f387 30 24 = (zFv (zLet (fi 47) L (zS (fi 47) L 0))) from ⟨⟨⟨o + 1, by omega, by omega, hMo⟩, ⟨g, Ln, d, by omega, hMq⟩, q391, zGz.rf hF, fun a b h => by rw [hf388 a b (by omega), ef375, zu_n (by omega), ef340, zu_n (by omega), hf118 a b (by omega), ef106, zu_n (by omega), hf21 a b (by omega)]⟩, q395⟩), zEnd1 hH ht9 hW9⟩, hS.F ht9⟩) hS.2.2 dX12_letter_185
          · have zc371 := c371
            replace zc371 := zc_eq (nI_toInt (by omega)) (nI_toInt (by omega)) zc371
            refine lv_goto (tgt := 151) hx hb dX12_letter_139 (by decide) ?_
            refine lv_aload_n hx hb dX12_letter_151 rfl (lv_at hl 4 rfl) ?_
            refine lv_iconst (v := nI 2) hx hb dX12_letter_152 (by decide) ?_
            refine zPutI (D := D) (ci := 12) (ty := .int) (C := RX12) (T := TX12) (N := 71) hx hb hts hiX12 tyX12 tyX12_ok nmX12 hown hH hS (zk_30 hF) rfl 0 (by decide) rfl hw0 (fun _ h9 => h9) rfl (by decide +kernel) rfl rfl dX12_letter_153 (fun H locs hH hS => ?_)
            obtain ⟨f398, ef398⟩ : ∃ f9 : zFi, f9 = zu f340 30 0 (nI 2) := ⟨_, rfl⟩
            rw [← ef398] at hH
            have q399 : f398 30 45 = nI o := by rw [ef398, zu_n (fun h9 => absurd h9.2 (by decide))]; exact q341
            have q400 : f398 30 35 = nI d := by rw [ef398, zu_n (fun h9 => absurd h9.2 (by decide))]; exact q342
            have q401 : f398 30 2 = nI n := by rw [ef398, zu_n (fun h9 => absurd h9.2 (by decide))]; exact q343
            have q402 : f398 30 21 = nI 0 := by rw [ef398, zu_n (fun h9 => absurd h9.2 (by decide))]; exact q344
            have q403 : f398 30 22 = nI L := by rw [ef398, zu_n (fun h9 => absurd h9.2 (by decide))]; exact q345
            have q404 : f398 30 26 = nI l0 := by rw [ef398, zu_n (fun h9 => absurd h9.2 (by decide))]; exact q347
            have q405 : f398 30 24 = (zFv (zLet (fi 47) L (zS (fi 47) L 0))) := by rw [ef398, zu_n (fun h9 => absurd h9.2 (by decide))]; exact q348
            have q406 : f398 30 31 = nI 0 := by rw [ef398, zu_n (fun h9 => absurd h9.2 (by decide))]; exact q349
            have q407 : f398 30 0 = nI 2 := by rw [ef398]; exact zu_s
            have hMt := zMt.ci (fi' := f398) hMt (fun i9 k9 h9 => by rw [ef398]; exact zu_n (by omega))
            have hMo := zMo.ci (fi' := f398) hMo (fun i9 k9 h9 => by rw [ef398]; exact zu_n (by omega))
            have hMq := zMq.ci (fi' := f398) hMq (fun i9 k9 h9 => by rw [ef398]; exact zu_n (by omega))
            have hMl := zMl.ci (fi' := f398) hMl (fun i9 k9 h9 => by rw [ef398]; exact zu_n (by omega))
            refine lv_iconst (v := nI 0) hx hb dX12_letter_156 (by decide) ?_
            refine W.widen (k := 8) (n := 11264) (by decide) (by decide) ?_
            exact W.iret (v := nI 0) hx hb hr (fun t9 ht9 hW9 => ⟨⟨nI 0, (τ, f398, fr), rfl, (show ((∃ o2, o ≤ o2 ∧ o2 ≤ o + 1 ∧ zMo f398 n o2) ∧ (∃ g2 L2 d2, d2 ≤ d + 1 ∧ zMq τ f398 fr g2 L2 d2) ∧ f398 30 21 = nI 0 ∧ zGz τ fr τ fr ∧ ∀ a b, ¬ (a = 48 ∨ a = 49 ∨ (50 ≤ a ∧ a ≤ 64) ∨ (200 ≤ a ∧ a < 240) ∨ (a = 30 ∧ (b = 0 ∨ (21 ≤ b ∧ b ≤ 36) ∨ b = 45))) → f398 a b = fi a b) ∧ f398 30 24 = (zFv (zLet (fi 47) L (zS (fi 47) L 0))) from ⟨⟨⟨o, by omega, by omega, hMo⟩, ⟨g, Ln, d, by omega, hMq⟩, q402, zGz.rf hF, fun a b h => by rw [ef398, zu_n (by omega), ef340, zu_n (by omega), hf118 a b (by omega), ef106, zu_n (by omega), hf21 a b (by omega)]⟩, q405⟩), zEnd1 hH ht9 hW9⟩, hS.F ht9⟩) hS.2.2 dX12_letter_157
  · skip
    have k24 : f116 30 24 = (zFv (zLet (fi 47) L (zS (fi 47) L 0))) := h24.trans (by rw [hle]; rfl)
    refine lv_if_ne (tgt := 23) hx hb dX12_letter_13 (by decide) (fun c408 => absurd (by decide) c408) (fun c408 => ?_)
    refine lv_aload_n hx hb dX12_letter_16 rfl (lv_at hl 0 rfl) ?_
    refine lv_iconst (v := nI 1) hx hb dX12_letter_17 (by decide) ?_
    refine zPutI (D := D) (ci := 12) (ty := .int) (C := RX12) (T := TX12) (N := 71) hx hb hts hiX12 tyX12 tyX12_ok nmX12 hown hH hS (zk_30 hF) rfl 0 (by decide) rfl hw0 (fun _ h9 => h9) rfl (by decide +kernel) rfl rfl dX12_letter_18 (fun H locs hH hS => ?_)
    obtain ⟨f409, ef409⟩ : ∃ f9 : zFi, f9 = zu f116 30 0 (nI 1) := ⟨_, rfl⟩
    rw [← ef409] at hH
    have q410 : f409 30 45 = nI o := by rw [ef409, zu_n (fun h9 => absurd h9.2 (by decide))]; exact q119
    have q411 : f409 30 35 = nI d := by rw [ef409, zu_n (fun h9 => absurd h9.2 (by decide))]; exact q120
    have q412 : f409 30 2 = nI n := by rw [ef409, zu_n (fun h9 => absurd h9.2 (by decide))]; exact q121
    have q413 : f409 30 21 = nI 0 := by rw [ef409, zu_n (fun h9 => absurd h9.2 (by decide))]; exact q122
    have q414 : f409 30 22 = nI L := by rw [ef409, zu_n (fun h9 => absurd h9.2 (by decide))]; exact q123
    have q415 : f409 30 24 = (zFv (zLet (fi 47) L (zS (fi 47) L 0))) := by rw [ef409, zu_n (fun h9 => absurd h9.2 (by decide))]; exact k24
    have q416 : f409 30 0 = nI 1 := by rw [ef409]; exact zu_s
    have hMt := zMt.ci (fi' := f409) hMt (fun i9 k9 h9 => by rw [ef409]; exact zu_n (by omega))
    have hMo := zMo.ci (fi' := f409) hMo (fun i9 k9 h9 => by rw [ef409]; exact zu_n (by omega))
    have hMq := zMq.ci (fi' := f409) hMq (fun i9 k9 h9 => by rw [ef409]; exact zu_n (by omega))
    refine lv_iconst (v := nI 0) hx hb dX12_letter_21 (by decide) ?_
    refine W.widen (k := 8) (n := 11264) (by decide) (by decide) ?_
    exact W.iret (v := nI 0) hx hb hr (fun t9 ht9 hW9 => ⟨⟨nI 0, (τ, f409, fr), rfl, (show ((∃ o2, o ≤ o2 ∧ o2 ≤ o + 1 ∧ zMo f409 n o2) ∧ (∃ g2 L2 d2, d2 ≤ d + 1 ∧ zMq τ f409 fr g2 L2 d2) ∧ f409 30 21 = nI 0 ∧ zGz τ fr τ fr ∧ ∀ a b, ¬ (a = 48 ∨ a = 49 ∨ (50 ≤ a ∧ a ≤ 64) ∨ (200 ≤ a ∧ a < 240) ∨ (a = 30 ∧ (b = 0 ∨ (21 ≤ b ∧ b ≤ 36) ∨ b = 45))) → f409 a b = fi a b) ∧ f409 30 24 = (zFv (zLet (fi 47) L (zS (fi 47) L 0))) from ⟨⟨⟨o, by omega, by omega, hMo⟩, ⟨g, Ln, d, by omega, hMq⟩, q413, zGz.rf hF, fun a b h => by rw [ef409, zu_n (by omega), hf118 a b (by omega), ef106, zu_n (by omega), hf21 a b (by omega)]⟩, q415⟩), zEnd1 hH ht9 hW9⟩, hS.F ht9⟩) hS.2.2 dX12_letter_22
