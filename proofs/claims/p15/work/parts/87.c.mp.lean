set_option maxHeartbeats 4000000 in
set_option maxRecDepth 100000 in
/-- sign -/
theorem m_signX (l : Launch) (hl0 : l.stackTraces = false) (D : va_G) (A : Nat → Prop) (sad : Nat → Nat) (τ : zTy) (fi : zFi) (fr : zFr) (ol : Int64) (L a : Nat) (hF : zFix τ fr) (he : fi 30 22 = nI L) (ha : fi 30 23 = nI a) (hL4 : L ≤ 400) (haL : a ≤ L) : Met l yX12_sign wsX12_sign ({ frames := 0, cells := 0, slots := 0, locals := 0 }) (va_Pc [.ref (τ.1 30)] (zQc D A sad τ fi fr ol)) (va_Qi (fun (r : Int32) (u : zFi) => True ∧ (∃ c, a ≤ c ∧ c ≤ L ∧ u 30 23 = nI c ∧ (c = zS (fi 47) L a ∧ ((c < L ∧ r = fi 47 c) ∨ (c = L ∧ r = -1)))) ∧ ∀ a b, ¬ (a = 30 ∧ b = 23) → u a b = fi a b) (fun (u : zFi) (t : State) => zH D A τ u fr ol t t.heap) A) 0 0 A := by
  refine Met.ofW (cc := cX12_sign) (maxL := 1) (ret := (some .int)) (by decide) rfl ?_
  intro p9 e9 s m args below meth c9 s₁ B hml hv
  obtain ⟨rfl, hz, hH, hA⟩ := hv
  have hx := B.exec
  have hb := B.bytes
  have hr := B.returns
  have hts := atoms_spec (ws := wsX12_sign) B.pre
  have hown : s.vm.findClass RX12 = some m.cls := findClass_of_methodNamed B.named
  have hlocks := B.notSynchronized
  have hS : va_S A s.heap s.heap [] := va_S.rf
  have hl := lv_entry ([.ref (τ.1 30)]) (n := 1) (Nat.le_of_ble_eq_true rfl)
  rw [lg_entry_eq]
  generalize (lg_sl ([.ref (τ.1 30)]) ++ List.replicate (1 - (lg_sl ([.ref (τ.1 30)])).length) Slot.unset).toArray = ls at hl ⊢
  have hl : lv_has ls 1 [(0, .ref (τ.1 30))] := hl
  have hiX12 : ∀ w ∈ u_ws RX12 TX12 71, w ∈ wsX12_sign := fun _ h => List.mem_cons_of_mem _ (List.mem_append_right _ h)
  have hw1 := hts (.fieldLink RX12 206 "PostHouseModel" "at" "I") (by decide +kernel)
  have hw2 := hts (.fieldLink RX12 209 "PostHouseModel" "end" "I") (by decide +kernel)
  have hw3 := hts (.fieldLink RX12 58 "PostHouseModel" "tape" "[I") (by decide +kernel)
  refine zLp (σ := Nat × zFi) (fun x9 k9 H locs ls => (fun (c : Nat) (f : zFi) => k9 = L - c ∧ (a ≤ c ∧ c ≤ L ∧ f 30 23 = nI c ∧ (∀ j, a ≤ j → j < c → (fi 47 j).toInt = 32) ∧ ∀ a b, ¬ (a = 30 ∧ b = 23) → f a b = fi a b) ∧ zH D A τ f fr ol s H ∧ va_S A s.heap H locs ∧ lv_has ls 1 [(0, .ref (τ.1 30))]) x9.1 x9.2) (a, fi) (L - a) (show L - a = L - a ∧ (a ≤ a ∧ a ≤ L ∧ fi 30 23 = nI a ∧ (∀ j, a ≤ j → j < a → (fi 47 j).toInt = 32) ∧ ∀ a b, ¬ (a = 30 ∧ b = 23) → fi a b = fi a b) ∧ zH D A τ fi fr ol s _ ∧ va_S A s.heap _ _ ∧ lv_has _ 1 [(0, .ref (τ.1 30))] from ⟨rfl, ⟨Nat.le_refl _, haL, ha, fun j h5 h6 => absurd h6 (by omega), fun _ _ _ => rfl⟩, hH, hS, lv_sub hl [0] rfl⟩) (fun k9 ih x9 H locs ls hv9 => ?_)
  obtain ⟨c, f⟩ := x9
  have hv9 : k9 = L - c ∧ (a ≤ c ∧ c ≤ L ∧ f 30 23 = nI c ∧ (∀ j, a ≤ j → j < c → (fi 47 j).toInt = 32) ∧ ∀ a b, ¬ (a = 30 ∧ b = 23) → f a b = fi a b) ∧ zH D A τ f fr ol s H ∧ va_S A s.heap H locs ∧ lv_has ls 1 [(0, .ref (τ.1 30))] := hv9
  obtain ⟨hkih101, hv9, hH, hS, hl⟩ := hv9
  obtain ⟨h1, h2, hc, hj, hfr⟩ := hv9
  have ih101 := ih
  clear ih
  have q22 : f 30 22 = nI L := by rw [hfr 30 22 (by omega)]; exact he
  have q47 : f 47 = fi 47 := by funext k; exact hfr 47 k (by omega)
  refine lv_aload_n hx hb dX12_sign_0 rfl (lv_at hl 0 rfl) ?_
  refine zGetI (D := D) (ci := 12) (C := RX12) (T := TX12) (N := 71) hx hb hts hiX12 hown hH (zk_30 hF) rfl 23 (by decide) rfl hw1 (fun _ h9 => h9) dX12_sign_1 hc ?_
  refine lv_aload_n hx hb dX12_sign_4 rfl (lv_at hl 0 rfl) ?_
  refine zGetI (D := D) (ci := 12) (C := RX12) (T := TX12) (N := 71) hx hb hts hiX12 hown hH (zk_30 hF) rfl 22 (by decide) rfl hw2 (fun _ h9 => h9) dX12_sign_5 q22 ?_
  refine lv_icmp_ge (tgt := 38) hx hb dX12_sign_8 (by decide) (fun c102 => ?_) (fun c102 => ?_)
  · have zc102 := c102
    replace zc102 := zc_le (nI_toInt (by omega)) (nI_toInt (by omega)) zc102
    refine lv_aload_n hx hb dX12_sign_38 rfl (lv_at hl 0 rfl) ?_
    refine zGetI (D := D) (ci := 12) (C := RX12) (T := TX12) (N := 71) hx hb hts hiX12 hown hH (zk_30 hF) rfl 23 (by decide) rfl hw1 (fun _ h9 => h9) dX12_sign_39 hc ?_
    refine lv_aload_n hx hb dX12_sign_42 rfl (lv_at hl 0 rfl) ?_
    refine zGetI (D := D) (ci := 12) (C := RX12) (T := TX12) (N := 71) hx hb hts hiX12 hown hH (zk_30 hF) rfl 22 (by decide) rfl hw2 (fun _ h9 => h9) dX12_sign_43 q22 ?_
    refine lv_icmp_ge (tgt := 61) hx hb dX12_sign_46 (by decide) (fun c103 => ?_) (fun c103 => ?_)
    · have zc103 := c103
      replace zc103 := zc_le (nI_toInt (by omega)) (nI_toInt (by omega)) zc103
      refine lv_iconst (v := (-1)) hx hb dX12_sign_61 (by decide) ?_
      refine W.widen (k := 0) (n := 0) (by decide) (by decide) ?_
      exact W.iret (v := (-1)) hx hb hr (fun t9 ht9 hW9 => ⟨⟨(-1), f, rfl, ⟨trivial, ⟨c, h1, h2, hc, zSkip.eq ⟨h1, h2, hj, fun h => by first | exact absurd h (by omega)⟩, Or.inr ⟨by omega, rfl⟩⟩, fun a b h => hfr a b h⟩, zEnd1 hH ht9 hW9⟩, hS.F ht9⟩) hS.2.2 dX12_sign_62
    · have zc103 := c103
      replace zc103 := zc_nle (nI_toInt (by omega)) (nI_toInt (by omega)) zc103
      refine lv_aload_n hx hb dX12_sign_49 rfl (lv_at hl 0 rfl) ?_
      refine zGetR (D := D) (ci := 12) (C := RX12) (T := TX12) (N := 71) hx hb hts hiX12 hown hH (zk_30 hF) rfl 20 (by decide) rfl hw3 (fun _ h9 => h9) dX12_sign_50 (zr_30_20 hF) ?_
      refine lv_aload_n hx hb dX12_sign_53 rfl (lv_at hl 0 rfl) ?_
      refine zGetI (D := D) (ci := 12) (C := RX12) (T := TX12) (N := 71) hx hb hts hiX12 hown hH (zk_30 hF) rfl 23 (by decide) rfl hw1 (fun _ h9 => h9) dX12_sign_54 hc ?_
      refine zIaldN (D := D) hx hb hH (zk_47 hF) (zn_47 hF) (by omega) (by omega) rfl dX12_sign_57 ?_
      refine lv_goto (tgt := 62) hx hb dX12_sign_58 (by decide) ?_
      refine W.widen (k := 0) (n := 0) (by decide) (by decide) ?_
      exact W.iret (v := f 47 c) hx hb hr (fun t9 ht9 hW9 => ⟨⟨f 47 c, f, rfl, ⟨trivial, ⟨c, h1, h2, hc, zSkip.eq ⟨h1, h2, hj, fun h => by first | exact absurd h (by omega)⟩, Or.inl ⟨by omega, by rw [q47]⟩⟩, fun a b h => hfr a b h⟩, zEnd1 hH ht9 hW9⟩, hS.F ht9⟩) hS.2.2 dX12_sign_62
  · have zc102 := c102
    replace zc102 := zc_nle (nI_toInt (by omega)) (nI_toInt (by omega)) zc102
    refine lv_aload_n hx hb dX12_sign_11 rfl (lv_at hl 0 rfl) ?_
    refine zGetR (D := D) (ci := 12) (C := RX12) (T := TX12) (N := 71) hx hb hts hiX12 hown hH (zk_30 hF) rfl 20 (by decide) rfl hw3 (fun _ h9 => h9) dX12_sign_12 (zr_30_20 hF) ?_
    refine lv_aload_n hx hb dX12_sign_15 rfl (lv_at hl 0 rfl) ?_
    refine zGetI (D := D) (ci := 12) (C := RX12) (T := TX12) (N := 71) hx hb hts hiX12 hown hH (zk_30 hF) rfl 23 (by decide) rfl hw1 (fun _ h9 => h9) dX12_sign_16 hc ?_
    refine zIaldN (D := D) hx hb hH (zk_47 hF) (zn_47 hF) (by omega) (by omega) rfl dX12_sign_19 ?_
    refine lv_bipush (v := nI 32) hx hb dX12_sign_20 (by decide) ?_
    refine lv_icmp_ne (tgt := 38) hx hb dX12_sign_22 (by decide) (fun c104 => ?_) (fun c104 => ?_)
    · have zc104 := c104
      replace zc104 := zc_neq (rfl) (nI_toInt (by omega)) zc104
      refine lv_aload_n hx hb dX12_sign_38 rfl (lv_at hl 0 rfl) ?_
      refine zGetI (D := D) (ci := 12) (C := RX12) (T := TX12) (N := 71) hx hb hts hiX12 hown hH (zk_30 hF) rfl 23 (by decide) rfl hw1 (fun _ h9 => h9) dX12_sign_39 hc ?_
      refine lv_aload_n hx hb dX12_sign_42 rfl (lv_at hl 0 rfl) ?_
      refine zGetI (D := D) (ci := 12) (C := RX12) (T := TX12) (N := 71) hx hb hts hiX12 hown hH (zk_30 hF) rfl 22 (by decide) rfl hw2 (fun _ h9 => h9) dX12_sign_43 q22 ?_
      refine lv_icmp_ge (tgt := 61) hx hb dX12_sign_46 (by decide) (fun c105 => ?_) (fun c105 => ?_)
      · have zc105 := c105
        replace zc105 := zc_le (nI_toInt (by omega)) (nI_toInt (by omega)) zc105
        refine lv_iconst (v := (-1)) hx hb dX12_sign_61 (by decide) ?_
        refine W.widen (k := 0) (n := 0) (by decide) (by decide) ?_
        exact W.iret (v := (-1)) hx hb hr (fun t9 ht9 hW9 => ⟨⟨(-1), f, rfl, ⟨trivial, ⟨c, h1, h2, hc, zSkip.eq ⟨h1, h2, hj, fun h => by first | exact absurd h (by omega) | (rw [q47] at zc104; omega)⟩, Or.inr ⟨by omega, rfl⟩⟩, fun a b h => hfr a b h⟩, zEnd1 hH ht9 hW9⟩, hS.F ht9⟩) hS.2.2 dX12_sign_62
      · have zc105 := c105
        replace zc105 := zc_nle (nI_toInt (by omega)) (nI_toInt (by omega)) zc105
        refine lv_aload_n hx hb dX12_sign_49 rfl (lv_at hl 0 rfl) ?_
        refine zGetR (D := D) (ci := 12) (C := RX12) (T := TX12) (N := 71) hx hb hts hiX12 hown hH (zk_30 hF) rfl 20 (by decide) rfl hw3 (fun _ h9 => h9) dX12_sign_50 (zr_30_20 hF) ?_
        refine lv_aload_n hx hb dX12_sign_53 rfl (lv_at hl 0 rfl) ?_
        refine zGetI (D := D) (ci := 12) (C := RX12) (T := TX12) (N := 71) hx hb hts hiX12 hown hH (zk_30 hF) rfl 23 (by decide) rfl hw1 (fun _ h9 => h9) dX12_sign_54 hc ?_
        refine zIaldN (D := D) hx hb hH (zk_47 hF) (zn_47 hF) (by omega) (by omega) rfl dX12_sign_57 ?_
        refine lv_goto (tgt := 62) hx hb dX12_sign_58 (by decide) ?_
        refine W.widen (k := 0) (n := 0) (by decide) (by decide) ?_
        exact W.iret (v := f 47 c) hx hb hr (fun t9 ht9 hW9 => ⟨⟨f 47 c, f, rfl, ⟨trivial, ⟨c, h1, h2, hc, zSkip.eq ⟨h1, h2, hj, fun h => by first | exact absurd h (by omega) | (rw [q47] at zc104; omega)⟩, Or.inl ⟨by omega, by rw [q47]⟩⟩, fun a b h => hfr a b h⟩, zEnd1 hH ht9 hW9⟩, hS.F ht9⟩) hS.2.2 dX12_sign_62
    · have zc104 := c104
      replace zc104 := zc_eq (rfl) (nI_toInt (by omega)) zc104
      refine lv_aload_n hx hb dX12_sign_25 rfl (lv_at hl 0 rfl) ?_
      refine lv_dup hx hb dX12_sign_26 rfl ?_
      refine zGetI (D := D) (ci := 12) (C := RX12) (T := TX12) (N := 71) hx hb hts hiX12 hown hH (zk_30 hF) rfl 23 (by decide) rfl hw1 (fun _ h9 => h9) dX12_sign_27 hc ?_
      refine lv_iconst (v := nI 1) hx hb dX12_sign_30 (by decide) ?_
      refine lv_iadd hx hb dX12_sign_31 ?_
      refine lv_topi (fun v106 ev106 => ?_)
      obtain rfl : v106 = nI (c + 1) := ev106.trans (nI_add _ _)
      refine zPutI (D := D) (ci := 12) (ty := .int) (C := RX12) (T := TX12) (N := 71) hx hb hts hiX12 tyX12 tyX12_ok nmX12 hown hH hS (zk_30 hF) rfl 23 (by decide) rfl hw1 (fun _ h9 => h9) rfl (by decide +kernel) rfl rfl dX12_sign_32 (fun H locs hH hS => ?_)
      obtain ⟨f107, ef107⟩ : ∃ f9 : zFi, f9 = zu f 30 23 (nI (c + 1)) := ⟨_, rfl⟩
      rw [← ef107] at hH
      have q108 : f107 30 22 = nI L := by rw [ef107, zu_n (fun h9 => absurd h9.2 (by decide))]; exact q22
      have q109 : f107 30 23 = nI (c + 1) := by rw [ef107]; exact zu_s
      refine lv_goto (tgt := 0) hx hb dX12_sign_35 (by decide) ?_
      exact ih101 (L - (c + 1)) (by omega) (c + 1, f107) _ _ _ (show L - (c + 1) = L - (c + 1) ∧ (a ≤ (c + 1) ∧ (c + 1) ≤ L ∧ f107 30 23 = nI (c + 1) ∧ (∀ j, a ≤ j → j < (c + 1) → (fi 47 j).toInt = 32) ∧ ∀ a b, ¬ (a = 30 ∧ b = 23) → f107 a b = fi a b) ∧ zH D A τ f107 fr ol s _ ∧ va_S A s.heap _ _ ∧ lv_has _ 1 [(0, .ref (τ.1 30))] from ⟨rfl, ⟨by omega, by omega, q109, fun j h5 h6 => by by_cases h7 : j = c; (subst h7; rw [q47] at zc104; omega); exact hj j h5 (by omega), fun a b h => by rw [ef107, zu_n (by omega)]; exact hfr a b h⟩, hH, hS, lv_sub hl [0] rfl⟩)
set_option maxHeartbeats 4000000 in
set_option maxRecDepth 100000 in
/-- isDigit -/
theorem m_isDigitX (l : Launch) (hl0 : l.stackTraces = false) (D : va_G) (A : Nat → Prop) (sad : Nat → Nat) (τ : zTy) (fi : zFi) (fr : zFr) (ol : Int64) (x : Int32) : Met l yX12_isDigit wsX12_isDigit ({ frames := 0, cells := 0, slots := 0, locals := 0 }) (va_Pc [.int x] (zQc D A sad τ fi fr ol)) (va_Qi (fun (r : Int32) (u : Unit) => (r = 1 ∧ 48 ≤ x.toInt ∧ x.toInt ≤ 57) ∨ (r = 0 ∧ ¬ (48 ≤ x.toInt ∧ x.toInt ≤ 57))) (fun (u : Unit) (t : State) => zH D A τ fi fr ol t t.heap) A) 0 0 A := by
  refine Met.ofW (cc := cX12_isDigit) (maxL := 1) (ret := (some .boolean)) (by decide) rfl ?_
  intro p9 e9 s m args below meth c9 s₁ B hml hv
  obtain ⟨rfl, hz, hH, hA⟩ := hv
  have hx := B.exec
  have hb := B.bytes
  have hr := B.returns
  have hts := atoms_spec (ws := wsX12_isDigit) B.pre
  have hown : s.vm.findClass RX12 = some m.cls := findClass_of_methodNamed B.named
  have hlocks := B.notSynchronized
  have hS : va_S A s.heap s.heap [] := va_S.rf
  have hl := lv_entry ([.int x]) (n := 1) (Nat.le_of_ble_eq_true rfl)
  rw [lg_entry_eq]
  generalize (lg_sl ([.int x]) ++ List.replicate (1 - (lg_sl ([.int x])).length) Slot.unset).toArray = ls at hl ⊢
  have hl : lv_has ls 1 [(0, .int x)] := hl
  refine lv_iload_n hx hb dX12_isDigit_0 rfl (lv_at hl 0 rfl) ?_
  refine lv_bipush (v := nI 48) hx hb dX12_isDigit_1 (by decide) ?_
  refine lv_icmp_lt (tgt := 16) hx hb dX12_isDigit_3 (by decide) (fun c101 => ?_) (fun c101 => ?_)
  · have zc101 := c101
    replace zc101 := zc_lt (rfl) (nI_toInt (by omega)) zc101
    refine lv_iconst (v := nI 0) hx hb dX12_isDigit_16 (by decide) ?_
    refine W.widen (k := 0) (n := 0) (by decide) (by decide) ?_
    exact W.zret (v := nI 0) hx hb hr (by decide) (fun t9 ht9 hW9 => ⟨⟨nI 0, (), rfl, Or.inr ⟨rfl, fun h9 => by have h91 := h9.1; have h92 := h9.2; omega⟩, zEnd1 hH ht9 hW9⟩, hS.F ht9⟩) hS.2.2 dX12_isDigit_17
  · have zc101 := c101
    replace zc101 := zc_nlt (rfl) (nI_toInt (by omega)) zc101
    refine lv_iload_n hx hb dX12_isDigit_6 rfl (lv_at hl 0 rfl) ?_
    refine lv_bipush (v := nI 57) hx hb dX12_isDigit_7 (by decide) ?_
    refine lv_icmp_gt (tgt := 16) hx hb dX12_isDigit_9 (by decide) (fun c102 => ?_) (fun c102 => ?_)
    · have zc102 := c102
      replace zc102 := zc_lt (nI_toInt (by omega)) (rfl) zc102
      refine lv_iconst (v := nI 0) hx hb dX12_isDigit_16 (by decide) ?_
      refine W.widen (k := 0) (n := 0) (by decide) (by decide) ?_
      exact W.zret (v := nI 0) hx hb hr (by decide) (fun t9 ht9 hW9 => ⟨⟨nI 0, (), rfl, Or.inr ⟨rfl, fun h9 => by have h91 := h9.1; have h92 := h9.2; omega⟩, zEnd1 hH ht9 hW9⟩, hS.F ht9⟩) hS.2.2 dX12_isDigit_17
    · have zc102 := c102
      replace zc102 := zc_nlt (nI_toInt (by omega)) (rfl) zc102
      refine lv_iconst (v := nI 1) hx hb dX12_isDigit_12 (by decide) ?_
      refine lv_goto (tgt := 17) hx hb dX12_isDigit_13 (by decide) ?_
      refine W.widen (k := 0) (n := 0) (by decide) (by decide) ?_
      exact W.zret (v := nI 1) hx hb hr (by decide) (fun t9 ht9 hW9 => ⟨⟨nI 1, (), rfl, Or.inl ⟨rfl, by omega, by omega⟩, zEnd1 hH ht9 hW9⟩, hS.F ht9⟩) hS.2.2 dX12_isDigit_17
set_option maxHeartbeats 4000000 in
set_option maxRecDepth 100000 in
/-- wordEnd -/
theorem m_wordEndX (l : Launch) (hl0 : l.stackTraces = false) (D : va_G) (A : Nat → Prop) (sad : Nat → Nat) (τ : zTy) (fi : zFi) (fr : zFr) (ol : Int64) (L a : Nat) (hF : zFix τ fr) (he : fi 30 22 = nI L) (ha : fi 30 23 = nI a) (hL4 : L ≤ 400) (haL : a ≤ L) : Met l yX12_wordEnd wsX12_wordEnd ({ frames := 0, cells := 0, slots := 0, locals := 0 }) (va_Pc [.ref (τ.1 30)] (zQc D A sad τ fi fr ol)) (va_Qi (fun (r : Int32) (u : Unit) => ∃ c, a ≤ c ∧ c ≤ L ∧ r = nI c ∧ zRun (fi 47) 97 122 a L (c - a)) (fun (u : Unit) (t : State) => zH D A τ fi fr ol t t.heap) A) 0 0 A := by
  refine Met.ofW (cc := cX12_wordEnd) (maxL := 2) (ret := (some .int)) (by decide) rfl ?_
  intro p9 e9 s m args below meth c9 s₁ B hml hv
  obtain ⟨rfl, hz, hH, hA⟩ := hv
  have hx := B.exec
  have hb := B.bytes
  have hr := B.returns
  have hts := atoms_spec (ws := wsX12_wordEnd) B.pre
  have hown : s.vm.findClass RX12 = some m.cls := findClass_of_methodNamed B.named
  have hlocks := B.notSynchronized
  have hS : va_S A s.heap s.heap [] := va_S.rf
  have hl := lv_entry ([.ref (τ.1 30)]) (n := 2) (Nat.le_of_ble_eq_true rfl)
  rw [lg_entry_eq]
  generalize (lg_sl ([.ref (τ.1 30)]) ++ List.replicate (2 - (lg_sl ([.ref (τ.1 30)])).length) Slot.unset).toArray = ls at hl ⊢
  have hl : lv_has ls 2 [(0, .ref (τ.1 30))] := hl
  have hiX12 : ∀ w ∈ u_ws RX12 TX12 71, w ∈ wsX12_wordEnd := fun _ h => List.mem_cons_of_mem _ (List.mem_append_right _ h)
  have hw1 := hts (.fieldLink RX12 206 "PostHouseModel" "at" "I") (by decide +kernel)
  have hw2 := hts (.fieldLink RX12 209 "PostHouseModel" "end" "I") (by decide +kernel)
  have hw3 := hts (.fieldLink RX12 58 "PostHouseModel" "tape" "[I") (by decide +kernel)
  refine lv_aload_n hx hb dX12_wordEnd_0 rfl (lv_at hl 0 rfl) ?_
  refine zGetI (D := D) (ci := 12) (C := RX12) (T := TX12) (N := 71) hx hb hts hiX12 hown hH (zk_30 hF) rfl 23 (by decide) rfl hw1 (fun _ h9 => h9) dX12_wordEnd_1 ha ?_
  refine lv_istore_n (lv' := [(1, .int (nI a)), (0, .ref (τ.1 30))]) hx hb dX12_wordEnd_4 rfl hl (by decide) rfl (fun ls hl => ?_)
  refine zLp (σ := Nat) (fun x9 k9 H locs ls => (fun (c : Nat) => k9 = L - c ∧ (a ≤ c ∧ c ≤ L ∧ ∀ j, a ≤ j → j < c → 97 ≤ (fi 47 j).toInt ∧ (fi 47 j).toInt ≤ 122) ∧ zH D A τ fi fr ol s H ∧ va_S A s.heap H locs ∧ lv_has ls 2 [(0, .ref (τ.1 30)), (1, .int (nI c))]) x9) a (L - a) (show L - a = L - a ∧ (a ≤ a ∧ a ≤ L ∧ ∀ j, a ≤ j → j < a → 97 ≤ (fi 47 j).toInt ∧ (fi 47 j).toInt ≤ 122) ∧ zH D A τ fi fr ol s _ ∧ va_S A s.heap _ _ ∧ lv_has _ 2 [(0, .ref (τ.1 30)), (1, .int (nI a))] from ⟨rfl, ⟨Nat.le_refl _, haL, fun j h5 h6 => absurd h6 (by omega)⟩, hH, hS, lv_sub hl [1, 0] rfl⟩) (fun k9 ih x9 H locs ls hv9 => ?_)
  generalize x9 = c at hv9
  have hv9 : k9 = L - c ∧ (a ≤ c ∧ c ≤ L ∧ ∀ j, a ≤ j → j < c → 97 ≤ (fi 47 j).toInt ∧ (fi 47 j).toInt ≤ 122) ∧ zH D A τ fi fr ol s H ∧ va_S A s.heap H locs ∧ lv_has ls 2 [(0, .ref (τ.1 30)), (1, .int (nI c))] := hv9
  obtain ⟨hkih101, hv9, hH, hS, hl⟩ := hv9
  obtain ⟨h1, h2, hj⟩ := hv9
  have ih101 := ih
  clear ih
  refine lv_iload_n hx hb dX12_wordEnd_5 rfl (lv_at hl 1 rfl) ?_
  refine lv_aload_n hx hb dX12_wordEnd_6 rfl (lv_at hl 0 rfl) ?_
  refine zGetI (D := D) (ci := 12) (C := RX12) (T := TX12) (N := 71) hx hb hts hiX12 hown hH (zk_30 hF) rfl 22 (by decide) rfl hw2 (fun _ h9 => h9) dX12_wordEnd_7 he ?_
  refine lv_icmp_ge (tgt := 41) hx hb dX12_wordEnd_10 (by decide) (fun c102 => ?_) (fun c102 => ?_)
  · have zc102 := c102
    replace zc102 := zc_le (nI_toInt (by omega)) (nI_toInt (by omega)) zc102
    refine lv_iload_n hx hb dX12_wordEnd_41 rfl (lv_at hl 1 rfl) ?_
    refine W.widen (k := 0) (n := 0) (by decide) (by decide) ?_
    exact W.iret (v := nI c) hx hb hr (fun t9 ht9 hW9 => ⟨⟨nI c, (), rfl, ⟨c, h1, h2, rfl, zRun.wd h1 h2 hj (fun h h9 => by have h91 := h9.1; have h92 := h9.2; omega)⟩, zEnd1 hH ht9 hW9⟩, hS.F ht9⟩) hS.2.2 dX12_wordEnd_42
  · have zc102 := c102
    replace zc102 := zc_nle (nI_toInt (by omega)) (nI_toInt (by omega)) zc102
    refine lv_aload_n hx hb dX12_wordEnd_13 rfl (lv_at hl 0 rfl) ?_
    refine zGetR (D := D) (ci := 12) (C := RX12) (T := TX12) (N := 71) hx hb hts hiX12 hown hH (zk_30 hF) rfl 20 (by decide) rfl hw3 (fun _ h9 => h9) dX12_wordEnd_14 (zr_30_20 hF) ?_
    refine lv_iload_n hx hb dX12_wordEnd_17 rfl (lv_at hl 1 rfl) ?_
    refine zIaldN (D := D) hx hb hH (zk_47 hF) (zn_47 hF) (by omega) (by omega) rfl dX12_wordEnd_18 ?_
    refine lv_bipush (v := nI 97) hx hb dX12_wordEnd_19 (by decide) ?_
    refine lv_icmp_lt (tgt := 41) hx hb dX12_wordEnd_21 (by decide) (fun c103 => ?_) (fun c103 => ?_)
    · have zc103 := c103
      replace zc103 := zc_lt (rfl) (nI_toInt (by omega)) zc103
      refine lv_iload_n hx hb dX12_wordEnd_41 rfl (lv_at hl 1 rfl) ?_
      refine W.widen (k := 0) (n := 0) (by decide) (by decide) ?_
      exact W.iret (v := nI c) hx hb hr (fun t9 ht9 hW9 => ⟨⟨nI c, (), rfl, ⟨c, h1, h2, rfl, zRun.wd h1 h2 hj (fun h h9 => by have h91 := h9.1; have h92 := h9.2; omega)⟩, zEnd1 hH ht9 hW9⟩, hS.F ht9⟩) hS.2.2 dX12_wordEnd_42
    · have zc103 := c103
      replace zc103 := zc_nlt (rfl) (nI_toInt (by omega)) zc103
      refine lv_aload_n hx hb dX12_wordEnd_24 rfl (lv_at hl 0 rfl) ?_
      refine zGetR (D := D) (ci := 12) (C := RX12) (T := TX12) (N := 71) hx hb hts hiX12 hown hH (zk_30 hF) rfl 20 (by decide) rfl hw3 (fun _ h9 => h9) dX12_wordEnd_25 (zr_30_20 hF) ?_
      refine lv_iload_n hx hb dX12_wordEnd_28 rfl (lv_at hl 1 rfl) ?_
      refine zIaldN (D := D) hx hb hH (zk_47 hF) (zn_47 hF) (by omega) (by omega) rfl dX12_wordEnd_29 ?_
      refine lv_bipush (v := nI 122) hx hb dX12_wordEnd_30 (by decide) ?_
      refine lv_icmp_gt (tgt := 41) hx hb dX12_wordEnd_32 (by decide) (fun c104 => ?_) (fun c104 => ?_)
      · have zc104 := c104
        replace zc104 := zc_lt (nI_toInt (by omega)) (rfl) zc104
        refine lv_iload_n hx hb dX12_wordEnd_41 rfl (lv_at hl 1 rfl) ?_
        refine W.widen (k := 0) (n := 0) (by decide) (by decide) ?_
        exact W.iret (v := nI c) hx hb hr (fun t9 ht9 hW9 => ⟨⟨nI c, (), rfl, ⟨c, h1, h2, rfl, zRun.wd h1 h2 hj (fun h h9 => by have h91 := h9.1; have h92 := h9.2; omega)⟩, zEnd1 hH ht9 hW9⟩, hS.F ht9⟩) hS.2.2 dX12_wordEnd_42
      · have zc104 := c104
        replace zc104 := zc_nlt (nI_toInt (by omega)) (rfl) zc104
        refine lv_iinc (v := nI (c + 1)) (lv' := [(1, .int (nI (c + 1))), (0, .ref (τ.1 30))]) hx hb dX12_wordEnd_35 hl (k := 1) rfl (by rw [show (Int32.ofInt 1 : Int32) = nI 1 from by decide, nI_add]) (by decide) rfl (fun ls hl => ?_)
        refine lv_goto (tgt := 5) hx hb dX12_wordEnd_38 (by decide) ?_
        exact ih101 (L - (c + 1)) (by omega) (c + 1) _ _ _ (show L - (c + 1) = L - (c + 1) ∧ (a ≤ (c + 1) ∧ (c + 1) ≤ L ∧ ∀ j, a ≤ j → j < (c + 1) → 97 ≤ (fi 47 j).toInt ∧ (fi 47 j).toInt ≤ 122) ∧ zH D A τ fi fr ol s _ ∧ va_S A s.heap _ _ ∧ lv_has _ 2 [(0, .ref (τ.1 30)), (1, .int (nI (c + 1)))] from ⟨rfl, ⟨by omega, by omega, fun j h5 h6 => by by_cases h7 : j = c; (subst h7; constructor <;> omega); exact hj j h5 (by omega)⟩, hH, hS, lv_sub hl [1, 0] rfl⟩)
set_option maxHeartbeats 4000000 in
set_option maxRecDepth 100000 in
/-- wrong -/
theorem m_wrongX (l : Launch) (hl0 : l.stackTraces = false) (D : va_G) (A : Nat → Prop) (sad : Nat → Nat) (τ : zTy) (fi : zFi) (fr : zFr) (ol : Int64) (x : Int32) (hF : zFix τ fr) : Met l yX12_wrong wsX12_wrong ({ frames := 0, cells := 0, slots := 0, locals := 0 }) (va_Pc [.ref (τ.1 30), .int x] (zQc D A sad τ fi fr ol)) (va_Qi (fun (r : Int32) (u : zFi) => r = 0 ∧ u = zu fi 30 24 x) (fun (u : zFi) (t : State) => zH D A τ u fr ol t t.heap) A) 0 0 A := by
  refine Met.ofW (cc := cX12_wrong) (maxL := 2) (ret := (some .boolean)) (by decide) rfl ?_
  intro p9 e9 s m args below meth c9 s₁ B hml hv
  obtain ⟨rfl, hz, hH, hA⟩ := hv
  have hx := B.exec
  have hb := B.bytes
  have hr := B.returns
  have hts := atoms_spec (ws := wsX12_wrong) B.pre
  have hown : s.vm.findClass RX12 = some m.cls := findClass_of_methodNamed B.named
  have hlocks := B.notSynchronized
  have hS : va_S A s.heap s.heap [] := va_S.rf
  have hl := lv_entry ([.ref (τ.1 30), .int x]) (n := 2) (Nat.le_of_ble_eq_true rfl)
  rw [lg_entry_eq]
  generalize (lg_sl ([.ref (τ.1 30), .int x]) ++ List.replicate (2 - (lg_sl ([.ref (τ.1 30), .int x])).length) Slot.unset).toArray = ls at hl ⊢
  have hl : lv_has ls 2 [(0, .ref (τ.1 30)), (1, .int x)] := hl
  have hw0 := hts (.fieldLink RX12 61 "PostHouseModel" "fault" "I") (by decide +kernel)
  have hiX12 : ∀ w ∈ u_ws RX12 TX12 71, w ∈ wsX12_wrong := fun _ h => List.mem_cons_of_mem _ (List.mem_append_right _ h)
  refine lv_aload_n hx hb dX12_wrong_0 rfl (lv_at hl 0 rfl) ?_
  refine lv_iload_n hx hb dX12_wrong_1 rfl (lv_at hl 1 rfl) ?_
  refine zPutI (D := D) (ci := 12) (ty := .int) (C := RX12) (T := TX12) (N := 71) hx hb hts hiX12 tyX12 tyX12_ok nmX12 hown hH hS (zk_30 hF) rfl 24 (by decide) rfl hw0 (fun _ h9 => h9) rfl (by decide +kernel) rfl rfl dX12_wrong_2 (fun H locs hH hS => ?_)
  obtain ⟨f101, ef101⟩ : ∃ f9 : zFi, f9 = zu fi 30 24 x := ⟨_, rfl⟩
  rw [← ef101] at hH
  have q102 : f101 30 24 = x := by rw [ef101]; exact zu_s
  refine lv_iconst (v := nI 0) hx hb dX12_wrong_5 (by decide) ?_
  refine W.widen (k := 0) (n := 0) (by decide) (by decide) ?_
  exact W.zret (v := nI 0) hx hb hr (by decide) (fun t9 ht9 hW9 => ⟨⟨nI 0, f101, rfl, ⟨rfl, ef101⟩, zEnd1 hH ht9 hW9⟩, hS.F ht9⟩) hS.2.2 dX12_wrong_6
set_option maxHeartbeats 4000000 in
set_option maxRecDepth 100000 in
/-- isWord -/
theorem m_isWordX (l : Launch) (hl0 : l.stackTraces = false) (D : va_G) (A : Nat → Prop) (sad : Nat → Nat) (τ : zTy) (fi : zFi) (fr : zFr) (ol : Int64) (L a : Nat) (hF : zFix τ fr) (he : fi 30 22 = nI L) (ha : fi 30 23 = nI a) (hL4 : L ≤ 400) (haL : a ≤ L) (wd : Int64) : Met l yX12_isWord wsX12_isWord ({ frames := 1, cells := 0, slots := 0, locals := 21 }) (va_Pc [.ref (τ.1 30), .long wd] (zQc D A sad τ fi fr ol)) (va_Qi (fun (r : Int32) (u : zFi) => True ∧ (∃ c, a ≤ c ∧ c ≤ L ∧ u 30 23 = nI c ∧ (c = zS (fi 47) L a ∧ ((r = 1 ∧ zOKw (fi 47) c L wd) ∨ (r = 0 ∧ ¬ zOKw (fi 47) c L wd)))) ∧ ∀ a b, ¬ (a = 30 ∧ b = 23) → u a b = fi a b) (fun (u : zFi) (t : State) => zH D A τ u fr ol t t.heap) A) 0 0 A := by
  refine Met.ofW (cc := cX12_isWord) (maxL := 8) (ret := (some .boolean)) (by decide) rfl ?_
  intro p9 e9 s m args below meth c9 s₁ B hml hv
  obtain ⟨rfl, hz, hH, hA⟩ := hv
  have hx := B.exec
  have hb := B.bytes
  have hr := B.returns
  have hts := atoms_spec (ws := wsX12_isWord) B.pre
  have hown : s.vm.findClass RX12 = some m.cls := findClass_of_methodNamed B.named
  have hlocks := B.notSynchronized
  have hS : va_S A s.heap s.heap [] := va_S.rf
  have hl := lv_entry ([.ref (τ.1 30), .long wd]) (n := 8) (Nat.le_of_ble_eq_true rfl)
  rw [lg_entry_eq]
  generalize (lg_sl ([.ref (τ.1 30), .long wd]) ++ List.replicate (8 - (lg_sl ([.ref (τ.1 30), .long wd])).length) Slot.unset).toArray = ls at hl ⊢
  have hl : lv_has ls 8 [(0, .ref (τ.1 30)), (1, .long wd)] := hl
  have hiX12 : ∀ w ∈ u_ws RX12 TX12 71, w ∈ wsX12_isWord := fun _ h => List.mem_cons_of_mem _ (List.mem_append_right _ h)
  have hw1 := hts (.fieldLink RX12 206 "PostHouseModel" "at" "I") (by decide +kernel)
  have hw2 := hts (.fieldLink RX12 58 "PostHouseModel" "tape" "[I") (by decide +kernel)
  refine lv_aload_n hx hb dX12_isWord_0 rfl (lv_at hl 0 rfl) ?_
  refine va_calli (va_runV (As := []) (rest := []) ⟨hx, hb, hml, hown, hts⟩ (m_signX l hl0 D A sad τ fi fr ol L a hF he ha (by omega) (by omega)) (cwV 0 hts gX12_isWord_X12_sign rfl rfl rfl (by decide +kernel) ⟨Nat.le_of_ble_eq_true rfl, Nat.le_of_ble_eq_true rfl⟩) ⟨zQc_bl, zRecv hH (zk_30 hF) rfl, zQc_at hz hS hA hH⟩ rfl rfl hl.1 rfl (lv_room (Nat.le_of_ble_eq_true rfl)) dX12_isWord_1 ⟨Nat.le_of_ble_eq_true rfl, Nat.le_of_ble_eq_true rfl⟩) hS (fun q _ h => h) (fun q h => h) (fun r101 u9 t9 H1 locs ht9 hvm9 hw hB hz1 hk1 hS => ?_)
  have hH := zMv ht9 hvm9 hB
  clear hB
  generalize u9 = f102 at hw hH
  generalize H1 = H at hH hS ⊢
  obtain ⟨-, ⟨c103, hc104, hc105, q106, hx107⟩, hf108⟩ := hw
  have q109 : f102 30 22 = nI L := by rw [hf108 30 22 (by omega)]; exact he
  obtain ⟨hcz, -⟩ := hx107
  have q47 := (funext (fun k9 => by rw [hf108 47 k9 (by omega)]) : f102 47 = fi 47)
  refine lv_istore_n (lv' := [(3, .int r101), (0, .ref (τ.1 30)), (1, .long wd)]) hx hb dX12_isWord_4 rfl hl (by decide) rfl (fun ls hl => ?_)
  refine lv_aload_n hx hb dX12_isWord_5 rfl (lv_at hl 1 rfl) ?_
  refine va_calli (va_runV (As := []) (rest := []) ⟨hx, hb, hml, hown, hts⟩ (m_wordEndX l hl0 D A sad τ f102 fr ol L c103 hF q109 q106 (by omega) (by omega)) (cwV 0 hts gX12_isWord_X12_wordEnd rfl rfl rfl (by decide +kernel) ⟨Nat.le_of_ble_eq_true rfl, Nat.le_of_ble_eq_true rfl⟩) ⟨zQc_bl, zRecv hH (zk_30 hF) rfl, zQc_at hz hS hA hH⟩ rfl rfl hl.1 rfl (lv_room (Nat.le_of_ble_eq_true rfl)) dX12_isWord_6 ⟨Nat.le_of_ble_eq_true rfl, Nat.le_of_ble_eq_true rfl⟩) hS (fun q _ h => h) (fun q h => h) (fun r110 u9 t9 H1 locs ht9 hvm9 hw hB hz1 hk1 hS => ?_)
  have hH := zMv ht9 hvm9 hB
  generalize H1 = H at hH hS ⊢
  obtain ⟨c111, h1c111, h2c111, rfl, hwe⟩ := hw
  rw [(funext (fun k9 => by rw [hf108 47 k9 (by omega)]) : f102 47 = fi 47)] at hwe
  refine lv_istore (lv' := [(4, .int (nI c111)), (3, .int r101), (0, .ref (τ.1 30)), (1, .long wd)]) hx hb dX12_isWord_9 hl (by decide) rfl (fun ls hl => ?_)
  refine lv_iload hx hb dX12_isWord_11 (lv_at hl 0 rfl) ?_
  refine lv_aload_n hx hb dX12_isWord_13 rfl (lv_at hl 2 rfl) ?_
  refine zGetI (D := D) (ci := 12) (C := RX12) (T := TX12) (N := 71) hx hb hts hiX12 hown hH (zk_30 hF) rfl 23 (by decide) rfl hw1 (fun _ h9 => h9) dX12_isWord_14 q106 ?_
  refine lv_icmp_eq (tgt := 32) hx hb dX12_isWord_17 (by decide) (fun c112 => ?_) (fun c112 => ?_)
  · have zc112 := c112
    replace zc112 := zc_eq (nI_toInt (by omega)) (nI_toInt (by omega)) zc112
    refine lv_iconst (v := nI 0) hx hb dX12_isWord_32 (by decide) ?_
    refine W.widen (k := 0) (n := 0) (by decide) (by decide) ?_
    exact W.zret (v := nI 0) hx hb hr (by decide) (fun t9 ht9 hW9 => ⟨⟨nI 0, f102, rfl, ⟨trivial, ⟨c103, by omega, by omega, q106, hcz, Or.inr ⟨rfl, fun ⟨k, p1, p2, p3, _⟩ => by have p4 := zRun_one p1 hwe; omega⟩⟩, fun a b h => by rw [hf108 a b (by omega)]⟩, zEnd1 hH ht9 hW9⟩, hS.F ht9⟩) hS.2.2 dX12_isWord_33
  · have zc112 := c112
    replace zc112 := zc_neq (nI_toInt (by omega)) (nI_toInt (by omega)) zc112
    refine lv_iload hx hb dX12_isWord_20 (lv_at hl 0 rfl) ?_
    refine lv_aload_n hx hb dX12_isWord_22 rfl (lv_at hl 2 rfl) ?_
    refine zGetI (D := D) (ci := 12) (C := RX12) (T := TX12) (N := 71) hx hb hts hiX12 hown hH (zk_30 hF) rfl 23 (by decide) rfl hw1 (fun _ h9 => h9) dX12_isWord_23 q106 ?_
    refine lv_isub hx hb dX12_isWord_26 ?_
    refine lv_topi (fun v113 ev113 => ?_)
    have iv113 : v113.toInt = ((c111 : Nat) : Int) - ((c103 : Nat) : Int) := by rw [ev113]; exact pk_sub_toInt (by omega) (by omega)
    refine lv_bipush (v := nI 7) hx hb dX12_isWord_27 (by decide) ?_
    refine lv_icmp_le (tgt := 34) hx hb dX12_isWord_29 (by decide) (fun c114 => ?_) (fun c114 => ?_)
    · have zc114 := c114
      replace zc114 := zc_le (iv113) (nI_toInt (by omega)) zc114
      refine lv_lconst (v := 0) hx hb dX12_isWord_34 (by decide) ?_
      refine lv_lstore (lv' := [(5, .long 0), (4, .int (nI c111)), (3, .int r101), (0, .ref (τ.1 30)), (1, .long wd)]) hx hb dX12_isWord_35 hl (by decide) rfl (fun ls hl => ?_)
      refine lv_aload_n hx hb dX12_isWord_37 rfl (lv_at hl 3 rfl) ?_
      refine zGetI (D := D) (ci := 12) (C := RX12) (T := TX12) (N := 71) hx hb hts hiX12 hown hH (zk_30 hF) rfl 23 (by decide) rfl hw1 (fun _ h9 => h9) dX12_isWord_38 q106 ?_
      refine lv_istore (lv' := [(7, .int (nI c103)), (5, .long 0), (4, .int (nI c111)), (3, .int r101), (0, .ref (τ.1 30)), (1, .long wd)]) hx hb dX12_isWord_41 hl (by decide) rfl (fun ls hl => ?_)
      refine zLp (σ := Nat × Int64) (fun x9 k9 H locs ls => (fun (i : Nat) (ww : Int64) => k9 = c111 - i ∧ (c103 ≤ i ∧ i ≤ c111 ∧ ww = zLv (fi 47) c103 (i - c103)) ∧ zH D A τ f102 fr ol s H ∧ va_S A s.heap H locs ∧ lv_has ls 8 [(0, .ref (τ.1 30)), (1, .long wd), (4, .int (nI c111)), (5, .long ww), (7, .int (nI i))]) x9.1 x9.2) (c103, 0) (c111 - c103) (show c111 - c103 = c111 - c103 ∧ (c103 ≤ c103 ∧ c103 ≤ c111 ∧ 0 = zLv (fi 47) c103 (c103 - c103)) ∧ zH D A τ f102 fr ol s _ ∧ va_S A s.heap _ _ ∧ lv_has _ 8 [(0, .ref (τ.1 30)), (1, .long wd), (4, .int (nI c111)), (5, .long 0), (7, .int (nI c103))] from ⟨rfl, ⟨Nat.le_refl _, by omega, by rw [Nat.sub_self]; rfl⟩, hH, hS, lv_sub hl [4, 5, 2, 1, 0] rfl⟩) (fun k9 ih x9 H locs ls hv9 => ?_)
      obtain ⟨i, ww⟩ := x9
      have hv9 : k9 = c111 - i ∧ (c103 ≤ i ∧ i ≤ c111 ∧ ww = zLv (fi 47) c103 (i - c103)) ∧ zH D A τ f102 fr ol s H ∧ va_S A s.heap H locs ∧ lv_has ls 8 [(0, .ref (τ.1 30)), (1, .long wd), (4, .int (nI c111)), (5, .long ww), (7, .int (nI i))] := hv9
      obtain ⟨hkih115, hv9, hH, hS, hl⟩ := hv9
      obtain ⟨h1, h2, hww⟩ := hv9
      have ih115 := ih
      clear ih
      refine lv_iload hx hb dX12_isWord_43 (lv_at hl 4 rfl) ?_
      refine lv_iload hx hb dX12_isWord_45 (lv_at hl 2 rfl) ?_
      refine lv_icmp_ge (tgt := 72) hx hb dX12_isWord_47 (by decide) (fun c116 => ?_) (fun c116 => ?_)
      · have zc116 := c116
        replace zc116 := zc_le (nI_toInt (by omega)) (nI_toInt (by omega)) zc116
        refine lv_lload hx hb dX12_isWord_72 (lv_at hl 3 rfl) ?_
        refine lv_lload_n hx hb dX12_isWord_74 rfl (lv_at hl 1 rfl) ?_
        refine W.lcmp hx hb dX12_isWord_75 ?_
        refine lv_topi (fun v117 ev117 => ?_)
        refine lv_if_ne (tgt := 83) hx hb dX12_isWord_76 (by decide) (fun c118 => ?_) (fun c118 => ?_)
        · have zc118 := c118
          replace zc118 := zc_neq (rfl) ((by decide : (0 : Int32).toInt = 0)) zc118
          refine lv_iconst (v := nI 0) hx hb dX12_isWord_83 (by decide) ?_
          refine W.widen (k := 0) (n := 0) (by decide) (by decide) ?_
          exact W.zret (v := nI 0) hx hb hr (by decide) (fun t9 ht9 hW9 => ⟨⟨nI 0, f102, rfl, ⟨trivial, ⟨c103, by omega, by omega, q106, hcz, Or.inr ⟨rfl, fun ⟨k, p1, p2, p3, p4⟩ => zc118 (by have p5 := zRun_one p1 hwe; rw [p5] at p4; rw [ev117, hww, show i = c111 by omega, p4]; simp [lg_cmp])⟩⟩, fun a b h => by rw [hf108 a b (by omega)]⟩, zEnd1 hH ht9 hW9⟩, hS.F ht9⟩) hS.2.2 dX12_isWord_84
        · have zc118 := c118
          replace zc118 := zc_eq (rfl) ((by decide : (0 : Int32).toInt = 0)) zc118
          refine lv_iconst (v := nI 1) hx hb dX12_isWord_79 (by decide) ?_
          refine lv_goto (tgt := 84) hx hb dX12_isWord_80 (by decide) ?_
          refine W.widen (k := 0) (n := 0) (by decide) (by decide) ?_
          exact W.zret (v := nI 1) hx hb hr (by decide) (fun t9 ht9 hW9 => ⟨⟨nI 1, f102, rfl, ⟨trivial, ⟨c103, by omega, by omega, q106, hcz, Or.inl ⟨rfl, _, hwe, by omega, by omega, by have p6 := zc118; rw [ev117] at p6; have p7 := zLc p6; rw [← p7, hww, show i = c111 by omega]⟩⟩, fun a b h => by rw [hf108 a b (by omega)]⟩, zEnd1 hH ht9 hW9⟩, hS.F ht9⟩) hS.2.2 dX12_isWord_84
      · have zc116 := c116
        replace zc116 := zc_nle (nI_toInt (by omega)) (nI_toInt (by omega)) zc116
        refine lv_lload hx hb dX12_isWord_50 (lv_at hl 3 rfl) ?_
        refine lv_bipush (v := nI 8) hx hb dX12_isWord_52 (by decide) ?_
        refine lv_lshl hx hb dX12_isWord_54 rfl ?_
        refine lv_topl (fun v119 ev119 => ?_)
        refine lv_aload_n hx hb dX12_isWord_55 rfl (lv_at hl 0 rfl) ?_
        refine zGetR (D := D) (ci := 12) (C := RX12) (T := TX12) (N := 71) hx hb hts hiX12 hown hH (zk_30 hF) rfl 20 (by decide) rfl hw2 (fun _ h9 => h9) dX12_isWord_56 (zr_30_20 hF) ?_
        refine lv_iload hx hb dX12_isWord_59 (lv_at hl 4 rfl) ?_
        refine zIaldN (D := D) hx hb hH (zk_47 hF) (zn_47 hF) (by omega) (by omega) rfl dX12_isWord_61 ?_
        refine lv_i2l hx hb dX12_isWord_62 rfl ?_
        refine lv_topl (fun v120 ev120 => ?_)
        refine lv_lor hx hb dX12_isWord_63 ?_
        refine lv_topl (fun v121 ev121 => ?_)
        refine lv_lstore (lv' := [(5, .long v121), (0, .ref (τ.1 30)), (1, .long wd), (4, .int (nI c111)), (7, .int (nI i))]) hx hb dX12_isWord_64 hl (by decide) rfl (fun ls hl => ?_)
        refine lv_iinc (v := nI (i + 1)) (lv' := [(7, .int (nI (i + 1))), (5, .long v121), (0, .ref (τ.1 30)), (1, .long wd), (4, .int (nI c111))]) hx hb dX12_isWord_66 hl (k := 4) rfl (by rw [show (Int32.ofInt 1 : Int32) = nI 1 from by decide, nI_add]) (by decide) rfl (fun ls hl => ?_)
        refine lv_goto (tgt := 43) hx hb dX12_isWord_69 (by decide) ?_
        exact ih115 (c111 - (i + 1)) (by omega) (i + 1, v121) _ _ _ (show c111 - (i + 1) = c111 - (i + 1) ∧ (c103 ≤ (i + 1) ∧ (i + 1) ≤ c111 ∧ v121 = zLv (fi 47) c103 ((i + 1) - c103)) ∧ zH D A τ f102 fr ol s _ ∧ va_S A s.heap _ _ ∧ lv_has _ 8 [(0, .ref (τ.1 30)), (1, .long wd), (4, .int (nI c111)), (5, .long v121), (7, .int (nI (i + 1)))] from ⟨rfl, ⟨by omega, by omega, zLv_s h1 hww ev119 (by rw [← q47]; exact ev120) ev121⟩, hH, hS, lv_sub hl [2, 3, 4, 1, 0] rfl⟩)
    · have zc114 := c114
      replace zc114 := zc_nle (iv113) (nI_toInt (by omega)) zc114
      refine lv_iconst (v := nI 0) hx hb dX12_isWord_32 (by decide) ?_
      refine W.widen (k := 0) (n := 0) (by decide) (by decide) ?_
      exact W.zret (v := nI 0) hx hb hr (by decide) (fun t9 ht9 hW9 => ⟨⟨nI 0, f102, rfl, ⟨trivial, ⟨c103, by omega, by omega, q106, hcz, Or.inr ⟨rfl, fun ⟨k, p1, p2, p3, _⟩ => by have p4 := zRun_one p1 hwe; omega⟩⟩, fun a b h => by rw [hf108 a b (by omega)]⟩, zEnd1 hH ht9 hW9⟩, hS.F ht9⟩) hS.2.2 dX12_isWord_33
set_option maxHeartbeats 4000000 in
set_option maxRecDepth 100000 in
/-- passes -/
theorem m_passesX (l : Launch) (hl0 : l.stackTraces = false) (D : va_G) (A : Nat → Prop) (sad : Nat → Nat) (τ : zTy) (fi : zFi) (fr : zFr) (ol : Int64) (L a : Nat) (hF : zFix τ fr) (he : fi 30 22 = nI L) (ha : fi 30 23 = nI a) (hL4 : L ≤ 400) (haL : a ≤ L) (wd : Int64) (ws : List Int32) (hws : zWs ws wd) : Met l yX12_passes wsX12_passes ({ frames := 2, cells := 0, slots := 0, locals := 48 }) (va_Pc [.ref (τ.1 30), .long wd] (zQc D A sad τ fi fr ol)) (va_Qi (fun (r : Int32) (u : zFi) => True ∧ (∃ c, a ≤ c ∧ c ≤ L ∧ u 30 23 = nI c ∧ ((∃ x, zWrd (fi 47) L ws (zS (fi 47) L a) = some x ∧ zS (fi 47) L c = x ∧ r = 1 ∧ u 30 24 = fi 30 24) ∨ (zWrd (fi 47) L ws (zS (fi 47) L a) = none ∧ r = 0 ∧ u 30 24 = nI (zS (fi 47) L a)))) ∧ ∀ a b, ¬ (a = 30 ∧ (b = 23 ∨ b = 24)) → u a b = fi a b) (fun (u : zFi) (t : State) => zH D A τ u fr ol t t.heap) A) 0 0 A := by
  refine Met.ofW (cc := cX12_passes) (maxL := 3) (ret := (some .boolean)) (by decide) rfl ?_
  intro p9 e9 s m args below meth c9 s₁ B hml hv
  obtain ⟨rfl, hz, hH, hA⟩ := hv
  have hx := B.exec
  have hb := B.bytes
  have hr := B.returns
  have hts := atoms_spec (ws := wsX12_passes) B.pre
  have hown : s.vm.findClass RX12 = some m.cls := findClass_of_methodNamed B.named
  have hlocks := B.notSynchronized
  have hS : va_S A s.heap s.heap [] := va_S.rf
  have hl := lv_entry ([.ref (τ.1 30), .long wd]) (n := 3) (Nat.le_of_ble_eq_true rfl)
  rw [lg_entry_eq]
  generalize (lg_sl ([.ref (τ.1 30), .long wd]) ++ List.replicate (3 - (lg_sl ([.ref (τ.1 30), .long wd])).length) Slot.unset).toArray = ls at hl ⊢
  have hl : lv_has ls 3 [(0, .ref (τ.1 30)), (1, .long wd)] := hl
  have hw0 := hts (.fieldLink RX12 206 "PostHouseModel" "at" "I") (by decide +kernel)
  have hiX12 : ∀ w ∈ u_ws RX12 TX12 71, w ∈ wsX12_passes := fun _ h => List.mem_cons_of_mem _ (List.mem_append_right _ h)
  refine lv_aload_n hx hb dX12_passes_0 rfl (lv_at hl 0 rfl) ?_
  refine lv_lload_n hx hb dX12_passes_1 rfl (lv_at hl 1 rfl) ?_
  refine va_calli (va_runV (As := [.long wd]) (rest := []) ⟨hx, hb, hml, hown, hts⟩ (m_isWordX l hl0 D A sad τ fi fr ol L a hF he ha (by omega) (by omega) wd) (cwV 1 hts gX12_passes_X12_isWord rfl rfl rfl (by decide +kernel) ⟨Nat.le_of_ble_eq_true rfl, Nat.le_of_ble_eq_true rfl⟩) ⟨zQc_bl, zRecv hH (zk_30 hF) rfl, zQc_at hz hS hA hH⟩ rfl rfl hl.1 rfl (lv_room (Nat.le_of_ble_eq_true rfl)) dX12_passes_2 ⟨Nat.le_of_ble_eq_true rfl, Nat.le_of_ble_eq_true rfl⟩) hS (fun q _ h => h) (fun q h => h) (fun r101 u9 t9 H1 locs ht9 hvm9 hw hB hz1 hk1 hS => ?_)
  have hH := zMv ht9 hvm9 hB
  clear hB
  generalize u9 = f102 at hw hH
  generalize H1 = H at hH hS ⊢
  obtain ⟨-, ⟨c103, hc104, hc105, q106, hx107⟩, hf108⟩ := hw
  have q109 : f102 30 22 = nI L := by rw [hf108 30 22 (by omega)]; exact he
  obtain ⟨hcz, hok⟩ := hx107
  rcases hok with ⟨rfl, hok⟩ | ⟨rfl, hok⟩
  · skip
    refine lv_if_ne (tgt := 17) hx hb dX12_passes_5 (by decide) (fun c110 => ?_) (fun c110 => absurd c110 (by decide))
    refine lv_aload_n hx hb dX12_passes_17 rfl (lv_at hl 0 rfl) ?_
    refine lv_aload_n hx hb dX12_passes_18 rfl (lv_at hl 0 rfl) ?_
    refine va_calli (va_runV (As := []) (rest := [.ref (τ.1 30)]) ⟨hx, hb, hml, hown, hts⟩ (m_wordEndX l hl0 D A sad τ f102 fr ol L c103 hF q109 q106 (by omega) (by omega)) (cwV 0 hts gX12_passes_X12_wordEnd rfl rfl rfl (by decide +kernel) ⟨Nat.le_of_ble_eq_true rfl, Nat.le_of_ble_eq_true rfl⟩) ⟨zQc_bl, zRecv hH (zk_30 hF) rfl, zQc_at hz hS hA hH⟩ rfl rfl hl.1 rfl (lv_room (Nat.le_of_ble_eq_true rfl)) dX12_passes_19 ⟨Nat.le_of_ble_eq_true rfl, Nat.le_of_ble_eq_true rfl⟩) hS (fun q _ h => h) (fun q h => h) (fun r111 u9 t9 H1 locs ht9 hvm9 hw hB hz1 hk1 hS => ?_)
    have hH := zMv ht9 hvm9 hB
    generalize H1 = H at hH hS ⊢
    obtain ⟨c112, h1c112, h2c112, rfl, hwe⟩ := hw
    rw [(funext (fun k9 => by rw [hf108 47 k9 (by omega)]) : f102 47 = fi 47)] at hwe
    refine zPutI (D := D) (ci := 12) (ty := .int) (C := RX12) (T := TX12) (N := 71) hx hb hts hiX12 tyX12 tyX12_ok nmX12 hown hH hS (zk_30 hF) rfl 23 (by decide) rfl hw0 (fun _ h9 => h9) rfl (by decide +kernel) rfl rfl dX12_passes_22 (fun H locs hH hS => ?_)
    obtain ⟨f113, ef113⟩ : ∃ f9 : zFi, f9 = zu f102 30 23 (nI c112) := ⟨_, rfl⟩
    rw [← ef113] at hH
    have q114 : f113 30 22 = nI L := by rw [ef113, zu_n (fun h9 => absurd h9.2 (by decide))]; exact q109
    have q115 : f113 30 23 = nI c112 := by rw [ef113]; exact zu_s
    refine lv_iconst (v := nI 1) hx hb dX12_passes_25 (by decide) ?_
    refine W.widen (k := 0) (n := 0) (by decide) (by decide) ?_
    exact W.zret (v := nI 1) hx hb hr (by decide) (fun t9 ht9 hW9 => ⟨⟨nI 1, f113, rfl, ⟨trivial, ⟨c112, by omega, by omega, q115, Or.inl ⟨_, by rw [← hcz]; exact (hok.yes hws).2, by have p4 := zRun_one hwe (hok.yes hws).1; rw [show c112 = c103 + ws.length by omega], rfl, by rw [ef113, zu_n (by omega), hf108 30 24 (by omega)]⟩⟩, fun a b h => by rw [ef113, zu_n (by omega), hf108 a b (by omega)]⟩, zEnd1 hH ht9 hW9⟩, hS.F ht9⟩) hS.2.2 dX12_passes_26
  · skip
    refine lv_if_ne (tgt := 17) hx hb dX12_passes_5 (by decide) (fun c116 => absurd (by decide) c116) (fun c116 => ?_)
    refine lv_aload_n hx hb dX12_passes_8 rfl (lv_at hl 0 rfl) ?_
    refine lv_aload_n hx hb dX12_passes_9 rfl (lv_at hl 0 rfl) ?_
    refine zGetI (D := D) (ci := 12) (C := RX12) (T := TX12) (N := 71) hx hb hts hiX12 hown hH (zk_30 hF) rfl 23 (by decide) rfl hw0 (fun _ h9 => h9) dX12_passes_10 q106 ?_
    refine va_calli (va_runV (As := [.int (nI c103)]) (rest := []) ⟨hx, hb, hml, hown, hts⟩ (m_wrongX l hl0 D A sad τ f102 fr ol (nI c103) hF) (cwV 1 hts gX12_passes_X12_wrong rfl rfl rfl (by decide +kernel) ⟨Nat.le_of_ble_eq_true rfl, Nat.le_of_ble_eq_true rfl⟩) ⟨zQc_bl, zRecv hH (zk_30 hF) rfl, zQc_at hz hS hA hH⟩ rfl rfl hl.1 rfl (lv_room (Nat.le_of_ble_eq_true rfl)) dX12_passes_13 ⟨Nat.le_of_ble_eq_true rfl, Nat.le_of_ble_eq_true rfl⟩) hS (fun q _ h => h) (fun q h => h) (fun r117 u9 t9 H1 locs ht9 hvm9 hw hB hz1 hk1 hS => ?_)
    have hH := zMv ht9 hvm9 hB
    clear hB
    generalize u9 = f118 at hw hH
    generalize H1 = H at hH hS ⊢
    obtain ⟨rfl, ef118⟩ := hw
    have q119 : f118 30 22 = nI L := by rw [ef118, zu_n (fun h9 => absurd h9.2 (by decide))]; exact q109
    have q120 : f118 30 23 = nI c103 := by rw [ef118, zu_n (fun h9 => absurd h9.2 (by decide))]; exact q106
    have q121 : f118 30 24 = nI c103 := by rw [ef118]; exact zu_s
    refine W.widen (k := 0) (n := 0) (by decide) (by decide) ?_
    exact W.zret (v := 0) hx hb hr (by decide) (fun t9 ht9 hW9 => ⟨⟨0, f118, rfl, ⟨trivial, ⟨c103, by omega, by omega, q120, Or.inr ⟨by rw [← hcz]; exact zOKw.no (by omega) hws hok, rfl, by rw [ef118, zu_s, hcz]⟩⟩, fun a b h => by rw [ef118, zu_n (by omega), hf108 a b (by omega)]⟩, zEnd1 hH ht9 hW9⟩, hS.F ht9⟩) hS.2.2 dX12_passes_16
set_option maxHeartbeats 4000000 in
set_option maxRecDepth 100000 in
/-- digits -/
theorem m_digitsX (l : Launch) (hl0 : l.stackTraces = false) (D : va_G) (A : Nat → Prop) (sad : Nat → Nat) (τ : zTy) (fi : zFi) (fr : zFr) (ol : Int64) (L a : Nat) (hF : zFix τ fr) (he : fi 30 22 = nI L) (ha : fi 30 23 = nI a) (hL4 : L ≤ 400) (haL : a ≤ L) (p q : Nat) (hp6 : p ≤ 6) (hq6 : q ≤ 6) (x3 x4 : Int32) : Met l yX12_digits wsX12_digits ({ frames := 1, cells := 0, slots := 0, locals := 21 }) (va_Pc [.ref (τ.1 30), .int (nI p), .int (nI q), .int x3, .int x4] (zQc D A sad τ fi fr ol)) (va_Qi (fun (r : Int32) (u : zFi) => True ∧ (∃ c, a ≤ c ∧ c ≤ L ∧ u 30 23 = nI c ∧ ((∃ v x, zNum (fi 47) L p q x3 x4 (zS (fi 47) L a) = some (v, x) ∧ zS (fi 47) L c = x ∧ r = 1 ∧ u 30 25 = v ∧ u 30 24 = fi 30 24) ∨ (zNum (fi 47) L p q x3 x4 (zS (fi 47) L a) = none ∧ r = 0 ∧ u 30 24 = nI (zS (fi 47) L a)))) ∧ ∀ a b, ¬ (a = 30 ∧ 23 ≤ b ∧ b ≤ 25) → u a b = fi a b) (fun (u : zFi) (t : State) => zH D A τ u fr ol t t.heap) A) 0 0 A := by
  refine Met.ofW (cc := cX12_digits) (maxL := 8) (ret := (some .boolean)) (by decide) rfl ?_
  intro p9 e9 s m args below meth c9 s₁ B hml hv
  obtain ⟨rfl, hz, hH, hA⟩ := hv
  have hx := B.exec
  have hb := B.bytes
  have hr := B.returns
  have hts := atoms_spec (ws := wsX12_digits) B.pre
  have hown : s.vm.findClass RX12 = some m.cls := findClass_of_methodNamed B.named
  have hlocks := B.notSynchronized
  have hS : va_S A s.heap s.heap [] := va_S.rf
  have hl := lv_entry ([.ref (τ.1 30), .int (nI p), .int (nI q), .int x3, .int x4]) (n := 8) (Nat.le_of_ble_eq_true rfl)
  rw [lg_entry_eq]
  generalize (lg_sl ([.ref (τ.1 30), .int (nI p), .int (nI q), .int x3, .int x4]) ++ List.replicate (8 - (lg_sl ([.ref (τ.1 30), .int (nI p), .int (nI q), .int x3, .int x4])).length) Slot.unset).toArray = ls at hl ⊢
  have hl : lv_has ls 8 [(0, .ref (τ.1 30)), (1, .int (nI p)), (2, .int (nI q)), (3, .int x3), (4, .int x4)] := hl
  have hiX12 : ∀ w ∈ u_ws RX12 TX12 71, w ∈ wsX12_digits := fun _ h => List.mem_cons_of_mem _ (List.mem_append_right _ h)
  have hw1 := hts (.fieldLink RX12 206 "PostHouseModel" "at" "I") (by decide +kernel)
  have hw2 := hts (.fieldLink RX12 209 "PostHouseModel" "end" "I") (by decide +kernel)
  have hw3 := hts (.fieldLink RX12 229 "PostHouseModel" "number" "I") (by decide +kernel)
  have hw4 := hts (.fieldLink RX12 58 "PostHouseModel" "tape" "[I") (by decide +kernel)
  refine lv_aload_n hx hb dX12_digits_0 rfl (lv_at hl 0 rfl) ?_
  refine va_calli (va_runV (As := []) (rest := []) ⟨hx, hb, hml, hown, hts⟩ (m_signX l hl0 D A sad τ fi fr ol L a hF he ha (by omega) (by omega)) (cwV 0 hts gX12_digits_X12_sign rfl rfl rfl (by decide +kernel) ⟨Nat.le_of_ble_eq_true rfl, Nat.le_of_ble_eq_true rfl⟩) ⟨zQc_bl, zRecv hH (zk_30 hF) rfl, zQc_at hz hS hA hH⟩ rfl rfl hl.1 rfl (lv_room (Nat.le_of_ble_eq_true rfl)) dX12_digits_1 ⟨Nat.le_of_ble_eq_true rfl, Nat.le_of_ble_eq_true rfl⟩) hS (fun q _ h => h) (fun q h => h) (fun r101 u9 t9 H1 locs ht9 hvm9 hw hB hz1 hk1 hS => ?_)
  have hH := zMv ht9 hvm9 hB
  clear hB
  generalize u9 = f102 at hw hH
  generalize H1 = H at hH hS ⊢
  obtain ⟨-, ⟨c103, hc104, hc105, q106, hx107⟩, hf108⟩ := hw
  have q109 : f102 30 22 = nI L := by rw [hf108 30 22 (by omega)]; exact he
  obtain ⟨hcz, -⟩ := hx107
  refine lv_istore (lv' := [(5, .int r101), (0, .ref (τ.1 30)), (1, .int (nI p)), (2, .int (nI q)), (3, .int x3), (4, .int x4)]) hx hb dX12_digits_4 hl (by decide) rfl (fun ls hl => ?_)
  refine lv_aload_n hx hb dX12_digits_6 rfl (lv_at hl 1 rfl) ?_
  refine zGetI (D := D) (ci := 12) (C := RX12) (T := TX12) (N := 71) hx hb hts hiX12 hown hH (zk_30 hF) rfl 23 (by decide) rfl hw1 (fun _ h9 => h9) dX12_digits_7 q106 ?_
  refine lv_istore (lv' := [(6, .int (nI c103)), (5, .int r101), (0, .ref (τ.1 30)), (1, .int (nI p)), (2, .int (nI q)), (3, .int x3), (4, .int x4)]) hx hb dX12_digits_10 hl (by decide) rfl (fun ls hl => ?_)
  refine lv_iconst (v := nI 0) hx hb dX12_digits_12 (by decide) ?_
  refine lv_istore (lv' := [(7, .int (nI 0)), (6, .int (nI c103)), (5, .int r101), (0, .ref (τ.1 30)), (1, .int (nI p)), (2, .int (nI q)), (3, .int x3), (4, .int x4)]) hx hb dX12_digits_13 hl (by decide) rfl (fun ls hl => ?_)
  refine zLp (σ := Nat × zFi × Int32) (fun x9 k9 H locs ls => (fun (k : Nat) (f : zFi) (vv : Int32) => k9 = L - (c103 + k) ∧ (c103 + k ≤ L ∧ k ≤ q + 1 ∧ f 30 23 = nI (c103 + k) ∧ vv = zDig (fi 47) c103 k ∧ (∀ j, c103 ≤ j → j < c103 + k → 48 ≤ (fi 47 j).toInt ∧ (fi 47 j).toInt ≤ 57) ∧ ∀ a b, ¬ (a = 30 ∧ b = 23) → f a b = fi a b) ∧ zH D A τ f fr ol s H ∧ va_S A s.heap H locs ∧ lv_has ls 8 [(0, .ref (τ.1 30)), (1, .int (nI p)), (2, .int (nI q)), (3, .int x3), (4, .int x4), (6, .int (nI c103)), (7, .int vv)]) x9.1 x9.2.1 x9.2.2) (0, f102, nI 0) (L - (c103 + 0)) (show L - (c103 + 0) = L - (c103 + 0) ∧ (c103 + 0 ≤ L ∧ 0 ≤ q + 1 ∧ f102 30 23 = nI (c103 + 0) ∧ (nI 0) = zDig (fi 47) c103 0 ∧ (∀ j, c103 ≤ j → j < c103 + 0 → 48 ≤ (fi 47 j).toInt ∧ (fi 47 j).toInt ≤ 57) ∧ ∀ a b, ¬ (a = 30 ∧ b = 23) → f102 a b = fi a b) ∧ zH D A τ f102 fr ol s _ ∧ va_S A s.heap _ _ ∧ lv_has _ 8 [(0, .ref (τ.1 30)), (1, .int (nI p)), (2, .int (nI q)), (3, .int x3), (4, .int x4), (6, .int (nI c103)), (7, .int (nI 0))] from ⟨rfl, ⟨by omega, by omega, q106, rfl, fun j h5 h6 => absurd h6 (by omega), fun a b h => by rw [hf108 a b (by omega)]⟩, hH, hS, lv_sub hl [3, 4, 5, 6, 7, 1, 0] rfl⟩) (fun k9 ih x9 H locs ls hv9 => ?_)
  obtain ⟨k, f, vv⟩ := x9
  have hv9 : k9 = L - (c103 + k) ∧ (c103 + k ≤ L ∧ k ≤ q + 1 ∧ f 30 23 = nI (c103 + k) ∧ vv = zDig (fi 47) c103 k ∧ (∀ j, c103 ≤ j → j < c103 + k → 48 ≤ (fi 47 j).toInt ∧ (fi 47 j).toInt ≤ 57) ∧ ∀ a b, ¬ (a = 30 ∧ b = 23) → f a b = fi a b) ∧ zH D A τ f fr ol s H ∧ va_S A s.heap H locs ∧ lv_has ls 8 [(0, .ref (τ.1 30)), (1, .int (nI p)), (2, .int (nI q)), (3, .int x3), (4, .int x4), (6, .int (nI c103)), (7, .int vv)] := hv9
  obtain ⟨hkih110, hv9, hH, hS, hl⟩ := hv9
  obtain ⟨h1, h2, hc, hvv, hj, hfr⟩ := hv9
  have ih110 := ih
  clear ih
  have q22 : f 30 22 = nI L := by rw [hfr 30 22 (by omega)]; exact he
  have q47 : f 47 = fi 47 := by funext k; exact hfr 47 k (by omega)
  refine lv_aload_n hx hb dX12_digits_15 rfl (lv_at hl 0 rfl) ?_
  refine zGetI (D := D) (ci := 12) (C := RX12) (T := TX12) (N := 71) hx hb hts hiX12 hown hH (zk_30 hF) rfl 23 (by decide) rfl hw1 (fun _ h9 => h9) dX12_digits_16 hc ?_
  refine lv_aload_n hx hb dX12_digits_19 rfl (lv_at hl 0 rfl) ?_
  refine zGetI (D := D) (ci := 12) (C := RX12) (T := TX12) (N := 71) hx hb hts hiX12 hown hH (zk_30 hF) rfl 22 (by decide) rfl hw2 (fun _ h9 => h9) dX12_digits_20 q22 ?_
  refine lv_icmp_ge (tgt := 85) hx hb dX12_digits_23 (by decide) (fun c111 => ?_) (fun c111 => ?_)
  · have zc111 := c111
    replace zc111 := zc_le (nI_toInt (by omega)) (nI_toInt (by omega)) zc111
    refine lv_aload_n hx hb dX12_digits_85 rfl (lv_at hl 0 rfl) ?_
    refine zGetI (D := D) (ci := 12) (C := RX12) (T := TX12) (N := 71) hx hb hts hiX12 hown hH (zk_30 hF) rfl 23 (by decide) rfl hw1 (fun _ h9 => h9) dX12_digits_86 hc ?_
    refine lv_iload hx hb dX12_digits_89 (lv_at hl 5 rfl) ?_
    refine lv_isub hx hb dX12_digits_91 ?_
    refine lv_topi (fun v112 ev112 => ?_)
    have iv112 : v112.toInt = ((c103 + k : Nat) : Int) - ((c103 : Nat) : Int) := by rw [ev112]; exact pk_sub_toInt (by omega) (by omega)
    refine lv_iload_n hx hb dX12_digits_92 rfl (lv_at hl 1 rfl) ?_
    refine lv_icmp_lt (tgt := 120) hx hb dX12_digits_93 (by decide) (fun c113 => ?_) (fun c113 => ?_)
    · have zc113 := c113
      replace zc113 := zc_lt (iv112) (nI_toInt (by omega)) zc113
      refine lv_aload_n hx hb dX12_digits_120 rfl (lv_at hl 0 rfl) ?_
      refine lv_iload hx hb dX12_digits_121 (lv_at hl 5 rfl) ?_
      refine va_calli (va_runV (As := [.int (nI c103)]) (rest := []) ⟨hx, hb, hml, hown, hts⟩ (m_wrongX l hl0 D A sad τ f fr ol (nI c103) hF) (cwV 1 hts gX12_digits_X12_wrong rfl rfl rfl (by decide +kernel) ⟨Nat.le_of_ble_eq_true rfl, Nat.le_of_ble_eq_true rfl⟩) ⟨zQc_bl, zRecv hH (zk_30 hF) rfl, zQc_at hz hS hA hH⟩ rfl rfl hl.1 rfl (lv_room (Nat.le_of_ble_eq_true rfl)) dX12_digits_123 ⟨Nat.le_of_ble_eq_true rfl, Nat.le_of_ble_eq_true rfl⟩) hS (fun q _ h => h) (fun q h => h) (fun r114 u9 t9 H1 locs ht9 hvm9 hw hB hz1 hk1 hS => ?_)
      have hH := zMv ht9 hvm9 hB
      clear hB
      generalize u9 = f115 at hw hH
      generalize H1 = H at hH hS ⊢
      obtain ⟨rfl, ef115⟩ := hw
      have q116 : f115 30 22 = nI L := by rw [ef115, zu_n (fun h9 => absurd h9.2 (by decide))]; exact q22
      have q117 : f115 30 23 = nI (c103 + k) := by rw [ef115, zu_n (fun h9 => absurd h9.2 (by decide))]; exact hc
      have q118 : f115 30 24 = nI c103 := by rw [ef115]; exact zu_s
      refine W.widen (k := 0) (n := 0) (by decide) (by decide) ?_
      exact W.zret (v := 0) hx hb hr (by decide) (fun t9 ht9 hW9 => ⟨⟨0, f115, rfl, ⟨trivial, ⟨c103 + k, by omega, by omega, q117, Or.inr ⟨by rw [← hcz]; exact (zNumM (b := fi 47) (p := p) (q := q) (lo := x3) (hi := x4) (by omega) (by omega) hj hvv (fun h5 h6 => (by exfalso; omega))).2 (fun h9 => by have h91 := h9.1; have h92 := h9.2.1; have h93 := h9.2.2.1; have h94 := h9.2.2.2; omega), rfl, by rw [ef115, zu_s, hcz]⟩⟩, fun a b h => by rw [ef115, zu_n (by omega)]; exact hfr a b (by omega)⟩, zEnd1 hH ht9 hW9⟩, hS.F ht9⟩) hS.2.2 dX12_digits_126
    · have zc113 := c113
      replace zc113 := zc_nlt (iv112) (nI_toInt (by omega)) zc113
      refine lv_aload_n hx hb dX12_digits_96 rfl (lv_at hl 0 rfl) ?_
      refine zGetI (D := D) (ci := 12) (C := RX12) (T := TX12) (N := 71) hx hb hts hiX12 hown hH (zk_30 hF) rfl 23 (by decide) rfl hw1 (fun _ h9 => h9) dX12_digits_97 hc ?_
      refine lv_iload hx hb dX12_digits_100 (lv_at hl 5 rfl) ?_
      refine lv_isub hx hb dX12_digits_102 ?_
      refine lv_topi (fun v119 ev119 => ?_)
      have iv119 : v119.toInt = ((c103 + k : Nat) : Int) - ((c103 : Nat) : Int) := by rw [ev119]; exact pk_sub_toInt (by omega) (by omega)
      refine lv_iload_n hx hb dX12_digits_103 rfl (lv_at hl 2 rfl) ?_
      refine lv_icmp_gt (tgt := 120) hx hb dX12_digits_104 (by decide) (fun c120 => ?_) (fun c120 => ?_)
      · have zc120 := c120
        replace zc120 := zc_lt (nI_toInt (by omega)) (iv119) zc120
        refine lv_aload_n hx hb dX12_digits_120 rfl (lv_at hl 0 rfl) ?_
        refine lv_iload hx hb dX12_digits_121 (lv_at hl 5 rfl) ?_
        refine va_calli (va_runV (As := [.int (nI c103)]) (rest := []) ⟨hx, hb, hml, hown, hts⟩ (m_wrongX l hl0 D A sad τ f fr ol (nI c103) hF) (cwV 1 hts gX12_digits_X12_wrong rfl rfl rfl (by decide +kernel) ⟨Nat.le_of_ble_eq_true rfl, Nat.le_of_ble_eq_true rfl⟩) ⟨zQc_bl, zRecv hH (zk_30 hF) rfl, zQc_at hz hS hA hH⟩ rfl rfl hl.1 rfl (lv_room (Nat.le_of_ble_eq_true rfl)) dX12_digits_123 ⟨Nat.le_of_ble_eq_true rfl, Nat.le_of_ble_eq_true rfl⟩) hS (fun q _ h => h) (fun q h => h) (fun r121 u9 t9 H1 locs ht9 hvm9 hw hB hz1 hk1 hS => ?_)
        have hH := zMv ht9 hvm9 hB
        clear hB
        generalize u9 = f122 at hw hH
        generalize H1 = H at hH hS ⊢
        obtain ⟨rfl, ef122⟩ := hw
        have q123 : f122 30 22 = nI L := by rw [ef122, zu_n (fun h9 => absurd h9.2 (by decide))]; exact q22
        have q124 : f122 30 23 = nI (c103 + k) := by rw [ef122, zu_n (fun h9 => absurd h9.2 (by decide))]; exact hc
        have q125 : f122 30 24 = nI c103 := by rw [ef122]; exact zu_s
        refine W.widen (k := 0) (n := 0) (by decide) (by decide) ?_
        exact W.zret (v := 0) hx hb hr (by decide) (fun t9 ht9 hW9 => ⟨⟨0, f122, rfl, ⟨trivial, ⟨c103 + k, by omega, by omega, q124, Or.inr ⟨by rw [← hcz]; exact (zNumM (b := fi 47) (p := p) (q := q) (lo := x3) (hi := x4) (by omega) (by omega) hj hvv (fun h5 h6 => (by exfalso; omega))).2 (fun h9 => by have h91 := h9.1; have h92 := h9.2.1; have h93 := h9.2.2.1; have h94 := h9.2.2.2; omega), rfl, by rw [ef122, zu_s, hcz]⟩⟩, fun a b h => by rw [ef122, zu_n (by omega)]; exact hfr a b (by omega)⟩, zEnd1 hH ht9 hW9⟩, hS.F ht9⟩) hS.2.2 dX12_digits_126
      · have zc120 := c120
        replace zc120 := zc_nlt (nI_toInt (by omega)) (iv119) zc120
        refine lv_iload hx hb dX12_digits_107 (lv_at hl 6 rfl) ?_
        refine lv_iload_n hx hb dX12_digits_109 rfl (lv_at hl 3 rfl) ?_
        refine lv_icmp_lt (tgt := 120) hx hb dX12_digits_110 (by decide) (fun c126 => ?_) (fun c126 => ?_)
        · have zc126 := c126
          replace zc126 := zc_lt (rfl) (rfl) zc126
          refine lv_aload_n hx hb dX12_digits_120 rfl (lv_at hl 0 rfl) ?_
          refine lv_iload hx hb dX12_digits_121 (lv_at hl 5 rfl) ?_
          refine va_calli (va_runV (As := [.int (nI c103)]) (rest := []) ⟨hx, hb, hml, hown, hts⟩ (m_wrongX l hl0 D A sad τ f fr ol (nI c103) hF) (cwV 1 hts gX12_digits_X12_wrong rfl rfl rfl (by decide +kernel) ⟨Nat.le_of_ble_eq_true rfl, Nat.le_of_ble_eq_true rfl⟩) ⟨zQc_bl, zRecv hH (zk_30 hF) rfl, zQc_at hz hS hA hH⟩ rfl rfl hl.1 rfl (lv_room (Nat.le_of_ble_eq_true rfl)) dX12_digits_123 ⟨Nat.le_of_ble_eq_true rfl, Nat.le_of_ble_eq_true rfl⟩) hS (fun q _ h => h) (fun q h => h) (fun r127 u9 t9 H1 locs ht9 hvm9 hw hB hz1 hk1 hS => ?_)
          have hH := zMv ht9 hvm9 hB
          clear hB
          generalize u9 = f128 at hw hH
          generalize H1 = H at hH hS ⊢
          obtain ⟨rfl, ef128⟩ := hw
          have q129 : f128 30 22 = nI L := by rw [ef128, zu_n (fun h9 => absurd h9.2 (by decide))]; exact q22
          have q130 : f128 30 23 = nI (c103 + k) := by rw [ef128, zu_n (fun h9 => absurd h9.2 (by decide))]; exact hc
          have q131 : f128 30 24 = nI c103 := by rw [ef128]; exact zu_s
          refine W.widen (k := 0) (n := 0) (by decide) (by decide) ?_
          exact W.zret (v := 0) hx hb hr (by decide) (fun t9 ht9 hW9 => ⟨⟨0, f128, rfl, ⟨trivial, ⟨c103 + k, by omega, by omega, q130, Or.inr ⟨by rw [← hcz]; exact (zNumM (b := fi 47) (p := p) (q := q) (lo := x3) (hi := x4) (by omega) (by omega) hj hvv (fun h5 h6 => (by exfalso; omega))).2 (fun h9 => by have h91 := h9.1; have h92 := h9.2.1; have h93 := h9.2.2.1; have h94 := h9.2.2.2; omega), rfl, by rw [ef128, zu_s, hcz]⟩⟩, fun a b h => by rw [ef128, zu_n (by omega)]; exact hfr a b (by omega)⟩, zEnd1 hH ht9 hW9⟩, hS.F ht9⟩) hS.2.2 dX12_digits_126
        · have zc126 := c126
          replace zc126 := zc_nlt (rfl) (rfl) zc126
          refine lv_iload hx hb dX12_digits_113 (lv_at hl 6 rfl) ?_
          refine lv_iload hx hb dX12_digits_115 (lv_at hl 4 rfl) ?_
          refine lv_icmp_le (tgt := 127) hx hb dX12_digits_117 (by decide) (fun c132 => ?_) (fun c132 => ?_)
          · have zc132 := c132
            replace zc132 := zc_le (rfl) (rfl) zc132
            refine lv_aload_n hx hb dX12_digits_127 rfl (lv_at hl 0 rfl) ?_
            refine lv_iload hx hb dX12_digits_128 (lv_at hl 6 rfl) ?_
            refine zPutI (D := D) (ci := 12) (ty := .int) (C := RX12) (T := TX12) (N := 71) hx hb hts hiX12 tyX12 tyX12_ok nmX12 hown hH hS (zk_30 hF) rfl 25 (by decide) rfl hw3 (fun _ h9 => h9) rfl (by decide +kernel) rfl rfl dX12_digits_130 (fun H locs hH hS => ?_)
            obtain ⟨f133, ef133⟩ : ∃ f9 : zFi, f9 = zu f 30 25 vv := ⟨_, rfl⟩
            rw [← ef133] at hH
            have q134 : f133 30 22 = nI L := by rw [ef133, zu_n (fun h9 => absurd h9.2 (by decide))]; exact q22
            have q135 : f133 30 23 = nI (c103 + k) := by rw [ef133, zu_n (fun h9 => absurd h9.2 (by decide))]; exact hc
            have q136 : f133 30 25 = vv := by rw [ef133]; exact zu_s
            refine lv_iconst (v := nI 1) hx hb dX12_digits_133 (by decide) ?_
            refine W.widen (k := 0) (n := 0) (by decide) (by decide) ?_
            exact W.zret (v := nI 1) hx hb hr (by decide) (fun t9 ht9 hW9 => ⟨⟨nI 1, f133, rfl, ⟨trivial, ⟨c103 + k, by omega, by omega, q135, Or.inl ⟨_, _, by rw [← hcz]; exact (zNumM (b := fi 47) (p := p) (q := q) (lo := x3) (hi := x4) (by omega) (by omega) hj hvv (fun h5 h6 => (by exfalso; omega))).1 ⟨by omega, by omega, by omega, by omega⟩, rfl, rfl, q136, by rw [ef133, zu_n (by omega)]; exact hfr 30 24 (by omega)⟩⟩, fun a b h => by rw [ef133, zu_n (by omega)]; exact hfr a b (by omega)⟩, zEnd1 hH ht9 hW9⟩, hS.F ht9⟩) hS.2.2 dX12_digits_134
          · have zc132 := c132
            replace zc132 := zc_nle (rfl) (rfl) zc132
            refine lv_aload_n hx hb dX12_digits_120 rfl (lv_at hl 0 rfl) ?_
            refine lv_iload hx hb dX12_digits_121 (lv_at hl 5 rfl) ?_
            refine va_calli (va_runV (As := [.int (nI c103)]) (rest := []) ⟨hx, hb, hml, hown, hts⟩ (m_wrongX l hl0 D A sad τ f fr ol (nI c103) hF) (cwV 1 hts gX12_digits_X12_wrong rfl rfl rfl (by decide +kernel) ⟨Nat.le_of_ble_eq_true rfl, Nat.le_of_ble_eq_true rfl⟩) ⟨zQc_bl, zRecv hH (zk_30 hF) rfl, zQc_at hz hS hA hH⟩ rfl rfl hl.1 rfl (lv_room (Nat.le_of_ble_eq_true rfl)) dX12_digits_123 ⟨Nat.le_of_ble_eq_true rfl, Nat.le_of_ble_eq_true rfl⟩) hS (fun q _ h => h) (fun q h => h) (fun r137 u9 t9 H1 locs ht9 hvm9 hw hB hz1 hk1 hS => ?_)
            have hH := zMv ht9 hvm9 hB
            clear hB
            generalize u9 = f138 at hw hH
            generalize H1 = H at hH hS ⊢
            obtain ⟨rfl, ef138⟩ := hw
            have q139 : f138 30 22 = nI L := by rw [ef138, zu_n (fun h9 => absurd h9.2 (by decide))]; exact q22
            have q140 : f138 30 23 = nI (c103 + k) := by rw [ef138, zu_n (fun h9 => absurd h9.2 (by decide))]; exact hc
            have q141 : f138 30 24 = nI c103 := by rw [ef138]; exact zu_s
            refine W.widen (k := 0) (n := 0) (by decide) (by decide) ?_
            exact W.zret (v := 0) hx hb hr (by decide) (fun t9 ht9 hW9 => ⟨⟨0, f138, rfl, ⟨trivial, ⟨c103 + k, by omega, by omega, q140, Or.inr ⟨by rw [← hcz]; exact (zNumM (b := fi 47) (p := p) (q := q) (lo := x3) (hi := x4) (by omega) (by omega) hj hvv (fun h5 h6 => (by exfalso; omega))).2 (fun h9 => by have h91 := h9.1; have h92 := h9.2.1; have h93 := h9.2.2.1; have h94 := h9.2.2.2; omega), rfl, by rw [ef138, zu_s, hcz]⟩⟩, fun a b h => by rw [ef138, zu_n (by omega)]; exact hfr a b (by omega)⟩, zEnd1 hH ht9 hW9⟩, hS.F ht9⟩) hS.2.2 dX12_digits_126
  · have zc111 := c111
    replace zc111 := zc_nle (nI_toInt (by omega)) (nI_toInt (by omega)) zc111
    refine lv_aload_n hx hb dX12_digits_26 rfl (lv_at hl 0 rfl) ?_
    refine zGetR (D := D) (ci := 12) (C := RX12) (T := TX12) (N := 71) hx hb hts hiX12 hown hH (zk_30 hF) rfl 20 (by decide) rfl hw4 (fun _ h9 => h9) dX12_digits_27 (zr_30_20 hF) ?_
    refine lv_aload_n hx hb dX12_digits_30 rfl (lv_at hl 0 rfl) ?_
    refine zGetI (D := D) (ci := 12) (C := RX12) (T := TX12) (N := 71) hx hb hts hiX12 hown hH (zk_30 hF) rfl 23 (by decide) rfl hw1 (fun _ h9 => h9) dX12_digits_31 hc ?_
    refine zIaldN (D := D) hx hb hH (zk_47 hF) (zn_47 hF) (by omega) (by omega) rfl dX12_digits_34 ?_
    refine va_calli (va_runS (As := [.int (f 47 (c103 + k))]) (rest := []) ⟨hx, hb, hml, hown, hts⟩ (m_isDigitX l hl0 D A sad τ f fr ol (f 47 (c103 + k))) (cwS 1 hts gX12_digits_X12_isDigit rfl rfl rfl (by decide +kernel) ⟨Nat.le_of_ble_eq_true rfl, Nat.le_of_ble_eq_true rfl⟩) ⟨zQc_bl, zQc_at hz hS hA hH⟩ rfl rfl hl.1 rfl (lv_room (Nat.le_of_ble_eq_true rfl)) dX12_digits_35 ⟨Nat.le_of_ble_eq_true rfl, Nat.le_of_ble_eq_true rfl⟩) hS (fun q _ h => h) (fun q h => h) (fun r142 u9 t9 H1 locs ht9 hvm9 hw hB hz1 hk1 hS => ?_)
    have hH := zMv ht9 hvm9 hB
    generalize H1 = H at hH hS ⊢
    rw [q47] at hw
    rcases hw with ⟨rfl, hdg⟩ | ⟨rfl, hdg⟩
    · skip
      refine lv_if_eq (tgt := 85) hx hb dX12_digits_38 (by decide) (fun c143 => absurd c143 (by decide)) (fun c143 => ?_)
      refine lv_aload_n hx hb dX12_digits_41 rfl (lv_at hl 0 rfl) ?_
      refine zGetI (D := D) (ci := 12) (C := RX12) (T := TX12) (N := 71) hx hb hts hiX12 hown hH (zk_30 hF) rfl 23 (by decide) rfl hw1 (fun _ h9 => h9) dX12_digits_42 hc ?_
      refine lv_iload hx hb dX12_digits_45 (lv_at hl 5 rfl) ?_
      refine lv_isub hx hb dX12_digits_47 ?_
      refine lv_topi (fun v144 ev144 => ?_)
      have iv144 : v144.toInt = ((c103 + k : Nat) : Int) - ((c103 : Nat) : Int) := by rw [ev144]; exact pk_sub_toInt (by omega) (by omega)
      refine lv_iload_n hx hb dX12_digits_48 rfl (lv_at hl 2 rfl) ?_
      refine lv_icmp_gt (tgt := 85) hx hb dX12_digits_49 (by decide) (fun c145 => ?_) (fun c145 => ?_)
      · have zc145 := c145
        replace zc145 := zc_lt (nI_toInt (by omega)) (iv144) zc145
        refine lv_aload_n hx hb dX12_digits_85 rfl (lv_at hl 0 rfl) ?_
        refine zGetI (D := D) (ci := 12) (C := RX12) (T := TX12) (N := 71) hx hb hts hiX12 hown hH (zk_30 hF) rfl 23 (by decide) rfl hw1 (fun _ h9 => h9) dX12_digits_86 hc ?_
        refine lv_iload hx hb dX12_digits_89 (lv_at hl 5 rfl) ?_
        refine lv_isub hx hb dX12_digits_91 ?_
        refine lv_topi (fun v146 ev146 => ?_)
        have iv146 : v146.toInt = ((c103 + k : Nat) : Int) - ((c103 : Nat) : Int) := by rw [ev146]; exact pk_sub_toInt (by omega) (by omega)
        refine lv_iload_n hx hb dX12_digits_92 rfl (lv_at hl 1 rfl) ?_
        refine lv_icmp_lt (tgt := 120) hx hb dX12_digits_93 (by decide) (fun c147 => ?_) (fun c147 => ?_)
        · have zc147 := c147
          replace zc147 := zc_lt (iv146) (nI_toInt (by omega)) zc147
          refine lv_aload_n hx hb dX12_digits_120 rfl (lv_at hl 0 rfl) ?_
          refine lv_iload hx hb dX12_digits_121 (lv_at hl 5 rfl) ?_
          refine va_calli (va_runV (As := [.int (nI c103)]) (rest := []) ⟨hx, hb, hml, hown, hts⟩ (m_wrongX l hl0 D A sad τ f fr ol (nI c103) hF) (cwV 1 hts gX12_digits_X12_wrong rfl rfl rfl (by decide +kernel) ⟨Nat.le_of_ble_eq_true rfl, Nat.le_of_ble_eq_true rfl⟩) ⟨zQc_bl, zRecv hH (zk_30 hF) rfl, zQc_at hz hS hA hH⟩ rfl rfl hl.1 rfl (lv_room (Nat.le_of_ble_eq_true rfl)) dX12_digits_123 ⟨Nat.le_of_ble_eq_true rfl, Nat.le_of_ble_eq_true rfl⟩) hS (fun q _ h => h) (fun q h => h) (fun r148 u9 t9 H1 locs ht9 hvm9 hw hB hz1 hk1 hS => ?_)
          have hH := zMv ht9 hvm9 hB
          clear hB
          generalize u9 = f149 at hw hH
          generalize H1 = H at hH hS ⊢
          obtain ⟨rfl, ef149⟩ := hw
          have q150 : f149 30 22 = nI L := by rw [ef149, zu_n (fun h9 => absurd h9.2 (by decide))]; exact q22
          have q151 : f149 30 23 = nI (c103 + k) := by rw [ef149, zu_n (fun h9 => absurd h9.2 (by decide))]; exact hc
          have q152 : f149 30 24 = nI c103 := by rw [ef149]; exact zu_s
          refine W.widen (k := 0) (n := 0) (by decide) (by decide) ?_
          exact W.zret (v := 0) hx hb hr (by decide) (fun t9 ht9 hW9 => ⟨⟨0, f149, rfl, ⟨trivial, ⟨c103 + k, by omega, by omega, q151, Or.inr ⟨by rw [← hcz]; exact (zNumM (b := fi 47) (p := p) (q := q) (lo := x3) (hi := x4) (by omega) (by omega) hj hvv (fun h5 h6 => (by exfalso; omega))).2 (fun h9 => by have h91 := h9.1; have h92 := h9.2.1; have h93 := h9.2.2.1; have h94 := h9.2.2.2; omega), rfl, by rw [ef149, zu_s, hcz]⟩⟩, fun a b h => by rw [ef149, zu_n (by omega)]; exact hfr a b (by omega)⟩, zEnd1 hH ht9 hW9⟩, hS.F ht9⟩) hS.2.2 dX12_digits_126
        · have zc147 := c147
          replace zc147 := zc_nlt (iv146) (nI_toInt (by omega)) zc147
          refine lv_aload_n hx hb dX12_digits_96 rfl (lv_at hl 0 rfl) ?_
          refine zGetI (D := D) (ci := 12) (C := RX12) (T := TX12) (N := 71) hx hb hts hiX12 hown hH (zk_30 hF) rfl 23 (by decide) rfl hw1 (fun _ h9 => h9) dX12_digits_97 hc ?_
          refine lv_iload hx hb dX12_digits_100 (lv_at hl 5 rfl) ?_
          refine lv_isub hx hb dX12_digits_102 ?_
          refine lv_topi (fun v153 ev153 => ?_)
          have iv153 : v153.toInt = ((c103 + k : Nat) : Int) - ((c103 : Nat) : Int) := by rw [ev153]; exact pk_sub_toInt (by omega) (by omega)
          refine lv_iload_n hx hb dX12_digits_103 rfl (lv_at hl 2 rfl) ?_
          refine lv_icmp_gt (tgt := 120) hx hb dX12_digits_104 (by decide) (fun c154 => ?_) (fun c154 => ?_)
          · have zc154 := c154
            replace zc154 := zc_lt (nI_toInt (by omega)) (iv153) zc154
            refine lv_aload_n hx hb dX12_digits_120 rfl (lv_at hl 0 rfl) ?_
            refine lv_iload hx hb dX12_digits_121 (lv_at hl 5 rfl) ?_
            refine va_calli (va_runV (As := [.int (nI c103)]) (rest := []) ⟨hx, hb, hml, hown, hts⟩ (m_wrongX l hl0 D A sad τ f fr ol (nI c103) hF) (cwV 1 hts gX12_digits_X12_wrong rfl rfl rfl (by decide +kernel) ⟨Nat.le_of_ble_eq_true rfl, Nat.le_of_ble_eq_true rfl⟩) ⟨zQc_bl, zRecv hH (zk_30 hF) rfl, zQc_at hz hS hA hH⟩ rfl rfl hl.1 rfl (lv_room (Nat.le_of_ble_eq_true rfl)) dX12_digits_123 ⟨Nat.le_of_ble_eq_true rfl, Nat.le_of_ble_eq_true rfl⟩) hS (fun q _ h => h) (fun q h => h) (fun r155 u9 t9 H1 locs ht9 hvm9 hw hB hz1 hk1 hS => ?_)
            have hH := zMv ht9 hvm9 hB
            clear hB
            generalize u9 = f156 at hw hH
            generalize H1 = H at hH hS ⊢
            obtain ⟨rfl, ef156⟩ := hw
            have q157 : f156 30 22 = nI L := by rw [ef156, zu_n (fun h9 => absurd h9.2 (by decide))]; exact q22
            have q158 : f156 30 23 = nI (c103 + k) := by rw [ef156, zu_n (fun h9 => absurd h9.2 (by decide))]; exact hc
            have q159 : f156 30 24 = nI c103 := by rw [ef156]; exact zu_s
            refine W.widen (k := 0) (n := 0) (by decide) (by decide) ?_
            exact W.zret (v := 0) hx hb hr (by decide) (fun t9 ht9 hW9 => ⟨⟨0, f156, rfl, ⟨trivial, ⟨c103 + k, by omega, by omega, q158, Or.inr ⟨by rw [← hcz]; exact (zNumM (b := fi 47) (p := p) (q := q) (lo := x3) (hi := x4) (by omega) (by omega) hj hvv (fun h5 h6 => (by exfalso; omega))).2 (fun h9 => by have h91 := h9.1; have h92 := h9.2.1; have h93 := h9.2.2.1; have h94 := h9.2.2.2; omega), rfl, by rw [ef156, zu_s, hcz]⟩⟩, fun a b h => by rw [ef156, zu_n (by omega)]; exact hfr a b (by omega)⟩, zEnd1 hH ht9 hW9⟩, hS.F ht9⟩) hS.2.2 dX12_digits_126
          · have zc154 := c154
            replace zc154 := zc_nlt (nI_toInt (by omega)) (iv153) zc154
            refine lv_iload hx hb dX12_digits_107 (lv_at hl 6 rfl) ?_
            refine lv_iload_n hx hb dX12_digits_109 rfl (lv_at hl 3 rfl) ?_
            refine lv_icmp_lt (tgt := 120) hx hb dX12_digits_110 (by decide) (fun c160 => ?_) (fun c160 => ?_)
            · have zc160 := c160
              replace zc160 := zc_lt (rfl) (rfl) zc160
              refine lv_aload_n hx hb dX12_digits_120 rfl (lv_at hl 0 rfl) ?_
              refine lv_iload hx hb dX12_digits_121 (lv_at hl 5 rfl) ?_
              refine va_calli (va_runV (As := [.int (nI c103)]) (rest := []) ⟨hx, hb, hml, hown, hts⟩ (m_wrongX l hl0 D A sad τ f fr ol (nI c103) hF) (cwV 1 hts gX12_digits_X12_wrong rfl rfl rfl (by decide +kernel) ⟨Nat.le_of_ble_eq_true rfl, Nat.le_of_ble_eq_true rfl⟩) ⟨zQc_bl, zRecv hH (zk_30 hF) rfl, zQc_at hz hS hA hH⟩ rfl rfl hl.1 rfl (lv_room (Nat.le_of_ble_eq_true rfl)) dX12_digits_123 ⟨Nat.le_of_ble_eq_true rfl, Nat.le_of_ble_eq_true rfl⟩) hS (fun q _ h => h) (fun q h => h) (fun r161 u9 t9 H1 locs ht9 hvm9 hw hB hz1 hk1 hS => ?_)
              have hH := zMv ht9 hvm9 hB
              clear hB
              generalize u9 = f162 at hw hH
              generalize H1 = H at hH hS ⊢
              obtain ⟨rfl, ef162⟩ := hw
              have q163 : f162 30 22 = nI L := by rw [ef162, zu_n (fun h9 => absurd h9.2 (by decide))]; exact q22
              have q164 : f162 30 23 = nI (c103 + k) := by rw [ef162, zu_n (fun h9 => absurd h9.2 (by decide))]; exact hc
              have q165 : f162 30 24 = nI c103 := by rw [ef162]; exact zu_s
              refine W.widen (k := 0) (n := 0) (by decide) (by decide) ?_
              exact W.zret (v := 0) hx hb hr (by decide) (fun t9 ht9 hW9 => ⟨⟨0, f162, rfl, ⟨trivial, ⟨c103 + k, by omega, by omega, q164, Or.inr ⟨by rw [← hcz]; exact (zNumM (b := fi 47) (p := p) (q := q) (lo := x3) (hi := x4) (by omega) (by omega) hj hvv (fun h5 h6 => (by exfalso; omega))).2 (fun h9 => by have h91 := h9.1; have h92 := h9.2.1; have h93 := h9.2.2.1; have h94 := h9.2.2.2; omega), rfl, by rw [ef162, zu_s, hcz]⟩⟩, fun a b h => by rw [ef162, zu_n (by omega)]; exact hfr a b (by omega)⟩, zEnd1 hH ht9 hW9⟩, hS.F ht9⟩) hS.2.2 dX12_digits_126
            · have zc160 := c160
              replace zc160 := zc_nlt (rfl) (rfl) zc160
              refine lv_iload hx hb dX12_digits_113 (lv_at hl 6 rfl) ?_
              refine lv_iload hx hb dX12_digits_115 (lv_at hl 4 rfl) ?_
              refine lv_icmp_le (tgt := 127) hx hb dX12_digits_117 (by decide) (fun c166 => ?_) (fun c166 => ?_)
              · have zc166 := c166
                replace zc166 := zc_le (rfl) (rfl) zc166
                refine lv_aload_n hx hb dX12_digits_127 rfl (lv_at hl 0 rfl) ?_
                refine lv_iload hx hb dX12_digits_128 (lv_at hl 6 rfl) ?_
                refine zPutI (D := D) (ci := 12) (ty := .int) (C := RX12) (T := TX12) (N := 71) hx hb hts hiX12 tyX12 tyX12_ok nmX12 hown hH hS (zk_30 hF) rfl 25 (by decide) rfl hw3 (fun _ h9 => h9) rfl (by decide +kernel) rfl rfl dX12_digits_130 (fun H locs hH hS => ?_)
                obtain ⟨f167, ef167⟩ : ∃ f9 : zFi, f9 = zu f 30 25 vv := ⟨_, rfl⟩
                rw [← ef167] at hH
                have q168 : f167 30 22 = nI L := by rw [ef167, zu_n (fun h9 => absurd h9.2 (by decide))]; exact q22
                have q169 : f167 30 23 = nI (c103 + k) := by rw [ef167, zu_n (fun h9 => absurd h9.2 (by decide))]; exact hc
                have q170 : f167 30 25 = vv := by rw [ef167]; exact zu_s
                refine lv_iconst (v := nI 1) hx hb dX12_digits_133 (by decide) ?_
                refine W.widen (k := 0) (n := 0) (by decide) (by decide) ?_
                exact W.zret (v := nI 1) hx hb hr (by decide) (fun t9 ht9 hW9 => ⟨⟨nI 1, f167, rfl, ⟨trivial, ⟨c103 + k, by omega, by omega, q169, Or.inl ⟨_, _, by rw [← hcz]; exact (zNumM (b := fi 47) (p := p) (q := q) (lo := x3) (hi := x4) (by omega) (by omega) hj hvv (fun h5 h6 => (by exfalso; omega))).1 ⟨by omega, by omega, by omega, by omega⟩, rfl, rfl, q170, by rw [ef167, zu_n (by omega)]; exact hfr 30 24 (by omega)⟩⟩, fun a b h => by rw [ef167, zu_n (by omega)]; exact hfr a b (by omega)⟩, zEnd1 hH ht9 hW9⟩, hS.F ht9⟩) hS.2.2 dX12_digits_134
              · have zc166 := c166
                replace zc166 := zc_nle (rfl) (rfl) zc166
                refine lv_aload_n hx hb dX12_digits_120 rfl (lv_at hl 0 rfl) ?_
                refine lv_iload hx hb dX12_digits_121 (lv_at hl 5 rfl) ?_
                refine va_calli (va_runV (As := [.int (nI c103)]) (rest := []) ⟨hx, hb, hml, hown, hts⟩ (m_wrongX l hl0 D A sad τ f fr ol (nI c103) hF) (cwV 1 hts gX12_digits_X12_wrong rfl rfl rfl (by decide +kernel) ⟨Nat.le_of_ble_eq_true rfl, Nat.le_of_ble_eq_true rfl⟩) ⟨zQc_bl, zRecv hH (zk_30 hF) rfl, zQc_at hz hS hA hH⟩ rfl rfl hl.1 rfl (lv_room (Nat.le_of_ble_eq_true rfl)) dX12_digits_123 ⟨Nat.le_of_ble_eq_true rfl, Nat.le_of_ble_eq_true rfl⟩) hS (fun q _ h => h) (fun q h => h) (fun r171 u9 t9 H1 locs ht9 hvm9 hw hB hz1 hk1 hS => ?_)
                have hH := zMv ht9 hvm9 hB
                clear hB
                generalize u9 = f172 at hw hH
                generalize H1 = H at hH hS ⊢
                obtain ⟨rfl, ef172⟩ := hw
                have q173 : f172 30 22 = nI L := by rw [ef172, zu_n (fun h9 => absurd h9.2 (by decide))]; exact q22
                have q174 : f172 30 23 = nI (c103 + k) := by rw [ef172, zu_n (fun h9 => absurd h9.2 (by decide))]; exact hc
                have q175 : f172 30 24 = nI c103 := by rw [ef172]; exact zu_s
                refine W.widen (k := 0) (n := 0) (by decide) (by decide) ?_
                exact W.zret (v := 0) hx hb hr (by decide) (fun t9 ht9 hW9 => ⟨⟨0, f172, rfl, ⟨trivial, ⟨c103 + k, by omega, by omega, q174, Or.inr ⟨by rw [← hcz]; exact (zNumM (b := fi 47) (p := p) (q := q) (lo := x3) (hi := x4) (by omega) (by omega) hj hvv (fun h5 h6 => (by exfalso; omega))).2 (fun h9 => by have h91 := h9.1; have h92 := h9.2.1; have h93 := h9.2.2.1; have h94 := h9.2.2.2; omega), rfl, by rw [ef172, zu_s, hcz]⟩⟩, fun a b h => by rw [ef172, zu_n (by omega)]; exact hfr a b (by omega)⟩, zEnd1 hH ht9 hW9⟩, hS.F ht9⟩) hS.2.2 dX12_digits_126
      · have zc145 := c145
        replace zc145 := zc_nlt (nI_toInt (by omega)) (iv144) zc145
        refine lv_bipush (v := nI 10) hx hb dX12_digits_52 (by decide) ?_
        refine lv_iload hx hb dX12_digits_54 (lv_at hl 6 rfl) ?_
        refine lv_imul hx hb dX12_digits_56 ?_
        refine lv_topi (fun v176 ev176 => ?_)
        refine lv_aload_n hx hb dX12_digits_57 rfl (lv_at hl 0 rfl) ?_
        refine zGetR (D := D) (ci := 12) (C := RX12) (T := TX12) (N := 71) hx hb hts hiX12 hown hH (zk_30 hF) rfl 20 (by decide) rfl hw4 (fun _ h9 => h9) dX12_digits_58 (zr_30_20 hF) ?_
        refine lv_aload_n hx hb dX12_digits_61 rfl (lv_at hl 0 rfl) ?_
        refine zGetI (D := D) (ci := 12) (C := RX12) (T := TX12) (N := 71) hx hb hts hiX12 hown hH (zk_30 hF) rfl 23 (by decide) rfl hw1 (fun _ h9 => h9) dX12_digits_62 hc ?_
        refine zIaldN (D := D) hx hb hH (zk_47 hF) (zn_47 hF) (by omega) (by omega) rfl dX12_digits_65 ?_
        refine lv_iadd hx hb dX12_digits_66 ?_
        refine lv_topi (fun v177 ev177 => ?_)
        refine lv_bipush (v := nI 48) hx hb dX12_digits_67 (by decide) ?_
        refine lv_isub hx hb dX12_digits_69 ?_
        refine lv_topi (fun v178 ev178 => ?_)
        refine lv_istore (lv' := [(7, .int v178), (0, .ref (τ.1 30)), (1, .int (nI p)), (2, .int (nI q)), (3, .int x3), (4, .int x4), (6, .int (nI c103))]) hx hb dX12_digits_70 hl (by decide) rfl (fun ls hl => ?_)
        refine lv_aload_n hx hb dX12_digits_72 rfl (lv_at hl 1 rfl) ?_
        refine lv_dup hx hb dX12_digits_73 rfl ?_
        refine zGetI (D := D) (ci := 12) (C := RX12) (T := TX12) (N := 71) hx hb hts hiX12 hown hH (zk_30 hF) rfl 23 (by decide) rfl hw1 (fun _ h9 => h9) dX12_digits_74 hc ?_
        refine lv_iconst (v := nI 1) hx hb dX12_digits_77 (by decide) ?_
        refine lv_iadd hx hb dX12_digits_78 ?_
        refine lv_topi (fun v179 ev179 => ?_)
        obtain rfl : v179 = nI (c103 + k + 1) := ev179.trans (nI_add _ _)
        refine zPutI (D := D) (ci := 12) (ty := .int) (C := RX12) (T := TX12) (N := 71) hx hb hts hiX12 tyX12 tyX12_ok nmX12 hown hH hS (zk_30 hF) rfl 23 (by decide) rfl hw1 (fun _ h9 => h9) rfl (by decide +kernel) rfl rfl dX12_digits_79 (fun H locs hH hS => ?_)
        obtain ⟨f180, ef180⟩ : ∃ f9 : zFi, f9 = zu f 30 23 (nI (c103 + k + 1)) := ⟨_, rfl⟩
        rw [← ef180] at hH
        have q181 : f180 30 22 = nI L := by rw [ef180, zu_n (fun h9 => absurd h9.2 (by decide))]; exact q22
        have q182 : f180 30 23 = nI (c103 + k + 1) := by rw [ef180]; exact zu_s
        refine lv_goto (tgt := 15) hx hb dX12_digits_82 (by decide) ?_
        exact ih110 (L - (c103 + (k + 1))) (by omega) (k + 1, f180, v178) _ _ _ (show L - (c103 + (k + 1)) = L - (c103 + (k + 1)) ∧ (c103 + (k + 1) ≤ L ∧ (k + 1) ≤ q + 1 ∧ f180 30 23 = nI (c103 + (k + 1)) ∧ v178 = zDig (fi 47) c103 (k + 1) ∧ (∀ j, c103 ≤ j → j < c103 + (k + 1) → 48 ≤ (fi 47 j).toInt ∧ (fi 47 j).toInt ≤ 57) ∧ ∀ a b, ¬ (a = 30 ∧ b = 23) → f180 a b = fi a b) ∧ zH D A τ f180 fr ol s _ ∧ va_S A s.heap _ _ ∧ lv_has _ 8 [(0, .ref (τ.1 30)), (1, .int (nI p)), (2, .int (nI q)), (3, .int x3), (4, .int x4), (6, .int (nI c103)), (7, .int v178)] from ⟨rfl, ⟨by omega, by omega, q182, zDig_m hvv ev176 (by rw [← q47]; exact ev177) ev178, fun j h5 h6 => by by_cases h7 : j = c103 + k; (subst h7; exact hdg); exact hj j h5 (by omega), fun a b h => by rw [ef180, zu_n (by omega)]; exact hfr a b h⟩, hH, hS, lv_sub hl [1, 2, 3, 4, 5, 6, 0] rfl⟩)
    · skip
      refine lv_if_eq (tgt := 85) hx hb dX12_digits_38 (by decide) (fun c183 => ?_) (fun c183 => absurd (by decide) c183)
      refine lv_aload_n hx hb dX12_digits_85 rfl (lv_at hl 0 rfl) ?_
      refine zGetI (D := D) (ci := 12) (C := RX12) (T := TX12) (N := 71) hx hb hts hiX12 hown hH (zk_30 hF) rfl 23 (by decide) rfl hw1 (fun _ h9 => h9) dX12_digits_86 hc ?_
      refine lv_iload hx hb dX12_digits_89 (lv_at hl 5 rfl) ?_
      refine lv_isub hx hb dX12_digits_91 ?_
      refine lv_topi (fun v184 ev184 => ?_)
      have iv184 : v184.toInt = ((c103 + k : Nat) : Int) - ((c103 : Nat) : Int) := by rw [ev184]; exact pk_sub_toInt (by omega) (by omega)
      refine lv_iload_n hx hb dX12_digits_92 rfl (lv_at hl 1 rfl) ?_
      refine lv_icmp_lt (tgt := 120) hx hb dX12_digits_93 (by decide) (fun c185 => ?_) (fun c185 => ?_)
      · have zc185 := c185
        replace zc185 := zc_lt (iv184) (nI_toInt (by omega)) zc185
        refine lv_aload_n hx hb dX12_digits_120 rfl (lv_at hl 0 rfl) ?_
        refine lv_iload hx hb dX12_digits_121 (lv_at hl 5 rfl) ?_
        refine va_calli (va_runV (As := [.int (nI c103)]) (rest := []) ⟨hx, hb, hml, hown, hts⟩ (m_wrongX l hl0 D A sad τ f fr ol (nI c103) hF) (cwV 1 hts gX12_digits_X12_wrong rfl rfl rfl (by decide +kernel) ⟨Nat.le_of_ble_eq_true rfl, Nat.le_of_ble_eq_true rfl⟩) ⟨zQc_bl, zRecv hH (zk_30 hF) rfl, zQc_at hz hS hA hH⟩ rfl rfl hl.1 rfl (lv_room (Nat.le_of_ble_eq_true rfl)) dX12_digits_123 ⟨Nat.le_of_ble_eq_true rfl, Nat.le_of_ble_eq_true rfl⟩) hS (fun q _ h => h) (fun q h => h) (fun r186 u9 t9 H1 locs ht9 hvm9 hw hB hz1 hk1 hS => ?_)
        have hH := zMv ht9 hvm9 hB
        clear hB
        generalize u9 = f187 at hw hH
        generalize H1 = H at hH hS ⊢
        obtain ⟨rfl, ef187⟩ := hw
        have q188 : f187 30 22 = nI L := by rw [ef187, zu_n (fun h9 => absurd h9.2 (by decide))]; exact q22
        have q189 : f187 30 23 = nI (c103 + k) := by rw [ef187, zu_n (fun h9 => absurd h9.2 (by decide))]; exact hc
        have q190 : f187 30 24 = nI c103 := by rw [ef187]; exact zu_s
        refine W.widen (k := 0) (n := 0) (by decide) (by decide) ?_
        exact W.zret (v := 0) hx hb hr (by decide) (fun t9 ht9 hW9 => ⟨⟨0, f187, rfl, ⟨trivial, ⟨c103 + k, by omega, by omega, q189, Or.inr ⟨by rw [← hcz]; exact (zNumM (b := fi 47) (p := p) (q := q) (lo := x3) (hi := x4) (by omega) (by omega) hj hvv (fun h5 h6 => hdg)).2 (fun h9 => by have h91 := h9.1; have h92 := h9.2.1; have h93 := h9.2.2.1; have h94 := h9.2.2.2; omega), rfl, by rw [ef187, zu_s, hcz]⟩⟩, fun a b h => by rw [ef187, zu_n (by omega)]; exact hfr a b (by omega)⟩, zEnd1 hH ht9 hW9⟩, hS.F ht9⟩) hS.2.2 dX12_digits_126
      · have zc185 := c185
        replace zc185 := zc_nlt (iv184) (nI_toInt (by omega)) zc185
        refine lv_aload_n hx hb dX12_digits_96 rfl (lv_at hl 0 rfl) ?_
        refine zGetI (D := D) (ci := 12) (C := RX12) (T := TX12) (N := 71) hx hb hts hiX12 hown hH (zk_30 hF) rfl 23 (by decide) rfl hw1 (fun _ h9 => h9) dX12_digits_97 hc ?_
        refine lv_iload hx hb dX12_digits_100 (lv_at hl 5 rfl) ?_
        refine lv_isub hx hb dX12_digits_102 ?_
        refine lv_topi (fun v191 ev191 => ?_)
        have iv191 : v191.toInt = ((c103 + k : Nat) : Int) - ((c103 : Nat) : Int) := by rw [ev191]; exact pk_sub_toInt (by omega) (by omega)
        refine lv_iload_n hx hb dX12_digits_103 rfl (lv_at hl 2 rfl) ?_
        refine lv_icmp_gt (tgt := 120) hx hb dX12_digits_104 (by decide) (fun c192 => ?_) (fun c192 => ?_)
        · have zc192 := c192
          replace zc192 := zc_lt (nI_toInt (by omega)) (iv191) zc192
          refine lv_aload_n hx hb dX12_digits_120 rfl (lv_at hl 0 rfl) ?_
          refine lv_iload hx hb dX12_digits_121 (lv_at hl 5 rfl) ?_
          refine va_calli (va_runV (As := [.int (nI c103)]) (rest := []) ⟨hx, hb, hml, hown, hts⟩ (m_wrongX l hl0 D A sad τ f fr ol (nI c103) hF) (cwV 1 hts gX12_digits_X12_wrong rfl rfl rfl (by decide +kernel) ⟨Nat.le_of_ble_eq_true rfl, Nat.le_of_ble_eq_true rfl⟩) ⟨zQc_bl, zRecv hH (zk_30 hF) rfl, zQc_at hz hS hA hH⟩ rfl rfl hl.1 rfl (lv_room (Nat.le_of_ble_eq_true rfl)) dX12_digits_123 ⟨Nat.le_of_ble_eq_true rfl, Nat.le_of_ble_eq_true rfl⟩) hS (fun q _ h => h) (fun q h => h) (fun r193 u9 t9 H1 locs ht9 hvm9 hw hB hz1 hk1 hS => ?_)
          have hH := zMv ht9 hvm9 hB
          clear hB
          generalize u9 = f194 at hw hH
          generalize H1 = H at hH hS ⊢
          obtain ⟨rfl, ef194⟩ := hw
          have q195 : f194 30 22 = nI L := by rw [ef194, zu_n (fun h9 => absurd h9.2 (by decide))]; exact q22
          have q196 : f194 30 23 = nI (c103 + k) := by rw [ef194, zu_n (fun h9 => absurd h9.2 (by decide))]; exact hc
          have q197 : f194 30 24 = nI c103 := by rw [ef194]; exact zu_s
          refine W.widen (k := 0) (n := 0) (by decide) (by decide) ?_
          exact W.zret (v := 0) hx hb hr (by decide) (fun t9 ht9 hW9 => ⟨⟨0, f194, rfl, ⟨trivial, ⟨c103 + k, by omega, by omega, q196, Or.inr ⟨by rw [← hcz]; exact (zNumM (b := fi 47) (p := p) (q := q) (lo := x3) (hi := x4) (by omega) (by omega) hj hvv (fun h5 h6 => hdg)).2 (fun h9 => by have h91 := h9.1; have h92 := h9.2.1; have h93 := h9.2.2.1; have h94 := h9.2.2.2; omega), rfl, by rw [ef194, zu_s, hcz]⟩⟩, fun a b h => by rw [ef194, zu_n (by omega)]; exact hfr a b (by omega)⟩, zEnd1 hH ht9 hW9⟩, hS.F ht9⟩) hS.2.2 dX12_digits_126
        · have zc192 := c192
          replace zc192 := zc_nlt (nI_toInt (by omega)) (iv191) zc192
          refine lv_iload hx hb dX12_digits_107 (lv_at hl 6 rfl) ?_
          refine lv_iload_n hx hb dX12_digits_109 rfl (lv_at hl 3 rfl) ?_
          refine lv_icmp_lt (tgt := 120) hx hb dX12_digits_110 (by decide) (fun c198 => ?_) (fun c198 => ?_)
          · have zc198 := c198
            replace zc198 := zc_lt (rfl) (rfl) zc198
            refine lv_aload_n hx hb dX12_digits_120 rfl (lv_at hl 0 rfl) ?_
            refine lv_iload hx hb dX12_digits_121 (lv_at hl 5 rfl) ?_
            refine va_calli (va_runV (As := [.int (nI c103)]) (rest := []) ⟨hx, hb, hml, hown, hts⟩ (m_wrongX l hl0 D A sad τ f fr ol (nI c103) hF) (cwV 1 hts gX12_digits_X12_wrong rfl rfl rfl (by decide +kernel) ⟨Nat.le_of_ble_eq_true rfl, Nat.le_of_ble_eq_true rfl⟩) ⟨zQc_bl, zRecv hH (zk_30 hF) rfl, zQc_at hz hS hA hH⟩ rfl rfl hl.1 rfl (lv_room (Nat.le_of_ble_eq_true rfl)) dX12_digits_123 ⟨Nat.le_of_ble_eq_true rfl, Nat.le_of_ble_eq_true rfl⟩) hS (fun q _ h => h) (fun q h => h) (fun r199 u9 t9 H1 locs ht9 hvm9 hw hB hz1 hk1 hS => ?_)
            have hH := zMv ht9 hvm9 hB
            clear hB
            generalize u9 = f200 at hw hH
            generalize H1 = H at hH hS ⊢
            obtain ⟨rfl, ef200⟩ := hw
            have q201 : f200 30 22 = nI L := by rw [ef200, zu_n (fun h9 => absurd h9.2 (by decide))]; exact q22
            have q202 : f200 30 23 = nI (c103 + k) := by rw [ef200, zu_n (fun h9 => absurd h9.2 (by decide))]; exact hc
            have q203 : f200 30 24 = nI c103 := by rw [ef200]; exact zu_s
            refine W.widen (k := 0) (n := 0) (by decide) (by decide) ?_
            exact W.zret (v := 0) hx hb hr (by decide) (fun t9 ht9 hW9 => ⟨⟨0, f200, rfl, ⟨trivial, ⟨c103 + k, by omega, by omega, q202, Or.inr ⟨by rw [← hcz]; exact (zNumM (b := fi 47) (p := p) (q := q) (lo := x3) (hi := x4) (by omega) (by omega) hj hvv (fun h5 h6 => hdg)).2 (fun h9 => by have h91 := h9.1; have h92 := h9.2.1; have h93 := h9.2.2.1; have h94 := h9.2.2.2; omega), rfl, by rw [ef200, zu_s, hcz]⟩⟩, fun a b h => by rw [ef200, zu_n (by omega)]; exact hfr a b (by omega)⟩, zEnd1 hH ht9 hW9⟩, hS.F ht9⟩) hS.2.2 dX12_digits_126
          · have zc198 := c198
            replace zc198 := zc_nlt (rfl) (rfl) zc198
            refine lv_iload hx hb dX12_digits_113 (lv_at hl 6 rfl) ?_
            refine lv_iload hx hb dX12_digits_115 (lv_at hl 4 rfl) ?_
            refine lv_icmp_le (tgt := 127) hx hb dX12_digits_117 (by decide) (fun c204 => ?_) (fun c204 => ?_)
            · have zc204 := c204
              replace zc204 := zc_le (rfl) (rfl) zc204
              refine lv_aload_n hx hb dX12_digits_127 rfl (lv_at hl 0 rfl) ?_
              refine lv_iload hx hb dX12_digits_128 (lv_at hl 6 rfl) ?_
              refine zPutI (D := D) (ci := 12) (ty := .int) (C := RX12) (T := TX12) (N := 71) hx hb hts hiX12 tyX12 tyX12_ok nmX12 hown hH hS (zk_30 hF) rfl 25 (by decide) rfl hw3 (fun _ h9 => h9) rfl (by decide +kernel) rfl rfl dX12_digits_130 (fun H locs hH hS => ?_)
              obtain ⟨f205, ef205⟩ : ∃ f9 : zFi, f9 = zu f 30 25 vv := ⟨_, rfl⟩
              rw [← ef205] at hH
              have q206 : f205 30 22 = nI L := by rw [ef205, zu_n (fun h9 => absurd h9.2 (by decide))]; exact q22
              have q207 : f205 30 23 = nI (c103 + k) := by rw [ef205, zu_n (fun h9 => absurd h9.2 (by decide))]; exact hc
              have q208 : f205 30 25 = vv := by rw [ef205]; exact zu_s
              refine lv_iconst (v := nI 1) hx hb dX12_digits_133 (by decide) ?_
              refine W.widen (k := 0) (n := 0) (by decide) (by decide) ?_
              exact W.zret (v := nI 1) hx hb hr (by decide) (fun t9 ht9 hW9 => ⟨⟨nI 1, f205, rfl, ⟨trivial, ⟨c103 + k, by omega, by omega, q207, Or.inl ⟨_, _, by rw [← hcz]; exact (zNumM (b := fi 47) (p := p) (q := q) (lo := x3) (hi := x4) (by omega) (by omega) hj hvv (fun h5 h6 => hdg)).1 ⟨by omega, by omega, by omega, by omega⟩, rfl, rfl, q208, by rw [ef205, zu_n (by omega)]; exact hfr 30 24 (by omega)⟩⟩, fun a b h => by rw [ef205, zu_n (by omega)]; exact hfr a b (by omega)⟩, zEnd1 hH ht9 hW9⟩, hS.F ht9⟩) hS.2.2 dX12_digits_134
            · have zc204 := c204
              replace zc204 := zc_nle (rfl) (rfl) zc204
              refine lv_aload_n hx hb dX12_digits_120 rfl (lv_at hl 0 rfl) ?_
              refine lv_iload hx hb dX12_digits_121 (lv_at hl 5 rfl) ?_
              refine va_calli (va_runV (As := [.int (nI c103)]) (rest := []) ⟨hx, hb, hml, hown, hts⟩ (m_wrongX l hl0 D A sad τ f fr ol (nI c103) hF) (cwV 1 hts gX12_digits_X12_wrong rfl rfl rfl (by decide +kernel) ⟨Nat.le_of_ble_eq_true rfl, Nat.le_of_ble_eq_true rfl⟩) ⟨zQc_bl, zRecv hH (zk_30 hF) rfl, zQc_at hz hS hA hH⟩ rfl rfl hl.1 rfl (lv_room (Nat.le_of_ble_eq_true rfl)) dX12_digits_123 ⟨Nat.le_of_ble_eq_true rfl, Nat.le_of_ble_eq_true rfl⟩) hS (fun q _ h => h) (fun q h => h) (fun r209 u9 t9 H1 locs ht9 hvm9 hw hB hz1 hk1 hS => ?_)
              have hH := zMv ht9 hvm9 hB
              clear hB
              generalize u9 = f210 at hw hH
              generalize H1 = H at hH hS ⊢
              obtain ⟨rfl, ef210⟩ := hw
              have q211 : f210 30 22 = nI L := by rw [ef210, zu_n (fun h9 => absurd h9.2 (by decide))]; exact q22
              have q212 : f210 30 23 = nI (c103 + k) := by rw [ef210, zu_n (fun h9 => absurd h9.2 (by decide))]; exact hc
              have q213 : f210 30 24 = nI c103 := by rw [ef210]; exact zu_s
              refine W.widen (k := 0) (n := 0) (by decide) (by decide) ?_
              exact W.zret (v := 0) hx hb hr (by decide) (fun t9 ht9 hW9 => ⟨⟨0, f210, rfl, ⟨trivial, ⟨c103 + k, by omega, by omega, q212, Or.inr ⟨by rw [← hcz]; exact (zNumM (b := fi 47) (p := p) (q := q) (lo := x3) (hi := x4) (by omega) (by omega) hj hvv (fun h5 h6 => hdg)).2 (fun h9 => by have h91 := h9.1; have h92 := h9.2.1; have h93 := h9.2.2.1; have h94 := h9.2.2.2; omega), rfl, by rw [ef210, zu_s, hcz]⟩⟩, fun a b h => by rw [ef210, zu_n (by omega)]; exact hfr a b (by omega)⟩, zEnd1 hH ht9 hW9⟩, hS.F ht9⟩) hS.2.2 dX12_digits_126
set_option maxHeartbeats 4000000 in
set_option maxRecDepth 100000 in
/-- thingCode -/
theorem m_thingCodeXN (l : Launch) (hl0 : l.stackTraces = false) (D : va_G) (A : Nat → Prop) (sad : Nat → Nat) (τ : zTy) (fi : zFi) (fr : zFr) (ol : Int64) (L a : Nat) (hF : zFix τ fr) (he : fi 30 22 = nI L) (ha : fi 30 23 = nI a) (hL4 : L ≤ 400) (haL : a ≤ L) (n : Nat) (hMt : zMt fi n) : Met l yX12_thingCode wsX12_thingCode ({ frames := 2, cells := 0, slots := 0, locals := 48 }) (va_Pc [.ref (τ.1 30), .int ((-1))] (zQc D A sad τ fi fr ol)) (va_Qi (fun (r : Int32) (u : zFi) => True ∧ (∃ c, a ≤ c ∧ c ≤ L ∧ u 30 23 = nI c ∧ ((∃ t x, t < n ∧ zThg (fi 47) L (fi 31) n none (zS (fi 47) L a) = some (t, x) ∧ zS (fi 47) L c = x ∧ r = 1 ∧ u 30 25 = nI t ∧ u 30 24 = fi 30 24) ∨ (zThg (fi 47) L (fi 31) n none (zS (fi 47) L a) = none ∧ r = 0 ∧ u 30 24 = nI (zS (fi 47) L a)))) ∧ ∀ a b, ¬ (a = 30 ∧ 23 ≤ b ∧ b ≤ 25) → u a b = fi a b) (fun (u : zFi) (t : State) => zH D A τ u fr ol t t.heap) A) 0 0 A := by
  refine Met.ofW (cc := cX12_thingCode) (maxL := 5) (ret := (some .boolean)) (by decide) rfl ?_
  intro p9 e9 s m args below meth c9 s₁ B hml hv
  obtain ⟨rfl, hz, hH, hA⟩ := hv
  have hx := B.exec
  have hb := B.bytes
  have hr := B.returns
  have hts := atoms_spec (ws := wsX12_thingCode) B.pre
  have hown : s.vm.findClass RX12 = some m.cls := findClass_of_methodNamed B.named
  have hlocks := B.notSynchronized
  have hS : va_S A s.heap s.heap [] := va_S.rf
  have hl := lv_entry ([.ref (τ.1 30), .int ((-1))]) (n := 5) (Nat.le_of_ble_eq_true rfl)
  rw [lg_entry_eq]
  generalize (lg_sl ([.ref (τ.1 30), .int ((-1))]) ++ List.replicate (5 - (lg_sl ([.ref (τ.1 30), .int ((-1))])).length) Slot.unset).toArray = ls at hl ⊢
  have hl : lv_has ls 5 [(0, .ref (τ.1 30)), (1, .int ((-1)))] := hl
  have hm30 := hMt.1
  obtain ⟨w24, hw24⟩ : ∃ w, fi 30 24 = w := ⟨_, rfl⟩
  have hiX12 : ∀ w ∈ u_ws RX12 TX12 71, w ∈ wsX12_thingCode := fun _ h => List.mem_cons_of_mem _ (List.mem_append_right _ h)
  have hw1 := hts (.fieldLink RX12 206 "PostHouseModel" "at" "I") (by decide +kernel)
  have hw2 := hts (.fieldLink RX12 229 "PostHouseModel" "number" "I") (by decide +kernel)
  refine lv_aload_n hx hb dX12_thingCode_0 rfl (lv_at hl 0 rfl) ?_
  refine va_calli (va_runV (As := []) (rest := []) ⟨hx, hb, hml, hown, hts⟩ (m_signX l hl0 D A sad τ fi fr ol L a hF he ha (by omega) (by omega)) (cwV 0 hts gX12_thingCode_X12_sign rfl rfl rfl (by decide +kernel) ⟨Nat.le_of_ble_eq_true rfl, Nat.le_of_ble_eq_true rfl⟩) ⟨zQc_bl, zRecv hH (zk_30 hF) rfl, zQc_at hz hS hA hH⟩ rfl rfl hl.1 rfl (lv_room (Nat.le_of_ble_eq_true rfl)) dX12_thingCode_1 ⟨Nat.le_of_ble_eq_true rfl, Nat.le_of_ble_eq_true rfl⟩) hS (fun q _ h => h) (fun q h => h) (fun r101 u9 t9 H1 locs ht9 hvm9 hw hB hz1 hk1 hS => ?_)
  have hH := zMv ht9 hvm9 hB
  clear hB
  generalize u9 = f102 at hw hH
  generalize H1 = H at hH hS ⊢
  obtain ⟨-, ⟨c103, hc104, hc105, q106, hx107⟩, hf108⟩ := hw
  have q109 : f102 30 22 = nI L := by rw [hf108 30 22 (by omega)]; exact he
  have q110 : f102 30 2 = nI n := by rw [hf108 30 2 (by omega)]; exact hMt.2.1
  have q111 : f102 30 24 = w24 := by rw [hf108 30 24 (by omega)]; exact hw24
  have hMt := zMt.ci (fi' := f102) hMt (fun i9 k9 h9 => hf108 i9 k9 (by omega))
  obtain ⟨hcz, -⟩ := hx107
  refine lv_istore_n (lv' := [(2, .int r101), (0, .ref (τ.1 30)), (1, .int ((-1)))]) hx hb dX12_thingCode_4 rfl hl (by decide) rfl (fun ls hl => ?_)
  refine lv_aload_n hx hb dX12_thingCode_5 rfl (lv_at hl 1 rfl) ?_
  refine zGetI (D := D) (ci := 12) (C := RX12) (T := TX12) (N := 71) hx hb hts hiX12 hown hH (zk_30 hF) rfl 23 (by decide) rfl hw1 (fun _ h9 => h9) dX12_thingCode_6 q106 ?_
  refine lv_istore_n (lv' := [(3, .int (nI c103)), (2, .int r101), (0, .ref (τ.1 30)), (1, .int ((-1)))]) hx hb dX12_thingCode_9 rfl hl (by decide) rfl (fun ls hl => ?_)
  refine lv_aload_n hx hb dX12_thingCode_10 rfl (lv_at hl 2 rfl) ?_
  refine lv_iconst (v := nI 4) hx hb dX12_thingCode_11 (by decide) ?_
  refine lv_iconst (v := nI 4) hx hb dX12_thingCode_12 (by decide) ?_
  refine lv_iconst (v := nI 0) hx hb dX12_thingCode_13 (by decide) ?_
  refine lv_sipush (v := nI 9999) hx hb dX12_thingCode_14 (by decide) ?_
  refine va_calli (va_runV (As := [.int (nI 4), .int (nI 4), .int (nI 0), .int (nI 9999)]) (rest := []) ⟨hx, hb, hml, hown, hts⟩ (m_digitsX l hl0 D A sad τ f102 fr ol L c103 hF q109 q106 (by omega) (by omega) 4 4 (by omega) (by omega) (nI 0) (nI 9999)) (cwV 4 hts gX12_thingCode_X12_digits rfl rfl rfl (by decide +kernel) ⟨Nat.le_of_ble_eq_true rfl, Nat.le_of_ble_eq_true rfl⟩) ⟨zQc_bl, zRecv hH (zk_30 hF) rfl, zQc_at hz hS hA hH⟩ rfl rfl hl.1 rfl (lv_room (Nat.le_of_ble_eq_true rfl)) dX12_thingCode_17 ⟨Nat.le_of_ble_eq_true rfl, Nat.le_of_ble_eq_true rfl⟩) hS (fun q _ h => h) (fun q h => h) (fun r112 u9 t9 H1 locs ht9 hvm9 hw hB hz1 hk1 hS => ?_)
  have hH := zMv ht9 hvm9 hB
  clear hB
  generalize u9 = f113 at hw hH
  generalize H1 = H at hH hS ⊢
  obtain ⟨-, ⟨c114, hc115, hc116, q117, hx118⟩, hf119⟩ := hw
  rw [(funext (fun k9 => by rw [hf108 47 k9 (by omega)]) : f102 47 = fi 47)] at hx118
  have q120 : f113 30 22 = nI L := by rw [hf119 30 22 (by omega)]; exact q109
  have q121 : f113 30 2 = nI n := by rw [hf119 30 2 (by omega)]; exact q110
  have hMt := zMt.ci (fi' := f113) hMt (fun i9 k9 h9 => hf119 i9 k9 (by omega))
  rw [show zS (fi 47) L c103 = zS (fi 47) L a from by rw [hcz]; exact zS_idem haL] at hx118
  rcases hx118 with ⟨v25, x25, hnm, hzx, rfl, h25, h24⟩ | ⟨hnm, rfl, h24⟩
  · skip
    have q122 : f113 30 24 = w24 := h24.trans q111
    refine lv_if_ne (tgt := 25) hx hb dX12_thingCode_20 (by decide) (fun c123 => ?_) (fun c123 => absurd c123 (by decide))
    refine lv_aload_n hx hb dX12_thingCode_25 rfl (lv_at hl 2 rfl) ?_
    refine lv_aload_n hx hb dX12_thingCode_26 rfl (lv_at hl 2 rfl) ?_
    refine zGetI (D := D) (ci := 12) (C := RX12) (T := TX12) (N := 71) hx hb hts hiX12 hown hH (zk_30 hF) rfl 25 (by decide) rfl hw2 (fun _ h9 => h9) dX12_thingCode_27 h25 ?_
    refine va_calli (va_runV (As := [.int v25]) (rest := []) ⟨hx, hb, hml, hown, hts⟩ (m_thingOf l hl0 D A sad τ f113 fr ol v25 hF n q121 (by omega)) (cwV 1 hts gX12_thingCode_X12_thingOf rfl rfl rfl (by decide +kernel) ⟨Nat.le_of_ble_eq_true rfl, Nat.le_of_ble_eq_true rfl⟩) ⟨zQc_bl, zRecv hH (zk_30 hF) rfl, zQc_at hz hS hA hH⟩ rfl rfl hl.1 rfl (lv_room (Nat.le_of_ble_eq_true rfl)) dX12_thingCode_30 ⟨Nat.le_of_ble_eq_true rfl, Nat.le_of_ble_eq_true rfl⟩) hS (fun q _ h => h) (fun q h => h) (fun r124 u9 t9 H1 locs ht9 hvm9 hw hB hz1 hk1 hS => ?_)
    have hH := zMv ht9 hvm9 hB
    generalize H1 = H at hH hS ⊢
    rw [(funext (fun k9 => by rw [hf119 31 k9 (by omega), hf108 31 k9 (by omega)]) : f113 31 = fi 31)] at hw
    rcases hw with ⟨t, ht, hcd, hcl, rfl⟩ | ⟨hno, rfl⟩
    · skip
      refine lv_istore (lv' := [(4, .int (nI t)), (3, .int (nI c103)), (2, .int r101), (0, .ref (τ.1 30)), (1, .int ((-1)))]) hx hb dX12_thingCode_33 hl (by decide) rfl (fun ls hl => ?_)
      refine lv_iload hx hb dX12_thingCode_35 (lv_at hl 0 rfl) ?_
      refine lv_iconst (v := (-1)) hx hb dX12_thingCode_37 (by decide) ?_
      refine lv_icmp_eq (tgt := 47) hx hb dX12_thingCode_38 (by decide) (fun c125 => False.elim (by have zc125 := zc_eq (nI_toInt (by omega)) ((by decide : ((-1) : Int32).toInt = (-1))) c125; omega)) (fun c125 => ?_)
      refine lv_iload hx hb dX12_thingCode_41 (lv_at hl 0 rfl) ?_
      refine lv_iload_n hx hb dX12_thingCode_43 rfl (lv_at hl 4 rfl) ?_
      refine lv_icmp_ne (tgt := 53) hx hb dX12_thingCode_44 (by decide) (fun c126 => ?_) (fun c126 => False.elim (by have zc126 := zc_eq (nI_toInt (by omega)) ((by decide : ((-1) : Int32).toInt = (-1))) c126; omega))
      refine lv_aload_n hx hb dX12_thingCode_53 rfl (lv_at hl 3 rfl) ?_
      refine lv_iload hx hb dX12_thingCode_54 (lv_at hl 0 rfl) ?_
      refine zPutI (D := D) (ci := 12) (ty := .int) (C := RX12) (T := TX12) (N := 71) hx hb hts hiX12 tyX12 tyX12_ok nmX12 hown hH hS (zk_30 hF) rfl 25 (by decide) rfl hw2 (fun _ h9 => h9) rfl (by decide +kernel) rfl rfl dX12_thingCode_56 (fun H locs hH hS => ?_)
      obtain ⟨f127, ef127⟩ : ∃ f9 : zFi, f9 = zu f113 30 25 (nI t) := ⟨_, rfl⟩
      rw [← ef127] at hH
      have q128 : f127 30 22 = nI L := by rw [ef127, zu_n (fun h9 => absurd h9.2 (by decide))]; exact q120
      have q129 : f127 30 2 = nI n := by rw [ef127, zu_n (fun h9 => absurd h9.2 (by decide))]; exact q121
      have q130 : f127 30 23 = nI c114 := by rw [ef127, zu_n (fun h9 => absurd h9.2 (by decide))]; exact q117
      have q131 : f127 30 24 = w24 := by rw [ef127, zu_n (fun h9 => absurd h9.2 (by decide))]; exact q122
      have q132 : f127 30 25 = nI t := by rw [ef127]; exact zu_s
      have hMt := zMt.ci (fi' := f127) hMt (fun i9 k9 h9 => by rw [ef127]; exact zu_n (by omega))
      refine lv_iconst (v := nI 1) hx hb dX12_thingCode_59 (by decide) ?_
      refine W.widen (k := 0) (n := 0) (by decide) (by decide) ?_
      exact W.zret (v := nI 1) hx hb hr (by decide) (fun t9 ht9 hW9 => ⟨⟨nI 1, f127, rfl, ⟨trivial, ⟨c114, by omega, by omega, q130, Or.inl ⟨t, x25, by omega, zThg_3 hnm ht hcd hcl (by simp), hzx, rfl, q132, q131.trans hw24.symm⟩⟩, fun a b h => by rw [ef127, zu_n (by omega), hf119 a b (by omega), hf108 a b (by omega)]⟩, zEnd1 hH ht9 hW9⟩, hS.F ht9⟩) hS.2.2 dX12_thingCode_60
    · skip
      refine lv_istore (lv' := [(4, .int ((-1))), (3, .int (nI c103)), (2, .int r101), (0, .ref (τ.1 30)), (1, .int ((-1)))]) hx hb dX12_thingCode_33 hl (by decide) rfl (fun ls hl => ?_)
      refine lv_iload hx hb dX12_thingCode_35 (lv_at hl 0 rfl) ?_
      refine lv_iconst (v := (-1)) hx hb dX12_thingCode_37 (by decide) ?_
      refine lv_icmp_eq (tgt := 47) hx hb dX12_thingCode_38 (by decide) (fun c133 => ?_) (fun c133 => absurd (by decide) c133)
      refine lv_aload_n hx hb dX12_thingCode_47 rfl (lv_at hl 3 rfl) ?_
      refine lv_iload_n hx hb dX12_thingCode_48 rfl (lv_at hl 1 rfl) ?_
      refine va_calli (va_runV (As := [.int (nI c103)]) (rest := []) ⟨hx, hb, hml, hown, hts⟩ (m_wrongX l hl0 D A sad τ f113 fr ol (nI c103) hF) (cwV 1 hts gX12_thingCode_X12_wrong rfl rfl rfl (by decide +kernel) ⟨Nat.le_of_ble_eq_true rfl, Nat.le_of_ble_eq_true rfl⟩) ⟨zQc_bl, zRecv hH (zk_30 hF) rfl, zQc_at hz hS hA hH⟩ rfl rfl hl.1 rfl (lv_room (Nat.le_of_ble_eq_true rfl)) dX12_thingCode_49 ⟨Nat.le_of_ble_eq_true rfl, Nat.le_of_ble_eq_true rfl⟩) hS (fun q _ h => h) (fun q h => h) (fun r134 u9 t9 H1 locs ht9 hvm9 hw hB hz1 hk1 hS => ?_)
      have hH := zMv ht9 hvm9 hB
      clear hB
      generalize u9 = f135 at hw hH
      generalize H1 = H at hH hS ⊢
      obtain ⟨rfl, ef135⟩ := hw
      have q136 : f135 30 22 = nI L := by rw [ef135, zu_n (fun h9 => absurd h9.2 (by decide))]; exact q120
      have q137 : f135 30 2 = nI n := by rw [ef135, zu_n (fun h9 => absurd h9.2 (by decide))]; exact q121
      have q138 : f135 30 23 = nI c114 := by rw [ef135, zu_n (fun h9 => absurd h9.2 (by decide))]; exact q117
      have q139 : f135 30 25 = v25 := by rw [ef135, zu_n (fun h9 => absurd h9.2 (by decide))]; exact h25
      have q140 : f135 30 24 = nI c103 := by rw [ef135]; exact zu_s
      have hMt := zMt.ci (fi' := f135) hMt (fun i9 k9 h9 => by rw [ef135]; exact zu_n (by omega))
      refine W.widen (k := 0) (n := 0) (by decide) (by decide) ?_
      exact W.zret (v := 0) hx hb hr (by decide) (fun t9 ht9 hW9 => ⟨⟨0, f135, rfl, ⟨trivial, ⟨c114, by omega, by omega, q138, Or.inr ⟨zThg_1 hnm hno, rfl, by rw [ef135, zu_s, hcz]⟩⟩, fun a b h => by rw [ef135, zu_n (by omega), hf119 a b (by omega), hf108 a b (by omega)]⟩, zEnd1 hH ht9 hW9⟩, hS.F ht9⟩) hS.2.2 dX12_thingCode_52
  · skip
    refine lv_if_ne (tgt := 25) hx hb dX12_thingCode_20 (by decide) (fun c141 => absurd (by decide) c141) (fun c141 => ?_)
    refine lv_iconst (v := nI 0) hx hb dX12_thingCode_23 (by decide) ?_
    refine W.widen (k := 0) (n := 0) (by decide) (by decide) ?_
    exact W.zret (v := nI 0) hx hb hr (by decide) (fun t9 ht9 hW9 => ⟨⟨nI 0, f113, rfl, ⟨trivial, ⟨c114, by omega, by omega, q117, Or.inr ⟨zThg_0 hnm, rfl, h24⟩⟩, fun a b h => by rw [hf119 a b (by omega), hf108 a b (by omega)]⟩, zEnd1 hH ht9 hW9⟩, hS.F ht9⟩) hS.2.2 dX12_thingCode_24
set_option maxHeartbeats 4000000 in
set_option maxRecDepth 100000 in
/-- thingCode -/
theorem m_thingCodeXR (l : Launch) (hl0 : l.stackTraces = false) (D : va_G) (A : Nat → Prop) (sad : Nat → Nat) (τ : zTy) (fi : zFi) (fr : zFr) (ol : Int64) (L a : Nat) (hF : zFix τ fr) (he : fi 30 22 = nI L) (ha : fi 30 23 = nI a) (hL4 : L ≤ 400) (haL : a ≤ L) (n : Nat) (hMt : zMt fi n) (t0 : Nat) (ht0 : t0 < n) : Met l yX12_thingCode wsX12_thingCode ({ frames := 2, cells := 0, slots := 0, locals := 48 }) (va_Pc [.ref (τ.1 30), .int (nI t0)] (zQc D A sad τ fi fr ol)) (va_Qi (fun (r : Int32) (u : zFi) => True ∧ (∃ c, a ≤ c ∧ c ≤ L ∧ u 30 23 = nI c ∧ ((∃ t x, t < n ∧ zThg (fi 47) L (fi 31) n (some t0) (zS (fi 47) L a) = some (t, x) ∧ zS (fi 47) L c = x ∧ r = 1 ∧ u 30 25 = nI t ∧ u 30 24 = fi 30 24) ∨ (zThg (fi 47) L (fi 31) n (some t0) (zS (fi 47) L a) = none ∧ r = 0 ∧ u 30 24 = nI (zS (fi 47) L a)))) ∧ ∀ a b, ¬ (a = 30 ∧ 23 ≤ b ∧ b ≤ 25) → u a b = fi a b) (fun (u : zFi) (t : State) => zH D A τ u fr ol t t.heap) A) 0 0 A := by
  refine Met.ofW (cc := cX12_thingCode) (maxL := 5) (ret := (some .boolean)) (by decide) rfl ?_
  intro p9 e9 s m args below meth c9 s₁ B hml hv
  obtain ⟨rfl, hz, hH, hA⟩ := hv
  have hx := B.exec
  have hb := B.bytes
  have hr := B.returns
  have hts := atoms_spec (ws := wsX12_thingCode) B.pre
  have hown : s.vm.findClass RX12 = some m.cls := findClass_of_methodNamed B.named
  have hlocks := B.notSynchronized
  have hS : va_S A s.heap s.heap [] := va_S.rf
  have hl := lv_entry ([.ref (τ.1 30), .int (nI t0)]) (n := 5) (Nat.le_of_ble_eq_true rfl)
  rw [lg_entry_eq]
  generalize (lg_sl ([.ref (τ.1 30), .int (nI t0)]) ++ List.replicate (5 - (lg_sl ([.ref (τ.1 30), .int (nI t0)])).length) Slot.unset).toArray = ls at hl ⊢
  have hl : lv_has ls 5 [(0, .ref (τ.1 30)), (1, .int (nI t0))] := hl
  have hm30 := hMt.1
  obtain ⟨w24, hw24⟩ : ∃ w, fi 30 24 = w := ⟨_, rfl⟩
  have hiX12 : ∀ w ∈ u_ws RX12 TX12 71, w ∈ wsX12_thingCode := fun _ h => List.mem_cons_of_mem _ (List.mem_append_right _ h)
  have hw1 := hts (.fieldLink RX12 206 "PostHouseModel" "at" "I") (by decide +kernel)
  have hw2 := hts (.fieldLink RX12 229 "PostHouseModel" "number" "I") (by decide +kernel)
  refine lv_aload_n hx hb dX12_thingCode_0 rfl (lv_at hl 0 rfl) ?_
  refine va_calli (va_runV (As := []) (rest := []) ⟨hx, hb, hml, hown, hts⟩ (m_signX l hl0 D A sad τ fi fr ol L a hF he ha (by omega) (by omega)) (cwV 0 hts gX12_thingCode_X12_sign rfl rfl rfl (by decide +kernel) ⟨Nat.le_of_ble_eq_true rfl, Nat.le_of_ble_eq_true rfl⟩) ⟨zQc_bl, zRecv hH (zk_30 hF) rfl, zQc_at hz hS hA hH⟩ rfl rfl hl.1 rfl (lv_room (Nat.le_of_ble_eq_true rfl)) dX12_thingCode_1 ⟨Nat.le_of_ble_eq_true rfl, Nat.le_of_ble_eq_true rfl⟩) hS (fun q _ h => h) (fun q h => h) (fun r101 u9 t9 H1 locs ht9 hvm9 hw hB hz1 hk1 hS => ?_)
  have hH := zMv ht9 hvm9 hB
  clear hB
  generalize u9 = f102 at hw hH
  generalize H1 = H at hH hS ⊢
  obtain ⟨-, ⟨c103, hc104, hc105, q106, hx107⟩, hf108⟩ := hw
  have q109 : f102 30 22 = nI L := by rw [hf108 30 22 (by omega)]; exact he
  have q110 : f102 30 2 = nI n := by rw [hf108 30 2 (by omega)]; exact hMt.2.1
  have q111 : f102 30 24 = w24 := by rw [hf108 30 24 (by omega)]; exact hw24
  have hMt := zMt.ci (fi' := f102) hMt (fun i9 k9 h9 => hf108 i9 k9 (by omega))
  obtain ⟨hcz, -⟩ := hx107
  refine lv_istore_n (lv' := [(2, .int r101), (0, .ref (τ.1 30)), (1, .int (nI t0))]) hx hb dX12_thingCode_4 rfl hl (by decide) rfl (fun ls hl => ?_)
  refine lv_aload_n hx hb dX12_thingCode_5 rfl (lv_at hl 1 rfl) ?_
  refine zGetI (D := D) (ci := 12) (C := RX12) (T := TX12) (N := 71) hx hb hts hiX12 hown hH (zk_30 hF) rfl 23 (by decide) rfl hw1 (fun _ h9 => h9) dX12_thingCode_6 q106 ?_
  refine lv_istore_n (lv' := [(3, .int (nI c103)), (2, .int r101), (0, .ref (τ.1 30)), (1, .int (nI t0))]) hx hb dX12_thingCode_9 rfl hl (by decide) rfl (fun ls hl => ?_)
  refine lv_aload_n hx hb dX12_thingCode_10 rfl (lv_at hl 2 rfl) ?_
  refine lv_iconst (v := nI 4) hx hb dX12_thingCode_11 (by decide) ?_
  refine lv_iconst (v := nI 4) hx hb dX12_thingCode_12 (by decide) ?_
  refine lv_iconst (v := nI 0) hx hb dX12_thingCode_13 (by decide) ?_
  refine lv_sipush (v := nI 9999) hx hb dX12_thingCode_14 (by decide) ?_
  refine va_calli (va_runV (As := [.int (nI 4), .int (nI 4), .int (nI 0), .int (nI 9999)]) (rest := []) ⟨hx, hb, hml, hown, hts⟩ (m_digitsX l hl0 D A sad τ f102 fr ol L c103 hF q109 q106 (by omega) (by omega) 4 4 (by omega) (by omega) (nI 0) (nI 9999)) (cwV 4 hts gX12_thingCode_X12_digits rfl rfl rfl (by decide +kernel) ⟨Nat.le_of_ble_eq_true rfl, Nat.le_of_ble_eq_true rfl⟩) ⟨zQc_bl, zRecv hH (zk_30 hF) rfl, zQc_at hz hS hA hH⟩ rfl rfl hl.1 rfl (lv_room (Nat.le_of_ble_eq_true rfl)) dX12_thingCode_17 ⟨Nat.le_of_ble_eq_true rfl, Nat.le_of_ble_eq_true rfl⟩) hS (fun q _ h => h) (fun q h => h) (fun r112 u9 t9 H1 locs ht9 hvm9 hw hB hz1 hk1 hS => ?_)
  have hH := zMv ht9 hvm9 hB
  clear hB
  generalize u9 = f113 at hw hH
  generalize H1 = H at hH hS ⊢
  obtain ⟨-, ⟨c114, hc115, hc116, q117, hx118⟩, hf119⟩ := hw
  rw [(funext (fun k9 => by rw [hf108 47 k9 (by omega)]) : f102 47 = fi 47)] at hx118
  have q120 : f113 30 22 = nI L := by rw [hf119 30 22 (by omega)]; exact q109
  have q121 : f113 30 2 = nI n := by rw [hf119 30 2 (by omega)]; exact q110
  have hMt := zMt.ci (fi' := f113) hMt (fun i9 k9 h9 => hf119 i9 k9 (by omega))
  rw [show zS (fi 47) L c103 = zS (fi 47) L a from by rw [hcz]; exact zS_idem haL] at hx118
  rcases hx118 with ⟨v25, x25, hnm, hzx, rfl, h25, h24⟩ | ⟨hnm, rfl, h24⟩
  · skip
    have q122 : f113 30 24 = w24 := h24.trans q111
    refine lv_if_ne (tgt := 25) hx hb dX12_thingCode_20 (by decide) (fun c123 => ?_) (fun c123 => absurd c123 (by decide))
    refine lv_aload_n hx hb dX12_thingCode_25 rfl (lv_at hl 2 rfl) ?_
    refine lv_aload_n hx hb dX12_thingCode_26 rfl (lv_at hl 2 rfl) ?_
    refine zGetI (D := D) (ci := 12) (C := RX12) (T := TX12) (N := 71) hx hb hts hiX12 hown hH (zk_30 hF) rfl 25 (by decide) rfl hw2 (fun _ h9 => h9) dX12_thingCode_27 h25 ?_
    refine va_calli (va_runV (As := [.int v25]) (rest := []) ⟨hx, hb, hml, hown, hts⟩ (m_thingOf l hl0 D A sad τ f113 fr ol v25 hF n q121 (by omega)) (cwV 1 hts gX12_thingCode_X12_thingOf rfl rfl rfl (by decide +kernel) ⟨Nat.le_of_ble_eq_true rfl, Nat.le_of_ble_eq_true rfl⟩) ⟨zQc_bl, zRecv hH (zk_30 hF) rfl, zQc_at hz hS hA hH⟩ rfl rfl hl.1 rfl (lv_room (Nat.le_of_ble_eq_true rfl)) dX12_thingCode_30 ⟨Nat.le_of_ble_eq_true rfl, Nat.le_of_ble_eq_true rfl⟩) hS (fun q _ h => h) (fun q h => h) (fun r124 u9 t9 H1 locs ht9 hvm9 hw hB hz1 hk1 hS => ?_)
    have hH := zMv ht9 hvm9 hB
    generalize H1 = H at hH hS ⊢
    rw [(funext (fun k9 => by rw [hf119 31 k9 (by omega), hf108 31 k9 (by omega)]) : f113 31 = fi 31)] at hw
    rcases hw with ⟨t, ht, hcd, hcl, rfl⟩ | ⟨hno, rfl⟩
    · skip
      refine lv_istore (lv' := [(4, .int (nI t)), (3, .int (nI c103)), (2, .int r101), (0, .ref (τ.1 30)), (1, .int (nI t0))]) hx hb dX12_thingCode_33 hl (by decide) rfl (fun ls hl => ?_)
      refine lv_iload hx hb dX12_thingCode_35 (lv_at hl 0 rfl) ?_
      refine lv_iconst (v := (-1)) hx hb dX12_thingCode_37 (by decide) ?_
      refine lv_icmp_eq (tgt := 47) hx hb dX12_thingCode_38 (by decide) (fun c125 => False.elim (by have zc125 := zc_eq (nI_toInt (by omega)) ((by decide : ((-1) : Int32).toInt = (-1))) c125; omega)) (fun c125 => ?_)
      refine lv_iload hx hb dX12_thingCode_41 (lv_at hl 0 rfl) ?_
      refine lv_iload_n hx hb dX12_thingCode_43 rfl (lv_at hl 4 rfl) ?_
      refine lv_icmp_ne (tgt := 53) hx hb dX12_thingCode_44 (by decide) (fun c126 => ?_) (fun c126 => ?_)
      · have zc126 := c126
        replace zc126 := zc_neq (nI_toInt (by omega)) (nI_toInt (by omega)) zc126
        refine lv_aload_n hx hb dX12_thingCode_53 rfl (lv_at hl 3 rfl) ?_
        refine lv_iload hx hb dX12_thingCode_54 (lv_at hl 0 rfl) ?_
        refine zPutI (D := D) (ci := 12) (ty := .int) (C := RX12) (T := TX12) (N := 71) hx hb hts hiX12 tyX12 tyX12_ok nmX12 hown hH hS (zk_30 hF) rfl 25 (by decide) rfl hw2 (fun _ h9 => h9) rfl (by decide +kernel) rfl rfl dX12_thingCode_56 (fun H locs hH hS => ?_)
        obtain ⟨f127, ef127⟩ : ∃ f9 : zFi, f9 = zu f113 30 25 (nI t) := ⟨_, rfl⟩
        rw [← ef127] at hH
        have q128 : f127 30 22 = nI L := by rw [ef127, zu_n (fun h9 => absurd h9.2 (by decide))]; exact q120
        have q129 : f127 30 2 = nI n := by rw [ef127, zu_n (fun h9 => absurd h9.2 (by decide))]; exact q121
        have q130 : f127 30 23 = nI c114 := by rw [ef127, zu_n (fun h9 => absurd h9.2 (by decide))]; exact q117
        have q131 : f127 30 24 = w24 := by rw [ef127, zu_n (fun h9 => absurd h9.2 (by decide))]; exact q122
        have q132 : f127 30 25 = nI t := by rw [ef127]; exact zu_s
        have hMt := zMt.ci (fi' := f127) hMt (fun i9 k9 h9 => by rw [ef127]; exact zu_n (by omega))
        refine lv_iconst (v := nI 1) hx hb dX12_thingCode_59 (by decide) ?_
        refine W.widen (k := 0) (n := 0) (by decide) (by decide) ?_
        exact W.zret (v := nI 1) hx hb hr (by decide) (fun t9 ht9 hW9 => ⟨⟨nI 1, f127, rfl, ⟨trivial, ⟨c114, by omega, by omega, q130, Or.inl ⟨t, x25, by omega, zThg_3 hnm ht hcd hcl (fun h8 => by have h9 := Option.some.inj h8; omega), hzx, rfl, q132, q131.trans hw24.symm⟩⟩, fun a b h => by rw [ef127, zu_n (by omega), hf119 a b (by omega), hf108 a b (by omega)]⟩, zEnd1 hH ht9 hW9⟩, hS.F ht9⟩) hS.2.2 dX12_thingCode_60
      · have zc126 := c126
        replace zc126 := zc_eq (nI_toInt (by omega)) (nI_toInt (by omega)) zc126
        refine lv_aload_n hx hb dX12_thingCode_47 rfl (lv_at hl 3 rfl) ?_
        refine lv_iload_n hx hb dX12_thingCode_48 rfl (lv_at hl 1 rfl) ?_
        refine va_calli (va_runV (As := [.int (nI c103)]) (rest := []) ⟨hx, hb, hml, hown, hts⟩ (m_wrongX l hl0 D A sad τ f113 fr ol (nI c103) hF) (cwV 1 hts gX12_thingCode_X12_wrong rfl rfl rfl (by decide +kernel) ⟨Nat.le_of_ble_eq_true rfl, Nat.le_of_ble_eq_true rfl⟩) ⟨zQc_bl, zRecv hH (zk_30 hF) rfl, zQc_at hz hS hA hH⟩ rfl rfl hl.1 rfl (lv_room (Nat.le_of_ble_eq_true rfl)) dX12_thingCode_49 ⟨Nat.le_of_ble_eq_true rfl, Nat.le_of_ble_eq_true rfl⟩) hS (fun q _ h => h) (fun q h => h) (fun r133 u9 t9 H1 locs ht9 hvm9 hw hB hz1 hk1 hS => ?_)
        have hH := zMv ht9 hvm9 hB
        clear hB
        generalize u9 = f134 at hw hH
        generalize H1 = H at hH hS ⊢
        obtain ⟨rfl, ef134⟩ := hw
        have q135 : f134 30 22 = nI L := by rw [ef134, zu_n (fun h9 => absurd h9.2 (by decide))]; exact q120
        have q136 : f134 30 2 = nI n := by rw [ef134, zu_n (fun h9 => absurd h9.2 (by decide))]; exact q121
        have q137 : f134 30 23 = nI c114 := by rw [ef134, zu_n (fun h9 => absurd h9.2 (by decide))]; exact q117
        have q138 : f134 30 25 = v25 := by rw [ef134, zu_n (fun h9 => absurd h9.2 (by decide))]; exact h25
        have q139 : f134 30 24 = nI c103 := by rw [ef134]; exact zu_s
        have hMt := zMt.ci (fi' := f134) hMt (fun i9 k9 h9 => by rw [ef134]; exact zu_n (by omega))
        refine W.widen (k := 0) (n := 0) (by decide) (by decide) ?_
        exact W.zret (v := 0) hx hb hr (by decide) (fun t9 ht9 hW9 => ⟨⟨0, f134, rfl, ⟨trivial, ⟨c114, by omega, by omega, q137, Or.inr ⟨zThg_2 hnm ht hcd hcl (by rw [show t = t0 by omega]), rfl, by rw [ef134, zu_s, hcz]⟩⟩, fun a b h => by rw [ef134, zu_n (by omega), hf119 a b (by omega), hf108 a b (by omega)]⟩, zEnd1 hH ht9 hW9⟩, hS.F ht9⟩) hS.2.2 dX12_thingCode_52
    · skip
      refine lv_istore (lv' := [(4, .int ((-1))), (3, .int (nI c103)), (2, .int r101), (0, .ref (τ.1 30)), (1, .int (nI t0))]) hx hb dX12_thingCode_33 hl (by decide) rfl (fun ls hl => ?_)
      refine lv_iload hx hb dX12_thingCode_35 (lv_at hl 0 rfl) ?_
      refine lv_iconst (v := (-1)) hx hb dX12_thingCode_37 (by decide) ?_
      refine lv_icmp_eq (tgt := 47) hx hb dX12_thingCode_38 (by decide) (fun c140 => ?_) (fun c140 => absurd (by decide) c140)
      refine lv_aload_n hx hb dX12_thingCode_47 rfl (lv_at hl 3 rfl) ?_
      refine lv_iload_n hx hb dX12_thingCode_48 rfl (lv_at hl 1 rfl) ?_
      refine va_calli (va_runV (As := [.int (nI c103)]) (rest := []) ⟨hx, hb, hml, hown, hts⟩ (m_wrongX l hl0 D A sad τ f113 fr ol (nI c103) hF) (cwV 1 hts gX12_thingCode_X12_wrong rfl rfl rfl (by decide +kernel) ⟨Nat.le_of_ble_eq_true rfl, Nat.le_of_ble_eq_true rfl⟩) ⟨zQc_bl, zRecv hH (zk_30 hF) rfl, zQc_at hz hS hA hH⟩ rfl rfl hl.1 rfl (lv_room (Nat.le_of_ble_eq_true rfl)) dX12_thingCode_49 ⟨Nat.le_of_ble_eq_true rfl, Nat.le_of_ble_eq_true rfl⟩) hS (fun q _ h => h) (fun q h => h) (fun r141 u9 t9 H1 locs ht9 hvm9 hw hB hz1 hk1 hS => ?_)
      have hH := zMv ht9 hvm9 hB
      clear hB
      generalize u9 = f142 at hw hH
      generalize H1 = H at hH hS ⊢
      obtain ⟨rfl, ef142⟩ := hw
      have q143 : f142 30 22 = nI L := by rw [ef142, zu_n (fun h9 => absurd h9.2 (by decide))]; exact q120
      have q144 : f142 30 2 = nI n := by rw [ef142, zu_n (fun h9 => absurd h9.2 (by decide))]; exact q121
      have q145 : f142 30 23 = nI c114 := by rw [ef142, zu_n (fun h9 => absurd h9.2 (by decide))]; exact q117
      have q146 : f142 30 25 = v25 := by rw [ef142, zu_n (fun h9 => absurd h9.2 (by decide))]; exact h25
      have q147 : f142 30 24 = nI c103 := by rw [ef142]; exact zu_s
      have hMt := zMt.ci (fi' := f142) hMt (fun i9 k9 h9 => by rw [ef142]; exact zu_n (by omega))
      refine W.widen (k := 0) (n := 0) (by decide) (by decide) ?_
      exact W.zret (v := 0) hx hb hr (by decide) (fun t9 ht9 hW9 => ⟨⟨0, f142, rfl, ⟨trivial, ⟨c114, by omega, by omega, q145, Or.inr ⟨zThg_1 hnm hno, rfl, by rw [ef142, zu_s, hcz]⟩⟩, fun a b h => by rw [ef142, zu_n (by omega), hf119 a b (by omega), hf108 a b (by omega)]⟩, zEnd1 hH ht9 hW9⟩, hS.F ht9⟩) hS.2.2 dX12_thingCode_52
  · skip
    refine lv_if_ne (tgt := 25) hx hb dX12_thingCode_20 (by decide) (fun c148 => absurd (by decide) c148) (fun c148 => ?_)
    refine lv_iconst (v := nI 0) hx hb dX12_thingCode_23 (by decide) ?_
    refine W.widen (k := 0) (n := 0) (by decide) (by decide) ?_
    exact W.zret (v := nI 0) hx hb hr (by decide) (fun t9 ht9 hW9 => ⟨⟨nI 0, f113, rfl, ⟨trivial, ⟨c114, by omega, by omega, q117, Or.inr ⟨zThg_0 hnm, rfl, h24⟩⟩, fun a b h => by rw [hf119 a b (by omega), hf108 a b (by omega)]⟩, zEnd1 hH ht9 hW9⟩, hS.F ht9⟩) hS.2.2 dX12_thingCode_24
set_option maxHeartbeats 4000000 in
set_option maxRecDepth 100000 in
/-- readRule -/
theorem m_readRuleX (l : Launch) (hl0 : l.stackTraces = false) (D : va_G) (A : Nat → Prop) (sad : Nat → Nat) (τ : zTy) (fi : zFi) (fr : zFr) (ol : Int64) (L a : Nat) (hF : zFix τ fr) (he : fi 30 22 = nI L) (ha : fi 30 23 = nI a) (hL4 : L ≤ 400) (haL : a ≤ L) (n : Nat) (hMt : zMt fi n) (hMd : zMd fi n) : Met l yX12_readRule wsX12_readRule ({ frames := 3, cells := 0, slots := 0, locals := 72 }) (va_Pc [.ref (τ.1 30)] (zQc D A sad τ fi fr ol)) (va_Qi (fun (r : Int32) (u : zFi) => True ∧ (∃ c, a ≤ c ∧ c ≤ L ∧ u 30 23 = nI c ∧ ((∃ xx, zRul (fi 47) L (fi 31) n (zS (fi 47) L a) = .ok xx ∧ zS (fi 47) L c = xx.1 ∧ r = 1 ∧ u 30 24 = fi 30 24 ∧ zDmo u = zup (zDmo fi) xx.2.1 xx.2.2) ∨ (∃ p, p ≤ 400 ∧ zRul (fi 47) L (fi 31) n (zS (fi 47) L a) = .error p ∧ r = 0 ∧ u 30 24 = nI p))) ∧ zMd u n ∧ ∀ a b, ¬ (a = 45 ∨ a = 46 ∨ (a = 30 ∧ 23 ≤ b ∧ b ≤ 25)) → u a b = fi a b) (fun (u : zFi) (t : State) => zH D A τ u fr ol t t.heap) A) 0 0 A := by
  refine Met.ofW (cc := cX12_readRule) (maxL := 2) (ret := (some .boolean)) (by decide) rfl ?_
  intro p9 e9 s m args below meth c9 s₁ B hml hv
  obtain ⟨rfl, hz, hH, hA⟩ := hv
  have hx := B.exec
  have hb := B.bytes
  have hr := B.returns
  have hts := atoms_spec (ws := wsX12_readRule) B.pre
  have hown : s.vm.findClass RX12 = some m.cls := findClass_of_methodNamed B.named
  have hlocks := B.notSynchronized
  have hS : va_S A s.heap s.heap [] := va_S.rf
  have hl := lv_entry ([.ref (τ.1 30)]) (n := 2) (Nat.le_of_ble_eq_true rfl)
  rw [lg_entry_eq]
  generalize (lg_sl ([.ref (τ.1 30)]) ++ List.replicate (2 - (lg_sl ([.ref (τ.1 30)])).length) Slot.unset).toArray = ls at hl ⊢
  have hl : lv_has ls 2 [(0, .ref (τ.1 30))] := hl
  have hm30 := hMt.1
  obtain ⟨w24, hw24⟩ : ∃ w, fi 30 24 = w := ⟨_, rfl⟩
  have hw0 := hts (.constantLong RX12 236 482854658917) (by decide +kernel)
  have hw1 := hts (.fieldLink RX12 206 "PostHouseModel" "at" "I") (by decide +kernel)
  have hiX12 : ∀ w ∈ u_ws RX12 TX12 71, w ∈ wsX12_readRule := fun _ h => List.mem_cons_of_mem _ (List.mem_append_right _ h)
  have hw3 := hts (.fieldLink RX12 229 "PostHouseModel" "number" "I") (by decide +kernel)
  have hw4 := hts (.constantLong RX12 241 25209) (by decide +kernel)
  have hw5 := hts (.fieldLink RX12 55 "PostHouseModel" "draftOther" "[I") (by decide +kernel)
  have hw6 := hts (.constantLong RX12 246 108187682958948) (by decide +kernel)
  have hw7 := hts (.fieldLink RX12 52 "PostHouseModel" "draft" "[I") (by decide +kernel)
  have hw8 := hts (.constantLong RX12 248 1886352244) (by decide +kernel)
  have hw9 := hts (.constantLong RX12 250 1718773093) (by decide +kernel)
  have hw10 := hts (.constant RX12 254 999999) (by decide +kernel)
  have hw11 := hts (.constantLong RX12 252 1650549611) (by decide +kernel)
  refine lv_aload_n hx hb dX12_readRule_0 rfl (lv_at hl 0 rfl) ?_
  refine lv_ldc2 (v := 482854658917) hx hb hown hw0 dX12_readRule_1 ?_
  refine va_calli (va_runV (As := [.long 482854658917]) (rest := []) ⟨hx, hb, hml, hown, hts⟩ (m_isWordX l hl0 D A sad τ fi fr ol L a hF he ha (by omega) (by omega) 482854658917) (cwV 1 hts gX12_readRule_X12_isWord rfl rfl rfl (by decide +kernel) ⟨Nat.le_of_ble_eq_true rfl, Nat.le_of_ble_eq_true rfl⟩) ⟨zQc_bl, zRecv hH (zk_30 hF) rfl, zQc_at hz hS hA hH⟩ rfl rfl hl.1 rfl (lv_room (Nat.le_of_ble_eq_true rfl)) dX12_readRule_4 ⟨Nat.le_of_ble_eq_true rfl, Nat.le_of_ble_eq_true rfl⟩) hS (fun q _ h => h) (fun q h => h) (fun r104 u9 t9 H1 locs ht9 hvm9 hw hB hz1 hk1 hS => ?_)
  have hH := zMv ht9 hvm9 hB
  clear hB
  generalize u9 = f105 at hw hH
  generalize H1 = H at hH hS ⊢
  obtain ⟨-, ⟨c106, hc107, hc108, q109, hx110⟩, hf111⟩ := hw
  have q112 : f105 30 22 = nI L := by rw [hf111 30 22 (by omega)]; exact he
  have q113 : f105 30 2 = nI n := by rw [hf111 30 2 (by omega)]; exact hMt.2.1
  have q114 : f105 30 24 = w24 := by rw [hf111 30 24 (by omega)]; exact hw24
  have hMt := zMt.ci (fi' := f105) hMt (fun i9 k9 h9 => hf111 i9 k9 (by omega))
  have hMd := zMd.ci (fi' := f105) hMd (fun i9 k9 h9 => hf111 i9 k9 (by omega))
  obtain ⟨hcz102, hok101⟩ := hx110
  have hk103 : c106 = zS (fi 47) L a := hcz102
  rcases hok101 with ⟨rfl, hok101⟩ | ⟨rfl, hok101⟩
  · skip
    refine lv_if_eq (tgt := 65) hx hb dX12_readRule_7 (by decide) (fun c115 => absurd c115 (by decide)) (fun c115 => ?_)
    refine lv_aload_n hx hb dX12_readRule_10 rfl (lv_at hl 0 rfl) ?_
    refine lv_aload_n hx hb dX12_readRule_11 rfl (lv_at hl 0 rfl) ?_
    refine va_calli (va_runV (As := []) (rest := [.ref (τ.1 30)]) ⟨hx, hb, hml, hown, hts⟩ (m_wordEndX l hl0 D A sad τ f105 fr ol L c106 hF q112 q109 (by omega) (by omega)) (cwV 0 hts gX12_readRule_X12_wordEnd rfl rfl rfl (by decide +kernel) ⟨Nat.le_of_ble_eq_true rfl, Nat.le_of_ble_eq_true rfl⟩) ⟨zQc_bl, zRecv hH (zk_30 hF) rfl, zQc_at hz hS hA hH⟩ rfl rfl hl.1 rfl (lv_room (Nat.le_of_ble_eq_true rfl)) dX12_readRule_12 ⟨Nat.le_of_ble_eq_true rfl, Nat.le_of_ble_eq_true rfl⟩) hS (fun q _ h => h) (fun q h => h) (fun r116 u9 t9 H1 locs ht9 hvm9 hw hB hz1 hk1 hS => ?_)
    have hH := zMv ht9 hvm9 hB
    generalize H1 = H at hH hS ⊢
    obtain ⟨c117, h1c117, h2c117, rfl, hwe⟩ := hw
    rw [(funext (fun k9 => by rw [hf111 47 k9 (by omega)]) : f105 47 = fi 47)] at hwe
    have hWplace : zWrd (fi 47) L [112, 108, 97, 99, 101] (zS (fi 47) L a) = some (zS (fi 47) L c117) := hok101.yesE zWs_place hwe (by omega) hk103
    refine zPutI (D := D) (ci := 12) (ty := .int) (C := RX12) (T := TX12) (N := 71) hx hb hts hiX12 tyX12 tyX12_ok nmX12 hown hH hS (zk_30 hF) rfl 23 (by decide) rfl hw1 (fun _ h9 => h9) rfl (by decide +kernel) rfl rfl dX12_readRule_15 (fun H locs hH hS => ?_)
    obtain ⟨f118, ef118⟩ : ∃ f9 : zFi, f9 = zu f105 30 23 (nI c117) := ⟨_, rfl⟩
    rw [← ef118] at hH
    have q119 : f118 30 22 = nI L := by rw [ef118, zu_n (fun h9 => absurd h9.2 (by decide))]; exact q112
    have q120 : f118 30 2 = nI n := by rw [ef118, zu_n (fun h9 => absurd h9.2 (by decide))]; exact q113
    have q121 : f118 30 24 = w24 := by rw [ef118, zu_n (fun h9 => absurd h9.2 (by decide))]; exact q114
    have q122 : f118 30 23 = nI c117 := by rw [ef118]; exact zu_s
    have hMt := zMt.ci (fi' := f118) hMt (fun i9 k9 h9 => by rw [ef118]; exact zu_n (by omega))
    have hMd := zMd.ci (fi' := f118) hMd (fun i9 k9 h9 => by rw [ef118]; exact zu_n (by omega))
    refine lv_aload_n hx hb dX12_readRule_18 rfl (lv_at hl 0 rfl) ?_
    refine lv_iconst (v := (-1)) hx hb dX12_readRule_19 (by decide) ?_
    refine va_calli (va_runV (As := [.int ((-1))]) (rest := []) ⟨hx, hb, hml, hown, hts⟩ (m_thingCodeXN l hl0 D A sad τ f118 fr ol L c117 hF q119 q122 (by omega) (by omega) n hMt) (cwV 1 hts gX12_readRule_X12_thingCode rfl rfl rfl (by decide +kernel) ⟨Nat.le_of_ble_eq_true rfl, Nat.le_of_ble_eq_true rfl⟩) ⟨zQc_bl, zRecv hH (zk_30 hF) rfl, zQc_at hz hS hA hH⟩ rfl rfl hl.1 rfl (lv_room (Nat.le_of_ble_eq_true rfl)) dX12_readRule_20 ⟨Nat.le_of_ble_eq_true rfl, Nat.le_of_ble_eq_true rfl⟩) hS (fun q _ h => h) (fun q h => h) (fun r123 u9 t9 H1 locs ht9 hvm9 hw hB hz1 hk1 hS => ?_)
    have hH := zMv ht9 hvm9 hB
    clear hB
    generalize u9 = f124 at hw hH
    generalize H1 = H at hH hS ⊢
    obtain ⟨-, ⟨c125, hc126, hc127, q128, hx129⟩, hf130⟩ := hw
    rw [(funext (fun k9 => by rw [ef118, zu_n (by omega), hf111 47 k9 (by omega)]) : f118 47 = fi 47)] at hx129
    rw [(funext (fun k9 => by rw [ef118, zu_n (by omega), hf111 31 k9 (by omega)]) : f118 31 = fi 31)] at hx129
    have q131 : f124 30 22 = nI L := by rw [hf130 30 22 (by omega)]; exact q119
    have q132 : f124 30 2 = nI n := by rw [hf130 30 2 (by omega)]; exact q120
    have hMt := zMt.ci (fi' := f124) hMt (fun i9 k9 h9 => hf130 i9 k9 (by omega))
    have hMd := zMd.ci (fi' := f124) hMd (fun i9 k9 h9 => hf130 i9 k9 (by omega))
    rcases hx129 with ⟨tc1, _, htc1, hT1, rfl, rfl, h25tc1, h24tc1⟩ | ⟨hT1, rfl, h24tc1⟩
    · skip
      have q133 : f124 30 24 = w24 := h24tc1.trans q121
      refine lv_if_ne (tgt := 28) hx hb dX12_readRule_23 (by decide) (fun c134 => ?_) (fun c134 => absurd c134 (by decide))
      refine lv_aload_n hx hb dX12_readRule_28 rfl (lv_at hl 0 rfl) ?_
      refine zGetI (D := D) (ci := 12) (C := RX12) (T := TX12) (N := 71) hx hb hts hiX12 hown hH (zk_30 hF) rfl 25 (by decide) rfl hw3 (fun _ h9 => h9) dX12_readRule_29 h25tc1 ?_
      refine lv_istore_n (lv' := [(1, .int (nI tc1)), (0, .ref (τ.1 30))]) hx hb dX12_readRule_32 rfl hl (by decide) rfl (fun ls hl => ?_)
      refine lv_aload_n hx hb dX12_readRule_33 rfl (lv_at hl 1 rfl) ?_
      refine lv_ldc2 (v := 25209) hx hb hown hw4 dX12_readRule_34 ?_
      refine va_calli (va_runV (As := [.long 25209]) (rest := []) ⟨hx, hb, hml, hown, hts⟩ (m_passesX l hl0 D A sad τ f124 fr ol L c125 hF q131 q128 (by omega) (by omega) 25209 ([98, 121]) zWs_by) (cwV 1 hts gX12_readRule_X12_passes rfl rfl rfl (by decide +kernel) ⟨Nat.le_of_ble_eq_true rfl, Nat.le_of_ble_eq_true rfl⟩) ⟨zQc_bl, zRecv hH (zk_30 hF) rfl, zQc_at hz hS hA hH⟩ rfl rfl hl.1 rfl (lv_room (Nat.le_of_ble_eq_true rfl)) dX12_readRule_37 ⟨Nat.le_of_ble_eq_true rfl, Nat.le_of_ble_eq_true rfl⟩) hS (fun q _ h => h) (fun q h => h) (fun r135 u9 t9 H1 locs ht9 hvm9 hw hB hz1 hk1 hS => ?_)
      have hH := zMv ht9 hvm9 hB
      clear hB
      generalize u9 = f136 at hw hH
      generalize H1 = H at hH hS ⊢
      obtain ⟨-, ⟨c137, hc138, hc139, q140, hx141⟩, hf142⟩ := hw
      rw [(funext (fun k9 => by rw [hf130 47 k9 (by omega), ef118, zu_n (by omega), hf111 47 k9 (by omega)]) : f124 47 = fi 47)] at hx141
      have q143 : f136 30 22 = nI L := by rw [hf142 30 22 (by omega)]; exact q131
      have q144 : f136 30 2 = nI n := by rw [hf142 30 2 (by omega)]; exact q132
      have q145 : f136 30 25 = nI tc1 := by rw [hf142 30 25 (by omega)]; exact h25tc1
      have hMt := zMt.ci (fi' := f136) hMt (fun i9 k9 h9 => hf142 i9 k9 (by omega))
      have hMd := zMd.ci (fi' := f136) hMd (fun i9 k9 h9 => hf142 i9 k9 (by omega))
      rcases hx141 with ⟨_, hWby, rfl, rfl, h24by⟩ | ⟨hWby, rfl, h24by⟩
      · skip
        have q146 : f136 30 24 = w24 := h24by.trans q133
        refine lv_if_eq (tgt := 51) hx hb dX12_readRule_40 (by decide) (fun c147 => absurd c147 (by decide)) (fun c147 => ?_)
        refine lv_aload_n hx hb dX12_readRule_43 rfl (lv_at hl 1 rfl) ?_
        refine lv_iload_n hx hb dX12_readRule_44 rfl (lv_at hl 0 rfl) ?_
        refine va_calli (va_runV (As := [.int (nI tc1)]) (rest := []) ⟨hx, hb, hml, hown, hts⟩ (m_thingCodeXR l hl0 D A sad τ f136 fr ol L c137 hF q143 q140 (by omega) (by omega) n hMt tc1 htc1) (cwV 1 hts gX12_readRule_X12_thingCode rfl rfl rfl (by decide +kernel) ⟨Nat.le_of_ble_eq_true rfl, Nat.le_of_ble_eq_true rfl⟩) ⟨zQc_bl, zRecv hH (zk_30 hF) rfl, zQc_at hz hS hA hH⟩ rfl rfl hl.1 rfl (lv_room (Nat.le_of_ble_eq_true rfl)) dX12_readRule_45 ⟨Nat.le_of_ble_eq_true rfl, Nat.le_of_ble_eq_true rfl⟩) hS (fun q _ h => h) (fun q h => h) (fun r148 u9 t9 H1 locs ht9 hvm9 hw hB hz1 hk1 hS => ?_)
        have hH := zMv ht9 hvm9 hB
        clear hB
        generalize u9 = f149 at hw hH
        generalize H1 = H at hH hS ⊢
        obtain ⟨-, ⟨c150, hc151, hc152, q153, hx154⟩, hf155⟩ := hw
        rw [(funext (fun k9 => by rw [hf142 47 k9 (by omega), hf130 47 k9 (by omega), ef118, zu_n (by omega), hf111 47 k9 (by omega)]) : f136 47 = fi 47)] at hx154
        rw [(funext (fun k9 => by rw [hf142 31 k9 (by omega), hf130 31 k9 (by omega), ef118, zu_n (by omega), hf111 31 k9 (by omega)]) : f136 31 = fi 31)] at hx154
        have q156 : f149 30 22 = nI L := by rw [hf155 30 22 (by omega)]; exact q143
        have q157 : f149 30 2 = nI n := by rw [hf155 30 2 (by omega)]; exact q144
        have hMt := zMt.ci (fi' := f149) hMt (fun i9 k9 h9 => hf155 i9 k9 (by omega))
        have hMd := zMd.ci (fi' := f149) hMd (fun i9 k9 h9 => hf155 i9 k9 (by omega))
        rcases hx154 with ⟨tc2, _, htc2, hT2, rfl, rfl, h25tc2, h24tc2⟩ | ⟨hT2, rfl, h24tc2⟩
        · skip
          have q158 : f149 30 24 = w24 := h24tc2.trans q146
          refine lv_if_ne (tgt := 53) hx hb dX12_readRule_48 (by decide) (fun c159 => ?_) (fun c159 => absurd c159 (by decide))
          refine lv_aload_n hx hb dX12_readRule_53 rfl (lv_at hl 1 rfl) ?_
          refine zGetR (D := D) (ci := 12) (C := RX12) (T := TX12) (N := 71) hx hb hts hiX12 hown hH (zk_30 hF) rfl 19 (by decide) rfl hw5 (fun _ h9 => h9) dX12_readRule_54 (zr_30_19 hF) ?_
          refine lv_iload_n hx hb dX12_readRule_57 rfl (lv_at hl 0 rfl) ?_
          refine lv_aload_n hx hb dX12_readRule_58 rfl (lv_at hl 1 rfl) ?_
          refine zGetI (D := D) (ci := 12) (C := RX12) (T := TX12) (N := 71) hx hb hts hiX12 hown hH (zk_30 hF) rfl 25 (by decide) rfl hw3 (fun _ h9 => h9) dX12_readRule_59 h25tc2 ?_
          refine zIastN (D := D) hx hb hH hS (zk_46 hF) (zn_46 hF) (by omega) (by omega) dX12_readRule_62 (fun H locs hH hS => ?_)
          obtain ⟨f160, ef160⟩ : ∃ f9 : zFi, f9 = zu f149 46 tc1 (nI tc2) := ⟨_, rfl⟩
          rw [← ef160] at hH
          have q161 : f160 30 22 = nI L := by rw [ef160, zu_n (fun h9 => absurd h9.1 (by decide))]; exact q156
          have q162 : f160 30 2 = nI n := by rw [ef160, zu_n (fun h9 => absurd h9.1 (by decide))]; exact q157
          have q163 : f160 30 23 = nI c150 := by rw [ef160, zu_n (fun h9 => absurd h9.1 (by decide))]; exact q153
          have q164 : f160 30 25 = nI tc2 := by rw [ef160, zu_n (fun h9 => absurd h9.1 (by decide))]; exact h25tc2
          have q165 : f160 30 24 = w24 := by rw [ef160, zu_n (fun h9 => absurd h9.1 (by decide))]; exact q158
          have q166 : f160 46 tc1 = nI tc2 := by rw [ef160]; exact zu_s
          have hMt := zMt.ci (fi' := f160) hMt (fun i9 k9 h9 => by rw [ef160]; exact zu_n (by omega))
          have hMd := hMd.set ef160 (Or.inr ⟨tc2, htc2, rfl⟩)
          refine lv_iconst (v := nI 1) hx hb dX12_readRule_63 (by decide) ?_
          refine W.widen (k := 0) (n := 0) (by decide) (by decide) ?_
          exact W.zret (v := nI 1) hx hb hr (by decide) (fun t9 ht9 hW9 => ⟨⟨nI 1, f160, rfl, ⟨trivial, ⟨c150, by omega, by omega, q163, Or.inl ⟨(zS (fi 47) L c150, 4 + tc1, nI tc2), by simp only [zRul, zPlc, zKnd, hWplace, hT1, hWby, hT2], rfl, rfl, q165.trans hw24.symm, by rw [zDmo_plc (by omega) ef160, zDmo_cg (g := fi) (fun i k q => by rw [hf155 i k (by omega), hf142 i k (by omega), hf130 i k (by omega), ef118, zu_n (by omega), hf111 i k (by omega)])]⟩⟩, hMd, fun a b h => by rw [ef160, zu_n (by omega), hf155 a b (by omega), hf142 a b (by omega), hf130 a b (by omega), ef118, zu_n (by omega), hf111 a b (by omega)]⟩, zEnd1 hH ht9 hW9⟩, hS.F ht9⟩) hS.2.2 dX12_readRule_64
        · skip
          refine lv_if_ne (tgt := 53) hx hb dX12_readRule_48 (by decide) (fun c167 => absurd (by decide) c167) (fun c167 => ?_)
          refine lv_iconst (v := nI 0) hx hb dX12_readRule_51 (by decide) ?_
          refine W.widen (k := 0) (n := 0) (by decide) (by decide) ?_
          exact W.zret (v := nI 0) hx hb hr (by decide) (fun t9 ht9 hW9 => ⟨⟨nI 0, f149, rfl, ⟨trivial, ⟨c150, by omega, by omega, q153, Or.inr ⟨zS (fi 47) L c137, by have h9 := zS_le (b := fi 47) (n := L) (a := c137) (by omega); omega, by simp only [zRul, zPlc, zKnd, hWplace, hT1, hWby, hT2], rfl, h24tc2⟩⟩, hMd, fun a b h => by rw [hf155 a b (by omega), hf142 a b (by omega), hf130 a b (by omega), ef118, zu_n (by omega), hf111 a b (by omega)]⟩, zEnd1 hH ht9 hW9⟩, hS.F ht9⟩) hS.2.2 dX12_readRule_52
      · skip
        refine lv_if_eq (tgt := 51) hx hb dX12_readRule_40 (by decide) (fun c168 => ?_) (fun c168 => absurd (by decide) c168)
        refine lv_iconst (v := nI 0) hx hb dX12_readRule_51 (by decide) ?_
        refine W.widen (k := 0) (n := 0) (by decide) (by decide) ?_
        exact W.zret (v := nI 0) hx hb hr (by decide) (fun t9 ht9 hW9 => ⟨⟨nI 0, f136, rfl, ⟨trivial, ⟨c137, by omega, by omega, q140, Or.inr ⟨zS (fi 47) L c125, by have h9 := zS_le (b := fi 47) (n := L) (a := c125) (by omega); omega, by simp only [zRul, zPlc, zKnd, hWplace, hT1, hWby], rfl, h24by⟩⟩, hMd, fun a b h => by rw [hf142 a b (by omega), hf130 a b (by omega), ef118, zu_n (by omega), hf111 a b (by omega)]⟩, zEnd1 hH ht9 hW9⟩, hS.F ht9⟩) hS.2.2 dX12_readRule_52
    · skip
      refine lv_if_ne (tgt := 28) hx hb dX12_readRule_23 (by decide) (fun c169 => absurd (by decide) c169) (fun c169 => ?_)
      refine lv_iconst (v := nI 0) hx hb dX12_readRule_26 (by decide) ?_
      refine W.widen (k := 0) (n := 0) (by decide) (by decide) ?_
      exact W.zret (v := nI 0) hx hb hr (by decide) (fun t9 ht9 hW9 => ⟨⟨nI 0, f124, rfl, ⟨trivial, ⟨c125, by omega, by omega, q128, Or.inr ⟨zS (fi 47) L c117, by have h9 := zS_le (b := fi 47) (n := L) (a := c117) (by omega); omega, by simp only [zRul, zPlc, zKnd, hWplace, hT1], rfl, h24tc1⟩⟩, hMd, fun a b h => by rw [hf130 a b (by omega), ef118, zu_n (by omega), hf111 a b (by omega)]⟩, zEnd1 hH ht9 hW9⟩, hS.F ht9⟩) hS.2.2 dX12_readRule_27
  · skip
    have hWplace : zWrd (fi 47) L [112, 108, 97, 99, 101] (zS (fi 47) L a) = none := by rw [← hk103]; exact zOKw.no (by omega) zWs_place hok101
    refine lv_if_eq (tgt := 65) hx hb dX12_readRule_7 (by decide) (fun c170 => ?_) (fun c170 => absurd (by decide) c170)
    refine lv_aload_n hx hb dX12_readRule_65 rfl (lv_at hl 0 rfl) ?_
    refine lv_ldc2 (v := 108187682958948) hx hb hown hw6 dX12_readRule_66 ?_
    refine va_calli (va_runV (As := [.long 108187682958948]) (rest := []) ⟨hx, hb, hml, hown, hts⟩ (m_isWordX l hl0 D A sad τ f105 fr ol L c106 hF q112 q109 (by omega) (by omega) 108187682958948) (cwV 1 hts gX12_readRule_X12_isWord rfl rfl rfl (by decide +kernel) ⟨Nat.le_of_ble_eq_true rfl, Nat.le_of_ble_eq_true rfl⟩) ⟨zQc_bl, zRecv hH (zk_30 hF) rfl, zQc_at hz hS hA hH⟩ rfl rfl hl.1 rfl (lv_room (Nat.le_of_ble_eq_true rfl)) dX12_readRule_69 ⟨Nat.le_of_ble_eq_true rfl, Nat.le_of_ble_eq_true rfl⟩) hS (fun q _ h => h) (fun q h => h) (fun r174 u9 t9 H1 locs ht9 hvm9 hw hB hz1 hk1 hS => ?_)
    have hH := zMv ht9 hvm9 hB
    clear hB
    generalize u9 = f175 at hw hH
    generalize H1 = H at hH hS ⊢
    obtain ⟨-, ⟨c176, hc177, hc178, q179, hx180⟩, hf181⟩ := hw
    rw [(funext (fun k9 => by rw [hf111 47 k9 (by omega)]) : f105 47 = fi 47)] at hx180
    have q182 : f175 30 22 = nI L := by rw [hf181 30 22 (by omega)]; exact q112
    have q183 : f175 30 2 = nI n := by rw [hf181 30 2 (by omega)]; exact q113
    have q184 : f175 30 24 = w24 := by rw [hf181 30 24 (by omega)]; exact q114
    have hMt := zMt.ci (fi' := f175) hMt (fun i9 k9 h9 => hf181 i9 k9 (by omega))
    have hMd := zMd.ci (fi' := f175) hMd (fun i9 k9 h9 => hf181 i9 k9 (by omega))
    obtain ⟨hcz172, hok171⟩ := hx180
    have hk173 : c176 = zS (fi 47) L a := by rw [hcz172, hk103]; exact zS_idem haL
    rcases hok171 with ⟨rfl, hok171⟩ | ⟨rfl, hok171⟩
    · skip
      refine lv_if_eq (tgt := 79) hx hb dX12_readRule_72 (by decide) (fun c185 => absurd c185 (by decide)) (fun c185 => ?_)
      refine lv_iconst (v := nI 0) hx hb dX12_readRule_75 (by decide) ?_
      refine lv_goto (tgt := 122) hx hb dX12_readRule_76 (by decide) ?_
      refine lv_istore_n (lv' := [(1, .int (nI 0)), (0, .ref (τ.1 30))]) hx hb dX12_readRule_122 rfl hl (by decide) rfl (fun ls hl => ?_)
      refine lv_iload_n hx hb dX12_readRule_123 rfl (lv_at hl 0 rfl) ?_
      refine lv_iconst (v := (-1)) hx hb dX12_readRule_124 (by decide) ?_
      refine lv_icmp_ne (tgt := 137) hx hb dX12_readRule_125 (by decide) (fun c186 => ?_) (fun c186 => absurd c186 (by decide))
      refine lv_aload_n hx hb dX12_readRule_137 rfl (lv_at hl 1 rfl) ?_
      refine lv_aload_n hx hb dX12_readRule_138 rfl (lv_at hl 1 rfl) ?_
      refine va_calli (va_runV (As := []) (rest := [.ref (τ.1 30)]) ⟨hx, hb, hml, hown, hts⟩ (m_wordEndX l hl0 D A sad τ f175 fr ol L c176 hF q182 q179 (by omega) (by omega)) (cwV 0 hts gX12_readRule_X12_wordEnd rfl rfl rfl (by decide +kernel) ⟨Nat.le_of_ble_eq_true rfl, Nat.le_of_ble_eq_true rfl⟩) ⟨zQc_bl, zRecv hH (zk_30 hF) rfl, zQc_at hz hS hA hH⟩ rfl rfl hl.1 rfl (lv_room (Nat.le_of_ble_eq_true rfl)) dX12_readRule_139 ⟨Nat.le_of_ble_eq_true rfl, Nat.le_of_ble_eq_true rfl⟩) hS (fun q _ h => h) (fun q h => h) (fun r187 u9 t9 H1 locs ht9 hvm9 hw hB hz1 hk1 hS => ?_)
      have hH := zMv ht9 hvm9 hB
      generalize H1 = H at hH hS ⊢
      obtain ⟨c188, h1c188, h2c188, rfl, hwe⟩ := hw
      rw [(funext (fun k9 => by rw [hf181 47 k9 (by omega), hf111 47 k9 (by omega)]) : f175 47 = fi 47)] at hwe
      have hWbehind : zWrd (fi 47) L [98, 101, 104, 105, 110, 100] (zS (fi 47) L a) = some (zS (fi 47) L c188) := hok171.yesE zWs_behind hwe (by omega) hk173
      refine zPutI (D := D) (ci := 12) (ty := .int) (C := RX12) (T := TX12) (N := 71) hx hb hts hiX12 tyX12 tyX12_ok nmX12 hown hH hS (zk_30 hF) rfl 23 (by decide) rfl hw1 (fun _ h9 => h9) rfl (by decide +kernel) rfl rfl dX12_readRule_142 (fun H locs hH hS => ?_)
      obtain ⟨f189, ef189⟩ : ∃ f9 : zFi, f9 = zu f175 30 23 (nI c188) := ⟨_, rfl⟩
      rw [← ef189] at hH
      have q190 : f189 30 22 = nI L := by rw [ef189, zu_n (fun h9 => absurd h9.2 (by decide))]; exact q182
      have q191 : f189 30 2 = nI n := by rw [ef189, zu_n (fun h9 => absurd h9.2 (by decide))]; exact q183
      have q192 : f189 30 24 = w24 := by rw [ef189, zu_n (fun h9 => absurd h9.2 (by decide))]; exact q184
      have q193 : f189 30 23 = nI c188 := by rw [ef189]; exact zu_s
      have hMt := zMt.ci (fi' := f189) hMt (fun i9 k9 h9 => by rw [ef189]; exact zu_n (by omega))
      have hMd := zMd.ci (fi' := f189) hMd (fun i9 k9 h9 => by rw [ef189]; exact zu_n (by omega))
      refine lv_aload_n hx hb dX12_readRule_145 rfl (lv_at hl 1 rfl) ?_
      refine lv_iconst (v := nI 1) hx hb dX12_readRule_146 (by decide) ?_
      refine lv_bipush (v := nI 6) hx hb dX12_readRule_147 (by decide) ?_
      refine lv_iconst (v := nI 0) hx hb dX12_readRule_149 (by decide) ?_
      refine lv_iload_n hx hb dX12_readRule_150 rfl (lv_at hl 0 rfl) ?_
      refine lv_iconst (v := nI 1) hx hb dX12_readRule_151 (by decide) ?_
      refine lv_icmp_ne (tgt := 161) hx hb dX12_readRule_152 (by decide) (fun c194 => ?_) (fun c194 => absurd c194 (by decide))
      refine lv_iload_n hx hb dX12_readRule_161 rfl (lv_at hl 0 rfl) ?_
      refine lv_iconst (v := nI 2) hx hb dX12_readRule_162 (by decide) ?_
      refine lv_icmp_ne (tgt := 171) hx hb dX12_readRule_163 (by decide) (fun c195 => ?_) (fun c195 => absurd c195 (by decide))
      refine lv_bipush (v := nI 99) hx hb dX12_readRule_171 (by decide) ?_
      refine va_calli (va_runV (As := [.int (nI 1), .int (nI 6), .int (nI 0), .int (nI 99)]) (rest := []) ⟨hx, hb, hml, hown, hts⟩ (m_digitsX l hl0 D A sad τ f189 fr ol L c188 hF q190 q193 (by omega) (by omega) 1 6 (by omega) (by omega) (nI 0) (nI 99)) (cwV 4 hts gX12_readRule_X12_digits rfl rfl rfl (by decide +kernel) ⟨Nat.le_of_ble_eq_true rfl, Nat.le_of_ble_eq_true rfl⟩) ⟨zQc_bl, zRecv hH (zk_30 hF) rfl, zQc_at hz hS hA hH⟩ rfl rfl hl.1 rfl (lv_room (Nat.le_of_ble_eq_true rfl)) dX12_readRule_173 ⟨Nat.le_of_ble_eq_true rfl, Nat.le_of_ble_eq_true rfl⟩) hS (fun q _ h => h) (fun q h => h) (fun r196 u9 t9 H1 locs ht9 hvm9 hw hB hz1 hk1 hS => ?_)
      have hH := zMv ht9 hvm9 hB
      clear hB
      generalize u9 = f197 at hw hH
      generalize H1 = H at hH hS ⊢
      obtain ⟨-, ⟨c198, hc199, hc200, q201, hx202⟩, hf203⟩ := hw
      rw [(funext (fun k9 => by rw [ef189, zu_n (by omega), hf181 47 k9 (by omega), hf111 47 k9 (by omega)]) : f189 47 = fi 47)] at hx202
      have q204 : f197 30 22 = nI L := by rw [hf203 30 22 (by omega)]; exact q190
      have q205 : f197 30 2 = nI n := by rw [hf203 30 2 (by omega)]; exact q191
      have hMt := zMt.ci (fi' := f197) hMt (fun i9 k9 h9 => hf203 i9 k9 (by omega))
      have hMd := zMd.ci (fi' := f197) hMd (fun i9 k9 h9 => hf203 i9 k9 (by omega))
      rcases hx202 with ⟨v25, _, hnm, rfl, rfl, h25, h24d⟩ | ⟨hnm, rfl, h24d⟩
      · skip
        have q206 : f197 30 24 = w24 := h24d.trans q192
        refine lv_if_ne (tgt := 181) hx hb dX12_readRule_176 (by decide) (fun c207 => ?_) (fun c207 => absurd c207 (by decide))
        refine lv_aload_n hx hb dX12_readRule_181 rfl (lv_at hl 1 rfl) ?_
        refine zGetR (D := D) (ci := 12) (C := RX12) (T := TX12) (N := 71) hx hb hts hiX12 hown hH (zk_30 hF) rfl 18 (by decide) rfl hw7 (fun _ h9 => h9) dX12_readRule_182 (zr_30_18 hF) ?_
        refine lv_iload_n hx hb dX12_readRule_185 rfl (lv_at hl 0 rfl) ?_
        refine lv_aload_n hx hb dX12_readRule_186 rfl (lv_at hl 1 rfl) ?_
        refine zGetI (D := D) (ci := 12) (C := RX12) (T := TX12) (N := 71) hx hb hts hiX12 hown hH (zk_30 hF) rfl 25 (by decide) rfl hw3 (fun _ h9 => h9) dX12_readRule_187 h25 ?_
        refine zIastN (D := D) hx hb hH hS (zk_45 hF) (zn_45 hF) (by omega) (by omega) dX12_readRule_190 (fun H locs hH hS => ?_)
        obtain ⟨f208, ef208⟩ : ∃ f9 : zFi, f9 = zu f197 45 0 v25 := ⟨_, rfl⟩
        rw [← ef208] at hH
        have q209 : f208 30 22 = nI L := by rw [ef208, zu_n (fun h9 => absurd h9.1 (by decide))]; exact q204
        have q210 : f208 30 2 = nI n := by rw [ef208, zu_n (fun h9 => absurd h9.1 (by decide))]; exact q205
        have q211 : f208 30 23 = nI c198 := by rw [ef208, zu_n (fun h9 => absurd h9.1 (by decide))]; exact q201
        have q212 : f208 30 25 = v25 := by rw [ef208, zu_n (fun h9 => absurd h9.1 (by decide))]; exact h25
        have q213 : f208 30 24 = w24 := by rw [ef208, zu_n (fun h9 => absurd h9.1 (by decide))]; exact q206
        have q214 : f208 45 0 = v25 := by rw [ef208]; exact zu_s
        have hMt := zMt.ci (fi' := f208) hMt (fun i9 k9 h9 => by rw [ef208]; exact zu_n (by omega))
        have hMd := zMd.ci (fi' := f208) hMd (fun i9 k9 h9 => by rw [ef208]; exact zu_n (by omega))
        refine lv_iconst (v := nI 1) hx hb dX12_readRule_191 (by decide) ?_
        refine W.widen (k := 0) (n := 0) (by decide) (by decide) ?_
        exact W.zret (v := nI 1) hx hb hr (by decide) (fun t9 ht9 hW9 => ⟨⟨nI 1, f208, rfl, ⟨trivial, ⟨c198, by omega, by omega, q211, Or.inl ⟨(zS (fi 47) L c198, 0, v25), by simp only [zRul, zPlc, zKnd, hWplace, hWbehind, show zNum (fi 47) L 1 6 (nI 0) (zMost 0) (zS (fi 47) L c188) = some (v25, zS (fi 47) L c198) from hnm], rfl, rfl, q213.trans hw24.symm, by rw [zDmo_num (by omega) ef208, zDmo_cg (g := fi) (fun i k q => by rw [hf203 i k (by omega), ef189, zu_n (by omega), hf181 i k (by omega), hf111 i k (by omega)])]⟩⟩, hMd, fun a b h => by rw [ef208, zu_n (by omega), hf203 a b (by omega), ef189, zu_n (by omega), hf181 a b (by omega), hf111 a b (by omega)]⟩, zEnd1 hH ht9 hW9⟩, hS.F ht9⟩) hS.2.2 dX12_readRule_192
      · skip
        refine lv_if_ne (tgt := 181) hx hb dX12_readRule_176 (by decide) (fun c215 => absurd (by decide) c215) (fun c215 => ?_)
        refine lv_iconst (v := nI 0) hx hb dX12_readRule_179 (by decide) ?_
        refine W.widen (k := 0) (n := 0) (by decide) (by decide) ?_
        exact W.zret (v := nI 0) hx hb hr (by decide) (fun t9 ht9 hW9 => ⟨⟨nI 0, f197, rfl, ⟨trivial, ⟨c198, by omega, by omega, q201, Or.inr ⟨zS (fi 47) L c188, by have h9 := zS_le (b := fi 47) (n := L) (a := c188) (by omega); omega, by simp only [zRul, zPlc, zKnd, hWplace, hWbehind, show zNum (fi 47) L 1 6 (nI 0) (zMost 0) (zS (fi 47) L c188) = none from hnm], rfl, h24d⟩⟩, hMd, fun a b h => by rw [hf203 a b (by omega), ef189, zu_n (by omega), hf181 a b (by omega), hf111 a b (by omega)]⟩, zEnd1 hH ht9 hW9⟩, hS.F ht9⟩) hS.2.2 dX12_readRule_180
    · skip
      have hWbehind : zWrd (fi 47) L [98, 101, 104, 105, 110, 100] (zS (fi 47) L a) = none := by rw [← hk173]; exact zOKw.no (by omega) zWs_behind hok171
      refine lv_if_eq (tgt := 79) hx hb dX12_readRule_72 (by decide) (fun c216 => ?_) (fun c216 => absurd (by decide) c216)
      refine lv_aload_n hx hb dX12_readRule_79 rfl (lv_at hl 0 rfl) ?_
      refine lv_ldc2 (v := 1886352244) hx hb hown hw8 dX12_readRule_80 ?_
      refine va_calli (va_runV (As := [.long 1886352244]) (rest := []) ⟨hx, hb, hml, hown, hts⟩ (m_isWordX l hl0 D A sad τ f175 fr ol L c176 hF q182 q179 (by omega) (by omega) 1886352244) (cwV 1 hts gX12_readRule_X12_isWord rfl rfl rfl (by decide +kernel) ⟨Nat.le_of_ble_eq_true rfl, Nat.le_of_ble_eq_true rfl⟩) ⟨zQc_bl, zRecv hH (zk_30 hF) rfl, zQc_at hz hS hA hH⟩ rfl rfl hl.1 rfl (lv_room (Nat.le_of_ble_eq_true rfl)) dX12_readRule_83 ⟨Nat.le_of_ble_eq_true rfl, Nat.le_of_ble_eq_true rfl⟩) hS (fun q _ h => h) (fun q h => h) (fun r220 u9 t9 H1 locs ht9 hvm9 hw hB hz1 hk1 hS => ?_)
      have hH := zMv ht9 hvm9 hB
      clear hB
      generalize u9 = f221 at hw hH
      generalize H1 = H at hH hS ⊢
      obtain ⟨-, ⟨c222, hc223, hc224, q225, hx226⟩, hf227⟩ := hw
      rw [(funext (fun k9 => by rw [hf181 47 k9 (by omega), hf111 47 k9 (by omega)]) : f175 47 = fi 47)] at hx226
      have q228 : f221 30 22 = nI L := by rw [hf227 30 22 (by omega)]; exact q182
      have q229 : f221 30 2 = nI n := by rw [hf227 30 2 (by omega)]; exact q183
      have q230 : f221 30 24 = w24 := by rw [hf227 30 24 (by omega)]; exact q184
      have hMt := zMt.ci (fi' := f221) hMt (fun i9 k9 h9 => hf227 i9 k9 (by omega))
      have hMd := zMd.ci (fi' := f221) hMd (fun i9 k9 h9 => hf227 i9 k9 (by omega))
      obtain ⟨hcz218, hok217⟩ := hx226
      have hk219 : c222 = zS (fi 47) L a := by rw [hcz218, hk173]; exact zS_idem haL
      rcases hok217 with ⟨rfl, hok217⟩ | ⟨rfl, hok217⟩
      · skip
        refine lv_if_eq (tgt := 93) hx hb dX12_readRule_86 (by decide) (fun c231 => absurd c231 (by decide)) (fun c231 => ?_)
        refine lv_iconst (v := nI 1) hx hb dX12_readRule_89 (by decide) ?_
        refine lv_goto (tgt := 122) hx hb dX12_readRule_90 (by decide) ?_
        refine lv_istore_n (lv' := [(1, .int (nI 1)), (0, .ref (τ.1 30))]) hx hb dX12_readRule_122 rfl hl (by decide) rfl (fun ls hl => ?_)
        refine lv_iload_n hx hb dX12_readRule_123 rfl (lv_at hl 0 rfl) ?_
        refine lv_iconst (v := (-1)) hx hb dX12_readRule_124 (by decide) ?_
        refine lv_icmp_ne (tgt := 137) hx hb dX12_readRule_125 (by decide) (fun c232 => ?_) (fun c232 => absurd c232 (by decide))
        refine lv_aload_n hx hb dX12_readRule_137 rfl (lv_at hl 1 rfl) ?_
        refine lv_aload_n hx hb dX12_readRule_138 rfl (lv_at hl 1 rfl) ?_
        refine va_calli (va_runV (As := []) (rest := [.ref (τ.1 30)]) ⟨hx, hb, hml, hown, hts⟩ (m_wordEndX l hl0 D A sad τ f221 fr ol L c222 hF q228 q225 (by omega) (by omega)) (cwV 0 hts gX12_readRule_X12_wordEnd rfl rfl rfl (by decide +kernel) ⟨Nat.le_of_ble_eq_true rfl, Nat.le_of_ble_eq_true rfl⟩) ⟨zQc_bl, zRecv hH (zk_30 hF) rfl, zQc_at hz hS hA hH⟩ rfl rfl hl.1 rfl (lv_room (Nat.le_of_ble_eq_true rfl)) dX12_readRule_139 ⟨Nat.le_of_ble_eq_true rfl, Nat.le_of_ble_eq_true rfl⟩) hS (fun q _ h => h) (fun q h => h) (fun r233 u9 t9 H1 locs ht9 hvm9 hw hB hz1 hk1 hS => ?_)
        have hH := zMv ht9 hvm9 hB
        generalize H1 = H at hH hS ⊢
        obtain ⟨c234, h1c234, h2c234, rfl, hwe⟩ := hw
        rw [(funext (fun k9 => by rw [hf227 47 k9 (by omega), hf181 47 k9 (by omega), hf111 47 k9 (by omega)]) : f221 47 = fi 47)] at hwe
        have hWpost : zWrd (fi 47) L [112, 111, 115, 116] (zS (fi 47) L a) = some (zS (fi 47) L c234) := hok217.yesE zWs_post hwe (by omega) hk219
        refine zPutI (D := D) (ci := 12) (ty := .int) (C := RX12) (T := TX12) (N := 71) hx hb hts hiX12 tyX12 tyX12_ok nmX12 hown hH hS (zk_30 hF) rfl 23 (by decide) rfl hw1 (fun _ h9 => h9) rfl (by decide +kernel) rfl rfl dX12_readRule_142 (fun H locs hH hS => ?_)
        obtain ⟨f235, ef235⟩ : ∃ f9 : zFi, f9 = zu f221 30 23 (nI c234) := ⟨_, rfl⟩
        rw [← ef235] at hH
        have q236 : f235 30 22 = nI L := by rw [ef235, zu_n (fun h9 => absurd h9.2 (by decide))]; exact q228
        have q237 : f235 30 2 = nI n := by rw [ef235, zu_n (fun h9 => absurd h9.2 (by decide))]; exact q229
        have q238 : f235 30 24 = w24 := by rw [ef235, zu_n (fun h9 => absurd h9.2 (by decide))]; exact q230
        have q239 : f235 30 23 = nI c234 := by rw [ef235]; exact zu_s
        have hMt := zMt.ci (fi' := f235) hMt (fun i9 k9 h9 => by rw [ef235]; exact zu_n (by omega))
        have hMd := zMd.ci (fi' := f235) hMd (fun i9 k9 h9 => by rw [ef235]; exact zu_n (by omega))
        refine lv_aload_n hx hb dX12_readRule_145 rfl (lv_at hl 1 rfl) ?_
        refine lv_iconst (v := nI 1) hx hb dX12_readRule_146 (by decide) ?_
        refine lv_bipush (v := nI 6) hx hb dX12_readRule_147 (by decide) ?_
        refine lv_iconst (v := nI 0) hx hb dX12_readRule_149 (by decide) ?_
        refine lv_iload_n hx hb dX12_readRule_150 rfl (lv_at hl 0 rfl) ?_
        refine lv_iconst (v := nI 1) hx hb dX12_readRule_151 (by decide) ?_
        refine lv_icmp_ne (tgt := 161) hx hb dX12_readRule_152 (by decide) (fun c240 => absurd (by decide) c240) (fun c240 => ?_)
        refine lv_sipush (v := nI 9999) hx hb dX12_readRule_155 (by decide) ?_
        refine lv_goto (tgt := 173) hx hb dX12_readRule_158 (by decide) ?_
        refine va_calli (va_runV (As := [.int (nI 1), .int (nI 6), .int (nI 0), .int (nI 9999)]) (rest := []) ⟨hx, hb, hml, hown, hts⟩ (m_digitsX l hl0 D A sad τ f235 fr ol L c234 hF q236 q239 (by omega) (by omega) 1 6 (by omega) (by omega) (nI 0) (nI 9999)) (cwV 4 hts gX12_readRule_X12_digits rfl rfl rfl (by decide +kernel) ⟨Nat.le_of_ble_eq_true rfl, Nat.le_of_ble_eq_true rfl⟩) ⟨zQc_bl, zRecv hH (zk_30 hF) rfl, zQc_at hz hS hA hH⟩ rfl rfl hl.1 rfl (lv_room (Nat.le_of_ble_eq_true rfl)) dX12_readRule_173 ⟨Nat.le_of_ble_eq_true rfl, Nat.le_of_ble_eq_true rfl⟩) hS (fun q _ h => h) (fun q h => h) (fun r241 u9 t9 H1 locs ht9 hvm9 hw hB hz1 hk1 hS => ?_)
        have hH := zMv ht9 hvm9 hB
        clear hB
        generalize u9 = f242 at hw hH
        generalize H1 = H at hH hS ⊢
        obtain ⟨-, ⟨c243, hc244, hc245, q246, hx247⟩, hf248⟩ := hw
        rw [(funext (fun k9 => by rw [ef235, zu_n (by omega), hf227 47 k9 (by omega), hf181 47 k9 (by omega), hf111 47 k9 (by omega)]) : f235 47 = fi 47)] at hx247
        have q249 : f242 30 22 = nI L := by rw [hf248 30 22 (by omega)]; exact q236
        have q250 : f242 30 2 = nI n := by rw [hf248 30 2 (by omega)]; exact q237
        have hMt := zMt.ci (fi' := f242) hMt (fun i9 k9 h9 => hf248 i9 k9 (by omega))
        have hMd := zMd.ci (fi' := f242) hMd (fun i9 k9 h9 => hf248 i9 k9 (by omega))
        rcases hx247 with ⟨v25, _, hnm, rfl, rfl, h25, h24d⟩ | ⟨hnm, rfl, h24d⟩
        · skip
          have q251 : f242 30 24 = w24 := h24d.trans q238
          refine lv_if_ne (tgt := 181) hx hb dX12_readRule_176 (by decide) (fun c252 => ?_) (fun c252 => absurd c252 (by decide))
          refine lv_aload_n hx hb dX12_readRule_181 rfl (lv_at hl 1 rfl) ?_
          refine zGetR (D := D) (ci := 12) (C := RX12) (T := TX12) (N := 71) hx hb hts hiX12 hown hH (zk_30 hF) rfl 18 (by decide) rfl hw7 (fun _ h9 => h9) dX12_readRule_182 (zr_30_18 hF) ?_
          refine lv_iload_n hx hb dX12_readRule_185 rfl (lv_at hl 0 rfl) ?_
          refine lv_aload_n hx hb dX12_readRule_186 rfl (lv_at hl 1 rfl) ?_
          refine zGetI (D := D) (ci := 12) (C := RX12) (T := TX12) (N := 71) hx hb hts hiX12 hown hH (zk_30 hF) rfl 25 (by decide) rfl hw3 (fun _ h9 => h9) dX12_readRule_187 h25 ?_
          refine zIastN (D := D) hx hb hH hS (zk_45 hF) (zn_45 hF) (by omega) (by omega) dX12_readRule_190 (fun H locs hH hS => ?_)
          obtain ⟨f253, ef253⟩ : ∃ f9 : zFi, f9 = zu f242 45 1 v25 := ⟨_, rfl⟩
          rw [← ef253] at hH
          have q254 : f253 30 22 = nI L := by rw [ef253, zu_n (fun h9 => absurd h9.1 (by decide))]; exact q249
          have q255 : f253 30 2 = nI n := by rw [ef253, zu_n (fun h9 => absurd h9.1 (by decide))]; exact q250
          have q256 : f253 30 23 = nI c243 := by rw [ef253, zu_n (fun h9 => absurd h9.1 (by decide))]; exact q246
          have q257 : f253 30 25 = v25 := by rw [ef253, zu_n (fun h9 => absurd h9.1 (by decide))]; exact h25
          have q258 : f253 30 24 = w24 := by rw [ef253, zu_n (fun h9 => absurd h9.1 (by decide))]; exact q251
          have q259 : f253 45 1 = v25 := by rw [ef253]; exact zu_s
          have hMt := zMt.ci (fi' := f253) hMt (fun i9 k9 h9 => by rw [ef253]; exact zu_n (by omega))
          have hMd := zMd.ci (fi' := f253) hMd (fun i9 k9 h9 => by rw [ef253]; exact zu_n (by omega))
          refine lv_iconst (v := nI 1) hx hb dX12_readRule_191 (by decide) ?_
          refine W.widen (k := 0) (n := 0) (by decide) (by decide) ?_
          exact W.zret (v := nI 1) hx hb hr (by decide) (fun t9 ht9 hW9 => ⟨⟨nI 1, f253, rfl, ⟨trivial, ⟨c243, by omega, by omega, q256, Or.inl ⟨(zS (fi 47) L c243, 1, v25), by simp only [zRul, zPlc, zKnd, hWplace, hWbehind, hWpost, show zNum (fi 47) L 1 6 (nI 0) (zMost 1) (zS (fi 47) L c234) = some (v25, zS (fi 47) L c243) from hnm], rfl, rfl, q258.trans hw24.symm, by rw [zDmo_num (by omega) ef253, zDmo_cg (g := fi) (fun i k q => by rw [hf248 i k (by omega), ef235, zu_n (by omega), hf227 i k (by omega), hf181 i k (by omega), hf111 i k (by omega)])]⟩⟩, hMd, fun a b h => by rw [ef253, zu_n (by omega), hf248 a b (by omega), ef235, zu_n (by omega), hf227 a b (by omega), hf181 a b (by omega), hf111 a b (by omega)]⟩, zEnd1 hH ht9 hW9⟩, hS.F ht9⟩) hS.2.2 dX12_readRule_192
        · skip
          refine lv_if_ne (tgt := 181) hx hb dX12_readRule_176 (by decide) (fun c260 => absurd (by decide) c260) (fun c260 => ?_)
          refine lv_iconst (v := nI 0) hx hb dX12_readRule_179 (by decide) ?_
          refine W.widen (k := 0) (n := 0) (by decide) (by decide) ?_
          exact W.zret (v := nI 0) hx hb hr (by decide) (fun t9 ht9 hW9 => ⟨⟨nI 0, f242, rfl, ⟨trivial, ⟨c243, by omega, by omega, q246, Or.inr ⟨zS (fi 47) L c234, by have h9 := zS_le (b := fi 47) (n := L) (a := c234) (by omega); omega, by simp only [zRul, zPlc, zKnd, hWplace, hWbehind, hWpost, show zNum (fi 47) L 1 6 (nI 0) (zMost 1) (zS (fi 47) L c234) = none from hnm], rfl, h24d⟩⟩, hMd, fun a b h => by rw [hf248 a b (by omega), ef235, zu_n (by omega), hf227 a b (by omega), hf181 a b (by omega), hf111 a b (by omega)]⟩, zEnd1 hH ht9 hW9⟩, hS.F ht9⟩) hS.2.2 dX12_readRule_180
      · skip
        have hWpost : zWrd (fi 47) L [112, 111, 115, 116] (zS (fi 47) L a) = none := by rw [← hk219]; exact zOKw.no (by omega) zWs_post hok217
        refine lv_if_eq (tgt := 93) hx hb dX12_readRule_86 (by decide) (fun c261 => ?_) (fun c261 => absurd (by decide) c261)
        refine lv_aload_n hx hb dX12_readRule_93 rfl (lv_at hl 0 rfl) ?_
        refine lv_ldc2 (v := 1718773093) hx hb hown hw9 dX12_readRule_94 ?_
        refine va_calli (va_runV (As := [.long 1718773093]) (rest := []) ⟨hx, hb, hml, hown, hts⟩ (m_isWordX l hl0 D A sad τ f221 fr ol L c222 hF q228 q225 (by omega) (by omega) 1718773093) (cwV 1 hts gX12_readRule_X12_isWord rfl rfl rfl (by decide +kernel) ⟨Nat.le_of_ble_eq_true rfl, Nat.le_of_ble_eq_true rfl⟩) ⟨zQc_bl, zRecv hH (zk_30 hF) rfl, zQc_at hz hS hA hH⟩ rfl rfl hl.1 rfl (lv_room (Nat.le_of_ble_eq_true rfl)) dX12_readRule_97 ⟨Nat.le_of_ble_eq_true rfl, Nat.le_of_ble_eq_true rfl⟩) hS (fun q _ h => h) (fun q h => h) (fun r265 u9 t9 H1 locs ht9 hvm9 hw hB hz1 hk1 hS => ?_)
        have hH := zMv ht9 hvm9 hB
        clear hB
        generalize u9 = f266 at hw hH
        generalize H1 = H at hH hS ⊢
        obtain ⟨-, ⟨c267, hc268, hc269, q270, hx271⟩, hf272⟩ := hw
        rw [(funext (fun k9 => by rw [hf227 47 k9 (by omega), hf181 47 k9 (by omega), hf111 47 k9 (by omega)]) : f221 47 = fi 47)] at hx271
        have q273 : f266 30 22 = nI L := by rw [hf272 30 22 (by omega)]; exact q228
        have q274 : f266 30 2 = nI n := by rw [hf272 30 2 (by omega)]; exact q229
        have q275 : f266 30 24 = w24 := by rw [hf272 30 24 (by omega)]; exact q230
        have hMt := zMt.ci (fi' := f266) hMt (fun i9 k9 h9 => hf272 i9 k9 (by omega))
        have hMd := zMd.ci (fi' := f266) hMd (fun i9 k9 h9 => hf272 i9 k9 (by omega))
        obtain ⟨hcz263, hok262⟩ := hx271
        have hk264 : c267 = zS (fi 47) L a := by rw [hcz263, hk219]; exact zS_idem haL
        rcases hok262 with ⟨rfl, hok262⟩ | ⟨rfl, hok262⟩
        · skip
          refine lv_if_eq (tgt := 107) hx hb dX12_readRule_100 (by decide) (fun c276 => absurd c276 (by decide)) (fun c276 => ?_)
          refine lv_iconst (v := nI 2) hx hb dX12_readRule_103 (by decide) ?_
          refine lv_goto (tgt := 122) hx hb dX12_readRule_104 (by decide) ?_
          refine lv_istore_n (lv' := [(1, .int (nI 2)), (0, .ref (τ.1 30))]) hx hb dX12_readRule_122 rfl hl (by decide) rfl (fun ls hl => ?_)
          refine lv_iload_n hx hb dX12_readRule_123 rfl (lv_at hl 0 rfl) ?_
          refine lv_iconst (v := (-1)) hx hb dX12_readRule_124 (by decide) ?_
          refine lv_icmp_ne (tgt := 137) hx hb dX12_readRule_125 (by decide) (fun c277 => ?_) (fun c277 => absurd c277 (by decide))
          refine lv_aload_n hx hb dX12_readRule_137 rfl (lv_at hl 1 rfl) ?_
          refine lv_aload_n hx hb dX12_readRule_138 rfl (lv_at hl 1 rfl) ?_
          refine va_calli (va_runV (As := []) (rest := [.ref (τ.1 30)]) ⟨hx, hb, hml, hown, hts⟩ (m_wordEndX l hl0 D A sad τ f266 fr ol L c267 hF q273 q270 (by omega) (by omega)) (cwV 0 hts gX12_readRule_X12_wordEnd rfl rfl rfl (by decide +kernel) ⟨Nat.le_of_ble_eq_true rfl, Nat.le_of_ble_eq_true rfl⟩) ⟨zQc_bl, zRecv hH (zk_30 hF) rfl, zQc_at hz hS hA hH⟩ rfl rfl hl.1 rfl (lv_room (Nat.le_of_ble_eq_true rfl)) dX12_readRule_139 ⟨Nat.le_of_ble_eq_true rfl, Nat.le_of_ble_eq_true rfl⟩) hS (fun q _ h => h) (fun q h => h) (fun r278 u9 t9 H1 locs ht9 hvm9 hw hB hz1 hk1 hS => ?_)
          have hH := zMv ht9 hvm9 hB
          generalize H1 = H at hH hS ⊢
          obtain ⟨c279, h1c279, h2c279, rfl, hwe⟩ := hw
          rw [(funext (fun k9 => by rw [hf272 47 k9 (by omega), hf227 47 k9 (by omega), hf181 47 k9 (by omega), hf111 47 k9 (by omega)]) : f266 47 = fi 47)] at hwe
          have hWfree : zWrd (fi 47) L [102, 114, 101, 101] (zS (fi 47) L a) = some (zS (fi 47) L c279) := hok262.yesE zWs_free hwe (by omega) hk264
          refine zPutI (D := D) (ci := 12) (ty := .int) (C := RX12) (T := TX12) (N := 71) hx hb hts hiX12 tyX12 tyX12_ok nmX12 hown hH hS (zk_30 hF) rfl 23 (by decide) rfl hw1 (fun _ h9 => h9) rfl (by decide +kernel) rfl rfl dX12_readRule_142 (fun H locs hH hS => ?_)
          obtain ⟨f280, ef280⟩ : ∃ f9 : zFi, f9 = zu f266 30 23 (nI c279) := ⟨_, rfl⟩
          rw [← ef280] at hH
          have q281 : f280 30 22 = nI L := by rw [ef280, zu_n (fun h9 => absurd h9.2 (by decide))]; exact q273
          have q282 : f280 30 2 = nI n := by rw [ef280, zu_n (fun h9 => absurd h9.2 (by decide))]; exact q274
          have q283 : f280 30 24 = w24 := by rw [ef280, zu_n (fun h9 => absurd h9.2 (by decide))]; exact q275
          have q284 : f280 30 23 = nI c279 := by rw [ef280]; exact zu_s
          have hMt := zMt.ci (fi' := f280) hMt (fun i9 k9 h9 => by rw [ef280]; exact zu_n (by omega))
          have hMd := zMd.ci (fi' := f280) hMd (fun i9 k9 h9 => by rw [ef280]; exact zu_n (by omega))
          refine lv_aload_n hx hb dX12_readRule_145 rfl (lv_at hl 1 rfl) ?_
          refine lv_iconst (v := nI 1) hx hb dX12_readRule_146 (by decide) ?_
          refine lv_bipush (v := nI 6) hx hb dX12_readRule_147 (by decide) ?_
          refine lv_iconst (v := nI 0) hx hb dX12_readRule_149 (by decide) ?_
          refine lv_iload_n hx hb dX12_readRule_150 rfl (lv_at hl 0 rfl) ?_
          refine lv_iconst (v := nI 1) hx hb dX12_readRule_151 (by decide) ?_
          refine lv_icmp_ne (tgt := 161) hx hb dX12_readRule_152 (by decide) (fun c285 => ?_) (fun c285 => absurd c285 (by decide))
          refine lv_iload_n hx hb dX12_readRule_161 rfl (lv_at hl 0 rfl) ?_
          refine lv_iconst (v := nI 2) hx hb dX12_readRule_162 (by decide) ?_
          refine lv_icmp_ne (tgt := 171) hx hb dX12_readRule_163 (by decide) (fun c286 => absurd (by decide) c286) (fun c286 => ?_)
          refine lv_ldc (v := nI 999999) hx hb hown hw10 dX12_readRule_166 ?_
          refine lv_goto (tgt := 173) hx hb dX12_readRule_168 (by decide) ?_
          refine va_calli (va_runV (As := [.int (nI 1), .int (nI 6), .int (nI 0), .int (nI 999999)]) (rest := []) ⟨hx, hb, hml, hown, hts⟩ (m_digitsX l hl0 D A sad τ f280 fr ol L c279 hF q281 q284 (by omega) (by omega) 1 6 (by omega) (by omega) (nI 0) (nI 999999)) (cwV 4 hts gX12_readRule_X12_digits rfl rfl rfl (by decide +kernel) ⟨Nat.le_of_ble_eq_true rfl, Nat.le_of_ble_eq_true rfl⟩) ⟨zQc_bl, zRecv hH (zk_30 hF) rfl, zQc_at hz hS hA hH⟩ rfl rfl hl.1 rfl (lv_room (Nat.le_of_ble_eq_true rfl)) dX12_readRule_173 ⟨Nat.le_of_ble_eq_true rfl, Nat.le_of_ble_eq_true rfl⟩) hS (fun q _ h => h) (fun q h => h) (fun r287 u9 t9 H1 locs ht9 hvm9 hw hB hz1 hk1 hS => ?_)
          have hH := zMv ht9 hvm9 hB
          clear hB
          generalize u9 = f288 at hw hH
          generalize H1 = H at hH hS ⊢
          obtain ⟨-, ⟨c289, hc290, hc291, q292, hx293⟩, hf294⟩ := hw
          rw [(funext (fun k9 => by rw [ef280, zu_n (by omega), hf272 47 k9 (by omega), hf227 47 k9 (by omega), hf181 47 k9 (by omega), hf111 47 k9 (by omega)]) : f280 47 = fi 47)] at hx293
          have q295 : f288 30 22 = nI L := by rw [hf294 30 22 (by omega)]; exact q281
          have q296 : f288 30 2 = nI n := by rw [hf294 30 2 (by omega)]; exact q282
          have hMt := zMt.ci (fi' := f288) hMt (fun i9 k9 h9 => hf294 i9 k9 (by omega))
          have hMd := zMd.ci (fi' := f288) hMd (fun i9 k9 h9 => hf294 i9 k9 (by omega))
          rcases hx293 with ⟨v25, _, hnm, rfl, rfl, h25, h24d⟩ | ⟨hnm, rfl, h24d⟩
          · skip
            have q297 : f288 30 24 = w24 := h24d.trans q283
            refine lv_if_ne (tgt := 181) hx hb dX12_readRule_176 (by decide) (fun c298 => ?_) (fun c298 => absurd c298 (by decide))
            refine lv_aload_n hx hb dX12_readRule_181 rfl (lv_at hl 1 rfl) ?_
            refine zGetR (D := D) (ci := 12) (C := RX12) (T := TX12) (N := 71) hx hb hts hiX12 hown hH (zk_30 hF) rfl 18 (by decide) rfl hw7 (fun _ h9 => h9) dX12_readRule_182 (zr_30_18 hF) ?_
            refine lv_iload_n hx hb dX12_readRule_185 rfl (lv_at hl 0 rfl) ?_
            refine lv_aload_n hx hb dX12_readRule_186 rfl (lv_at hl 1 rfl) ?_
            refine zGetI (D := D) (ci := 12) (C := RX12) (T := TX12) (N := 71) hx hb hts hiX12 hown hH (zk_30 hF) rfl 25 (by decide) rfl hw3 (fun _ h9 => h9) dX12_readRule_187 h25 ?_
            refine zIastN (D := D) hx hb hH hS (zk_45 hF) (zn_45 hF) (by omega) (by omega) dX12_readRule_190 (fun H locs hH hS => ?_)
            obtain ⟨f299, ef299⟩ : ∃ f9 : zFi, f9 = zu f288 45 2 v25 := ⟨_, rfl⟩
            rw [← ef299] at hH
            have q300 : f299 30 22 = nI L := by rw [ef299, zu_n (fun h9 => absurd h9.1 (by decide))]; exact q295
            have q301 : f299 30 2 = nI n := by rw [ef299, zu_n (fun h9 => absurd h9.1 (by decide))]; exact q296
            have q302 : f299 30 23 = nI c289 := by rw [ef299, zu_n (fun h9 => absurd h9.1 (by decide))]; exact q292
            have q303 : f299 30 25 = v25 := by rw [ef299, zu_n (fun h9 => absurd h9.1 (by decide))]; exact h25
            have q304 : f299 30 24 = w24 := by rw [ef299, zu_n (fun h9 => absurd h9.1 (by decide))]; exact q297
            have q305 : f299 45 2 = v25 := by rw [ef299]; exact zu_s
            have hMt := zMt.ci (fi' := f299) hMt (fun i9 k9 h9 => by rw [ef299]; exact zu_n (by omega))
            have hMd := zMd.ci (fi' := f299) hMd (fun i9 k9 h9 => by rw [ef299]; exact zu_n (by omega))
            refine lv_iconst (v := nI 1) hx hb dX12_readRule_191 (by decide) ?_
            refine W.widen (k := 0) (n := 0) (by decide) (by decide) ?_
            exact W.zret (v := nI 1) hx hb hr (by decide) (fun t9 ht9 hW9 => ⟨⟨nI 1, f299, rfl, ⟨trivial, ⟨c289, by omega, by omega, q302, Or.inl ⟨(zS (fi 47) L c289, 2, v25), by simp only [zRul, zPlc, zKnd, hWplace, hWbehind, hWpost, hWfree, show zNum (fi 47) L 1 6 (nI 0) (zMost 2) (zS (fi 47) L c279) = some (v25, zS (fi 47) L c289) from hnm], rfl, rfl, q304.trans hw24.symm, by rw [zDmo_num (by omega) ef299, zDmo_cg (g := fi) (fun i k q => by rw [hf294 i k (by omega), ef280, zu_n (by omega), hf272 i k (by omega), hf227 i k (by omega), hf181 i k (by omega), hf111 i k (by omega)])]⟩⟩, hMd, fun a b h => by rw [ef299, zu_n (by omega), hf294 a b (by omega), ef280, zu_n (by omega), hf272 a b (by omega), hf227 a b (by omega), hf181 a b (by omega), hf111 a b (by omega)]⟩, zEnd1 hH ht9 hW9⟩, hS.F ht9⟩) hS.2.2 dX12_readRule_192
          · skip
            refine lv_if_ne (tgt := 181) hx hb dX12_readRule_176 (by decide) (fun c306 => absurd (by decide) c306) (fun c306 => ?_)
            refine lv_iconst (v := nI 0) hx hb dX12_readRule_179 (by decide) ?_
            refine W.widen (k := 0) (n := 0) (by decide) (by decide) ?_
            exact W.zret (v := nI 0) hx hb hr (by decide) (fun t9 ht9 hW9 => ⟨⟨nI 0, f288, rfl, ⟨trivial, ⟨c289, by omega, by omega, q292, Or.inr ⟨zS (fi 47) L c279, by have h9 := zS_le (b := fi 47) (n := L) (a := c279) (by omega); omega, by simp only [zRul, zPlc, zKnd, hWplace, hWbehind, hWpost, hWfree, show zNum (fi 47) L 1 6 (nI 0) (zMost 2) (zS (fi 47) L c279) = none from hnm], rfl, h24d⟩⟩, hMd, fun a b h => by rw [hf294 a b (by omega), ef280, zu_n (by omega), hf272 a b (by omega), hf227 a b (by omega), hf181 a b (by omega), hf111 a b (by omega)]⟩, zEnd1 hH ht9 hW9⟩, hS.F ht9⟩) hS.2.2 dX12_readRule_180
        · skip
          have hWfree : zWrd (fi 47) L [102, 114, 101, 101] (zS (fi 47) L a) = none := by rw [← hk264]; exact zOKw.no (by omega) zWs_free hok262
          refine lv_if_eq (tgt := 107) hx hb dX12_readRule_100 (by decide) (fun c307 => ?_) (fun c307 => absurd (by decide) c307)
          refine lv_aload_n hx hb dX12_readRule_107 rfl (lv_at hl 0 rfl) ?_
          refine lv_ldc2 (v := 1650549611) hx hb hown hw11 dX12_readRule_108 ?_
          refine va_calli (va_runV (As := [.long 1650549611]) (rest := []) ⟨hx, hb, hml, hown, hts⟩ (m_isWordX l hl0 D A sad τ f266 fr ol L c267 hF q273 q270 (by omega) (by omega) 1650549611) (cwV 1 hts gX12_readRule_X12_isWord rfl rfl rfl (by decide +kernel) ⟨Nat.le_of_ble_eq_true rfl, Nat.le_of_ble_eq_true rfl⟩) ⟨zQc_bl, zRecv hH (zk_30 hF) rfl, zQc_at hz hS hA hH⟩ rfl rfl hl.1 rfl (lv_room (Nat.le_of_ble_eq_true rfl)) dX12_readRule_111 ⟨Nat.le_of_ble_eq_true rfl, Nat.le_of_ble_eq_true rfl⟩) hS (fun q _ h => h) (fun q h => h) (fun r311 u9 t9 H1 locs ht9 hvm9 hw hB hz1 hk1 hS => ?_)
          have hH := zMv ht9 hvm9 hB
          clear hB
          generalize u9 = f312 at hw hH
          generalize H1 = H at hH hS ⊢
          obtain ⟨-, ⟨c313, hc314, hc315, q316, hx317⟩, hf318⟩ := hw
          rw [(funext (fun k9 => by rw [hf272 47 k9 (by omega), hf227 47 k9 (by omega), hf181 47 k9 (by omega), hf111 47 k9 (by omega)]) : f266 47 = fi 47)] at hx317
          have q319 : f312 30 22 = nI L := by rw [hf318 30 22 (by omega)]; exact q273
          have q320 : f312 30 2 = nI n := by rw [hf318 30 2 (by omega)]; exact q274
          have q321 : f312 30 24 = w24 := by rw [hf318 30 24 (by omega)]; exact q275
          have hMt := zMt.ci (fi' := f312) hMt (fun i9 k9 h9 => hf318 i9 k9 (by omega))
          have hMd := zMd.ci (fi' := f312) hMd (fun i9 k9 h9 => hf318 i9 k9 (by omega))
          obtain ⟨hcz309, hok308⟩ := hx317
          have hk310 : c313 = zS (fi 47) L a := by rw [hcz309, hk264]; exact zS_idem haL
          rcases hok308 with ⟨rfl, hok308⟩ | ⟨rfl, hok308⟩
          · skip
            refine lv_if_eq (tgt := 121) hx hb dX12_readRule_114 (by decide) (fun c322 => absurd c322 (by decide)) (fun c322 => ?_)
            refine lv_iconst (v := nI 3) hx hb dX12_readRule_117 (by decide) ?_
            refine lv_goto (tgt := 122) hx hb dX12_readRule_118 (by decide) ?_
            refine lv_istore_n (lv' := [(1, .int (nI 3)), (0, .ref (τ.1 30))]) hx hb dX12_readRule_122 rfl hl (by decide) rfl (fun ls hl => ?_)
            refine lv_iload_n hx hb dX12_readRule_123 rfl (lv_at hl 0 rfl) ?_
            refine lv_iconst (v := (-1)) hx hb dX12_readRule_124 (by decide) ?_
            refine lv_icmp_ne (tgt := 137) hx hb dX12_readRule_125 (by decide) (fun c323 => ?_) (fun c323 => absurd c323 (by decide))
            refine lv_aload_n hx hb dX12_readRule_137 rfl (lv_at hl 1 rfl) ?_
            refine lv_aload_n hx hb dX12_readRule_138 rfl (lv_at hl 1 rfl) ?_
            refine va_calli (va_runV (As := []) (rest := [.ref (τ.1 30)]) ⟨hx, hb, hml, hown, hts⟩ (m_wordEndX l hl0 D A sad τ f312 fr ol L c313 hF q319 q316 (by omega) (by omega)) (cwV 0 hts gX12_readRule_X12_wordEnd rfl rfl rfl (by decide +kernel) ⟨Nat.le_of_ble_eq_true rfl, Nat.le_of_ble_eq_true rfl⟩) ⟨zQc_bl, zRecv hH (zk_30 hF) rfl, zQc_at hz hS hA hH⟩ rfl rfl hl.1 rfl (lv_room (Nat.le_of_ble_eq_true rfl)) dX12_readRule_139 ⟨Nat.le_of_ble_eq_true rfl, Nat.le_of_ble_eq_true rfl⟩) hS (fun q _ h => h) (fun q h => h) (fun r324 u9 t9 H1 locs ht9 hvm9 hw hB hz1 hk1 hS => ?_)
            have hH := zMv ht9 hvm9 hB
            generalize H1 = H at hH hS ⊢
            obtain ⟨c325, h1c325, h2c325, rfl, hwe⟩ := hw
            rw [(funext (fun k9 => by rw [hf318 47 k9 (by omega), hf272 47 k9 (by omega), hf227 47 k9 (by omega), hf181 47 k9 (by omega), hf111 47 k9 (by omega)]) : f312 47 = fi 47)] at hwe
            have hWback : zWrd (fi 47) L [98, 97, 99, 107] (zS (fi 47) L a) = some (zS (fi 47) L c325) := hok308.yesE zWs_back hwe (by omega) hk310
            refine zPutI (D := D) (ci := 12) (ty := .int) (C := RX12) (T := TX12) (N := 71) hx hb hts hiX12 tyX12 tyX12_ok nmX12 hown hH hS (zk_30 hF) rfl 23 (by decide) rfl hw1 (fun _ h9 => h9) rfl (by decide +kernel) rfl rfl dX12_readRule_142 (fun H locs hH hS => ?_)
            obtain ⟨f326, ef326⟩ : ∃ f9 : zFi, f9 = zu f312 30 23 (nI c325) := ⟨_, rfl⟩
            rw [← ef326] at hH
            have q327 : f326 30 22 = nI L := by rw [ef326, zu_n (fun h9 => absurd h9.2 (by decide))]; exact q319
            have q328 : f326 30 2 = nI n := by rw [ef326, zu_n (fun h9 => absurd h9.2 (by decide))]; exact q320
            have q329 : f326 30 24 = w24 := by rw [ef326, zu_n (fun h9 => absurd h9.2 (by decide))]; exact q321
            have q330 : f326 30 23 = nI c325 := by rw [ef326]; exact zu_s
            have hMt := zMt.ci (fi' := f326) hMt (fun i9 k9 h9 => by rw [ef326]; exact zu_n (by omega))
            have hMd := zMd.ci (fi' := f326) hMd (fun i9 k9 h9 => by rw [ef326]; exact zu_n (by omega))
            refine lv_aload_n hx hb dX12_readRule_145 rfl (lv_at hl 1 rfl) ?_
            refine lv_iconst (v := nI 1) hx hb dX12_readRule_146 (by decide) ?_
            refine lv_bipush (v := nI 6) hx hb dX12_readRule_147 (by decide) ?_
            refine lv_iconst (v := nI 0) hx hb dX12_readRule_149 (by decide) ?_
            refine lv_iload_n hx hb dX12_readRule_150 rfl (lv_at hl 0 rfl) ?_
            refine lv_iconst (v := nI 1) hx hb dX12_readRule_151 (by decide) ?_
            refine lv_icmp_ne (tgt := 161) hx hb dX12_readRule_152 (by decide) (fun c331 => ?_) (fun c331 => absurd c331 (by decide))
            refine lv_iload_n hx hb dX12_readRule_161 rfl (lv_at hl 0 rfl) ?_
            refine lv_iconst (v := nI 2) hx hb dX12_readRule_162 (by decide) ?_
            refine lv_icmp_ne (tgt := 171) hx hb dX12_readRule_163 (by decide) (fun c332 => ?_) (fun c332 => absurd c332 (by decide))
            refine lv_bipush (v := nI 99) hx hb dX12_readRule_171 (by decide) ?_
            refine va_calli (va_runV (As := [.int (nI 1), .int (nI 6), .int (nI 0), .int (nI 99)]) (rest := []) ⟨hx, hb, hml, hown, hts⟩ (m_digitsX l hl0 D A sad τ f326 fr ol L c325 hF q327 q330 (by omega) (by omega) 1 6 (by omega) (by omega) (nI 0) (nI 99)) (cwV 4 hts gX12_readRule_X12_digits rfl rfl rfl (by decide +kernel) ⟨Nat.le_of_ble_eq_true rfl, Nat.le_of_ble_eq_true rfl⟩) ⟨zQc_bl, zRecv hH (zk_30 hF) rfl, zQc_at hz hS hA hH⟩ rfl rfl hl.1 rfl (lv_room (Nat.le_of_ble_eq_true rfl)) dX12_readRule_173 ⟨Nat.le_of_ble_eq_true rfl, Nat.le_of_ble_eq_true rfl⟩) hS (fun q _ h => h) (fun q h => h) (fun r333 u9 t9 H1 locs ht9 hvm9 hw hB hz1 hk1 hS => ?_)
            have hH := zMv ht9 hvm9 hB
            clear hB
            generalize u9 = f334 at hw hH
            generalize H1 = H at hH hS ⊢
            obtain ⟨-, ⟨c335, hc336, hc337, q338, hx339⟩, hf340⟩ := hw
            rw [(funext (fun k9 => by rw [ef326, zu_n (by omega), hf318 47 k9 (by omega), hf272 47 k9 (by omega), hf227 47 k9 (by omega), hf181 47 k9 (by omega), hf111 47 k9 (by omega)]) : f326 47 = fi 47)] at hx339
            have q341 : f334 30 22 = nI L := by rw [hf340 30 22 (by omega)]; exact q327
            have q342 : f334 30 2 = nI n := by rw [hf340 30 2 (by omega)]; exact q328
            have hMt := zMt.ci (fi' := f334) hMt (fun i9 k9 h9 => hf340 i9 k9 (by omega))
            have hMd := zMd.ci (fi' := f334) hMd (fun i9 k9 h9 => hf340 i9 k9 (by omega))
            rcases hx339 with ⟨v25, _, hnm, rfl, rfl, h25, h24d⟩ | ⟨hnm, rfl, h24d⟩
            · skip
              have q343 : f334 30 24 = w24 := h24d.trans q329
              refine lv_if_ne (tgt := 181) hx hb dX12_readRule_176 (by decide) (fun c344 => ?_) (fun c344 => absurd c344 (by decide))
              refine lv_aload_n hx hb dX12_readRule_181 rfl (lv_at hl 1 rfl) ?_
              refine zGetR (D := D) (ci := 12) (C := RX12) (T := TX12) (N := 71) hx hb hts hiX12 hown hH (zk_30 hF) rfl 18 (by decide) rfl hw7 (fun _ h9 => h9) dX12_readRule_182 (zr_30_18 hF) ?_
              refine lv_iload_n hx hb dX12_readRule_185 rfl (lv_at hl 0 rfl) ?_
              refine lv_aload_n hx hb dX12_readRule_186 rfl (lv_at hl 1 rfl) ?_
              refine zGetI (D := D) (ci := 12) (C := RX12) (T := TX12) (N := 71) hx hb hts hiX12 hown hH (zk_30 hF) rfl 25 (by decide) rfl hw3 (fun _ h9 => h9) dX12_readRule_187 h25 ?_
              refine zIastN (D := D) hx hb hH hS (zk_45 hF) (zn_45 hF) (by omega) (by omega) dX12_readRule_190 (fun H locs hH hS => ?_)
              obtain ⟨f345, ef345⟩ : ∃ f9 : zFi, f9 = zu f334 45 3 v25 := ⟨_, rfl⟩
              rw [← ef345] at hH
              have q346 : f345 30 22 = nI L := by rw [ef345, zu_n (fun h9 => absurd h9.1 (by decide))]; exact q341
              have q347 : f345 30 2 = nI n := by rw [ef345, zu_n (fun h9 => absurd h9.1 (by decide))]; exact q342
              have q348 : f345 30 23 = nI c335 := by rw [ef345, zu_n (fun h9 => absurd h9.1 (by decide))]; exact q338
              have q349 : f345 30 25 = v25 := by rw [ef345, zu_n (fun h9 => absurd h9.1 (by decide))]; exact h25
              have q350 : f345 30 24 = w24 := by rw [ef345, zu_n (fun h9 => absurd h9.1 (by decide))]; exact q343
              have q351 : f345 45 3 = v25 := by rw [ef345]; exact zu_s
              have hMt := zMt.ci (fi' := f345) hMt (fun i9 k9 h9 => by rw [ef345]; exact zu_n (by omega))
              have hMd := zMd.ci (fi' := f345) hMd (fun i9 k9 h9 => by rw [ef345]; exact zu_n (by omega))
              refine lv_iconst (v := nI 1) hx hb dX12_readRule_191 (by decide) ?_
              refine W.widen (k := 0) (n := 0) (by decide) (by decide) ?_
              exact W.zret (v := nI 1) hx hb hr (by decide) (fun t9 ht9 hW9 => ⟨⟨nI 1, f345, rfl, ⟨trivial, ⟨c335, by omega, by omega, q348, Or.inl ⟨(zS (fi 47) L c335, 3, v25), by simp only [zRul, zPlc, zKnd, hWplace, hWbehind, hWpost, hWfree, hWback, show zNum (fi 47) L 1 6 (nI 0) (zMost 3) (zS (fi 47) L c325) = some (v25, zS (fi 47) L c335) from hnm], rfl, rfl, q350.trans hw24.symm, by rw [zDmo_num (by omega) ef345, zDmo_cg (g := fi) (fun i k q => by rw [hf340 i k (by omega), ef326, zu_n (by omega), hf318 i k (by omega), hf272 i k (by omega), hf227 i k (by omega), hf181 i k (by omega), hf111 i k (by omega)])]⟩⟩, hMd, fun a b h => by rw [ef345, zu_n (by omega), hf340 a b (by omega), ef326, zu_n (by omega), hf318 a b (by omega), hf272 a b (by omega), hf227 a b (by omega), hf181 a b (by omega), hf111 a b (by omega)]⟩, zEnd1 hH ht9 hW9⟩, hS.F ht9⟩) hS.2.2 dX12_readRule_192
            · skip
              refine lv_if_ne (tgt := 181) hx hb dX12_readRule_176 (by decide) (fun c352 => absurd (by decide) c352) (fun c352 => ?_)
              refine lv_iconst (v := nI 0) hx hb dX12_readRule_179 (by decide) ?_
              refine W.widen (k := 0) (n := 0) (by decide) (by decide) ?_
              exact W.zret (v := nI 0) hx hb hr (by decide) (fun t9 ht9 hW9 => ⟨⟨nI 0, f334, rfl, ⟨trivial, ⟨c335, by omega, by omega, q338, Or.inr ⟨zS (fi 47) L c325, by have h9 := zS_le (b := fi 47) (n := L) (a := c325) (by omega); omega, by simp only [zRul, zPlc, zKnd, hWplace, hWbehind, hWpost, hWfree, hWback, show zNum (fi 47) L 1 6 (nI 0) (zMost 3) (zS (fi 47) L c325) = none from hnm], rfl, h24d⟩⟩, hMd, fun a b h => by rw [hf340 a b (by omega), ef326, zu_n (by omega), hf318 a b (by omega), hf272 a b (by omega), hf227 a b (by omega), hf181 a b (by omega), hf111 a b (by omega)]⟩, zEnd1 hH ht9 hW9⟩, hS.F ht9⟩) hS.2.2 dX12_readRule_180
          · skip
            have hWback : zWrd (fi 47) L [98, 97, 99, 107] (zS (fi 47) L a) = none := by rw [← hk310]; exact zOKw.no (by omega) zWs_back hok308
            refine lv_if_eq (tgt := 121) hx hb dX12_readRule_114 (by decide) (fun c353 => ?_) (fun c353 => absurd (by decide) c353)
            refine lv_iconst (v := (-1)) hx hb dX12_readRule_121 (by decide) ?_
            refine lv_istore_n (lv' := [(1, .int ((-1))), (0, .ref (τ.1 30))]) hx hb dX12_readRule_122 rfl hl (by decide) rfl (fun ls hl => ?_)
            refine lv_iload_n hx hb dX12_readRule_123 rfl (lv_at hl 0 rfl) ?_
            refine lv_iconst (v := (-1)) hx hb dX12_readRule_124 (by decide) ?_
            refine lv_icmp_ne (tgt := 137) hx hb dX12_readRule_125 (by decide) (fun c354 => absurd (by decide) c354) (fun c354 => ?_)
            refine lv_aload_n hx hb dX12_readRule_128 rfl (lv_at hl 1 rfl) ?_
            refine lv_aload_n hx hb dX12_readRule_129 rfl (lv_at hl 1 rfl) ?_
            refine zGetI (D := D) (ci := 12) (C := RX12) (T := TX12) (N := 71) hx hb hts hiX12 hown hH (zk_30 hF) rfl 23 (by decide) rfl hw1 (fun _ h9 => h9) dX12_readRule_130 q316 ?_
            refine va_calli (va_runV (As := [.int (nI c313)]) (rest := []) ⟨hx, hb, hml, hown, hts⟩ (m_wrongX l hl0 D A sad τ f312 fr ol (nI c313) hF) (cwV 1 hts gX12_readRule_X12_wrong rfl rfl rfl (by decide +kernel) ⟨Nat.le_of_ble_eq_true rfl, Nat.le_of_ble_eq_true rfl⟩) ⟨zQc_bl, zRecv hH (zk_30 hF) rfl, zQc_at hz hS hA hH⟩ rfl rfl hl.1 rfl (lv_room (Nat.le_of_ble_eq_true rfl)) dX12_readRule_133 ⟨Nat.le_of_ble_eq_true rfl, Nat.le_of_ble_eq_true rfl⟩) hS (fun q _ h => h) (fun q h => h) (fun r355 u9 t9 H1 locs ht9 hvm9 hw hB hz1 hk1 hS => ?_)
            have hH := zMv ht9 hvm9 hB
            clear hB
            generalize u9 = f356 at hw hH
            generalize H1 = H at hH hS ⊢
            obtain ⟨rfl, ef356⟩ := hw
            have q357 : f356 30 22 = nI L := by rw [ef356, zu_n (fun h9 => absurd h9.2 (by decide))]; exact q319
            have q358 : f356 30 2 = nI n := by rw [ef356, zu_n (fun h9 => absurd h9.2 (by decide))]; exact q320
            have q359 : f356 30 23 = nI c313 := by rw [ef356, zu_n (fun h9 => absurd h9.2 (by decide))]; exact q316
            have q360 : f356 30 24 = nI c313 := by rw [ef356]; exact zu_s
            have hMt := zMt.ci (fi' := f356) hMt (fun i9 k9 h9 => by rw [ef356]; exact zu_n (by omega))
            have hMd := zMd.ci (fi' := f356) hMd (fun i9 k9 h9 => by rw [ef356]; exact zu_n (by omega))
            refine W.widen (k := 0) (n := 0) (by decide) (by decide) ?_
            exact W.zret (v := 0) hx hb hr (by decide) (fun t9 ht9 hW9 => ⟨⟨0, f356, rfl, ⟨trivial, ⟨c313, by omega, by omega, q359, Or.inr ⟨zS (fi 47) L a, by have h9 := zS_le (b := fi 47) haL; omega, by simp only [zRul, zPlc, zKnd, hWplace, hWbehind, hWpost, hWfree, hWback], rfl, by rw [ef356, zu_s, hk310]⟩⟩, hMd, fun a b h => by rw [ef356, zu_n (by omega), hf318 a b (by omega), hf272 a b (by omega), hf227 a b (by omega), hf181 a b (by omega), hf111 a b (by omega)]⟩, zEnd1 hH ht9 hW9⟩, hS.F ht9⟩) hS.2.2 dX12_readRule_136
set_option maxHeartbeats 4000000 in
set_option maxRecDepth 100000 in
/-- beginText -/
theorem m_beginX (l : Launch) (hl0 : l.stackTraces = false) (D : va_G) (A : Nat → Prop) (sad : Nat → Nat) (τ : zTy) (fi : zFi) (fr : zFr) (ol : Int64) (L : Nat) (hF : zFix τ fr) (hn : fi 30 21 = nI L) : Met l yX12_beginText wsX12_beginText ({ frames := 0, cells := 0, slots := 0, locals := 0 }) (va_Pc [.ref (τ.1 30)] (zQc D A sad τ fi fr ol)) (va_Qv (fun (u : zFi) => u 30 21 = nI 0 ∧ u 30 22 = nI L ∧ u 30 23 = nI 0 ∧ u 30 24 = -1 ∧ ∀ a b, ¬ (a = 30 ∧ 21 ≤ b ∧ b ≤ 24) → u a b = fi a b) (fun (u : zFi) (t : State) => zH D A τ u fr ol t t.heap) A) 0 0 A := by
  refine Met.ofW (cc := cX12_beginText) (maxL := 1) (ret := none) (by decide) rfl ?_
  intro p9 e9 s m args below meth c9 s₁ B hml hv
  obtain ⟨rfl, hz, hH, hA⟩ := hv
  have hx := B.exec
  have hb := B.bytes
  have hr := B.returns
  have hts := atoms_spec (ws := wsX12_beginText) B.pre
  have hown : s.vm.findClass RX12 = some m.cls := findClass_of_methodNamed B.named
  have hlocks := B.notSynchronized
  have hS : va_S A s.heap s.heap [] := va_S.rf
  have hl := lv_entry ([.ref (τ.1 30)]) (n := 1) (Nat.le_of_ble_eq_true rfl)
  rw [lg_entry_eq]
  generalize (lg_sl ([.ref (τ.1 30)]) ++ List.replicate (1 - (lg_sl ([.ref (τ.1 30)])).length) Slot.unset).toArray = ls at hl ⊢
  have hl : lv_has ls 1 [(0, .ref (τ.1 30))] := hl
  have hiX12 : ∀ w ∈ u_ws RX12 TX12 71, w ∈ wsX12_beginText := fun _ h => List.mem_cons_of_mem _ (List.mem_append_right _ h)
  have hw1 := hts (.fieldLink RX12 178 "PostHouseModel" "taped" "I") (by decide +kernel)
  have hw2 := hts (.fieldLink RX12 209 "PostHouseModel" "end" "I") (by decide +kernel)
  have hw3 := hts (.fieldLink RX12 206 "PostHouseModel" "at" "I") (by decide +kernel)
  have hw4 := hts (.fieldLink RX12 61 "PostHouseModel" "fault" "I") (by decide +kernel)
  refine lv_aload_n hx hb dX12_beginText_0 rfl (lv_at hl 0 rfl) ?_
  refine lv_aload_n hx hb dX12_beginText_1 rfl (lv_at hl 0 rfl) ?_
  refine zGetI (D := D) (ci := 12) (C := RX12) (T := TX12) (N := 71) hx hb hts hiX12 hown hH (zk_30 hF) rfl 21 (by decide) rfl hw1 (fun _ h9 => h9) dX12_beginText_2 hn ?_
  refine zPutI (D := D) (ci := 12) (ty := .int) (C := RX12) (T := TX12) (N := 71) hx hb hts hiX12 tyX12 tyX12_ok nmX12 hown hH hS (zk_30 hF) rfl 22 (by decide) rfl hw2 (fun _ h9 => h9) rfl (by decide +kernel) rfl rfl dX12_beginText_5 (fun H locs hH hS => ?_)
  obtain ⟨f101, ef101⟩ : ∃ f9 : zFi, f9 = zu fi 30 22 (nI L) := ⟨_, rfl⟩
  rw [← ef101] at hH
  have q102 : f101 30 21 = nI L := by rw [ef101, zu_n (fun h9 => absurd h9.2 (by decide))]; exact hn
  have q103 : f101 30 22 = nI L := by rw [ef101]; exact zu_s
  refine lv_aload_n hx hb dX12_beginText_8 rfl (lv_at hl 0 rfl) ?_
  refine lv_iconst (v := nI 0) hx hb dX12_beginText_9 (by decide) ?_
  refine zPutI (D := D) (ci := 12) (ty := .int) (C := RX12) (T := TX12) (N := 71) hx hb hts hiX12 tyX12 tyX12_ok nmX12 hown hH hS (zk_30 hF) rfl 21 (by decide) rfl hw1 (fun _ h9 => h9) rfl (by decide +kernel) rfl rfl dX12_beginText_10 (fun H locs hH hS => ?_)
  obtain ⟨f104, ef104⟩ : ∃ f9 : zFi, f9 = zu f101 30 21 (nI 0) := ⟨_, rfl⟩
  rw [← ef104] at hH
  have q105 : f104 30 22 = nI L := by rw [ef104, zu_n (fun h9 => absurd h9.2 (by decide))]; exact q103
  have q106 : f104 30 21 = nI 0 := by rw [ef104]; exact zu_s
  refine lv_aload_n hx hb dX12_beginText_13 rfl (lv_at hl 0 rfl) ?_
  refine lv_iconst (v := nI 0) hx hb dX12_beginText_14 (by decide) ?_
  refine zPutI (D := D) (ci := 12) (ty := .int) (C := RX12) (T := TX12) (N := 71) hx hb hts hiX12 tyX12 tyX12_ok nmX12 hown hH hS (zk_30 hF) rfl 23 (by decide) rfl hw3 (fun _ h9 => h9) rfl (by decide +kernel) rfl rfl dX12_beginText_15 (fun H locs hH hS => ?_)
  obtain ⟨f107, ef107⟩ : ∃ f9 : zFi, f9 = zu f104 30 23 (nI 0) := ⟨_, rfl⟩
  rw [← ef107] at hH
  have q108 : f107 30 22 = nI L := by rw [ef107, zu_n (fun h9 => absurd h9.2 (by decide))]; exact q105
  have q109 : f107 30 21 = nI 0 := by rw [ef107, zu_n (fun h9 => absurd h9.2 (by decide))]; exact q106
  have q110 : f107 30 23 = nI 0 := by rw [ef107]; exact zu_s
  refine lv_aload_n hx hb dX12_beginText_18 rfl (lv_at hl 0 rfl) ?_
  refine lv_iconst (v := (-1)) hx hb dX12_beginText_19 (by decide) ?_
  refine zPutI (D := D) (ci := 12) (ty := .int) (C := RX12) (T := TX12) (N := 71) hx hb hts hiX12 tyX12 tyX12_ok nmX12 hown hH hS (zk_30 hF) rfl 24 (by decide) rfl hw4 (fun _ h9 => h9) rfl (by decide +kernel) rfl rfl dX12_beginText_20 (fun H locs hH hS => ?_)
  obtain ⟨f111, ef111⟩ : ∃ f9 : zFi, f9 = zu f107 30 24 ((-1)) := ⟨_, rfl⟩
  rw [← ef111] at hH
  have q112 : f111 30 22 = nI L := by rw [ef111, zu_n (fun h9 => absurd h9.2 (by decide))]; exact q108
  have q113 : f111 30 21 = nI 0 := by rw [ef111, zu_n (fun h9 => absurd h9.2 (by decide))]; exact q109
  have q114 : f111 30 23 = nI 0 := by rw [ef111, zu_n (fun h9 => absurd h9.2 (by decide))]; exact q110
  have q115 : f111 30 24 = (-1) := by rw [ef111]; exact zu_s
  refine W.widen (k := 0) (n := 0) (by decide) (by decide) ?_
  exact W.vret hx hb hr (fun t9 ht9 hW9 => ⟨⟨f111, rfl, ⟨q113, q112, q114, q115, fun a b h => by rw [ef111, zu_n (by omega), ef107, zu_n (by omega), ef104, zu_n (by omega), ef101, zu_n (by omega)]⟩, zEnd1 hH ht9 hW9⟩, hS.F ht9⟩) hS.2.2 dX12_beginText_23
set_option maxHeartbeats 4000000 in
set_option maxRecDepth 100000 in
/-- rules -/
theorem m_rulesX (l : Launch) (hl0 : l.stackTraces = false) (D : va_G) (A : Nat → Prop) (sad : Nat → Nat) (τ : zTy) (fi : zFi) (fr : zFr) (ol : Int64) (L : Nat) (hF : zFix τ fr) (hn : fi 30 21 = nI L) (hL4 : L ≤ 400) (n : Nat) (hMt : zMt fi n) (hMx : zMx fi n) (hB0 : ∀ j, j < L → 0 ≤ (fi 47 j).toInt) : Met l yX12_rules wsX12_rules ({ frames := 4, cells := 0, slots := 0, locals := 93 }) (va_Pc [.ref (τ.1 30)] (zQc D A sad τ fi fr ol)) (va_Qi (fun (r : Int32) (u : zFi) => ((∃ m D9, zRls (fi 47) L (fi 31) n 401 (zS (fi 47) L 0) (zDot fi) 0 = .ok (m, D9) ∧ r = nI m ∧ u 30 0 = nI 0 ∧ u 30 24 = -1 ∧ (∀ k, k < 4 + n → zDot u k = D9 k) ∧ ∀ k, 4 + n ≤ k → zDot u k = zDot fi k) ∨ (∃ p, p ≤ 400 ∧ zRls (fi 47) L (fi 31) n 401 (zS (fi 47) L 0) (zDot fi) 0 = .error p ∧ r = nI 0 ∧ u 30 0 = nI 1 ∧ u 30 24 = nI p ∧ zDot u = zDot fi)) ∧ u 30 21 = nI 0 ∧ zMx u n ∧ ∀ a b, ¬ (a = 40 ∨ a = 44 ∨ a = 45 ∨ a = 46 ∨ (a = 30 ∧ (b = 0 ∨ (21 ≤ b ∧ b ≤ 25)))) → u a b = fi a b) (fun (u : zFi) (t : State) => zH D A τ u fr ol t t.heap) A) 0 0 A := by
  refine Met.ofW (cc := cX12_rules) (maxL := 5) (ret := (some .int)) (by decide) rfl ?_
  intro p9 e9 s m args below meth c9 s₁ B hml hv
  obtain ⟨rfl, hz, hH, hA⟩ := hv
  have hx := B.exec
  have hb := B.bytes
  have hr := B.returns
  have hts := atoms_spec (ws := wsX12_rules) B.pre
  have hown : s.vm.findClass RX12 = some m.cls := findClass_of_methodNamed B.named
  have hlocks := B.notSynchronized
  have hS : va_S A s.heap s.heap [] := va_S.rf
  have hl := lv_entry ([.ref (τ.1 30)]) (n := 5) (Nat.le_of_ble_eq_true rfl)
  rw [lg_entry_eq]
  generalize (lg_sl ([.ref (τ.1 30)]) ++ List.replicate (5 - (lg_sl ([.ref (τ.1 30)])).length) Slot.unset).toArray = ls at hl ⊢
  have hl : lv_has ls 5 [(0, .ref (τ.1 30))] := hl
  have hm30 := hMt.1
  have hMt0 := hMt
  have hMx0 := hMx
  obtain ⟨r0, hr0⟩ : ∃ w, fi 44 0 = w := ⟨_, rfl⟩
  obtain ⟨r1, hr1⟩ : ∃ w, fi 44 1 = w := ⟨_, rfl⟩
  obtain ⟨r2, hr2⟩ : ∃ w, fi 44 2 = w := ⟨_, rfl⟩
  obtain ⟨r3, hr3⟩ : ∃ w, fi 44 3 = w := ⟨_, rfl⟩
  have hw0 := hts (.fieldLink RX12 165 "PostHouseModel" "thrown" "I") (by decide +kernel)
  have hiX12 : ∀ w ∈ u_ws RX12 TX12 71, w ∈ wsX12_rules := fun _ h => List.mem_cons_of_mem _ (List.mem_append_right _ h)
  have hw2 := hts (.fieldLink RX12 52 "PostHouseModel" "draft" "[I") (by decide +kernel)
  have hw3 := hts (.fieldLink RX12 49 "PostHouseModel" "rule" "[I") (by decide +kernel)
  have hw4 := hts (.fieldLink RX12 168 "PostHouseModel" "things" "I") (by decide +kernel)
  have hw5 := hts (.fieldLink RX12 37 "PostHouseModel" "other" "[I") (by decide +kernel)
  have hw6 := hts (.fieldLink RX12 55 "PostHouseModel" "draftOther" "[I") (by decide +kernel)
  have hw7 := hts (.fieldLink RX12 206 "PostHouseModel" "at" "I") (by decide +kernel)
  refine lv_aload_n hx hb dX12_rules_0 rfl (lv_at hl 0 rfl) ?_
  refine va_callv (va_runV (As := []) (rest := []) ⟨hx, hb, hml, hown, hts⟩ (m_beginX l hl0 D A sad τ fi fr ol L hF hn) (cwV 0 hts gX12_rules_X12_beginText rfl rfl rfl (by decide +kernel) ⟨Nat.le_of_ble_eq_true rfl, Nat.le_of_ble_eq_true rfl⟩) ⟨zQc_bl, zRecv hH (zk_30 hF) rfl, zQc_at hz hS hA hH⟩ rfl rfl hl.1 rfl (lv_room (Nat.le_of_ble_eq_true rfl)) dX12_rules_1 ⟨Nat.le_of_ble_eq_true rfl, Nat.le_of_ble_eq_true rfl⟩) hS (fun q _ h => h) (fun q h => h) (fun u9 t9 H1 locs ht9 hvm9 hw hB hz1 hk1 hS => ?_)
  have hH := zMv ht9 hvm9 hB
  clear hB
  generalize u9 = f102 at hw hH
  generalize H1 = H at hH hS ⊢
  obtain ⟨q21, q22, q23, q24, hf21⟩ := hw
  have q103 : f102 44 0 = r0 := by rw [hf21 44 0 (by omega)]; exact hr0
  have q104 : f102 44 1 = r1 := by rw [hf21 44 1 (by omega)]; exact hr1
  have q105 : f102 44 2 = r2 := by rw [hf21 44 2 (by omega)]; exact hr2
  have q106 : f102 44 3 = r3 := by rw [hf21 44 3 (by omega)]; exact hr3
  have q107 : f102 30 2 = nI n := by rw [hf21 30 2 (by omega)]; exact hMt.2.1
  have hMt := zMt.ci (fi' := f102) hMt (fun i9 k9 h9 => hf21 i9 k9 (by omega))
  have hMx := zMx.ci (fi' := f102) hMx (fun i9 k9 h9 => hf21 i9 k9 (by omega))
  refine lv_aload_n hx hb dX12_rules_4 rfl (lv_at hl 0 rfl) ?_
  refine lv_iconst (v := nI 0) hx hb dX12_rules_5 (by decide) ?_
  refine zPutI (D := D) (ci := 12) (ty := .int) (C := RX12) (T := TX12) (N := 71) hx hb hts hiX12 tyX12 tyX12_ok nmX12 hown hH hS (zk_30 hF) rfl 0 (by decide) rfl hw0 (fun _ h9 => h9) rfl (by decide +kernel) rfl rfl dX12_rules_6 (fun H locs hH hS => ?_)
  obtain ⟨f108, ef108⟩ : ∃ f9 : zFi, f9 = zu f102 30 0 (nI 0) := ⟨_, rfl⟩
  rw [← ef108] at hH
  have q109 : f108 44 0 = r0 := by rw [ef108, zu_n (fun h9 => absurd h9.1 (by decide))]; exact q103
  have q110 : f108 44 1 = r1 := by rw [ef108, zu_n (fun h9 => absurd h9.1 (by decide))]; exact q104
  have q111 : f108 44 2 = r2 := by rw [ef108, zu_n (fun h9 => absurd h9.1 (by decide))]; exact q105
  have q112 : f108 44 3 = r3 := by rw [ef108, zu_n (fun h9 => absurd h9.1 (by decide))]; exact q106
  have q113 : f108 30 2 = nI n := by rw [ef108, zu_n (fun h9 => absurd h9.2 (by decide))]; exact q107
  have q114 : f108 30 21 = nI 0 := by rw [ef108, zu_n (fun h9 => absurd h9.2 (by decide))]; exact q21
  have q115 : f108 30 22 = nI L := by rw [ef108, zu_n (fun h9 => absurd h9.2 (by decide))]; exact q22
  have q116 : f108 30 23 = nI 0 := by rw [ef108, zu_n (fun h9 => absurd h9.2 (by decide))]; exact q23
  have q117 : f108 30 24 = (-1) := by rw [ef108, zu_n (fun h9 => absurd h9.2 (by decide))]; exact q24
  have q118 : f108 30 0 = nI 0 := by rw [ef108]; exact zu_s
  have hMt := zMt.ci (fi' := f108) hMt (fun i9 k9 h9 => by rw [ef108]; exact zu_n (by omega))
  have hMx := zMx.ci (fi' := f108) hMx (fun i9 k9 h9 => by rw [ef108]; exact zu_n (by omega))
  refine lv_iconst (v := nI 0) hx hb dX12_rules_9 (by decide) ?_
  refine lv_istore_n (lv' := [(1, .int (nI 0)), (0, .ref (τ.1 30))]) hx hb dX12_rules_10 rfl hl (by decide) rfl (fun ls hl => ?_)
  refine lv_iload_n hx hb dX12_rules_11 rfl (lv_at hl 0 rfl) ?_
  refine lv_iconst (v := nI 4) hx hb dX12_rules_12 (by decide) ?_
  refine lv_icmp_ge (tgt := 34) hx hb dX12_rules_13 (by decide) (fun c119 => absurd c119 (by decide)) (fun c119 => ?_)
  refine lv_aload_n hx hb dX12_rules_16 rfl (lv_at hl 1 rfl) ?_
  refine zGetR (D := D) (ci := 12) (C := RX12) (T := TX12) (N := 71) hx hb hts hiX12 hown hH (zk_30 hF) rfl 18 (by decide) rfl hw2 (fun _ h9 => h9) dX12_rules_17 (zr_30_18 hF) ?_
  refine lv_iload_n hx hb dX12_rules_20 rfl (lv_at hl 0 rfl) ?_
  refine lv_aload_n hx hb dX12_rules_21 rfl (lv_at hl 1 rfl) ?_
  refine zGetR (D := D) (ci := 12) (C := RX12) (T := TX12) (N := 71) hx hb hts hiX12 hown hH (zk_30 hF) rfl 17 (by decide) rfl hw3 (fun _ h9 => h9) dX12_rules_22 (zr_30_17 hF) ?_
  refine lv_iload_n hx hb dX12_rules_25 rfl (lv_at hl 0 rfl) ?_
  refine zIaldN (D := D) hx hb hH (zk_44 hF) (zn_44 hF) (by omega) (by omega) q109 dX12_rules_26 ?_
  refine zIastN (D := D) hx hb hH hS (zk_45 hF) (zn_45 hF) (by omega) (by omega) dX12_rules_27 (fun H locs hH hS => ?_)
  obtain ⟨f120, ef120⟩ : ∃ f9 : zFi, f9 = zu f108 45 0 r0 := ⟨_, rfl⟩
  rw [← ef120] at hH
  have q121 : f120 44 0 = r0 := by rw [ef120, zu_n (fun h9 => absurd h9.1 (by decide))]; exact q109
  have q122 : f120 44 1 = r1 := by rw [ef120, zu_n (fun h9 => absurd h9.1 (by decide))]; exact q110
  have q123 : f120 44 2 = r2 := by rw [ef120, zu_n (fun h9 => absurd h9.1 (by decide))]; exact q111
  have q124 : f120 44 3 = r3 := by rw [ef120, zu_n (fun h9 => absurd h9.1 (by decide))]; exact q112
  have q125 : f120 30 2 = nI n := by rw [ef120, zu_n (fun h9 => absurd h9.1 (by decide))]; exact q113
  have q126 : f120 30 21 = nI 0 := by rw [ef120, zu_n (fun h9 => absurd h9.1 (by decide))]; exact q114
  have q127 : f120 30 22 = nI L := by rw [ef120, zu_n (fun h9 => absurd h9.1 (by decide))]; exact q115
  have q128 : f120 30 23 = nI 0 := by rw [ef120, zu_n (fun h9 => absurd h9.1 (by decide))]; exact q116
  have q129 : f120 30 24 = (-1) := by rw [ef120, zu_n (fun h9 => absurd h9.1 (by decide))]; exact q117
  have q130 : f120 30 0 = nI 0 := by rw [ef120, zu_n (fun h9 => absurd h9.1 (by decide))]; exact q118
  have q131 : f120 45 0 = r0 := by rw [ef120]; exact zu_s
  have hMt := zMt.ci (fi' := f120) hMt (fun i9 k9 h9 => by rw [ef120]; exact zu_n (by omega))
  have hMx := zMx.ci (fi' := f120) hMx (fun i9 k9 h9 => by rw [ef120]; exact zu_n (by omega))
  refine lv_iinc (v := nI 1) (lv' := [(1, .int (nI 1)), (0, .ref (τ.1 30))]) hx hb dX12_rules_28 hl (k := 0) rfl (by decide) (by decide) rfl (fun ls hl => ?_)
  refine lv_goto (tgt := 11) hx hb dX12_rules_31 (by decide) ?_
  refine lv_iload_n hx hb dX12_rules_11 rfl (lv_at hl 0 rfl) ?_
  refine lv_iconst (v := nI 4) hx hb dX12_rules_12 (by decide) ?_
  refine lv_icmp_ge (tgt := 34) hx hb dX12_rules_13 (by decide) (fun c132 => absurd c132 (by decide)) (fun c132 => ?_)
  refine lv_aload_n hx hb dX12_rules_16 rfl (lv_at hl 1 rfl) ?_
  refine zGetR (D := D) (ci := 12) (C := RX12) (T := TX12) (N := 71) hx hb hts hiX12 hown hH (zk_30 hF) rfl 18 (by decide) rfl hw2 (fun _ h9 => h9) dX12_rules_17 (zr_30_18 hF) ?_
  refine lv_iload_n hx hb dX12_rules_20 rfl (lv_at hl 0 rfl) ?_
  refine lv_aload_n hx hb dX12_rules_21 rfl (lv_at hl 1 rfl) ?_
  refine zGetR (D := D) (ci := 12) (C := RX12) (T := TX12) (N := 71) hx hb hts hiX12 hown hH (zk_30 hF) rfl 17 (by decide) rfl hw3 (fun _ h9 => h9) dX12_rules_22 (zr_30_17 hF) ?_
  refine lv_iload_n hx hb dX12_rules_25 rfl (lv_at hl 0 rfl) ?_
  refine zIaldN (D := D) hx hb hH (zk_44 hF) (zn_44 hF) (by omega) (by omega) q122 dX12_rules_26 ?_
  refine zIastN (D := D) hx hb hH hS (zk_45 hF) (zn_45 hF) (by omega) (by omega) dX12_rules_27 (fun H locs hH hS => ?_)
  obtain ⟨f133, ef133⟩ : ∃ f9 : zFi, f9 = zu f120 45 1 r1 := ⟨_, rfl⟩
  rw [← ef133] at hH
  have q134 : f133 44 0 = r0 := by rw [ef133, zu_n (fun h9 => absurd h9.1 (by decide))]; exact q121
  have q135 : f133 44 1 = r1 := by rw [ef133, zu_n (fun h9 => absurd h9.1 (by decide))]; exact q122
  have q136 : f133 44 2 = r2 := by rw [ef133, zu_n (fun h9 => absurd h9.1 (by decide))]; exact q123
  have q137 : f133 44 3 = r3 := by rw [ef133, zu_n (fun h9 => absurd h9.1 (by decide))]; exact q124
  have q138 : f133 30 2 = nI n := by rw [ef133, zu_n (fun h9 => absurd h9.1 (by decide))]; exact q125
  have q139 : f133 30 21 = nI 0 := by rw [ef133, zu_n (fun h9 => absurd h9.1 (by decide))]; exact q126
  have q140 : f133 30 22 = nI L := by rw [ef133, zu_n (fun h9 => absurd h9.1 (by decide))]; exact q127
  have q141 : f133 30 23 = nI 0 := by rw [ef133, zu_n (fun h9 => absurd h9.1 (by decide))]; exact q128
  have q142 : f133 30 24 = (-1) := by rw [ef133, zu_n (fun h9 => absurd h9.1 (by decide))]; exact q129
  have q143 : f133 30 0 = nI 0 := by rw [ef133, zu_n (fun h9 => absurd h9.1 (by decide))]; exact q130
  have q144 : f133 45 0 = r0 := by rw [ef133, zu_n (fun h9 => absurd h9.2 (by decide))]; exact q131
  have q145 : f133 45 1 = r1 := by rw [ef133]; exact zu_s
  have hMt := zMt.ci (fi' := f133) hMt (fun i9 k9 h9 => by rw [ef133]; exact zu_n (by omega))
  have hMx := zMx.ci (fi' := f133) hMx (fun i9 k9 h9 => by rw [ef133]; exact zu_n (by omega))
  refine lv_iinc (v := nI 2) (lv' := [(1, .int (nI 2)), (0, .ref (τ.1 30))]) hx hb dX12_rules_28 hl (k := 0) rfl (by decide) (by decide) rfl (fun ls hl => ?_)
  refine lv_goto (tgt := 11) hx hb dX12_rules_31 (by decide) ?_
  refine lv_iload_n hx hb dX12_rules_11 rfl (lv_at hl 0 rfl) ?_
  refine lv_iconst (v := nI 4) hx hb dX12_rules_12 (by decide) ?_
  refine lv_icmp_ge (tgt := 34) hx hb dX12_rules_13 (by decide) (fun c146 => absurd c146 (by decide)) (fun c146 => ?_)
  refine lv_aload_n hx hb dX12_rules_16 rfl (lv_at hl 1 rfl) ?_
  refine zGetR (D := D) (ci := 12) (C := RX12) (T := TX12) (N := 71) hx hb hts hiX12 hown hH (zk_30 hF) rfl 18 (by decide) rfl hw2 (fun _ h9 => h9) dX12_rules_17 (zr_30_18 hF) ?_
  refine lv_iload_n hx hb dX12_rules_20 rfl (lv_at hl 0 rfl) ?_
  refine lv_aload_n hx hb dX12_rules_21 rfl (lv_at hl 1 rfl) ?_
  refine zGetR (D := D) (ci := 12) (C := RX12) (T := TX12) (N := 71) hx hb hts hiX12 hown hH (zk_30 hF) rfl 17 (by decide) rfl hw3 (fun _ h9 => h9) dX12_rules_22 (zr_30_17 hF) ?_
  refine lv_iload_n hx hb dX12_rules_25 rfl (lv_at hl 0 rfl) ?_
  refine zIaldN (D := D) hx hb hH (zk_44 hF) (zn_44 hF) (by omega) (by omega) q136 dX12_rules_26 ?_
  refine zIastN (D := D) hx hb hH hS (zk_45 hF) (zn_45 hF) (by omega) (by omega) dX12_rules_27 (fun H locs hH hS => ?_)
  obtain ⟨f147, ef147⟩ : ∃ f9 : zFi, f9 = zu f133 45 2 r2 := ⟨_, rfl⟩
  rw [← ef147] at hH
  have q148 : f147 44 0 = r0 := by rw [ef147, zu_n (fun h9 => absurd h9.1 (by decide))]; exact q134
  have q149 : f147 44 1 = r1 := by rw [ef147, zu_n (fun h9 => absurd h9.1 (by decide))]; exact q135
  have q150 : f147 44 2 = r2 := by rw [ef147, zu_n (fun h9 => absurd h9.1 (by decide))]; exact q136
  have q151 : f147 44 3 = r3 := by rw [ef147, zu_n (fun h9 => absurd h9.1 (by decide))]; exact q137
  have q152 : f147 30 2 = nI n := by rw [ef147, zu_n (fun h9 => absurd h9.1 (by decide))]; exact q138
  have q153 : f147 30 21 = nI 0 := by rw [ef147, zu_n (fun h9 => absurd h9.1 (by decide))]; exact q139
  have q154 : f147 30 22 = nI L := by rw [ef147, zu_n (fun h9 => absurd h9.1 (by decide))]; exact q140
  have q155 : f147 30 23 = nI 0 := by rw [ef147, zu_n (fun h9 => absurd h9.1 (by decide))]; exact q141
  have q156 : f147 30 24 = (-1) := by rw [ef147, zu_n (fun h9 => absurd h9.1 (by decide))]; exact q142
  have q157 : f147 30 0 = nI 0 := by rw [ef147, zu_n (fun h9 => absurd h9.1 (by decide))]; exact q143
  have q158 : f147 45 0 = r0 := by rw [ef147, zu_n (fun h9 => absurd h9.2 (by decide))]; exact q144
  have q159 : f147 45 1 = r1 := by rw [ef147, zu_n (fun h9 => absurd h9.2 (by decide))]; exact q145
  have q160 : f147 45 2 = r2 := by rw [ef147]; exact zu_s
  have hMt := zMt.ci (fi' := f147) hMt (fun i9 k9 h9 => by rw [ef147]; exact zu_n (by omega))
  have hMx := zMx.ci (fi' := f147) hMx (fun i9 k9 h9 => by rw [ef147]; exact zu_n (by omega))
  refine lv_iinc (v := nI 3) (lv' := [(1, .int (nI 3)), (0, .ref (τ.1 30))]) hx hb dX12_rules_28 hl (k := 0) rfl (by decide) (by decide) rfl (fun ls hl => ?_)
  refine lv_goto (tgt := 11) hx hb dX12_rules_31 (by decide) ?_
  refine lv_iload_n hx hb dX12_rules_11 rfl (lv_at hl 0 rfl) ?_
  refine lv_iconst (v := nI 4) hx hb dX12_rules_12 (by decide) ?_
  refine lv_icmp_ge (tgt := 34) hx hb dX12_rules_13 (by decide) (fun c161 => absurd c161 (by decide)) (fun c161 => ?_)
  refine lv_aload_n hx hb dX12_rules_16 rfl (lv_at hl 1 rfl) ?_
  refine zGetR (D := D) (ci := 12) (C := RX12) (T := TX12) (N := 71) hx hb hts hiX12 hown hH (zk_30 hF) rfl 18 (by decide) rfl hw2 (fun _ h9 => h9) dX12_rules_17 (zr_30_18 hF) ?_
  refine lv_iload_n hx hb dX12_rules_20 rfl (lv_at hl 0 rfl) ?_
  refine lv_aload_n hx hb dX12_rules_21 rfl (lv_at hl 1 rfl) ?_
  refine zGetR (D := D) (ci := 12) (C := RX12) (T := TX12) (N := 71) hx hb hts hiX12 hown hH (zk_30 hF) rfl 17 (by decide) rfl hw3 (fun _ h9 => h9) dX12_rules_22 (zr_30_17 hF) ?_
  refine lv_iload_n hx hb dX12_rules_25 rfl (lv_at hl 0 rfl) ?_
  refine zIaldN (D := D) hx hb hH (zk_44 hF) (zn_44 hF) (by omega) (by omega) q151 dX12_rules_26 ?_
  refine zIastN (D := D) hx hb hH hS (zk_45 hF) (zn_45 hF) (by omega) (by omega) dX12_rules_27 (fun H locs hH hS => ?_)
  obtain ⟨f162, ef162⟩ : ∃ f9 : zFi, f9 = zu f147 45 3 r3 := ⟨_, rfl⟩
  rw [← ef162] at hH
  have q163 : f162 44 0 = r0 := by rw [ef162, zu_n (fun h9 => absurd h9.1 (by decide))]; exact q148
  have q164 : f162 44 1 = r1 := by rw [ef162, zu_n (fun h9 => absurd h9.1 (by decide))]; exact q149
  have q165 : f162 44 2 = r2 := by rw [ef162, zu_n (fun h9 => absurd h9.1 (by decide))]; exact q150
  have q166 : f162 44 3 = r3 := by rw [ef162, zu_n (fun h9 => absurd h9.1 (by decide))]; exact q151
  have q167 : f162 30 2 = nI n := by rw [ef162, zu_n (fun h9 => absurd h9.1 (by decide))]; exact q152
  have q168 : f162 30 21 = nI 0 := by rw [ef162, zu_n (fun h9 => absurd h9.1 (by decide))]; exact q153
  have q169 : f162 30 22 = nI L := by rw [ef162, zu_n (fun h9 => absurd h9.1 (by decide))]; exact q154
  have q170 : f162 30 23 = nI 0 := by rw [ef162, zu_n (fun h9 => absurd h9.1 (by decide))]; exact q155
  have q171 : f162 30 24 = (-1) := by rw [ef162, zu_n (fun h9 => absurd h9.1 (by decide))]; exact q156
  have q172 : f162 30 0 = nI 0 := by rw [ef162, zu_n (fun h9 => absurd h9.1 (by decide))]; exact q157
  have q173 : f162 45 0 = r0 := by rw [ef162, zu_n (fun h9 => absurd h9.2 (by decide))]; exact q158
  have q174 : f162 45 1 = r1 := by rw [ef162, zu_n (fun h9 => absurd h9.2 (by decide))]; exact q159
  have q175 : f162 45 2 = r2 := by rw [ef162, zu_n (fun h9 => absurd h9.2 (by decide))]; exact q160
  have q176 : f162 45 3 = r3 := by rw [ef162]; exact zu_s
  have hMt := zMt.ci (fi' := f162) hMt (fun i9 k9 h9 => by rw [ef162]; exact zu_n (by omega))
  have hMx := zMx.ci (fi' := f162) hMx (fun i9 k9 h9 => by rw [ef162]; exact zu_n (by omega))
  refine lv_iinc (v := nI 4) (lv' := [(1, .int (nI 4)), (0, .ref (τ.1 30))]) hx hb dX12_rules_28 hl (k := 0) rfl (by decide) (by decide) rfl (fun ls hl => ?_)
  refine lv_goto (tgt := 11) hx hb dX12_rules_31 (by decide) ?_
  refine lv_iload_n hx hb dX12_rules_11 rfl (lv_at hl 0 rfl) ?_
  refine lv_iconst (v := nI 4) hx hb dX12_rules_12 (by decide) ?_
  refine lv_icmp_ge (tgt := 34) hx hb dX12_rules_13 (by decide) (fun c177 => ?_) (fun c177 => absurd (by decide) c177)
  refine lv_iconst (v := nI 0) hx hb dX12_rules_34 (by decide) ?_
  refine lv_istore_n (lv' := [(1, .int (nI 0)), (0, .ref (τ.1 30))]) hx hb dX12_rules_35 rfl hl (by decide) rfl (fun ls hl => ?_)
  refine zLp (σ := Nat × zFi) (fun x9 k9 H locs ls => (fun (i : Nat) (f : zFi) => k9 = n - i ∧ (i ≤ n ∧ ((∀ t, t < i → f 46 t = -1 ∨ ∃ t2, t2 < n ∧ f 46 t = nI t2) ∧ ∀ t, t < i → f 46 t = fi 40 t) ∧ (f 45 0 = r0 ∧ f 45 1 = r1 ∧ f 45 2 = r2 ∧ f 45 3 = r3) ∧ (f 30 22 = nI L ∧ f 30 21 = nI 0 ∧ f 30 0 = nI 0) ∧ f 30 23 = nI 0 ∧ f 30 24 = -1 ∧ ∀ a b, ¬ (a = 45 ∨ a = 46 ∨ (a = 30 ∧ (b = 0 ∨ (21 ≤ b ∧ b ≤ 25)))) → f a b = fi a b) ∧ zH D A τ f fr ol s H ∧ va_S A s.heap H locs ∧ lv_has ls 5 [(0, .ref (τ.1 30)), (1, .int (nI i))]) x9.1 x9.2) (0, f162) (n - 0) (show n - 0 = n - 0 ∧ (0 ≤ n ∧ ((∀ t, t < 0 → f162 46 t = -1 ∨ ∃ t2, t2 < n ∧ f162 46 t = nI t2) ∧ ∀ t, t < 0 → f162 46 t = fi 40 t) ∧ (f162 45 0 = r0 ∧ f162 45 1 = r1 ∧ f162 45 2 = r2 ∧ f162 45 3 = r3) ∧ (f162 30 22 = nI L ∧ f162 30 21 = nI 0 ∧ f162 30 0 = nI 0) ∧ f162 30 23 = nI 0 ∧ f162 30 24 = -1 ∧ ∀ a b, ¬ (a = 45 ∨ a = 46 ∨ (a = 30 ∧ (b = 0 ∨ (21 ≤ b ∧ b ≤ 25)))) → f162 a b = fi a b) ∧ zH D A τ f162 fr ol s _ ∧ va_S A s.heap _ _ ∧ lv_has _ 5 [(0, .ref (τ.1 30)), (1, .int (nI 0))] from ⟨rfl, ⟨Nat.zero_le _, ⟨fun j h => absurd h (by omega), fun j h => absurd h (by omega)⟩, ⟨q173, q174, q175, q176⟩, ⟨q169, q168, q172⟩, q170, q171, fun a b h => by rw [ef162, zu_n (by omega), ef147, zu_n (by omega), ef133, zu_n (by omega), ef120, zu_n (by omega), ef108, zu_n (by omega), hf21 a b (by omega)]⟩, hH, hS, lv_sub hl [1, 0] rfl⟩) (fun k9 ih x9 H locs ls hv9 => ?_)
  obtain ⟨i, f⟩ := x9
  have hv9 : k9 = n - i ∧ (i ≤ n ∧ ((∀ t, t < i → f 46 t = -1 ∨ ∃ t2, t2 < n ∧ f 46 t = nI t2) ∧ ∀ t, t < i → f 46 t = fi 40 t) ∧ (f 45 0 = r0 ∧ f 45 1 = r1 ∧ f 45 2 = r2 ∧ f 45 3 = r3) ∧ (f 30 22 = nI L ∧ f 30 21 = nI 0 ∧ f 30 0 = nI 0) ∧ f 30 23 = nI 0 ∧ f 30 24 = -1 ∧ ∀ a b, ¬ (a = 45 ∨ a = 46 ∨ (a = 30 ∧ (b = 0 ∨ (21 ≤ b ∧ b ≤ 25)))) → f a b = fi a b) ∧ zH D A τ f fr ol s H ∧ va_S A s.heap H locs ∧ lv_has ls 5 [(0, .ref (τ.1 30)), (1, .int (nI i))] := hv9
  obtain ⟨hkih178, hv9, hH, hS, hl⟩ := hv9
  obtain ⟨h1, ⟨hdo, hcp⟩, h45, hst, p23, p24, hfr⟩ := hv9
  have ih178 := ih
  clear ih
  have hMt := zMt.ci (fi' := f) hMt0 (fun i9 k9 h9 => hfr i9 k9 (by omega))
  have hMx := zMx.ci (fi' := f) hMx0 (fun i9 k9 h9 => hfr i9 k9 (by omega))
  obtain ⟨p22, p21, p0⟩ := hst
  obtain ⟨p450, p451, p452, p453⟩ := h45
  have p2 := hMt.2.1
  refine lv_iload_n hx hb dX12_rules_36 rfl (lv_at hl 1 rfl) ?_
  refine lv_aload_n hx hb dX12_rules_37 rfl (lv_at hl 0 rfl) ?_
  refine zGetI (D := D) (ci := 12) (C := RX12) (T := TX12) (N := 71) hx hb hts hiX12 hown hH (zk_30 hF) rfl 2 (by decide) rfl hw4 (fun _ h9 => h9) dX12_rules_38 p2 ?_
  refine lv_icmp_ge (tgt := 62) hx hb dX12_rules_41 (by decide) (fun c179 => ?_) (fun c179 => ?_)
  · have zc179 := c179
    replace zc179 := zc_le (nI_toInt (by omega)) (nI_toInt (by omega)) zc179
    refine lv_iconst (v := nI 0) hx hb dX12_rules_62 (by decide) ?_
    refine lv_istore_n (lv' := [(1, .int (nI 0)), (0, .ref (τ.1 30))]) hx hb dX12_rules_63 rfl hl (by decide) rfl (fun ls hl => ?_)
    refine lv_iconst (v := nI 1) hx hb dX12_rules_64 (by decide) ?_
    refine lv_istore_n (lv' := [(2, .int (nI 1)), (1, .int (nI 0)), (0, .ref (τ.1 30))]) hx hb dX12_rules_65 rfl hl (by decide) rfl (fun ls hl => ?_)
    refine lv_iconst (v := nI 1) hx hb dX12_rules_66 (by decide) ?_
    refine lv_istore_n (lv' := [(3, .int (nI 1)), (2, .int (nI 1)), (1, .int (nI 0)), (0, .ref (τ.1 30))]) hx hb dX12_rules_67 rfl hl (by decide) rfl (fun ls hl => ?_)
    refine zLp (σ := Nat × Nat × Int32 × Nat × (Nat → Int32) × zFi) (fun x9 k9 H locs ls => (fun (mm : Nat) (m2 : Nat) (y3 : Int32) (c : Nat) (D9 : Nat → Int32) (f2 : zFi) => k9 = 2 * (L - c) + m2 ∧ (c ≤ L ∧ m2 ≤ 1 ∧ f2 30 23 = nI c ∧ zMd f2 n ∧ (f2 30 22 = nI L ∧ f2 30 21 = nI 0 ∧ f2 30 0 = nI 0) ∧ zLm (zRls (fi 47) L (fi 31) n 401 (zS (fi 47) L 0) (zDot fi) 0) (fi 47) (fi 31) L n mm m2 y3 c D9 f2 ∧ ∀ a b, ¬ (a = 45 ∨ a = 46 ∨ (a = 30 ∧ (b = 0 ∨ (21 ≤ b ∧ b ≤ 25)))) → f2 a b = fi a b) ∧ zH D A τ f2 fr ol s H ∧ va_S A s.heap H locs ∧ lv_has ls 5 [(0, .ref (τ.1 30)), (1, .int (nI mm)), (2, .int (nI m2)), (3, .int y3)]) x9.1 x9.2.1 x9.2.2.1 x9.2.2.2.1 x9.2.2.2.2.1 x9.2.2.2.2.2) (0, 1, nI 1, 0, (zDot fi), f) (2 * (L - 0) + 1) (show 2 * (L - 0) + 1 = 2 * (L - 0) + 1 ∧ (0 ≤ L ∧ 1 ≤ 1 ∧ f 30 23 = nI 0 ∧ zMd f n ∧ (f 30 22 = nI L ∧ f 30 21 = nI 0 ∧ f 30 0 = nI 0) ∧ zLm (zRls (fi 47) L (fi 31) n 401 (zS (fi 47) L 0) (zDot fi) 0) (fi 47) (fi 31) L n 0 1 (nI 1) 0 ((zDot fi)) f ∧ ∀ a b, ¬ (a = 45 ∨ a = 46 ∨ (a = 30 ∧ (b = 0 ∨ (21 ≤ b ∧ b ≤ 25)))) → f a b = fi a b) ∧ zH D A τ f fr ol s _ ∧ va_S A s.heap _ _ ∧ lv_has _ 5 [(0, .ref (τ.1 30)), (1, .int (nI 0)), (2, .int (nI 1)), (3, .int (nI 1))] from ⟨rfl, ⟨by omega, by omega, p23, fun j h => hdo j (by omega), ⟨p22, p21, p0⟩, Or.inr ⟨rfl, p24, zDmo_init (by rw [p450, hr0]) (by rw [p451, hr1]) (by rw [p452, hr2]) (by rw [p453, hr3]) (by omega) (fun t h => hcp t (by omega)), Or.inl ⟨rfl, by omega, rfl⟩⟩, fun a b h => hfr a b h⟩, hH, hS, lv_sub hl [3, 2, 1, 0] rfl⟩) (fun k9 ih x9 H locs ls hv9 => ?_)
    obtain ⟨mm, m2, y3, c, D9, f2⟩ := x9
    have hv9 : k9 = 2 * (L - c) + m2 ∧ (c ≤ L ∧ m2 ≤ 1 ∧ f2 30 23 = nI c ∧ zMd f2 n ∧ (f2 30 22 = nI L ∧ f2 30 21 = nI 0 ∧ f2 30 0 = nI 0) ∧ zLm (zRls (fi 47) L (fi 31) n 401 (zS (fi 47) L 0) (zDot fi) 0) (fi 47) (fi 31) L n mm m2 y3 c D9 f2 ∧ ∀ a b, ¬ (a = 45 ∨ a = 46 ∨ (a = 30 ∧ (b = 0 ∨ (21 ≤ b ∧ b ≤ 25)))) → f2 a b = fi a b) ∧ zH D A τ f2 fr ol s H ∧ va_S A s.heap H locs ∧ lv_has ls 5 [(0, .ref (τ.1 30)), (1, .int (nI mm)), (2, .int (nI m2)), (3, .int y3)] := hv9
    obtain ⟨hkih180, hv9, hH, hS, hl⟩ := hv9
    obtain ⟨h2, hm2, p23, hMd, hst2, hlm, hfr2⟩ := hv9
    have ih180 := ih
    clear ih
    have hMt := zMt.ci (fi' := f2) hMt0 (fun i9 k9 h9 => hfr2 i9 k9 (by omega))
    have hMx := zMx.ci (fi' := f2) hMx0 (fun i9 k9 h9 => hfr2 i9 k9 (by omega))
    obtain ⟨p22, p21, p0⟩ := hst2
    have p2 := hMt.2.1
    refine lv_iload_n hx hb dX12_rules_68 rfl (lv_at hl 2 rfl) ?_
    refine lv_if_eq (tgt := 120) hx hb dX12_rules_69 (by decide) (fun c181 => ?_) (fun c181 => ?_)
    · have zc181 := c181
      replace zc181 := zc_eq (nI_toInt (by omega)) ((by decide : (0 : Int32).toInt = 0)) zc181
      refine lv_iload_n hx hb dX12_rules_120 rfl (lv_at hl 3 rfl) ?_
      refine lv_if_eq (tgt := 141) hx hb dX12_rules_121 (by decide) (fun c182 => ?_) (fun c182 => ?_)
      · have zc182 := c182
        replace zc182 := zc_eq (rfl) ((by decide : (0 : Int32).toInt = 0)) zc182
        have zy3 := zc182
        refine lv_iload_n hx hb dX12_rules_141 rfl (lv_at hl 3 rfl) ?_
        refine lv_if_ne (tgt := 152) hx hb dX12_rules_142 (by decide) (fun c183 => False.elim (by have zc183 := zc_neq (rfl) ((by decide : (0 : Int32).toInt = 0)) c183; omega)) (fun c183 => ?_)
        refine lv_aload_n hx hb dX12_rules_145 rfl (lv_at hl 0 rfl) ?_
        refine lv_iconst (v := nI 1) hx hb dX12_rules_146 (by decide) ?_
        refine zPutI (D := D) (ci := 12) (ty := .int) (C := RX12) (T := TX12) (N := 71) hx hb hts hiX12 tyX12 tyX12_ok nmX12 hown hH hS (zk_30 hF) rfl 0 (by decide) rfl hw0 (fun _ h9 => h9) rfl (by decide +kernel) rfl rfl dX12_rules_147 (fun H locs hH hS => ?_)
        obtain ⟨f184, ef184⟩ : ∃ f9 : zFi, f9 = zu f2 30 0 (nI 1) := ⟨_, rfl⟩
        rw [← ef184] at hH
        have q185 : f184 30 22 = nI L := by rw [ef184, zu_n (fun h9 => absurd h9.2 (by decide))]; exact p22
        have q186 : f184 30 21 = nI 0 := by rw [ef184, zu_n (fun h9 => absurd h9.2 (by decide))]; exact p21
        have q187 : f184 30 23 = nI c := by rw [ef184, zu_n (fun h9 => absurd h9.2 (by decide))]; exact p23
        have q188 : f184 30 2 = nI n := by rw [ef184, zu_n (fun h9 => absurd h9.2 (by decide))]; exact p2
        have q189 : f184 30 0 = nI 1 := by rw [ef184]; exact zu_s
        have hMt := zMt.ci (fi' := f184) hMt (fun i9 k9 h9 => by rw [ef184]; exact zu_n (by omega))
        have hMx := zMx.ci (fi' := f184) hMx (fun i9 k9 h9 => by rw [ef184]; exact zu_n (by omega))
        have hMd := zMd.ci (fi' := f184) hMd (fun i9 k9 h9 => by rw [ef184]; exact zu_n (by omega))
        refine lv_iconst (v := nI 0) hx hb dX12_rules_150 (by decide) ?_
        refine W.widen (k := 0) (n := 0) (by decide) (by decide) ?_
        exact W.iret (v := nI 0) hx hb hr (fun t9 ht9 hW9 => ⟨⟨nI 0, f184, rfl, ⟨Or.inr (by rcases hlm with ⟨-, -, px, hpx, h91, h92⟩ | ⟨h9, -⟩; (exact ⟨px, hpx, h91, rfl, q189, by rw [ef184, zu_n (by omega)]; exact h92, zDot_cg (fun a b h => by rw [ef184, zu_n (by omega)]; exact hfr2 a b (by omega))⟩); (exfalso; rw [h9] at zy3; exact absurd zy3 (by decide))), ⟨q186, hMx, fun a b h => by rw [ef184, zu_n (by omega)]; exact hfr2 a b (by omega)⟩⟩, zEnd1 hH ht9 hW9⟩, hS.F ht9⟩) hS.2.2 dX12_rules_151
      · have zc182 := c182
        replace zc182 := zc_neq (rfl) ((by decide : (0 : Int32).toInt = 0)) zc182
        have zy3 := zc182
        refine lv_aload_n hx hb dX12_rules_124 rfl (lv_at hl 0 rfl) ?_
        refine va_calli (va_runV (As := []) (rest := []) ⟨hx, hb, hml, hown, hts⟩ (m_signX l hl0 D A sad τ f2 fr ol L c hF p22 p23 (by omega) (by omega)) (cwV 0 hts gX12_rules_X12_sign rfl rfl rfl (by decide +kernel) ⟨Nat.le_of_ble_eq_true rfl, Nat.le_of_ble_eq_true rfl⟩) ⟨zQc_bl, zRecv hH (zk_30 hF) rfl, zQc_at hz hS hA hH⟩ rfl rfl hl.1 rfl (lv_room (Nat.le_of_ble_eq_true rfl)) dX12_rules_125 ⟨Nat.le_of_ble_eq_true rfl, Nat.le_of_ble_eq_true rfl⟩) hS (fun q _ h => h) (fun q h => h) (fun r190 u9 t9 H1 locs ht9 hvm9 hw hB hz1 hk1 hS => ?_)
        have hH := zMv ht9 hvm9 hB
        clear hB
        generalize u9 = f191 at hw hH
        generalize H1 = H at hH hS ⊢
        obtain ⟨-, ⟨c192, hc193, hc194, q195, hx196⟩, hf197⟩ := hw
        rw [(funext (fun k9 => hfr2 _ k9 (by omega)) : f2 47 = fi 47)] at hx196
        have q198 : f191 30 22 = nI L := by rw [hf197 30 22 (by omega)]; exact p22
        have q199 : f191 30 21 = nI 0 := by rw [hf197 30 21 (by omega)]; exact p21
        have q200 : f191 30 0 = nI 0 := by rw [hf197 30 0 (by omega)]; exact p0
        have q201 : f191 30 2 = nI n := by rw [hf197 30 2 (by omega)]; exact p2
        have hMt := zMt.ci (fi' := f191) hMt (fun i9 k9 h9 => hf197 i9 k9 (by omega))
        have hMx := zMx.ci (fi' := f191) hMx (fun i9 k9 h9 => hf197 i9 k9 (by omega))
        have hMd := zMd.ci (fi' := f191) hMd (fun i9 k9 h9 => hf197 i9 k9 (by omega))
        obtain ⟨hcz2, hsg2⟩ := hx196
        refine lv_iconst (v := (-1)) hx hb dX12_rules_128 (by decide) ?_
        refine lv_icmp_eq (tgt := 141) hx hb dX12_rules_129 (by decide) (fun c202 => ?_) (fun c202 => ?_)
        · have zc202 := c202
          replace zc202 := zc_eq (rfl) ((by decide : ((-1) : Int32).toInt = (-1))) zc202
          have hs2n : c192 < L → False := fun h8 => by rcases hsg2 with h9 | h9; (have h7 := hB0 c192 h8; rw [← h9.2] at h7; omega); omega
          refine lv_iload_n hx hb dX12_rules_141 rfl (lv_at hl 3 rfl) ?_
          refine lv_if_ne (tgt := 152) hx hb dX12_rules_142 (by decide) (fun c203 => ?_) (fun c203 => False.elim (by have zc203 := zc_eq (rfl) ((by decide : (0 : Int32).toInt = 0)) c203; omega))
          obtain ⟨d0, hd0⟩ : ∃ w, f191 45 0 = w := ⟨_, rfl⟩
          obtain ⟨d1, hd1⟩ : ∃ w, f191 45 1 = w := ⟨_, rfl⟩
          obtain ⟨d2, hd2⟩ : ∃ w, f191 45 2 = w := ⟨_, rfl⟩
          obtain ⟨d3, hd3⟩ : ∃ w, f191 45 3 = w := ⟨_, rfl⟩
          obtain ⟨hm24, hDg, hTz⟩ : f2 30 24 = -1 ∧ (∀ k, k < 4 + n → zDmo f2 k = D9 k) ∧ zRls (fi 47) L (fi 31) n 401 (zS (fi 47) L 0) (zDot fi) 0 = .ok (mm, D9) := by
            rcases hlm with ⟨h9, -⟩ | ⟨h91, h92, h93, ⟨h94, -⟩ | ⟨-, ⟨h94, -⟩ | ⟨-, h94⟩⟩⟩
            · exfalso; rw [h9] at zy3; exact zy3 (by decide)
            · exfalso; omega
            · exfalso; rw [← hcz2] at h94; rcases hsg2 with h9 | h9; exact hs2n h9.1; omega
            · exact ⟨h92, h93, h94⟩
          have hdn : ∀ k, k < 4 → f191 45 k = D9 k := fun k hk => by rw [hf197 45 k (by omega)]; exact zDmo_n hDg k hk
          have hdt : ∀ t, t < n → f191 46 t = D9 (4 + t) := fun t ht => by rw [hf197 46 t (by omega)]; exact zDmo_t (by omega) hDg t ht
          have k24 : f191 30 24 = -1 := by rw [hf197 30 24 (by omega)]; exact hm24
          have hd4 : d0 = D9 0 ∧ d1 = D9 1 ∧ d2 = D9 2 ∧ d3 = D9 3 := ⟨hd0.symm.trans (hdn 0 (by omega)), hd1.symm.trans (hdn 1 (by omega)), hd2.symm.trans (hdn 2 (by omega)), hd3.symm.trans (hdn 3 (by omega))⟩
          refine lv_iconst (v := nI 0) hx hb dX12_rules_152 (by decide) ?_
          refine lv_istore (lv' := [(4, .int (nI 0)), (0, .ref (τ.1 30)), (1, .int (nI mm)), (2, .int (nI m2)), (3, .int y3)]) hx hb dX12_rules_153 hl (by decide) rfl (fun ls hl => ?_)
          refine lv_iload hx hb dX12_rules_155 (lv_at hl 0 rfl) ?_
          refine lv_iconst (v := nI 4) hx hb dX12_rules_157 (by decide) ?_
          refine lv_icmp_ge (tgt := 181) hx hb dX12_rules_158 (by decide) (fun c204 => absurd c204 (by decide)) (fun c204 => ?_)
          refine lv_aload_n hx hb dX12_rules_161 rfl (lv_at hl 1 rfl) ?_
          refine zGetR (D := D) (ci := 12) (C := RX12) (T := TX12) (N := 71) hx hb hts hiX12 hown hH (zk_30 hF) rfl 17 (by decide) rfl hw3 (fun _ h9 => h9) dX12_rules_162 (zr_30_17 hF) ?_
          refine lv_iload hx hb dX12_rules_165 (lv_at hl 0 rfl) ?_
          refine lv_aload_n hx hb dX12_rules_167 rfl (lv_at hl 1 rfl) ?_
          refine zGetR (D := D) (ci := 12) (C := RX12) (T := TX12) (N := 71) hx hb hts hiX12 hown hH (zk_30 hF) rfl 18 (by decide) rfl hw2 (fun _ h9 => h9) dX12_rules_168 (zr_30_18 hF) ?_
          refine lv_iload hx hb dX12_rules_171 (lv_at hl 0 rfl) ?_
          refine zIaldN (D := D) hx hb hH (zk_45 hF) (zn_45 hF) (by omega) (by omega) hd0 dX12_rules_173 ?_
          refine zIastN (D := D) hx hb hH hS (zk_44 hF) (zn_44 hF) (by omega) (by omega) dX12_rules_174 (fun H locs hH hS => ?_)
          obtain ⟨f205, ef205⟩ : ∃ f9 : zFi, f9 = zu f191 44 0 d0 := ⟨_, rfl⟩
          rw [← ef205] at hH
          have q206 : f205 30 22 = nI L := by rw [ef205, zu_n (fun h9 => absurd h9.1 (by decide))]; exact q198
          have q207 : f205 30 21 = nI 0 := by rw [ef205, zu_n (fun h9 => absurd h9.1 (by decide))]; exact q199
          have q208 : f205 30 0 = nI 0 := by rw [ef205, zu_n (fun h9 => absurd h9.1 (by decide))]; exact q200
          have q209 : f205 30 2 = nI n := by rw [ef205, zu_n (fun h9 => absurd h9.1 (by decide))]; exact q201
          have q210 : f205 30 23 = nI c192 := by rw [ef205, zu_n (fun h9 => absurd h9.1 (by decide))]; exact q195
          have q211 : f205 45 0 = d0 := by rw [ef205, zu_n (fun h9 => absurd h9.1 (by decide))]; exact hd0
          have q212 : f205 45 1 = d1 := by rw [ef205, zu_n (fun h9 => absurd h9.1 (by decide))]; exact hd1
          have q213 : f205 45 2 = d2 := by rw [ef205, zu_n (fun h9 => absurd h9.1 (by decide))]; exact hd2
          have q214 : f205 45 3 = d3 := by rw [ef205, zu_n (fun h9 => absurd h9.1 (by decide))]; exact hd3
          have q215 : f205 30 24 = (-1) := by rw [ef205, zu_n (fun h9 => absurd h9.1 (by decide))]; exact k24
          have q216 : f205 44 0 = d0 := by rw [ef205]; exact zu_s
          have hMt := zMt.ci (fi' := f205) hMt (fun i9 k9 h9 => by rw [ef205]; exact zu_n (by omega))
          have hMx := zMx.ci (fi' := f205) hMx (fun i9 k9 h9 => by rw [ef205]; exact zu_n (by omega))
          have hMd := zMd.ci (fi' := f205) hMd (fun i9 k9 h9 => by rw [ef205]; exact zu_n (by omega))
          refine lv_iinc (v := nI 1) (lv' := [(4, .int (nI 1)), (0, .ref (τ.1 30)), (1, .int (nI mm)), (2, .int (nI m2)), (3, .int y3)]) hx hb dX12_rules_175 hl (k := 0) rfl (by decide) (by decide) rfl (fun ls hl => ?_)
          refine lv_goto (tgt := 155) hx hb dX12_rules_178 (by decide) ?_
          refine lv_iload hx hb dX12_rules_155 (lv_at hl 0 rfl) ?_
          refine lv_iconst (v := nI 4) hx hb dX12_rules_157 (by decide) ?_
          refine lv_icmp_ge (tgt := 181) hx hb dX12_rules_158 (by decide) (fun c217 => absurd c217 (by decide)) (fun c217 => ?_)
          refine lv_aload_n hx hb dX12_rules_161 rfl (lv_at hl 1 rfl) ?_
          refine zGetR (D := D) (ci := 12) (C := RX12) (T := TX12) (N := 71) hx hb hts hiX12 hown hH (zk_30 hF) rfl 17 (by decide) rfl hw3 (fun _ h9 => h9) dX12_rules_162 (zr_30_17 hF) ?_
          refine lv_iload hx hb dX12_rules_165 (lv_at hl 0 rfl) ?_
          refine lv_aload_n hx hb dX12_rules_167 rfl (lv_at hl 1 rfl) ?_
          refine zGetR (D := D) (ci := 12) (C := RX12) (T := TX12) (N := 71) hx hb hts hiX12 hown hH (zk_30 hF) rfl 18 (by decide) rfl hw2 (fun _ h9 => h9) dX12_rules_168 (zr_30_18 hF) ?_
          refine lv_iload hx hb dX12_rules_171 (lv_at hl 0 rfl) ?_
          refine zIaldN (D := D) hx hb hH (zk_45 hF) (zn_45 hF) (by omega) (by omega) q212 dX12_rules_173 ?_
          refine zIastN (D := D) hx hb hH hS (zk_44 hF) (zn_44 hF) (by omega) (by omega) dX12_rules_174 (fun H locs hH hS => ?_)
          obtain ⟨f218, ef218⟩ : ∃ f9 : zFi, f9 = zu f205 44 1 d1 := ⟨_, rfl⟩
          rw [← ef218] at hH
          have q219 : f218 30 22 = nI L := by rw [ef218, zu_n (fun h9 => absurd h9.1 (by decide))]; exact q206
          have q220 : f218 30 21 = nI 0 := by rw [ef218, zu_n (fun h9 => absurd h9.1 (by decide))]; exact q207
          have q221 : f218 30 0 = nI 0 := by rw [ef218, zu_n (fun h9 => absurd h9.1 (by decide))]; exact q208
          have q222 : f218 30 2 = nI n := by rw [ef218, zu_n (fun h9 => absurd h9.1 (by decide))]; exact q209
          have q223 : f218 30 23 = nI c192 := by rw [ef218, zu_n (fun h9 => absurd h9.1 (by decide))]; exact q210
          have q224 : f218 45 0 = d0 := by rw [ef218, zu_n (fun h9 => absurd h9.1 (by decide))]; exact q211
          have q225 : f218 45 1 = d1 := by rw [ef218, zu_n (fun h9 => absurd h9.1 (by decide))]; exact q212
          have q226 : f218 45 2 = d2 := by rw [ef218, zu_n (fun h9 => absurd h9.1 (by decide))]; exact q213
          have q227 : f218 45 3 = d3 := by rw [ef218, zu_n (fun h9 => absurd h9.1 (by decide))]; exact q214
          have q228 : f218 30 24 = (-1) := by rw [ef218, zu_n (fun h9 => absurd h9.1 (by decide))]; exact q215
          have q229 : f218 44 0 = d0 := by rw [ef218, zu_n (fun h9 => absurd h9.2 (by decide))]; exact q216
          have q230 : f218 44 1 = d1 := by rw [ef218]; exact zu_s
          have hMt := zMt.ci (fi' := f218) hMt (fun i9 k9 h9 => by rw [ef218]; exact zu_n (by omega))
          have hMx := zMx.ci (fi' := f218) hMx (fun i9 k9 h9 => by rw [ef218]; exact zu_n (by omega))
          have hMd := zMd.ci (fi' := f218) hMd (fun i9 k9 h9 => by rw [ef218]; exact zu_n (by omega))
          refine lv_iinc (v := nI 2) (lv' := [(4, .int (nI 2)), (0, .ref (τ.1 30)), (1, .int (nI mm)), (2, .int (nI m2)), (3, .int y3)]) hx hb dX12_rules_175 hl (k := 0) rfl (by decide) (by decide) rfl (fun ls hl => ?_)
          refine lv_goto (tgt := 155) hx hb dX12_rules_178 (by decide) ?_
          refine lv_iload hx hb dX12_rules_155 (lv_at hl 0 rfl) ?_
          refine lv_iconst (v := nI 4) hx hb dX12_rules_157 (by decide) ?_
          refine lv_icmp_ge (tgt := 181) hx hb dX12_rules_158 (by decide) (fun c231 => absurd c231 (by decide)) (fun c231 => ?_)
          refine lv_aload_n hx hb dX12_rules_161 rfl (lv_at hl 1 rfl) ?_
          refine zGetR (D := D) (ci := 12) (C := RX12) (T := TX12) (N := 71) hx hb hts hiX12 hown hH (zk_30 hF) rfl 17 (by decide) rfl hw3 (fun _ h9 => h9) dX12_rules_162 (zr_30_17 hF) ?_
          refine lv_iload hx hb dX12_rules_165 (lv_at hl 0 rfl) ?_
          refine lv_aload_n hx hb dX12_rules_167 rfl (lv_at hl 1 rfl) ?_
          refine zGetR (D := D) (ci := 12) (C := RX12) (T := TX12) (N := 71) hx hb hts hiX12 hown hH (zk_30 hF) rfl 18 (by decide) rfl hw2 (fun _ h9 => h9) dX12_rules_168 (zr_30_18 hF) ?_
          refine lv_iload hx hb dX12_rules_171 (lv_at hl 0 rfl) ?_
          refine zIaldN (D := D) hx hb hH (zk_45 hF) (zn_45 hF) (by omega) (by omega) q226 dX12_rules_173 ?_
          refine zIastN (D := D) hx hb hH hS (zk_44 hF) (zn_44 hF) (by omega) (by omega) dX12_rules_174 (fun H locs hH hS => ?_)
          obtain ⟨f232, ef232⟩ : ∃ f9 : zFi, f9 = zu f218 44 2 d2 := ⟨_, rfl⟩
          rw [← ef232] at hH
          have q233 : f232 30 22 = nI L := by rw [ef232, zu_n (fun h9 => absurd h9.1 (by decide))]; exact q219
          have q234 : f232 30 21 = nI 0 := by rw [ef232, zu_n (fun h9 => absurd h9.1 (by decide))]; exact q220
          have q235 : f232 30 0 = nI 0 := by rw [ef232, zu_n (fun h9 => absurd h9.1 (by decide))]; exact q221
          have q236 : f232 30 2 = nI n := by rw [ef232, zu_n (fun h9 => absurd h9.1 (by decide))]; exact q222
          have q237 : f232 30 23 = nI c192 := by rw [ef232, zu_n (fun h9 => absurd h9.1 (by decide))]; exact q223
          have q238 : f232 45 0 = d0 := by rw [ef232, zu_n (fun h9 => absurd h9.1 (by decide))]; exact q224
          have q239 : f232 45 1 = d1 := by rw [ef232, zu_n (fun h9 => absurd h9.1 (by decide))]; exact q225
          have q240 : f232 45 2 = d2 := by rw [ef232, zu_n (fun h9 => absurd h9.1 (by decide))]; exact q226
          have q241 : f232 45 3 = d3 := by rw [ef232, zu_n (fun h9 => absurd h9.1 (by decide))]; exact q227
          have q242 : f232 30 24 = (-1) := by rw [ef232, zu_n (fun h9 => absurd h9.1 (by decide))]; exact q228
          have q243 : f232 44 0 = d0 := by rw [ef232, zu_n (fun h9 => absurd h9.2 (by decide))]; exact q229
          have q244 : f232 44 1 = d1 := by rw [ef232, zu_n (fun h9 => absurd h9.2 (by decide))]; exact q230
          have q245 : f232 44 2 = d2 := by rw [ef232]; exact zu_s
          have hMt := zMt.ci (fi' := f232) hMt (fun i9 k9 h9 => by rw [ef232]; exact zu_n (by omega))
          have hMx := zMx.ci (fi' := f232) hMx (fun i9 k9 h9 => by rw [ef232]; exact zu_n (by omega))
          have hMd := zMd.ci (fi' := f232) hMd (fun i9 k9 h9 => by rw [ef232]; exact zu_n (by omega))
          refine lv_iinc (v := nI 3) (lv' := [(4, .int (nI 3)), (0, .ref (τ.1 30)), (1, .int (nI mm)), (2, .int (nI m2)), (3, .int y3)]) hx hb dX12_rules_175 hl (k := 0) rfl (by decide) (by decide) rfl (fun ls hl => ?_)
          refine lv_goto (tgt := 155) hx hb dX12_rules_178 (by decide) ?_
          refine lv_iload hx hb dX12_rules_155 (lv_at hl 0 rfl) ?_
          refine lv_iconst (v := nI 4) hx hb dX12_rules_157 (by decide) ?_
          refine lv_icmp_ge (tgt := 181) hx hb dX12_rules_158 (by decide) (fun c246 => absurd c246 (by decide)) (fun c246 => ?_)
          refine lv_aload_n hx hb dX12_rules_161 rfl (lv_at hl 1 rfl) ?_
          refine zGetR (D := D) (ci := 12) (C := RX12) (T := TX12) (N := 71) hx hb hts hiX12 hown hH (zk_30 hF) rfl 17 (by decide) rfl hw3 (fun _ h9 => h9) dX12_rules_162 (zr_30_17 hF) ?_
          refine lv_iload hx hb dX12_rules_165 (lv_at hl 0 rfl) ?_
          refine lv_aload_n hx hb dX12_rules_167 rfl (lv_at hl 1 rfl) ?_
          refine zGetR (D := D) (ci := 12) (C := RX12) (T := TX12) (N := 71) hx hb hts hiX12 hown hH (zk_30 hF) rfl 18 (by decide) rfl hw2 (fun _ h9 => h9) dX12_rules_168 (zr_30_18 hF) ?_
          refine lv_iload hx hb dX12_rules_171 (lv_at hl 0 rfl) ?_
          refine zIaldN (D := D) hx hb hH (zk_45 hF) (zn_45 hF) (by omega) (by omega) q241 dX12_rules_173 ?_
          refine zIastN (D := D) hx hb hH hS (zk_44 hF) (zn_44 hF) (by omega) (by omega) dX12_rules_174 (fun H locs hH hS => ?_)
          obtain ⟨f247, ef247⟩ : ∃ f9 : zFi, f9 = zu f232 44 3 d3 := ⟨_, rfl⟩
          rw [← ef247] at hH
          have q248 : f247 30 22 = nI L := by rw [ef247, zu_n (fun h9 => absurd h9.1 (by decide))]; exact q233
          have q249 : f247 30 21 = nI 0 := by rw [ef247, zu_n (fun h9 => absurd h9.1 (by decide))]; exact q234
          have q250 : f247 30 0 = nI 0 := by rw [ef247, zu_n (fun h9 => absurd h9.1 (by decide))]; exact q235
          have q251 : f247 30 2 = nI n := by rw [ef247, zu_n (fun h9 => absurd h9.1 (by decide))]; exact q236
          have q252 : f247 30 23 = nI c192 := by rw [ef247, zu_n (fun h9 => absurd h9.1 (by decide))]; exact q237
          have q253 : f247 45 0 = d0 := by rw [ef247, zu_n (fun h9 => absurd h9.1 (by decide))]; exact q238
          have q254 : f247 45 1 = d1 := by rw [ef247, zu_n (fun h9 => absurd h9.1 (by decide))]; exact q239
          have q255 : f247 45 2 = d2 := by rw [ef247, zu_n (fun h9 => absurd h9.1 (by decide))]; exact q240
          have q256 : f247 45 3 = d3 := by rw [ef247, zu_n (fun h9 => absurd h9.1 (by decide))]; exact q241
          have q257 : f247 30 24 = (-1) := by rw [ef247, zu_n (fun h9 => absurd h9.1 (by decide))]; exact q242
          have q258 : f247 44 0 = d0 := by rw [ef247, zu_n (fun h9 => absurd h9.2 (by decide))]; exact q243
          have q259 : f247 44 1 = d1 := by rw [ef247, zu_n (fun h9 => absurd h9.2 (by decide))]; exact q244
          have q260 : f247 44 2 = d2 := by rw [ef247, zu_n (fun h9 => absurd h9.2 (by decide))]; exact q245
          have q261 : f247 44 3 = d3 := by rw [ef247]; exact zu_s
          have hMt := zMt.ci (fi' := f247) hMt (fun i9 k9 h9 => by rw [ef247]; exact zu_n (by omega))
          have hMx := zMx.ci (fi' := f247) hMx (fun i9 k9 h9 => by rw [ef247]; exact zu_n (by omega))
          have hMd := zMd.ci (fi' := f247) hMd (fun i9 k9 h9 => by rw [ef247]; exact zu_n (by omega))
          refine lv_iinc (v := nI 4) (lv' := [(4, .int (nI 4)), (0, .ref (τ.1 30)), (1, .int (nI mm)), (2, .int (nI m2)), (3, .int y3)]) hx hb dX12_rules_175 hl (k := 0) rfl (by decide) (by decide) rfl (fun ls hl => ?_)
          refine lv_goto (tgt := 155) hx hb dX12_rules_178 (by decide) ?_
          refine lv_iload hx hb dX12_rules_155 (lv_at hl 0 rfl) ?_
          refine lv_iconst (v := nI 4) hx hb dX12_rules_157 (by decide) ?_
          refine lv_icmp_ge (tgt := 181) hx hb dX12_rules_158 (by decide) (fun c262 => ?_) (fun c262 => absurd (by decide) c262)
          refine lv_iconst (v := nI 0) hx hb dX12_rules_181 (by decide) ?_
          refine lv_istore (lv' := [(4, .int (nI 0)), (0, .ref (τ.1 30)), (1, .int (nI mm)), (2, .int (nI m2)), (3, .int y3)]) hx hb dX12_rules_182 hl (by decide) rfl (fun ls hl => ?_)
          refine zLp (σ := Nat × zFi) (fun x9 k9 H locs ls => (fun (i3 : Nat) (f3 : zFi) => k9 = n - i3 ∧ (i3 ≤ n ∧ zMx f3 n ∧ zMd f3 n ∧ f3 30 21 = nI 0 ∧ (f3 44 0 = d0 ∧ f3 44 1 = d1 ∧ f3 44 2 = d2 ∧ f3 44 3 = d3) ∧ f3 30 0 = nI 0 ∧ f3 30 24 = -1 ∧ (∀ t, t < n → f3 46 t = D9 (4 + t)) ∧ (∀ t, t < i3 → f3 40 t = D9 (4 + t)) ∧ (∀ t, i3 ≤ t → f3 40 t = fi 40 t) ∧ ∀ a b, ¬ (a = 40 ∨ a = 44 ∨ a = 45 ∨ a = 46 ∨ (a = 30 ∧ (b = 0 ∨ (21 ≤ b ∧ b ≤ 25)))) → f3 a b = fi a b) ∧ zH D A τ f3 fr ol s H ∧ va_S A s.heap H locs ∧ lv_has ls 5 [(0, .ref (τ.1 30)), (1, .int (nI mm)), (4, .int (nI i3))]) x9.1 x9.2) (0, f247) (n - 0) (show n - 0 = n - 0 ∧ (0 ≤ n ∧ zMx f247 n ∧ zMd f247 n ∧ f247 30 21 = nI 0 ∧ (f247 44 0 = d0 ∧ f247 44 1 = d1 ∧ f247 44 2 = d2 ∧ f247 44 3 = d3) ∧ f247 30 0 = nI 0 ∧ f247 30 24 = -1 ∧ (∀ t, t < n → f247 46 t = D9 (4 + t)) ∧ (∀ t, t < 0 → f247 40 t = D9 (4 + t)) ∧ (∀ t, 0 ≤ t → f247 40 t = fi 40 t) ∧ ∀ a b, ¬ (a = 40 ∨ a = 44 ∨ a = 45 ∨ a = 46 ∨ (a = 30 ∧ (b = 0 ∨ (21 ≤ b ∧ b ≤ 25)))) → f247 a b = fi a b) ∧ zH D A τ f247 fr ol s _ ∧ va_S A s.heap _ _ ∧ lv_has _ 5 [(0, .ref (τ.1 30)), (1, .int (nI mm)), (4, .int (nI 0))] from ⟨rfl, ⟨Nat.zero_le _, hMx, hMd, q249, ⟨q258, q259, q260, q261⟩, q250, q257, fun t h => by rw [ef247, zu_n (by omega), ef232, zu_n (by omega), ef218, zu_n (by omega), ef205, zu_n (by omega)]; exact hdt t h, fun t h => absurd h (by omega), fun t h => by rw [ef247, zu_n (by omega), ef232, zu_n (by omega), ef218, zu_n (by omega), ef205, zu_n (by omega), hf197 40 t (by omega)]; exact hfr2 40 t (by omega), fun a b h => by rw [ef247, zu_n (by omega), ef232, zu_n (by omega), ef218, zu_n (by omega), ef205, zu_n (by omega), hf197 a b (by omega)]; exact hfr2 a b (by omega)⟩, hH, hS, lv_sub hl [1, 2, 0] rfl⟩) (fun k9 ih x9 H locs ls hv9 => ?_)
          obtain ⟨i3, f3⟩ := x9
          have hv9 : k9 = n - i3 ∧ (i3 ≤ n ∧ zMx f3 n ∧ zMd f3 n ∧ f3 30 21 = nI 0 ∧ (f3 44 0 = d0 ∧ f3 44 1 = d1 ∧ f3 44 2 = d2 ∧ f3 44 3 = d3) ∧ f3 30 0 = nI 0 ∧ f3 30 24 = -1 ∧ (∀ t, t < n → f3 46 t = D9 (4 + t)) ∧ (∀ t, t < i3 → f3 40 t = D9 (4 + t)) ∧ (∀ t, i3 ≤ t → f3 40 t = fi 40 t) ∧ ∀ a b, ¬ (a = 40 ∨ a = 44 ∨ a = 45 ∨ a = 46 ∨ (a = 30 ∧ (b = 0 ∨ (21 ≤ b ∧ b ≤ 25)))) → f3 a b = fi a b) ∧ zH D A τ f3 fr ol s H ∧ va_S A s.heap H locs ∧ lv_has ls 5 [(0, .ref (τ.1 30)), (1, .int (nI mm)), (4, .int (nI i3))] := hv9
          obtain ⟨hkih263, hv9, hH, hS, hl⟩ := hv9
          obtain ⟨h3, hMx, hMd, p21, h44, p0, p24, h46, hnw, hol, hfr3⟩ := hv9
          have ih263 := ih
          clear ih
          have hMt := zMt.ci (fi' := f3) hMt0 (fun i9 k9 h9 => hfr3 i9 k9 (by omega))
          have p2 := hMt.2.1
          obtain ⟨p440, p441, p442, p443⟩ := h44
          refine lv_iload hx hb dX12_rules_184 (lv_at hl 2 rfl) ?_
          refine lv_aload_n hx hb dX12_rules_186 rfl (lv_at hl 0 rfl) ?_
          refine zGetI (D := D) (ci := 12) (C := RX12) (T := TX12) (N := 71) hx hb hts hiX12 hown hH (zk_30 hF) rfl 2 (by decide) rfl hw4 (fun _ h9 => h9) dX12_rules_187 p2 ?_
          refine lv_icmp_ge (tgt := 213) hx hb dX12_rules_190 (by decide) (fun c264 => ?_) (fun c264 => ?_)
          · have zc264 := c264
            replace zc264 := zc_le (nI_toInt (by omega)) (nI_toInt (by omega)) zc264
            refine lv_iload_n hx hb dX12_rules_213 rfl (lv_at hl 1 rfl) ?_
            refine W.widen (k := 0) (n := 0) (by decide) (by decide) ?_
            exact W.iret (v := nI mm) hx hb hr (fun t9 ht9 hW9 => ⟨⟨nI mm, f3, rfl, ⟨Or.inl ⟨mm, D9, hTz, rfl, p0, p24, zDot_end (by obtain ⟨h91, h92, h93, h94⟩ := hd4; exact ⟨by rw [p440]; exact h91, by rw [p441]; exact h92, by rw [p442]; exact h93, by rw [p443]; exact h94⟩) (by omega) (fun t h => hnw t (by omega)) (fun t h => hol t (by omega))⟩, ⟨p21, hMx, fun a b h => hfr3 a b h⟩⟩, zEnd1 hH ht9 hW9⟩, hS.F ht9⟩) hS.2.2 dX12_rules_214
          · have zc264 := c264
            replace zc264 := zc_nle (nI_toInt (by omega)) (nI_toInt (by omega)) zc264
            refine lv_aload_n hx hb dX12_rules_193 rfl (lv_at hl 0 rfl) ?_
            refine zGetR (D := D) (ci := 12) (C := RX12) (T := TX12) (N := 71) hx hb hts hiX12 hown hH (zk_30 hF) rfl 12 (by decide) rfl hw5 (fun _ h9 => h9) dX12_rules_194 (zr_30_12 hF) ?_
            refine lv_iload hx hb dX12_rules_197 (lv_at hl 2 rfl) ?_
            refine lv_aload_n hx hb dX12_rules_199 rfl (lv_at hl 0 rfl) ?_
            refine zGetR (D := D) (ci := 12) (C := RX12) (T := TX12) (N := 71) hx hb hts hiX12 hown hH (zk_30 hF) rfl 19 (by decide) rfl hw6 (fun _ h9 => h9) dX12_rules_200 (zr_30_19 hF) ?_
            refine lv_iload hx hb dX12_rules_203 (lv_at hl 2 rfl) ?_
            refine zIaldN (D := D) hx hb hH (zk_46 hF) (zn_46 hF) (by omega) (by omega) rfl dX12_rules_205 ?_
            have hsv9 := hMd i3 (by omega)
            refine zIastN (D := D) hx hb hH hS (zk_40 hF) (zn_40 hF) (by omega) (by omega) dX12_rules_206 (fun H locs hH hS => ?_)
            obtain ⟨f265, ef265⟩ : ∃ f9 : zFi, f9 = zu f3 40 i3 (f3 46 i3) := ⟨_, rfl⟩
            rw [← ef265] at hH
            have q266 : f265 30 2 = nI n := by rw [ef265, zu_n (fun h9 => absurd h9.1 (by decide))]; exact p2
            have q267 : f265 30 0 = nI 0 := by rw [ef265, zu_n (fun h9 => absurd h9.1 (by decide))]; exact p0
            have q268 : f265 30 24 = (-1) := by rw [ef265, zu_n (fun h9 => absurd h9.1 (by decide))]; exact p24
            have q269 : f265 44 0 = d0 := by rw [ef265, zu_n (fun h9 => absurd h9.1 (by decide))]; exact p440
            have q270 : f265 44 1 = d1 := by rw [ef265, zu_n (fun h9 => absurd h9.1 (by decide))]; exact p441
            have q271 : f265 44 2 = d2 := by rw [ef265, zu_n (fun h9 => absurd h9.1 (by decide))]; exact p442
            have q272 : f265 44 3 = d3 := by rw [ef265, zu_n (fun h9 => absurd h9.1 (by decide))]; exact p443
            have q273 : f265 40 i3 = f3 46 i3 := by rw [ef265]; exact zu_s
            have hMt := zMt.ci (fi' := f265) hMt (fun i9 k9 h9 => by rw [ef265]; exact zu_n (by omega))
            have hMd := zMd.ci (fi' := f265) hMd (fun i9 k9 h9 => by rw [ef265]; exact zu_n (by omega))
            have hMx := hMx.set ef265 (hsv9)
            refine lv_iinc (v := nI (i3 + 1)) (lv' := [(4, .int (nI (i3 + 1))), (0, .ref (τ.1 30)), (1, .int (nI mm))]) hx hb dX12_rules_207 hl (k := 2) rfl (by rw [show (Int32.ofInt 1 : Int32) = nI 1 from by decide, nI_add]) (by decide) rfl (fun ls hl => ?_)
            refine lv_goto (tgt := 184) hx hb dX12_rules_210 (by decide) ?_
            exact ih263 (n - (i3 + 1)) (by omega) (i3 + 1, f265) _ _ _ (show n - (i3 + 1) = n - (i3 + 1) ∧ ((i3 + 1) ≤ n ∧ zMx f265 n ∧ zMd f265 n ∧ f265 30 21 = nI 0 ∧ (f265 44 0 = d0 ∧ f265 44 1 = d1 ∧ f265 44 2 = d2 ∧ f265 44 3 = d3) ∧ f265 30 0 = nI 0 ∧ f265 30 24 = -1 ∧ (∀ t, t < n → f265 46 t = D9 (4 + t)) ∧ (∀ t, t < (i3 + 1) → f265 40 t = D9 (4 + t)) ∧ (∀ t, (i3 + 1) ≤ t → f265 40 t = fi 40 t) ∧ ∀ a b, ¬ (a = 40 ∨ a = 44 ∨ a = 45 ∨ a = 46 ∨ (a = 30 ∧ (b = 0 ∨ (21 ≤ b ∧ b ≤ 25)))) → f265 a b = fi a b) ∧ zH D A τ f265 fr ol s _ ∧ va_S A s.heap _ _ ∧ lv_has _ 5 [(0, .ref (τ.1 30)), (1, .int (nI mm)), (4, .int (nI (i3 + 1)))] from ⟨rfl, ⟨by omega, hMx, hMd, by rw [ef265, zu_n (by omega)]; exact p21, ⟨q269, q270, q271, q272⟩, q267, q268, fun t h => by rw [ef265, zu_n (by omega)]; exact h46 t h, fun t h => by by_cases h7 : t = i3; (subst h7; rw [ef265, zu_s]; exact h46 t (by omega)); (rw [ef265, zu_n (by omega)]; exact hnw t (by omega)), fun t h => by rw [ef265, zu_n (by omega)]; exact hol t (by omega), fun a b h => by rw [ef265, zu_n (by omega)]; exact hfr3 a b h⟩, hH, hS, lv_sub hl [1, 2, 0] rfl⟩)
        · have zc202 := c202
          replace zc202 := zc_neq (rfl) ((by decide : ((-1) : Int32).toInt = (-1))) zc202
          have hs2y : c192 = L → False := fun h8 => by rcases hsg2 with h9 | h9; omega; exact absurd (by rw [h9.2]; decide) zc202
          refine lv_aload_n hx hb dX12_rules_132 rfl (lv_at hl 0 rfl) ?_
          refine lv_aload_n hx hb dX12_rules_133 rfl (lv_at hl 0 rfl) ?_
          refine zGetI (D := D) (ci := 12) (C := RX12) (T := TX12) (N := 71) hx hb hts hiX12 hown hH (zk_30 hF) rfl 23 (by decide) rfl hw7 (fun _ h9 => h9) dX12_rules_134 q195 ?_
          refine va_calli (va_runV (As := [.int (nI c192)]) (rest := []) ⟨hx, hb, hml, hown, hts⟩ (m_wrongX l hl0 D A sad τ f191 fr ol (nI c192) hF) (cwV 1 hts gX12_rules_X12_wrong rfl rfl rfl (by decide +kernel) ⟨Nat.le_of_ble_eq_true rfl, Nat.le_of_ble_eq_true rfl⟩) ⟨zQc_bl, zRecv hH (zk_30 hF) rfl, zQc_at hz hS hA hH⟩ rfl rfl hl.1 rfl (lv_room (Nat.le_of_ble_eq_true rfl)) dX12_rules_137 ⟨Nat.le_of_ble_eq_true rfl, Nat.le_of_ble_eq_true rfl⟩) hS (fun q _ h => h) (fun q h => h) (fun r274 u9 t9 H1 locs ht9 hvm9 hw hB hz1 hk1 hS => ?_)
          have hH := zMv ht9 hvm9 hB
          clear hB
          generalize u9 = f275 at hw hH
          generalize H1 = H at hH hS ⊢
          obtain ⟨rfl, ef275⟩ := hw
          have q276 : f275 30 22 = nI L := by rw [ef275, zu_n (fun h9 => absurd h9.2 (by decide))]; exact q198
          have q277 : f275 30 21 = nI 0 := by rw [ef275, zu_n (fun h9 => absurd h9.2 (by decide))]; exact q199
          have q278 : f275 30 0 = nI 0 := by rw [ef275, zu_n (fun h9 => absurd h9.2 (by decide))]; exact q200
          have q279 : f275 30 2 = nI n := by rw [ef275, zu_n (fun h9 => absurd h9.2 (by decide))]; exact q201
          have q280 : f275 30 23 = nI c192 := by rw [ef275, zu_n (fun h9 => absurd h9.2 (by decide))]; exact q195
          have q281 : f275 30 24 = nI c192 := by rw [ef275]; exact zu_s
          have hMt := zMt.ci (fi' := f275) hMt (fun i9 k9 h9 => by rw [ef275]; exact zu_n (by omega))
          have hMx := zMx.ci (fi' := f275) hMx (fun i9 k9 h9 => by rw [ef275]; exact zu_n (by omega))
          have hMd := zMd.ci (fi' := f275) hMd (fun i9 k9 h9 => by rw [ef275]; exact zu_n (by omega))
          refine lv_istore_n (lv' := [(3, .int 0), (0, .ref (τ.1 30)), (1, .int (nI mm)), (2, .int (nI m2))]) hx hb dX12_rules_140 rfl hl (by decide) rfl (fun ls hl => ?_)
          refine lv_iload_n hx hb dX12_rules_141 rfl (lv_at hl 0 rfl) ?_
          refine lv_if_ne (tgt := 152) hx hb dX12_rules_142 (by decide) (fun c282 => absurd (by decide) c282) (fun c282 => ?_)
          refine lv_aload_n hx hb dX12_rules_145 rfl (lv_at hl 1 rfl) ?_
          refine lv_iconst (v := nI 1) hx hb dX12_rules_146 (by decide) ?_
          refine zPutI (D := D) (ci := 12) (ty := .int) (C := RX12) (T := TX12) (N := 71) hx hb hts hiX12 tyX12 tyX12_ok nmX12 hown hH hS (zk_30 hF) rfl 0 (by decide) rfl hw0 (fun _ h9 => h9) rfl (by decide +kernel) rfl rfl dX12_rules_147 (fun H locs hH hS => ?_)
          obtain ⟨f283, ef283⟩ : ∃ f9 : zFi, f9 = zu f275 30 0 (nI 1) := ⟨_, rfl⟩
          rw [← ef283] at hH
          have q284 : f283 30 22 = nI L := by rw [ef283, zu_n (fun h9 => absurd h9.2 (by decide))]; exact q276
          have q285 : f283 30 21 = nI 0 := by rw [ef283, zu_n (fun h9 => absurd h9.2 (by decide))]; exact q277
          have q286 : f283 30 2 = nI n := by rw [ef283, zu_n (fun h9 => absurd h9.2 (by decide))]; exact q279
          have q287 : f283 30 23 = nI c192 := by rw [ef283, zu_n (fun h9 => absurd h9.2 (by decide))]; exact q280
          have q288 : f283 30 24 = nI c192 := by rw [ef283, zu_n (fun h9 => absurd h9.2 (by decide))]; exact q281
          have q289 : f283 30 0 = nI 1 := by rw [ef283]; exact zu_s
          have hMt := zMt.ci (fi' := f283) hMt (fun i9 k9 h9 => by rw [ef283]; exact zu_n (by omega))
          have hMx := zMx.ci (fi' := f283) hMx (fun i9 k9 h9 => by rw [ef283]; exact zu_n (by omega))
          have hMd := zMd.ci (fi' := f283) hMd (fun i9 k9 h9 => by rw [ef283]; exact zu_n (by omega))
          refine lv_iconst (v := nI 0) hx hb dX12_rules_150 (by decide) ?_
          refine W.widen (k := 0) (n := 0) (by decide) (by decide) ?_
          exact W.iret (v := nI 0) hx hb hr (fun t9 ht9 hW9 => ⟨⟨nI 0, f283, rfl, ⟨Or.inr ⟨c192, by omega, by rcases hlm with ⟨h9, -⟩ | ⟨h91, h92, h93, ⟨h94, -⟩ | ⟨-, ⟨h94, h95⟩ | ⟨h94, -⟩⟩⟩; (exfalso; rw [h9] at zy3; exact zy3 (by decide)); (exfalso; omega); (rw [hcz2]; exact h95); (exfalso; rw [← hcz2] at h94; exact hs2y h94), rfl, q289, by rw [ef283, zu_n (by omega), ef275, zu_s], zDot_cg (fun a b h => by rw [ef283, zu_n (by omega), ef275, zu_n (by omega), hf197 a b (by omega)]; exact hfr2 a b (by omega))⟩, ⟨q285, hMx, fun a b h => by rw [ef283, zu_n (by omega), ef275, zu_n (by omega), hf197 a b (by omega)]; exact hfr2 a b (by omega)⟩⟩, zEnd1 hH ht9 hW9⟩, hS.F ht9⟩) hS.2.2 dX12_rules_151
    · have zc181 := c181
      replace zc181 := zc_neq (nI_toInt (by omega)) ((by decide : (0 : Int32).toInt = 0)) zc181
      refine lv_iload_n hx hb dX12_rules_72 rfl (lv_at hl 3 rfl) ?_
      refine lv_if_eq (tgt := 120) hx hb dX12_rules_73 (by decide) (fun c290 => ?_) (fun c290 => ?_)
      · have zc290 := c290
        replace zc290 := zc_eq (rfl) ((by decide : (0 : Int32).toInt = 0)) zc290
        have zy3 := zc290
        refine lv_iload_n hx hb dX12_rules_120 rfl (lv_at hl 3 rfl) ?_
        refine lv_if_eq (tgt := 141) hx hb dX12_rules_121 (by decide) (fun c291 => ?_) (fun c291 => ?_)
        · have zc291 := c291
          replace zc291 := zc_eq (rfl) ((by decide : (0 : Int32).toInt = 0)) zc291
          have zy3 := zc291
          refine lv_iload_n hx hb dX12_rules_141 rfl (lv_at hl 3 rfl) ?_
          refine lv_if_ne (tgt := 152) hx hb dX12_rules_142 (by decide) (fun c292 => False.elim (by have zc292 := zc_neq (rfl) ((by decide : (0 : Int32).toInt = 0)) c292; omega)) (fun c292 => ?_)
          refine lv_aload_n hx hb dX12_rules_145 rfl (lv_at hl 0 rfl) ?_
          refine lv_iconst (v := nI 1) hx hb dX12_rules_146 (by decide) ?_
          refine zPutI (D := D) (ci := 12) (ty := .int) (C := RX12) (T := TX12) (N := 71) hx hb hts hiX12 tyX12 tyX12_ok nmX12 hown hH hS (zk_30 hF) rfl 0 (by decide) rfl hw0 (fun _ h9 => h9) rfl (by decide +kernel) rfl rfl dX12_rules_147 (fun H locs hH hS => ?_)
          obtain ⟨f293, ef293⟩ : ∃ f9 : zFi, f9 = zu f2 30 0 (nI 1) := ⟨_, rfl⟩
          rw [← ef293] at hH
          have q294 : f293 30 22 = nI L := by rw [ef293, zu_n (fun h9 => absurd h9.2 (by decide))]; exact p22
          have q295 : f293 30 21 = nI 0 := by rw [ef293, zu_n (fun h9 => absurd h9.2 (by decide))]; exact p21
          have q296 : f293 30 23 = nI c := by rw [ef293, zu_n (fun h9 => absurd h9.2 (by decide))]; exact p23
          have q297 : f293 30 2 = nI n := by rw [ef293, zu_n (fun h9 => absurd h9.2 (by decide))]; exact p2
          have q298 : f293 30 0 = nI 1 := by rw [ef293]; exact zu_s
          have hMt := zMt.ci (fi' := f293) hMt (fun i9 k9 h9 => by rw [ef293]; exact zu_n (by omega))
          have hMx := zMx.ci (fi' := f293) hMx (fun i9 k9 h9 => by rw [ef293]; exact zu_n (by omega))
          have hMd := zMd.ci (fi' := f293) hMd (fun i9 k9 h9 => by rw [ef293]; exact zu_n (by omega))
          refine lv_iconst (v := nI 0) hx hb dX12_rules_150 (by decide) ?_
          refine W.widen (k := 0) (n := 0) (by decide) (by decide) ?_
          exact W.iret (v := nI 0) hx hb hr (fun t9 ht9 hW9 => ⟨⟨nI 0, f293, rfl, ⟨Or.inr (by rcases hlm with ⟨-, -, px, hpx, h91, h92⟩ | ⟨h9, -⟩; (exact ⟨px, hpx, h91, rfl, q298, by rw [ef293, zu_n (by omega)]; exact h92, zDot_cg (fun a b h => by rw [ef293, zu_n (by omega)]; exact hfr2 a b (by omega))⟩); (exfalso; rw [h9] at zy3; exact absurd zy3 (by decide))), ⟨q295, hMx, fun a b h => by rw [ef293, zu_n (by omega)]; exact hfr2 a b (by omega)⟩⟩, zEnd1 hH ht9 hW9⟩, hS.F ht9⟩) hS.2.2 dX12_rules_151
        · have zc291 := c291
          replace zc291 := zc_neq (rfl) ((by decide : (0 : Int32).toInt = 0)) zc291
          have zy3 := zc291
          refine lv_aload_n hx hb dX12_rules_124 rfl (lv_at hl 0 rfl) ?_
          refine va_calli (va_runV (As := []) (rest := []) ⟨hx, hb, hml, hown, hts⟩ (m_signX l hl0 D A sad τ f2 fr ol L c hF p22 p23 (by omega) (by omega)) (cwV 0 hts gX12_rules_X12_sign rfl rfl rfl (by decide +kernel) ⟨Nat.le_of_ble_eq_true rfl, Nat.le_of_ble_eq_true rfl⟩) ⟨zQc_bl, zRecv hH (zk_30 hF) rfl, zQc_at hz hS hA hH⟩ rfl rfl hl.1 rfl (lv_room (Nat.le_of_ble_eq_true rfl)) dX12_rules_125 ⟨Nat.le_of_ble_eq_true rfl, Nat.le_of_ble_eq_true rfl⟩) hS (fun q _ h => h) (fun q h => h) (fun r299 u9 t9 H1 locs ht9 hvm9 hw hB hz1 hk1 hS => ?_)
          have hH := zMv ht9 hvm9 hB
          clear hB
          generalize u9 = f300 at hw hH
          generalize H1 = H at hH hS ⊢
          obtain ⟨-, ⟨c301, hc302, hc303, q304, hx305⟩, hf306⟩ := hw
          rw [(funext (fun k9 => hfr2 _ k9 (by omega)) : f2 47 = fi 47)] at hx305
          have q307 : f300 30 22 = nI L := by rw [hf306 30 22 (by omega)]; exact p22
          have q308 : f300 30 21 = nI 0 := by rw [hf306 30 21 (by omega)]; exact p21
          have q309 : f300 30 0 = nI 0 := by rw [hf306 30 0 (by omega)]; exact p0
          have q310 : f300 30 2 = nI n := by rw [hf306 30 2 (by omega)]; exact p2
          have hMt := zMt.ci (fi' := f300) hMt (fun i9 k9 h9 => hf306 i9 k9 (by omega))
          have hMx := zMx.ci (fi' := f300) hMx (fun i9 k9 h9 => hf306 i9 k9 (by omega))
          have hMd := zMd.ci (fi' := f300) hMd (fun i9 k9 h9 => hf306 i9 k9 (by omega))
          obtain ⟨hcz2, hsg2⟩ := hx305
          refine lv_iconst (v := (-1)) hx hb dX12_rules_128 (by decide) ?_
          refine lv_icmp_eq (tgt := 141) hx hb dX12_rules_129 (by decide) (fun c311 => ?_) (fun c311 => ?_)
          · have zc311 := c311
            replace zc311 := zc_eq (rfl) ((by decide : ((-1) : Int32).toInt = (-1))) zc311
            have hs2n : c301 < L → False := fun h8 => by rcases hsg2 with h9 | h9; (have h7 := hB0 c301 h8; rw [← h9.2] at h7; omega); omega
            refine lv_iload_n hx hb dX12_rules_141 rfl (lv_at hl 3 rfl) ?_
            refine lv_if_ne (tgt := 152) hx hb dX12_rules_142 (by decide) (fun c312 => ?_) (fun c312 => False.elim (by have zc312 := zc_eq (rfl) ((by decide : (0 : Int32).toInt = 0)) c312; omega))
            obtain ⟨d0, hd0⟩ : ∃ w, f300 45 0 = w := ⟨_, rfl⟩
            obtain ⟨d1, hd1⟩ : ∃ w, f300 45 1 = w := ⟨_, rfl⟩
            obtain ⟨d2, hd2⟩ : ∃ w, f300 45 2 = w := ⟨_, rfl⟩
            obtain ⟨d3, hd3⟩ : ∃ w, f300 45 3 = w := ⟨_, rfl⟩
            obtain ⟨hm24, hDg, hTz⟩ : f2 30 24 = -1 ∧ (∀ k, k < 4 + n → zDmo f2 k = D9 k) ∧ zRls (fi 47) L (fi 31) n 401 (zS (fi 47) L 0) (zDot fi) 0 = .ok (mm, D9) := by
              rcases hlm with ⟨h9, -⟩ | ⟨h91, h92, h93, ⟨h94, -⟩ | ⟨-, ⟨h94, -⟩ | ⟨-, h94⟩⟩⟩
              · exfalso; rw [h9] at zy3; exact zy3 (by decide)
              · exfalso; omega
              · exfalso; rw [← hcz2] at h94; rcases hsg2 with h9 | h9; exact hs2n h9.1; omega
              · exact ⟨h92, h93, h94⟩
            have hdn : ∀ k, k < 4 → f300 45 k = D9 k := fun k hk => by rw [hf306 45 k (by omega)]; exact zDmo_n hDg k hk
            have hdt : ∀ t, t < n → f300 46 t = D9 (4 + t) := fun t ht => by rw [hf306 46 t (by omega)]; exact zDmo_t (by omega) hDg t ht
            have k24 : f300 30 24 = -1 := by rw [hf306 30 24 (by omega)]; exact hm24
            have hd4 : d0 = D9 0 ∧ d1 = D9 1 ∧ d2 = D9 2 ∧ d3 = D9 3 := ⟨hd0.symm.trans (hdn 0 (by omega)), hd1.symm.trans (hdn 1 (by omega)), hd2.symm.trans (hdn 2 (by omega)), hd3.symm.trans (hdn 3 (by omega))⟩
            refine lv_iconst (v := nI 0) hx hb dX12_rules_152 (by decide) ?_
            refine lv_istore (lv' := [(4, .int (nI 0)), (0, .ref (τ.1 30)), (1, .int (nI mm)), (2, .int (nI m2)), (3, .int y3)]) hx hb dX12_rules_153 hl (by decide) rfl (fun ls hl => ?_)
            refine lv_iload hx hb dX12_rules_155 (lv_at hl 0 rfl) ?_
            refine lv_iconst (v := nI 4) hx hb dX12_rules_157 (by decide) ?_
            refine lv_icmp_ge (tgt := 181) hx hb dX12_rules_158 (by decide) (fun c313 => absurd c313 (by decide)) (fun c313 => ?_)
            refine lv_aload_n hx hb dX12_rules_161 rfl (lv_at hl 1 rfl) ?_
            refine zGetR (D := D) (ci := 12) (C := RX12) (T := TX12) (N := 71) hx hb hts hiX12 hown hH (zk_30 hF) rfl 17 (by decide) rfl hw3 (fun _ h9 => h9) dX12_rules_162 (zr_30_17 hF) ?_
            refine lv_iload hx hb dX12_rules_165 (lv_at hl 0 rfl) ?_
            refine lv_aload_n hx hb dX12_rules_167 rfl (lv_at hl 1 rfl) ?_
            refine zGetR (D := D) (ci := 12) (C := RX12) (T := TX12) (N := 71) hx hb hts hiX12 hown hH (zk_30 hF) rfl 18 (by decide) rfl hw2 (fun _ h9 => h9) dX12_rules_168 (zr_30_18 hF) ?_
            refine lv_iload hx hb dX12_rules_171 (lv_at hl 0 rfl) ?_
            refine zIaldN (D := D) hx hb hH (zk_45 hF) (zn_45 hF) (by omega) (by omega) hd0 dX12_rules_173 ?_
            refine zIastN (D := D) hx hb hH hS (zk_44 hF) (zn_44 hF) (by omega) (by omega) dX12_rules_174 (fun H locs hH hS => ?_)
            obtain ⟨f314, ef314⟩ : ∃ f9 : zFi, f9 = zu f300 44 0 d0 := ⟨_, rfl⟩
            rw [← ef314] at hH
            have q315 : f314 30 22 = nI L := by rw [ef314, zu_n (fun h9 => absurd h9.1 (by decide))]; exact q307
            have q316 : f314 30 21 = nI 0 := by rw [ef314, zu_n (fun h9 => absurd h9.1 (by decide))]; exact q308
            have q317 : f314 30 0 = nI 0 := by rw [ef314, zu_n (fun h9 => absurd h9.1 (by decide))]; exact q309
            have q318 : f314 30 2 = nI n := by rw [ef314, zu_n (fun h9 => absurd h9.1 (by decide))]; exact q310
            have q319 : f314 30 23 = nI c301 := by rw [ef314, zu_n (fun h9 => absurd h9.1 (by decide))]; exact q304
            have q320 : f314 45 0 = d0 := by rw [ef314, zu_n (fun h9 => absurd h9.1 (by decide))]; exact hd0
            have q321 : f314 45 1 = d1 := by rw [ef314, zu_n (fun h9 => absurd h9.1 (by decide))]; exact hd1
            have q322 : f314 45 2 = d2 := by rw [ef314, zu_n (fun h9 => absurd h9.1 (by decide))]; exact hd2
            have q323 : f314 45 3 = d3 := by rw [ef314, zu_n (fun h9 => absurd h9.1 (by decide))]; exact hd3
            have q324 : f314 30 24 = (-1) := by rw [ef314, zu_n (fun h9 => absurd h9.1 (by decide))]; exact k24
            have q325 : f314 44 0 = d0 := by rw [ef314]; exact zu_s
            have hMt := zMt.ci (fi' := f314) hMt (fun i9 k9 h9 => by rw [ef314]; exact zu_n (by omega))
            have hMx := zMx.ci (fi' := f314) hMx (fun i9 k9 h9 => by rw [ef314]; exact zu_n (by omega))
            have hMd := zMd.ci (fi' := f314) hMd (fun i9 k9 h9 => by rw [ef314]; exact zu_n (by omega))
            refine lv_iinc (v := nI 1) (lv' := [(4, .int (nI 1)), (0, .ref (τ.1 30)), (1, .int (nI mm)), (2, .int (nI m2)), (3, .int y3)]) hx hb dX12_rules_175 hl (k := 0) rfl (by decide) (by decide) rfl (fun ls hl => ?_)
            refine lv_goto (tgt := 155) hx hb dX12_rules_178 (by decide) ?_
            refine lv_iload hx hb dX12_rules_155 (lv_at hl 0 rfl) ?_
            refine lv_iconst (v := nI 4) hx hb dX12_rules_157 (by decide) ?_
            refine lv_icmp_ge (tgt := 181) hx hb dX12_rules_158 (by decide) (fun c326 => absurd c326 (by decide)) (fun c326 => ?_)
            refine lv_aload_n hx hb dX12_rules_161 rfl (lv_at hl 1 rfl) ?_
            refine zGetR (D := D) (ci := 12) (C := RX12) (T := TX12) (N := 71) hx hb hts hiX12 hown hH (zk_30 hF) rfl 17 (by decide) rfl hw3 (fun _ h9 => h9) dX12_rules_162 (zr_30_17 hF) ?_
            refine lv_iload hx hb dX12_rules_165 (lv_at hl 0 rfl) ?_
            refine lv_aload_n hx hb dX12_rules_167 rfl (lv_at hl 1 rfl) ?_
            refine zGetR (D := D) (ci := 12) (C := RX12) (T := TX12) (N := 71) hx hb hts hiX12 hown hH (zk_30 hF) rfl 18 (by decide) rfl hw2 (fun _ h9 => h9) dX12_rules_168 (zr_30_18 hF) ?_
            refine lv_iload hx hb dX12_rules_171 (lv_at hl 0 rfl) ?_
            refine zIaldN (D := D) hx hb hH (zk_45 hF) (zn_45 hF) (by omega) (by omega) q321 dX12_rules_173 ?_
            refine zIastN (D := D) hx hb hH hS (zk_44 hF) (zn_44 hF) (by omega) (by omega) dX12_rules_174 (fun H locs hH hS => ?_)
            obtain ⟨f327, ef327⟩ : ∃ f9 : zFi, f9 = zu f314 44 1 d1 := ⟨_, rfl⟩
            rw [← ef327] at hH
            have q328 : f327 30 22 = nI L := by rw [ef327, zu_n (fun h9 => absurd h9.1 (by decide))]; exact q315
            have q329 : f327 30 21 = nI 0 := by rw [ef327, zu_n (fun h9 => absurd h9.1 (by decide))]; exact q316
            have q330 : f327 30 0 = nI 0 := by rw [ef327, zu_n (fun h9 => absurd h9.1 (by decide))]; exact q317
            have q331 : f327 30 2 = nI n := by rw [ef327, zu_n (fun h9 => absurd h9.1 (by decide))]; exact q318
            have q332 : f327 30 23 = nI c301 := by rw [ef327, zu_n (fun h9 => absurd h9.1 (by decide))]; exact q319
            have q333 : f327 45 0 = d0 := by rw [ef327, zu_n (fun h9 => absurd h9.1 (by decide))]; exact q320
            have q334 : f327 45 1 = d1 := by rw [ef327, zu_n (fun h9 => absurd h9.1 (by decide))]; exact q321
            have q335 : f327 45 2 = d2 := by rw [ef327, zu_n (fun h9 => absurd h9.1 (by decide))]; exact q322
            have q336 : f327 45 3 = d3 := by rw [ef327, zu_n (fun h9 => absurd h9.1 (by decide))]; exact q323
            have q337 : f327 30 24 = (-1) := by rw [ef327, zu_n (fun h9 => absurd h9.1 (by decide))]; exact q324
            have q338 : f327 44 0 = d0 := by rw [ef327, zu_n (fun h9 => absurd h9.2 (by decide))]; exact q325
            have q339 : f327 44 1 = d1 := by rw [ef327]; exact zu_s
            have hMt := zMt.ci (fi' := f327) hMt (fun i9 k9 h9 => by rw [ef327]; exact zu_n (by omega))
            have hMx := zMx.ci (fi' := f327) hMx (fun i9 k9 h9 => by rw [ef327]; exact zu_n (by omega))
            have hMd := zMd.ci (fi' := f327) hMd (fun i9 k9 h9 => by rw [ef327]; exact zu_n (by omega))
            refine lv_iinc (v := nI 2) (lv' := [(4, .int (nI 2)), (0, .ref (τ.1 30)), (1, .int (nI mm)), (2, .int (nI m2)), (3, .int y3)]) hx hb dX12_rules_175 hl (k := 0) rfl (by decide) (by decide) rfl (fun ls hl => ?_)
            refine lv_goto (tgt := 155) hx hb dX12_rules_178 (by decide) ?_
            refine lv_iload hx hb dX12_rules_155 (lv_at hl 0 rfl) ?_
            refine lv_iconst (v := nI 4) hx hb dX12_rules_157 (by decide) ?_
            refine lv_icmp_ge (tgt := 181) hx hb dX12_rules_158 (by decide) (fun c340 => absurd c340 (by decide)) (fun c340 => ?_)
            refine lv_aload_n hx hb dX12_rules_161 rfl (lv_at hl 1 rfl) ?_
            refine zGetR (D := D) (ci := 12) (C := RX12) (T := TX12) (N := 71) hx hb hts hiX12 hown hH (zk_30 hF) rfl 17 (by decide) rfl hw3 (fun _ h9 => h9) dX12_rules_162 (zr_30_17 hF) ?_
            refine lv_iload hx hb dX12_rules_165 (lv_at hl 0 rfl) ?_
            refine lv_aload_n hx hb dX12_rules_167 rfl (lv_at hl 1 rfl) ?_
            refine zGetR (D := D) (ci := 12) (C := RX12) (T := TX12) (N := 71) hx hb hts hiX12 hown hH (zk_30 hF) rfl 18 (by decide) rfl hw2 (fun _ h9 => h9) dX12_rules_168 (zr_30_18 hF) ?_
            refine lv_iload hx hb dX12_rules_171 (lv_at hl 0 rfl) ?_
            refine zIaldN (D := D) hx hb hH (zk_45 hF) (zn_45 hF) (by omega) (by omega) q335 dX12_rules_173 ?_
            refine zIastN (D := D) hx hb hH hS (zk_44 hF) (zn_44 hF) (by omega) (by omega) dX12_rules_174 (fun H locs hH hS => ?_)
            obtain ⟨f341, ef341⟩ : ∃ f9 : zFi, f9 = zu f327 44 2 d2 := ⟨_, rfl⟩
            rw [← ef341] at hH
            have q342 : f341 30 22 = nI L := by rw [ef341, zu_n (fun h9 => absurd h9.1 (by decide))]; exact q328
            have q343 : f341 30 21 = nI 0 := by rw [ef341, zu_n (fun h9 => absurd h9.1 (by decide))]; exact q329
            have q344 : f341 30 0 = nI 0 := by rw [ef341, zu_n (fun h9 => absurd h9.1 (by decide))]; exact q330
            have q345 : f341 30 2 = nI n := by rw [ef341, zu_n (fun h9 => absurd h9.1 (by decide))]; exact q331
            have q346 : f341 30 23 = nI c301 := by rw [ef341, zu_n (fun h9 => absurd h9.1 (by decide))]; exact q332
            have q347 : f341 45 0 = d0 := by rw [ef341, zu_n (fun h9 => absurd h9.1 (by decide))]; exact q333
            have q348 : f341 45 1 = d1 := by rw [ef341, zu_n (fun h9 => absurd h9.1 (by decide))]; exact q334
            have q349 : f341 45 2 = d2 := by rw [ef341, zu_n (fun h9 => absurd h9.1 (by decide))]; exact q335
            have q350 : f341 45 3 = d3 := by rw [ef341, zu_n (fun h9 => absurd h9.1 (by decide))]; exact q336
            have q351 : f341 30 24 = (-1) := by rw [ef341, zu_n (fun h9 => absurd h9.1 (by decide))]; exact q337
            have q352 : f341 44 0 = d0 := by rw [ef341, zu_n (fun h9 => absurd h9.2 (by decide))]; exact q338
            have q353 : f341 44 1 = d1 := by rw [ef341, zu_n (fun h9 => absurd h9.2 (by decide))]; exact q339
            have q354 : f341 44 2 = d2 := by rw [ef341]; exact zu_s
            have hMt := zMt.ci (fi' := f341) hMt (fun i9 k9 h9 => by rw [ef341]; exact zu_n (by omega))
            have hMx := zMx.ci (fi' := f341) hMx (fun i9 k9 h9 => by rw [ef341]; exact zu_n (by omega))
            have hMd := zMd.ci (fi' := f341) hMd (fun i9 k9 h9 => by rw [ef341]; exact zu_n (by omega))
            refine lv_iinc (v := nI 3) (lv' := [(4, .int (nI 3)), (0, .ref (τ.1 30)), (1, .int (nI mm)), (2, .int (nI m2)), (3, .int y3)]) hx hb dX12_rules_175 hl (k := 0) rfl (by decide) (by decide) rfl (fun ls hl => ?_)
            refine lv_goto (tgt := 155) hx hb dX12_rules_178 (by decide) ?_
            refine lv_iload hx hb dX12_rules_155 (lv_at hl 0 rfl) ?_
            refine lv_iconst (v := nI 4) hx hb dX12_rules_157 (by decide) ?_
            refine lv_icmp_ge (tgt := 181) hx hb dX12_rules_158 (by decide) (fun c355 => absurd c355 (by decide)) (fun c355 => ?_)
            refine lv_aload_n hx hb dX12_rules_161 rfl (lv_at hl 1 rfl) ?_
            refine zGetR (D := D) (ci := 12) (C := RX12) (T := TX12) (N := 71) hx hb hts hiX12 hown hH (zk_30 hF) rfl 17 (by decide) rfl hw3 (fun _ h9 => h9) dX12_rules_162 (zr_30_17 hF) ?_
            refine lv_iload hx hb dX12_rules_165 (lv_at hl 0 rfl) ?_
            refine lv_aload_n hx hb dX12_rules_167 rfl (lv_at hl 1 rfl) ?_
            refine zGetR (D := D) (ci := 12) (C := RX12) (T := TX12) (N := 71) hx hb hts hiX12 hown hH (zk_30 hF) rfl 18 (by decide) rfl hw2 (fun _ h9 => h9) dX12_rules_168 (zr_30_18 hF) ?_
            refine lv_iload hx hb dX12_rules_171 (lv_at hl 0 rfl) ?_
            refine zIaldN (D := D) hx hb hH (zk_45 hF) (zn_45 hF) (by omega) (by omega) q350 dX12_rules_173 ?_
            refine zIastN (D := D) hx hb hH hS (zk_44 hF) (zn_44 hF) (by omega) (by omega) dX12_rules_174 (fun H locs hH hS => ?_)
            obtain ⟨f356, ef356⟩ : ∃ f9 : zFi, f9 = zu f341 44 3 d3 := ⟨_, rfl⟩
            rw [← ef356] at hH
            have q357 : f356 30 22 = nI L := by rw [ef356, zu_n (fun h9 => absurd h9.1 (by decide))]; exact q342
            have q358 : f356 30 21 = nI 0 := by rw [ef356, zu_n (fun h9 => absurd h9.1 (by decide))]; exact q343
            have q359 : f356 30 0 = nI 0 := by rw [ef356, zu_n (fun h9 => absurd h9.1 (by decide))]; exact q344
            have q360 : f356 30 2 = nI n := by rw [ef356, zu_n (fun h9 => absurd h9.1 (by decide))]; exact q345
            have q361 : f356 30 23 = nI c301 := by rw [ef356, zu_n (fun h9 => absurd h9.1 (by decide))]; exact q346
            have q362 : f356 45 0 = d0 := by rw [ef356, zu_n (fun h9 => absurd h9.1 (by decide))]; exact q347
            have q363 : f356 45 1 = d1 := by rw [ef356, zu_n (fun h9 => absurd h9.1 (by decide))]; exact q348
            have q364 : f356 45 2 = d2 := by rw [ef356, zu_n (fun h9 => absurd h9.1 (by decide))]; exact q349
            have q365 : f356 45 3 = d3 := by rw [ef356, zu_n (fun h9 => absurd h9.1 (by decide))]; exact q350
            have q366 : f356 30 24 = (-1) := by rw [ef356, zu_n (fun h9 => absurd h9.1 (by decide))]; exact q351
            have q367 : f356 44 0 = d0 := by rw [ef356, zu_n (fun h9 => absurd h9.2 (by decide))]; exact q352
            have q368 : f356 44 1 = d1 := by rw [ef356, zu_n (fun h9 => absurd h9.2 (by decide))]; exact q353
            have q369 : f356 44 2 = d2 := by rw [ef356, zu_n (fun h9 => absurd h9.2 (by decide))]; exact q354
            have q370 : f356 44 3 = d3 := by rw [ef356]; exact zu_s
            have hMt := zMt.ci (fi' := f356) hMt (fun i9 k9 h9 => by rw [ef356]; exact zu_n (by omega))
            have hMx := zMx.ci (fi' := f356) hMx (fun i9 k9 h9 => by rw [ef356]; exact zu_n (by omega))
            have hMd := zMd.ci (fi' := f356) hMd (fun i9 k9 h9 => by rw [ef356]; exact zu_n (by omega))
            refine lv_iinc (v := nI 4) (lv' := [(4, .int (nI 4)), (0, .ref (τ.1 30)), (1, .int (nI mm)), (2, .int (nI m2)), (3, .int y3)]) hx hb dX12_rules_175 hl (k := 0) rfl (by decide) (by decide) rfl (fun ls hl => ?_)
            refine lv_goto (tgt := 155) hx hb dX12_rules_178 (by decide) ?_
            refine lv_iload hx hb dX12_rules_155 (lv_at hl 0 rfl) ?_
            refine lv_iconst (v := nI 4) hx hb dX12_rules_157 (by decide) ?_
            refine lv_icmp_ge (tgt := 181) hx hb dX12_rules_158 (by decide) (fun c371 => ?_) (fun c371 => absurd (by decide) c371)
            refine lv_iconst (v := nI 0) hx hb dX12_rules_181 (by decide) ?_
            refine lv_istore (lv' := [(4, .int (nI 0)), (0, .ref (τ.1 30)), (1, .int (nI mm)), (2, .int (nI m2)), (3, .int y3)]) hx hb dX12_rules_182 hl (by decide) rfl (fun ls hl => ?_)
            refine zLp (σ := Nat × zFi) (fun x9 k9 H locs ls => (fun (i3 : Nat) (f3 : zFi) => k9 = n - i3 ∧ (i3 ≤ n ∧ zMx f3 n ∧ zMd f3 n ∧ f3 30 21 = nI 0 ∧ (f3 44 0 = d0 ∧ f3 44 1 = d1 ∧ f3 44 2 = d2 ∧ f3 44 3 = d3) ∧ f3 30 0 = nI 0 ∧ f3 30 24 = -1 ∧ (∀ t, t < n → f3 46 t = D9 (4 + t)) ∧ (∀ t, t < i3 → f3 40 t = D9 (4 + t)) ∧ (∀ t, i3 ≤ t → f3 40 t = fi 40 t) ∧ ∀ a b, ¬ (a = 40 ∨ a = 44 ∨ a = 45 ∨ a = 46 ∨ (a = 30 ∧ (b = 0 ∨ (21 ≤ b ∧ b ≤ 25)))) → f3 a b = fi a b) ∧ zH D A τ f3 fr ol s H ∧ va_S A s.heap H locs ∧ lv_has ls 5 [(0, .ref (τ.1 30)), (1, .int (nI mm)), (4, .int (nI i3))]) x9.1 x9.2) (0, f356) (n - 0) (show n - 0 = n - 0 ∧ (0 ≤ n ∧ zMx f356 n ∧ zMd f356 n ∧ f356 30 21 = nI 0 ∧ (f356 44 0 = d0 ∧ f356 44 1 = d1 ∧ f356 44 2 = d2 ∧ f356 44 3 = d3) ∧ f356 30 0 = nI 0 ∧ f356 30 24 = -1 ∧ (∀ t, t < n → f356 46 t = D9 (4 + t)) ∧ (∀ t, t < 0 → f356 40 t = D9 (4 + t)) ∧ (∀ t, 0 ≤ t → f356 40 t = fi 40 t) ∧ ∀ a b, ¬ (a = 40 ∨ a = 44 ∨ a = 45 ∨ a = 46 ∨ (a = 30 ∧ (b = 0 ∨ (21 ≤ b ∧ b ≤ 25)))) → f356 a b = fi a b) ∧ zH D A τ f356 fr ol s _ ∧ va_S A s.heap _ _ ∧ lv_has _ 5 [(0, .ref (τ.1 30)), (1, .int (nI mm)), (4, .int (nI 0))] from ⟨rfl, ⟨Nat.zero_le _, hMx, hMd, q358, ⟨q367, q368, q369, q370⟩, q359, q366, fun t h => by rw [ef356, zu_n (by omega), ef341, zu_n (by omega), ef327, zu_n (by omega), ef314, zu_n (by omega)]; exact hdt t h, fun t h => absurd h (by omega), fun t h => by rw [ef356, zu_n (by omega), ef341, zu_n (by omega), ef327, zu_n (by omega), ef314, zu_n (by omega), hf306 40 t (by omega)]; exact hfr2 40 t (by omega), fun a b h => by rw [ef356, zu_n (by omega), ef341, zu_n (by omega), ef327, zu_n (by omega), ef314, zu_n (by omega), hf306 a b (by omega)]; exact hfr2 a b (by omega)⟩, hH, hS, lv_sub hl [1, 2, 0] rfl⟩) (fun k9 ih x9 H locs ls hv9 => ?_)
            obtain ⟨i3, f3⟩ := x9
            have hv9 : k9 = n - i3 ∧ (i3 ≤ n ∧ zMx f3 n ∧ zMd f3 n ∧ f3 30 21 = nI 0 ∧ (f3 44 0 = d0 ∧ f3 44 1 = d1 ∧ f3 44 2 = d2 ∧ f3 44 3 = d3) ∧ f3 30 0 = nI 0 ∧ f3 30 24 = -1 ∧ (∀ t, t < n → f3 46 t = D9 (4 + t)) ∧ (∀ t, t < i3 → f3 40 t = D9 (4 + t)) ∧ (∀ t, i3 ≤ t → f3 40 t = fi 40 t) ∧ ∀ a b, ¬ (a = 40 ∨ a = 44 ∨ a = 45 ∨ a = 46 ∨ (a = 30 ∧ (b = 0 ∨ (21 ≤ b ∧ b ≤ 25)))) → f3 a b = fi a b) ∧ zH D A τ f3 fr ol s H ∧ va_S A s.heap H locs ∧ lv_has ls 5 [(0, .ref (τ.1 30)), (1, .int (nI mm)), (4, .int (nI i3))] := hv9
            obtain ⟨hkih372, hv9, hH, hS, hl⟩ := hv9
            obtain ⟨h3, hMx, hMd, p21, h44, p0, p24, h46, hnw, hol, hfr3⟩ := hv9
            have ih372 := ih
            clear ih
            have hMt := zMt.ci (fi' := f3) hMt0 (fun i9 k9 h9 => hfr3 i9 k9 (by omega))
            have p2 := hMt.2.1
            obtain ⟨p440, p441, p442, p443⟩ := h44
            refine lv_iload hx hb dX12_rules_184 (lv_at hl 2 rfl) ?_
            refine lv_aload_n hx hb dX12_rules_186 rfl (lv_at hl 0 rfl) ?_
            refine zGetI (D := D) (ci := 12) (C := RX12) (T := TX12) (N := 71) hx hb hts hiX12 hown hH (zk_30 hF) rfl 2 (by decide) rfl hw4 (fun _ h9 => h9) dX12_rules_187 p2 ?_
            refine lv_icmp_ge (tgt := 213) hx hb dX12_rules_190 (by decide) (fun c373 => ?_) (fun c373 => ?_)
            · have zc373 := c373
              replace zc373 := zc_le (nI_toInt (by omega)) (nI_toInt (by omega)) zc373
              refine lv_iload_n hx hb dX12_rules_213 rfl (lv_at hl 1 rfl) ?_
              refine W.widen (k := 0) (n := 0) (by decide) (by decide) ?_
              exact W.iret (v := nI mm) hx hb hr (fun t9 ht9 hW9 => ⟨⟨nI mm, f3, rfl, ⟨Or.inl ⟨mm, D9, hTz, rfl, p0, p24, zDot_end (by obtain ⟨h91, h92, h93, h94⟩ := hd4; exact ⟨by rw [p440]; exact h91, by rw [p441]; exact h92, by rw [p442]; exact h93, by rw [p443]; exact h94⟩) (by omega) (fun t h => hnw t (by omega)) (fun t h => hol t (by omega))⟩, ⟨p21, hMx, fun a b h => hfr3 a b h⟩⟩, zEnd1 hH ht9 hW9⟩, hS.F ht9⟩) hS.2.2 dX12_rules_214
            · have zc373 := c373
              replace zc373 := zc_nle (nI_toInt (by omega)) (nI_toInt (by omega)) zc373
              refine lv_aload_n hx hb dX12_rules_193 rfl (lv_at hl 0 rfl) ?_
              refine zGetR (D := D) (ci := 12) (C := RX12) (T := TX12) (N := 71) hx hb hts hiX12 hown hH (zk_30 hF) rfl 12 (by decide) rfl hw5 (fun _ h9 => h9) dX12_rules_194 (zr_30_12 hF) ?_
              refine lv_iload hx hb dX12_rules_197 (lv_at hl 2 rfl) ?_
              refine lv_aload_n hx hb dX12_rules_199 rfl (lv_at hl 0 rfl) ?_
              refine zGetR (D := D) (ci := 12) (C := RX12) (T := TX12) (N := 71) hx hb hts hiX12 hown hH (zk_30 hF) rfl 19 (by decide) rfl hw6 (fun _ h9 => h9) dX12_rules_200 (zr_30_19 hF) ?_
              refine lv_iload hx hb dX12_rules_203 (lv_at hl 2 rfl) ?_
              refine zIaldN (D := D) hx hb hH (zk_46 hF) (zn_46 hF) (by omega) (by omega) rfl dX12_rules_205 ?_
              have hsv9 := hMd i3 (by omega)
              refine zIastN (D := D) hx hb hH hS (zk_40 hF) (zn_40 hF) (by omega) (by omega) dX12_rules_206 (fun H locs hH hS => ?_)
              obtain ⟨f374, ef374⟩ : ∃ f9 : zFi, f9 = zu f3 40 i3 (f3 46 i3) := ⟨_, rfl⟩
              rw [← ef374] at hH
              have q375 : f374 30 2 = nI n := by rw [ef374, zu_n (fun h9 => absurd h9.1 (by decide))]; exact p2
              have q376 : f374 30 0 = nI 0 := by rw [ef374, zu_n (fun h9 => absurd h9.1 (by decide))]; exact p0
              have q377 : f374 30 24 = (-1) := by rw [ef374, zu_n (fun h9 => absurd h9.1 (by decide))]; exact p24
              have q378 : f374 44 0 = d0 := by rw [ef374, zu_n (fun h9 => absurd h9.1 (by decide))]; exact p440
              have q379 : f374 44 1 = d1 := by rw [ef374, zu_n (fun h9 => absurd h9.1 (by decide))]; exact p441
              have q380 : f374 44 2 = d2 := by rw [ef374, zu_n (fun h9 => absurd h9.1 (by decide))]; exact p442
              have q381 : f374 44 3 = d3 := by rw [ef374, zu_n (fun h9 => absurd h9.1 (by decide))]; exact p443
              have q382 : f374 40 i3 = f3 46 i3 := by rw [ef374]; exact zu_s
              have hMt := zMt.ci (fi' := f374) hMt (fun i9 k9 h9 => by rw [ef374]; exact zu_n (by omega))
              have hMd := zMd.ci (fi' := f374) hMd (fun i9 k9 h9 => by rw [ef374]; exact zu_n (by omega))
              have hMx := hMx.set ef374 (hsv9)
              refine lv_iinc (v := nI (i3 + 1)) (lv' := [(4, .int (nI (i3 + 1))), (0, .ref (τ.1 30)), (1, .int (nI mm))]) hx hb dX12_rules_207 hl (k := 2) rfl (by rw [show (Int32.ofInt 1 : Int32) = nI 1 from by decide, nI_add]) (by decide) rfl (fun ls hl => ?_)
              refine lv_goto (tgt := 184) hx hb dX12_rules_210 (by decide) ?_
              exact ih372 (n - (i3 + 1)) (by omega) (i3 + 1, f374) _ _ _ (show n - (i3 + 1) = n - (i3 + 1) ∧ ((i3 + 1) ≤ n ∧ zMx f374 n ∧ zMd f374 n ∧ f374 30 21 = nI 0 ∧ (f374 44 0 = d0 ∧ f374 44 1 = d1 ∧ f374 44 2 = d2 ∧ f374 44 3 = d3) ∧ f374 30 0 = nI 0 ∧ f374 30 24 = -1 ∧ (∀ t, t < n → f374 46 t = D9 (4 + t)) ∧ (∀ t, t < (i3 + 1) → f374 40 t = D9 (4 + t)) ∧ (∀ t, (i3 + 1) ≤ t → f374 40 t = fi 40 t) ∧ ∀ a b, ¬ (a = 40 ∨ a = 44 ∨ a = 45 ∨ a = 46 ∨ (a = 30 ∧ (b = 0 ∨ (21 ≤ b ∧ b ≤ 25)))) → f374 a b = fi a b) ∧ zH D A τ f374 fr ol s _ ∧ va_S A s.heap _ _ ∧ lv_has _ 5 [(0, .ref (τ.1 30)), (1, .int (nI mm)), (4, .int (nI (i3 + 1)))] from ⟨rfl, ⟨by omega, hMx, hMd, by rw [ef374, zu_n (by omega)]; exact p21, ⟨q378, q379, q380, q381⟩, q376, q377, fun t h => by rw [ef374, zu_n (by omega)]; exact h46 t h, fun t h => by by_cases h7 : t = i3; (subst h7; rw [ef374, zu_s]; exact h46 t (by omega)); (rw [ef374, zu_n (by omega)]; exact hnw t (by omega)), fun t h => by rw [ef374, zu_n (by omega)]; exact hol t (by omega), fun a b h => by rw [ef374, zu_n (by omega)]; exact hfr3 a b h⟩, hH, hS, lv_sub hl [1, 2, 0] rfl⟩)
          · have zc311 := c311
            replace zc311 := zc_neq (rfl) ((by decide : ((-1) : Int32).toInt = (-1))) zc311
            have hs2y : c301 = L → False := fun h8 => by rcases hsg2 with h9 | h9; omega; exact absurd (by rw [h9.2]; decide) zc311
            refine lv_aload_n hx hb dX12_rules_132 rfl (lv_at hl 0 rfl) ?_
            refine lv_aload_n hx hb dX12_rules_133 rfl (lv_at hl 0 rfl) ?_
            refine zGetI (D := D) (ci := 12) (C := RX12) (T := TX12) (N := 71) hx hb hts hiX12 hown hH (zk_30 hF) rfl 23 (by decide) rfl hw7 (fun _ h9 => h9) dX12_rules_134 q304 ?_
            refine va_calli (va_runV (As := [.int (nI c301)]) (rest := []) ⟨hx, hb, hml, hown, hts⟩ (m_wrongX l hl0 D A sad τ f300 fr ol (nI c301) hF) (cwV 1 hts gX12_rules_X12_wrong rfl rfl rfl (by decide +kernel) ⟨Nat.le_of_ble_eq_true rfl, Nat.le_of_ble_eq_true rfl⟩) ⟨zQc_bl, zRecv hH (zk_30 hF) rfl, zQc_at hz hS hA hH⟩ rfl rfl hl.1 rfl (lv_room (Nat.le_of_ble_eq_true rfl)) dX12_rules_137 ⟨Nat.le_of_ble_eq_true rfl, Nat.le_of_ble_eq_true rfl⟩) hS (fun q _ h => h) (fun q h => h) (fun r383 u9 t9 H1 locs ht9 hvm9 hw hB hz1 hk1 hS => ?_)
            have hH := zMv ht9 hvm9 hB
            clear hB
            generalize u9 = f384 at hw hH
            generalize H1 = H at hH hS ⊢
            obtain ⟨rfl, ef384⟩ := hw
            have q385 : f384 30 22 = nI L := by rw [ef384, zu_n (fun h9 => absurd h9.2 (by decide))]; exact q307
            have q386 : f384 30 21 = nI 0 := by rw [ef384, zu_n (fun h9 => absurd h9.2 (by decide))]; exact q308
            have q387 : f384 30 0 = nI 0 := by rw [ef384, zu_n (fun h9 => absurd h9.2 (by decide))]; exact q309
            have q388 : f384 30 2 = nI n := by rw [ef384, zu_n (fun h9 => absurd h9.2 (by decide))]; exact q310
            have q389 : f384 30 23 = nI c301 := by rw [ef384, zu_n (fun h9 => absurd h9.2 (by decide))]; exact q304
            have q390 : f384 30 24 = nI c301 := by rw [ef384]; exact zu_s
            have hMt := zMt.ci (fi' := f384) hMt (fun i9 k9 h9 => by rw [ef384]; exact zu_n (by omega))
            have hMx := zMx.ci (fi' := f384) hMx (fun i9 k9 h9 => by rw [ef384]; exact zu_n (by omega))
            have hMd := zMd.ci (fi' := f384) hMd (fun i9 k9 h9 => by rw [ef384]; exact zu_n (by omega))
            refine lv_istore_n (lv' := [(3, .int 0), (0, .ref (τ.1 30)), (1, .int (nI mm)), (2, .int (nI m2))]) hx hb dX12_rules_140 rfl hl (by decide) rfl (fun ls hl => ?_)
            refine lv_iload_n hx hb dX12_rules_141 rfl (lv_at hl 0 rfl) ?_
            refine lv_if_ne (tgt := 152) hx hb dX12_rules_142 (by decide) (fun c391 => absurd (by decide) c391) (fun c391 => ?_)
            refine lv_aload_n hx hb dX12_rules_145 rfl (lv_at hl 1 rfl) ?_
            refine lv_iconst (v := nI 1) hx hb dX12_rules_146 (by decide) ?_
            refine zPutI (D := D) (ci := 12) (ty := .int) (C := RX12) (T := TX12) (N := 71) hx hb hts hiX12 tyX12 tyX12_ok nmX12 hown hH hS (zk_30 hF) rfl 0 (by decide) rfl hw0 (fun _ h9 => h9) rfl (by decide +kernel) rfl rfl dX12_rules_147 (fun H locs hH hS => ?_)
            obtain ⟨f392, ef392⟩ : ∃ f9 : zFi, f9 = zu f384 30 0 (nI 1) := ⟨_, rfl⟩
            rw [← ef392] at hH
            have q393 : f392 30 22 = nI L := by rw [ef392, zu_n (fun h9 => absurd h9.2 (by decide))]; exact q385
            have q394 : f392 30 21 = nI 0 := by rw [ef392, zu_n (fun h9 => absurd h9.2 (by decide))]; exact q386
            have q395 : f392 30 2 = nI n := by rw [ef392, zu_n (fun h9 => absurd h9.2 (by decide))]; exact q388
            have q396 : f392 30 23 = nI c301 := by rw [ef392, zu_n (fun h9 => absurd h9.2 (by decide))]; exact q389
            have q397 : f392 30 24 = nI c301 := by rw [ef392, zu_n (fun h9 => absurd h9.2 (by decide))]; exact q390
            have q398 : f392 30 0 = nI 1 := by rw [ef392]; exact zu_s
            have hMt := zMt.ci (fi' := f392) hMt (fun i9 k9 h9 => by rw [ef392]; exact zu_n (by omega))
            have hMx := zMx.ci (fi' := f392) hMx (fun i9 k9 h9 => by rw [ef392]; exact zu_n (by omega))
            have hMd := zMd.ci (fi' := f392) hMd (fun i9 k9 h9 => by rw [ef392]; exact zu_n (by omega))
            refine lv_iconst (v := nI 0) hx hb dX12_rules_150 (by decide) ?_
            refine W.widen (k := 0) (n := 0) (by decide) (by decide) ?_
            exact W.iret (v := nI 0) hx hb hr (fun t9 ht9 hW9 => ⟨⟨nI 0, f392, rfl, ⟨Or.inr ⟨c301, by omega, by rcases hlm with ⟨h9, -⟩ | ⟨h91, h92, h93, ⟨h94, -⟩ | ⟨-, ⟨h94, h95⟩ | ⟨h94, -⟩⟩⟩; (exfalso; rw [h9] at zy3; exact zy3 (by decide)); (exfalso; omega); (rw [hcz2]; exact h95); (exfalso; rw [← hcz2] at h94; exact hs2y h94), rfl, q398, by rw [ef392, zu_n (by omega), ef384, zu_s], zDot_cg (fun a b h => by rw [ef392, zu_n (by omega), ef384, zu_n (by omega), hf306 a b (by omega)]; exact hfr2 a b (by omega))⟩, ⟨q394, hMx, fun a b h => by rw [ef392, zu_n (by omega), ef384, zu_n (by omega), hf306 a b (by omega)]; exact hfr2 a b (by omega)⟩⟩, zEnd1 hH ht9 hW9⟩, hS.F ht9⟩) hS.2.2 dX12_rules_151
      · have zc290 := c290
        replace zc290 := zc_neq (rfl) ((by decide : (0 : Int32).toInt = 0)) zc290
        have zy3 := zc290
        refine lv_aload_n hx hb dX12_rules_76 rfl (lv_at hl 0 rfl) ?_
        obtain ⟨hy3, hm24, hDg, hmc, hTz⟩ : y3 = nI 1 ∧ f2 30 24 = -1 ∧ (∀ k, k < 4 + n → zDmo f2 k = D9 k) ∧ mm ≤ c ∧ zRls (fi 47) L (fi 31) n 401 (zS (fi 47) L 0) (zDot fi) 0 = zRls (fi 47) L (fi 31) n (401 - mm) (zS (fi 47) L c) D9 mm := by
          rcases hlm with ⟨h9, -⟩ | ⟨h91, h92, h93, ⟨-, h94, h95⟩ | ⟨h94, -⟩⟩
          · exfalso; rw [h9] at zy3; exact zy3 (by decide)
          · exact ⟨h91, h92, h93, h94, h95⟩
          · omega
        refine va_calli (va_runV (As := []) (rest := []) ⟨hx, hb, hml, hown, hts⟩ (m_readRuleX l hl0 D A sad τ f2 fr ol L c hF p22 p23 (by omega) (by omega) n hMt hMd) (cwV 0 hts gX12_rules_X12_readRule rfl rfl rfl (by decide +kernel) ⟨Nat.le_of_ble_eq_true rfl, Nat.le_of_ble_eq_true rfl⟩) ⟨zQc_bl, zRecv hH (zk_30 hF) rfl, zQc_at hz hS hA hH⟩ rfl rfl hl.1 rfl (lv_room (Nat.le_of_ble_eq_true rfl)) dX12_rules_77 ⟨Nat.le_of_ble_eq_true rfl, Nat.le_of_ble_eq_true rfl⟩) hS (fun q _ h => h) (fun q h => h) (fun r399 u9 t9 H1 locs ht9 hvm9 hw hB hz1 hk1 hS => ?_)
        have hH := zMv ht9 hvm9 hB
        clear hB
        generalize u9 = f400 at hw hH
        generalize H1 = H at hH hS ⊢
        obtain ⟨-, ⟨c401, hc402, hc403, q404, hx405⟩, hMd, hf406⟩ := hw
        rw [(funext (fun k9 => hfr2 _ k9 (by omega)) : f2 47 = fi 47)] at hx405
        rw [(funext (fun k9 => hfr2 _ k9 (by omega)) : f2 31 = fi 31)] at hx405
        have q407 : f400 30 22 = nI L := by rw [hf406 30 22 (by omega)]; exact p22
        have q408 : f400 30 21 = nI 0 := by rw [hf406 30 21 (by omega)]; exact p21
        have q409 : f400 30 0 = nI 0 := by rw [hf406 30 0 (by omega)]; exact p0
        have q410 : f400 30 2 = nI n := by rw [hf406 30 2 (by omega)]; exact p2
        have hMt := zMt.ci (fi' := f400) hMt (fun i9 k9 h9 => hf406 i9 k9 (by omega))
        have hMx := zMx.ci (fi' := f400) hMx (fun i9 k9 h9 => hf406 i9 k9 (by omega))
        rcases hx405 with ⟨xx, hru, hze, rfl, h24, hdm⟩ | ⟨px, hpx, hru, rfl, h24⟩
        · skip
          refine lv_istore_n (lv' := [(3, .int 1), (0, .ref (τ.1 30)), (1, .int (nI mm)), (2, .int (nI m2))]) hx hb dX12_rules_80 rfl hl (by decide) rfl (fun ls hl => ?_)
          refine lv_iinc (v := nI (mm + 1)) (lv' := [(1, .int (nI (mm + 1))), (3, .int 1), (0, .ref (τ.1 30)), (2, .int (nI m2))]) hx hb dX12_rules_81 hl (k := 2) rfl (by rw [show (Int32.ofInt 1 : Int32) = nI 1 from by decide, nI_add]) (by decide) rfl (fun ls hl => ?_)
          refine lv_iload_n hx hb dX12_rules_84 rfl (lv_at hl 1 rfl) ?_
          refine lv_if_eq (tgt := 101) hx hb dX12_rules_85 (by decide) (fun c411 => absurd c411 (by decide)) (fun c411 => ?_)
          refine lv_aload_n hx hb dX12_rules_88 rfl (lv_at hl 2 rfl) ?_
          refine va_calli (va_runV (As := []) (rest := []) ⟨hx, hb, hml, hown, hts⟩ (m_signX l hl0 D A sad τ f400 fr ol L c401 hF q407 q404 (by omega) (by omega)) (cwV 0 hts gX12_rules_X12_sign rfl rfl rfl (by decide +kernel) ⟨Nat.le_of_ble_eq_true rfl, Nat.le_of_ble_eq_true rfl⟩) ⟨zQc_bl, zRecv hH (zk_30 hF) rfl, zQc_at hz hS hA hH⟩ rfl rfl hl.1 rfl (lv_room (Nat.le_of_ble_eq_true rfl)) dX12_rules_89 ⟨Nat.le_of_ble_eq_true rfl, Nat.le_of_ble_eq_true rfl⟩) hS (fun q _ h => h) (fun q h => h) (fun r412 u9 t9 H1 locs ht9 hvm9 hw hB hz1 hk1 hS => ?_)
          have hH := zMv ht9 hvm9 hB
          clear hB
          generalize u9 = f413 at hw hH
          generalize H1 = H at hH hS ⊢
          obtain ⟨-, ⟨c414, hc415, hc416, q417, hx418⟩, hf419⟩ := hw
          rw [(funext (fun k9 => by rw [hf406 47 k9 (by omega)]; exact hfr2 _ k9 (by omega)) : f400 47 = fi 47)] at hx418
          have q420 : f413 30 22 = nI L := by rw [hf419 30 22 (by omega)]; exact q407
          have q421 : f413 30 21 = nI 0 := by rw [hf419 30 21 (by omega)]; exact q408
          have q422 : f413 30 0 = nI 0 := by rw [hf419 30 0 (by omega)]; exact q409
          have q423 : f413 30 2 = nI n := by rw [hf419 30 2 (by omega)]; exact q410
          have hMt := zMt.ci (fi' := f413) hMt (fun i9 k9 h9 => hf419 i9 k9 (by omega))
          have hMx := zMx.ci (fi' := f413) hMx (fun i9 k9 h9 => hf419 i9 k9 (by omega))
          have hMd := zMd.ci (fi' := f413) hMd (fun i9 k9 h9 => hf419 i9 k9 (by omega))
          obtain ⟨hcz, hsg⟩ := hx418
          refine lv_bipush (v := nI 59) hx hb dX12_rules_92 (by decide) ?_
          refine lv_icmp_ne (tgt := 101) hx hb dX12_rules_94 (by decide) (fun c424 => ?_) (fun c424 => ?_)
          · have zc424 := c424
            replace zc424 := zc_neq (rfl) (nI_toInt (by omega)) zc424
            have hb59 : c414 < L → ¬ (fi 47 c414).toInt = 59 := fun h8 => by rcases hsg with h9 | h9; (rw [← h9.2]; omega); omega
            refine lv_iconst (v := nI 0) hx hb dX12_rules_101 (by decide) ?_
            refine lv_istore_n (lv' := [(2, .int (nI 0)), (1, .int (nI (mm + 1))), (3, .int 1), (0, .ref (τ.1 30))]) hx hb dX12_rules_102 rfl hl (by decide) rfl (fun ls hl => ?_)
            refine lv_iload_n hx hb dX12_rules_103 rfl (lv_at hl 0 rfl) ?_
            refine lv_if_eq (tgt := 68) hx hb dX12_rules_104 (by decide) (fun c425 => ?_) (fun c425 => absurd (by decide) c425)
            exact ih180 (2 * (L - c414) + 0) (by omega) (mm + 1, 0, nI 1, c414, (zup D9 xx.2.1 xx.2.2), f413) _ _ _ (show 2 * (L - c414) + 0 = 2 * (L - c414) + 0 ∧ (c414 ≤ L ∧ 0 ≤ 1 ∧ f413 30 23 = nI c414 ∧ zMd f413 n ∧ (f413 30 22 = nI L ∧ f413 30 21 = nI 0 ∧ f413 30 0 = nI 0) ∧ zLm (zRls (fi 47) L (fi 31) n 401 (zS (fi 47) L 0) (zDot fi) 0) (fi 47) (fi 31) L n (mm + 1) 0 (nI 1) c414 ((zup D9 xx.2.1 xx.2.2)) f413 ∧ ∀ a b, ¬ (a = 45 ∨ a = 46 ∨ (a = 30 ∧ (b = 0 ∨ (21 ≤ b ∧ b ≤ 25)))) → f413 a b = fi a b) ∧ zH D A τ f413 fr ol s _ ∧ va_S A s.heap _ _ ∧ lv_has _ 5 [(0, .ref (τ.1 30)), (1, .int (nI (mm + 1))), (2, .int (nI 0)), (3, .int (nI 1))] from ⟨rfl, ⟨by omega, by omega, q417, hMd, ⟨q420, q421, q422⟩, Or.inr ⟨rfl, by rw [hf419 30 24 (by omega)]; exact h24.trans hm24, fun k hk => by rw [zDmo_cg (g := f400) (fun i k q => by rw [hf419 i k (by omega)]), hdm]; exact zup_ag hDg k hk, Or.inr ⟨rfl, by rw [show zS (fi 47) L c414 = c414 from by rw [hcz]; exact zS_idem (by omega)]; exact zLm_n hmc (by omega) hL4 hTz hru (hcz.trans hze) (by omega) hb59⟩⟩, fun a b h => by rw [hf419 a b (by omega), hf406 a b (by omega)]; exact hfr2 a b h⟩, hH, hS, lv_sub hl [3, 1, 0, 2] rfl⟩)
          · have zc424 := c424
            replace zc424 := zc_eq (rfl) (nI_toInt (by omega)) zc424
            have hcl : c414 < L := by rcases hsg with h9 | h9; exact h9.1; (rw [h9.2] at zc424; exact absurd zc424 (by decide))
            have hb59 : (fi 47 c414).toInt = 59 := by rcases hsg with h9 | h9; (rw [← h9.2]; omega); omega
            refine lv_iconst (v := nI 1) hx hb dX12_rules_97 (by decide) ?_
            refine lv_goto (tgt := 102) hx hb dX12_rules_98 (by decide) ?_
            refine lv_istore_n (lv' := [(2, .int (nI 1)), (1, .int (nI (mm + 1))), (3, .int 1), (0, .ref (τ.1 30))]) hx hb dX12_rules_102 rfl hl (by decide) rfl (fun ls hl => ?_)
            refine lv_iload_n hx hb dX12_rules_103 rfl (lv_at hl 0 rfl) ?_
            refine lv_if_eq (tgt := 68) hx hb dX12_rules_104 (by decide) (fun c426 => absurd c426 (by decide)) (fun c426 => ?_)
            refine lv_aload_n hx hb dX12_rules_107 rfl (lv_at hl 3 rfl) ?_
            refine lv_dup hx hb dX12_rules_108 rfl ?_
            refine zGetI (D := D) (ci := 12) (C := RX12) (T := TX12) (N := 71) hx hb hts hiX12 hown hH (zk_30 hF) rfl 23 (by decide) rfl hw7 (fun _ h9 => h9) dX12_rules_109 q417 ?_
            refine lv_iconst (v := nI 1) hx hb dX12_rules_112 (by decide) ?_
            refine lv_iadd hx hb dX12_rules_113 ?_
            refine lv_topi (fun v427 ev427 => ?_)
            obtain rfl : v427 = nI (c414 + 1) := ev427.trans (nI_add _ _)
            refine zPutI (D := D) (ci := 12) (ty := .int) (C := RX12) (T := TX12) (N := 71) hx hb hts hiX12 tyX12 tyX12_ok nmX12 hown hH hS (zk_30 hF) rfl 23 (by decide) rfl hw7 (fun _ h9 => h9) rfl (by decide +kernel) rfl rfl dX12_rules_114 (fun H locs hH hS => ?_)
            obtain ⟨f428, ef428⟩ : ∃ f9 : zFi, f9 = zu f413 30 23 (nI (c414 + 1)) := ⟨_, rfl⟩
            rw [← ef428] at hH
            have q429 : f428 30 22 = nI L := by rw [ef428, zu_n (fun h9 => absurd h9.2 (by decide))]; exact q420
            have q430 : f428 30 21 = nI 0 := by rw [ef428, zu_n (fun h9 => absurd h9.2 (by decide))]; exact q421
            have q431 : f428 30 0 = nI 0 := by rw [ef428, zu_n (fun h9 => absurd h9.2 (by decide))]; exact q422
            have q432 : f428 30 2 = nI n := by rw [ef428, zu_n (fun h9 => absurd h9.2 (by decide))]; exact q423
            have q433 : f428 30 23 = nI (c414 + 1) := by rw [ef428]; exact zu_s
            have hMt := zMt.ci (fi' := f428) hMt (fun i9 k9 h9 => by rw [ef428]; exact zu_n (by omega))
            have hMx := zMx.ci (fi' := f428) hMx (fun i9 k9 h9 => by rw [ef428]; exact zu_n (by omega))
            have hMd := zMd.ci (fi' := f428) hMd (fun i9 k9 h9 => by rw [ef428]; exact zu_n (by omega))
            refine lv_goto (tgt := 68) hx hb dX12_rules_117 (by decide) ?_
            exact ih180 (2 * (L - (c414 + 1)) + 1) (by omega) (mm + 1, 1, nI 1, c414 + 1, (zup D9 xx.2.1 xx.2.2), f428) _ _ _ (show 2 * (L - (c414 + 1)) + 1 = 2 * (L - (c414 + 1)) + 1 ∧ ((c414 + 1) ≤ L ∧ 1 ≤ 1 ∧ f428 30 23 = nI (c414 + 1) ∧ zMd f428 n ∧ (f428 30 22 = nI L ∧ f428 30 21 = nI 0 ∧ f428 30 0 = nI 0) ∧ zLm (zRls (fi 47) L (fi 31) n 401 (zS (fi 47) L 0) (zDot fi) 0) (fi 47) (fi 31) L n (mm + 1) 1 (nI 1) (c414 + 1) ((zup D9 xx.2.1 xx.2.2)) f428 ∧ ∀ a b, ¬ (a = 45 ∨ a = 46 ∨ (a = 30 ∧ (b = 0 ∨ (21 ≤ b ∧ b ≤ 25)))) → f428 a b = fi a b) ∧ zH D A τ f428 fr ol s _ ∧ va_S A s.heap _ _ ∧ lv_has _ 5 [(0, .ref (τ.1 30)), (1, .int (nI (mm + 1))), (2, .int (nI 1)), (3, .int (nI 1))] from ⟨rfl, ⟨by omega, by omega, q433, hMd, ⟨q429, q430, q431⟩, Or.inr ⟨rfl, by rw [ef428, zu_n (by omega), hf419 30 24 (by omega)]; exact h24.trans hm24, fun k hk => by rw [zDmo_cg (g := f400) (fun i k q => by rw [ef428, zu_n (by omega), hf419 i k (by omega)]), hdm]; exact zup_ag hDg k hk, Or.inl ⟨rfl, by omega, zLm_y hmc (by omega) hL4 hTz hru (hcz.trans hze) hcl hb59⟩⟩, fun a b h => by rw [ef428, zu_n (by omega), hf419 a b (by omega), hf406 a b (by omega)]; exact hfr2 a b h⟩, hH, hS, lv_sub hl [3, 1, 0, 2] rfl⟩)
        · skip
          refine lv_istore_n (lv' := [(3, .int 0), (0, .ref (τ.1 30)), (1, .int (nI mm)), (2, .int (nI m2))]) hx hb dX12_rules_80 rfl hl (by decide) rfl (fun ls hl => ?_)
          refine lv_iinc (v := nI (mm + 1)) (lv' := [(1, .int (nI (mm + 1))), (3, .int 0), (0, .ref (τ.1 30)), (2, .int (nI m2))]) hx hb dX12_rules_81 hl (k := 2) rfl (by rw [show (Int32.ofInt 1 : Int32) = nI 1 from by decide, nI_add]) (by decide) rfl (fun ls hl => ?_)
          refine lv_iload_n hx hb dX12_rules_84 rfl (lv_at hl 1 rfl) ?_
          refine lv_if_eq (tgt := 101) hx hb dX12_rules_85 (by decide) (fun c434 => ?_) (fun c434 => absurd (by decide) c434)
          refine lv_iconst (v := nI 0) hx hb dX12_rules_101 (by decide) ?_
          refine lv_istore_n (lv' := [(2, .int (nI 0)), (1, .int (nI (mm + 1))), (3, .int 0), (0, .ref (τ.1 30))]) hx hb dX12_rules_102 rfl hl (by decide) rfl (fun ls hl => ?_)
          refine lv_iload_n hx hb dX12_rules_103 rfl (lv_at hl 0 rfl) ?_
          refine lv_if_eq (tgt := 68) hx hb dX12_rules_104 (by decide) (fun c435 => ?_) (fun c435 => absurd (by decide) c435)
          exact ih180 (2 * (L - c401) + 0) (by omega) (mm + 1, 0, nI 0, c401, D9, f400) _ _ _ (show 2 * (L - c401) + 0 = 2 * (L - c401) + 0 ∧ (c401 ≤ L ∧ 0 ≤ 1 ∧ f400 30 23 = nI c401 ∧ zMd f400 n ∧ (f400 30 22 = nI L ∧ f400 30 21 = nI 0 ∧ f400 30 0 = nI 0) ∧ zLm (zRls (fi 47) L (fi 31) n 401 (zS (fi 47) L 0) (zDot fi) 0) (fi 47) (fi 31) L n (mm + 1) 0 (nI 0) c401 D9 f400 ∧ ∀ a b, ¬ (a = 45 ∨ a = 46 ∨ (a = 30 ∧ (b = 0 ∨ (21 ≤ b ∧ b ≤ 25)))) → f400 a b = fi a b) ∧ zH D A τ f400 fr ol s _ ∧ va_S A s.heap _ _ ∧ lv_has _ 5 [(0, .ref (τ.1 30)), (1, .int (nI (mm + 1))), (2, .int (nI 0)), (3, .int (nI 0))] from ⟨rfl, ⟨by omega, by omega, q404, hMd, ⟨q407, q408, q409⟩, Or.inl ⟨rfl, rfl, px, hpx, zLm_e hmc (by omega) hL4 hTz hru, h24⟩, fun a b h => by rw [hf406 a b (by omega)]; exact hfr2 a b h⟩, hH, hS, lv_sub hl [3, 1, 0, 2] rfl⟩)
  · have zc179 := c179
    replace zc179 := zc_nle (nI_toInt (by omega)) (nI_toInt (by omega)) zc179
    refine lv_aload_n hx hb dX12_rules_44 rfl (lv_at hl 0 rfl) ?_
    refine zGetR (D := D) (ci := 12) (C := RX12) (T := TX12) (N := 71) hx hb hts hiX12 hown hH (zk_30 hF) rfl 19 (by decide) rfl hw6 (fun _ h9 => h9) dX12_rules_45 (zr_30_19 hF) ?_
    refine lv_iload_n hx hb dX12_rules_48 rfl (lv_at hl 1 rfl) ?_
    refine lv_aload_n hx hb dX12_rules_49 rfl (lv_at hl 0 rfl) ?_
    refine zGetR (D := D) (ci := 12) (C := RX12) (T := TX12) (N := 71) hx hb hts hiX12 hown hH (zk_30 hF) rfl 12 (by decide) rfl hw5 (fun _ h9 => h9) dX12_rules_50 (zr_30_12 hF) ?_
    refine lv_iload_n hx hb dX12_rules_53 rfl (lv_at hl 1 rfl) ?_
    refine zIaldN (D := D) hx hb hH (zk_40 hF) (zn_40 hF) (by omega) (by omega) rfl dX12_rules_54 ?_
    refine zIastN (D := D) hx hb hH hS (zk_46 hF) (zn_46 hF) (by omega) (by omega) dX12_rules_55 (fun H locs hH hS => ?_)
    obtain ⟨f436, ef436⟩ : ∃ f9 : zFi, f9 = zu f 46 i (f 40 i) := ⟨_, rfl⟩
    rw [← ef436] at hH
    have q437 : f436 30 22 = nI L := by rw [ef436, zu_n (fun h9 => absurd h9.1 (by decide))]; exact p22
    have q438 : f436 30 21 = nI 0 := by rw [ef436, zu_n (fun h9 => absurd h9.1 (by decide))]; exact p21
    have q439 : f436 30 23 = nI 0 := by rw [ef436, zu_n (fun h9 => absurd h9.1 (by decide))]; exact p23
    have q440 : f436 30 24 = (-1) := by rw [ef436, zu_n (fun h9 => absurd h9.1 (by decide))]; exact p24
    have q441 : f436 30 0 = nI 0 := by rw [ef436, zu_n (fun h9 => absurd h9.1 (by decide))]; exact p0
    have q442 : f436 30 2 = nI n := by rw [ef436, zu_n (fun h9 => absurd h9.1 (by decide))]; exact p2
    have q443 : f436 45 0 = r0 := by rw [ef436, zu_n (fun h9 => absurd h9.1 (by decide))]; exact p450
    have q444 : f436 45 1 = r1 := by rw [ef436, zu_n (fun h9 => absurd h9.1 (by decide))]; exact p451
    have q445 : f436 45 2 = r2 := by rw [ef436, zu_n (fun h9 => absurd h9.1 (by decide))]; exact p452
    have q446 : f436 45 3 = r3 := by rw [ef436, zu_n (fun h9 => absurd h9.1 (by decide))]; exact p453
    have q447 : f436 46 i = f 40 i := by rw [ef436]; exact zu_s
    have hMt := zMt.ci (fi' := f436) hMt (fun i9 k9 h9 => by rw [ef436]; exact zu_n (by omega))
    have hMx := zMx.ci (fi' := f436) hMx (fun i9 k9 h9 => by rw [ef436]; exact zu_n (by omega))
    refine lv_iinc (v := nI (i + 1)) (lv' := [(1, .int (nI (i + 1))), (0, .ref (τ.1 30))]) hx hb dX12_rules_56 hl (k := 1) rfl (by rw [show (Int32.ofInt 1 : Int32) = nI 1 from by decide, nI_add]) (by decide) rfl (fun ls hl => ?_)
    refine lv_goto (tgt := 36) hx hb dX12_rules_59 (by decide) ?_
    exact ih178 (n - (i + 1)) (by omega) (i + 1, f436) _ _ _ (show n - (i + 1) = n - (i + 1) ∧ ((i + 1) ≤ n ∧ ((∀ t, t < (i + 1) → f436 46 t = -1 ∨ ∃ t2, t2 < n ∧ f436 46 t = nI t2) ∧ ∀ t, t < (i + 1) → f436 46 t = fi 40 t) ∧ (f436 45 0 = r0 ∧ f436 45 1 = r1 ∧ f436 45 2 = r2 ∧ f436 45 3 = r3) ∧ (f436 30 22 = nI L ∧ f436 30 21 = nI 0 ∧ f436 30 0 = nI 0) ∧ f436 30 23 = nI 0 ∧ f436 30 24 = -1 ∧ ∀ a b, ¬ (a = 45 ∨ a = 46 ∨ (a = 30 ∧ (b = 0 ∨ (21 ≤ b ∧ b ≤ 25)))) → f436 a b = fi a b) ∧ zH D A τ f436 fr ol s _ ∧ va_S A s.heap _ _ ∧ lv_has _ 5 [(0, .ref (τ.1 30)), (1, .int (nI (i + 1)))] from ⟨rfl, ⟨by omega, ⟨fun j h => by by_cases h7 : j = i; (subst h7; rw [ef436, zu_s, hfr _ _ (by omega)]; exact hMx0 j (by omega)); (rw [ef436, zu_n (by omega)]; exact hdo j (by omega)), fun j h => by by_cases h7 : j = i; (subst h7; rw [ef436, zu_s, hfr _ _ (by omega)]); (rw [ef436, zu_n (by omega)]; exact hcp j (by omega))⟩, ⟨q443, q444, q445, q446⟩, ⟨q437, q438, q441⟩, q439, q440, fun a b h => by rw [ef436, zu_n (by omega)]; exact hfr a b h⟩, hH, hS, lv_sub hl [1, 0] rfl⟩)
set_option maxHeartbeats 4000000 in
set_option maxRecDepth 100000 in
/-- readLine -/
theorem m_readLineX (l : Launch) (hl0 : l.stackTraces = false) (D : va_G) (A : Nat → Prop) (sad : Nat → Nat) (τ : zTy) (fi : zFi) (fr : zFr) (ol : Int64) (L a : Nat) (hF : zFix τ fr) (he : fi 30 22 = nI L) (ha : fi 30 23 = nI a) (hL4 : L ≤ 400) (haL : a ≤ L) (l0 : Nat) (hMl : zMl fi l0) (hl7 : l0 < 8) : Met l yX12_readLine wsX12_readLine ({ frames := 3, cells := 0, slots := 0, locals := 70 }) (va_Pc [.ref (τ.1 30)] (zQc D A sad τ fi fr ol)) (va_Qi (fun (r : Int32) (u : zFi) => True ∧ (∃ c, a ≤ c ∧ c ≤ L ∧ u 30 23 = nI c ∧ ((∃ x, zLn1 (fi 47) L (zS (fi 47) L a) = .ok x ∧ zS (fi 47) L c = x.1 ∧ r = 1 ∧ u 30 24 = fi 30 24 ∧ u 48 l0 = x.2.1 ∧ u 49 l0 = x.2.2 ∧ (∀ j, j < l0 → u 48 j = fi 48 j ∧ u 49 j = fi 49 j) ∧ zMl u (l0 + 1)) ∨ (∃ p, p ≤ 400 ∧ zLn1 (fi 47) L (zS (fi 47) L a) = .error p ∧ r = 0 ∧ u 30 24 = nI p))) ∧ ∀ a b, ¬ (a = 48 ∨ a = 49 ∨ (a = 30 ∧ 23 ≤ b ∧ b ≤ 26)) → u a b = fi a b) (fun (u : zFi) (t : State) => zH D A τ u fr ol t t.heap) A) 0 0 A := by
  refine Met.ofW (cc := cX12_readLine) (maxL := 1) (ret := (some .boolean)) (by decide) rfl ?_
  intro p9 e9 s m args below meth c9 s₁ B hml hv
  obtain ⟨rfl, hz, hH, hA⟩ := hv
  have hx := B.exec
  have hb := B.bytes
  have hr := B.returns
  have hts := atoms_spec (ws := wsX12_readLine) B.pre
  have hown : s.vm.findClass RX12 = some m.cls := findClass_of_methodNamed B.named
  have hlocks := B.notSynchronized
  have hS : va_S A s.heap s.heap [] := va_S.rf
  have hl := lv_entry ([.ref (τ.1 30)]) (n := 1) (Nat.le_of_ble_eq_true rfl)
  rw [lg_entry_eq]
  generalize (lg_sl ([.ref (τ.1 30)]) ++ List.replicate (1 - (lg_sl ([.ref (τ.1 30)])).length) Slot.unset).toArray = ls at hl ⊢
  have hl : lv_has ls 1 [(0, .ref (τ.1 30))] := hl
  have hMl0 := hMl
  obtain ⟨w24, hw24⟩ : ∃ w, fi 30 24 = w := ⟨_, rfl⟩
  have hiX12 : ∀ w ∈ u_ws RX12 TX12 71, w ∈ wsX12_readLine := fun _ h => List.mem_cons_of_mem _ (List.mem_append_right _ h)
  have hw1 := hts (.fieldLink RX12 65 "PostHouseModel" "lineCode" "[I") (by decide +kernel)
  have hw2 := hts (.fieldLink RX12 262 "PostHouseModel" "lines" "I") (by decide +kernel)
  have hw3 := hts (.fieldLink RX12 229 "PostHouseModel" "number" "I") (by decide +kernel)
  have hw4 := hts (.constantLong RX12 265 120) (by decide +kernel)
  have hw5 := hts (.fieldLink RX12 68 "PostHouseModel" "lineMany" "[I") (by decide +kernel)
  refine lv_aload_n hx hb dX12_readLine_0 rfl (lv_at hl 0 rfl) ?_
  refine lv_iconst (v := nI 4) hx hb dX12_readLine_1 (by decide) ?_
  refine lv_iconst (v := nI 4) hx hb dX12_readLine_2 (by decide) ?_
  refine lv_iconst (v := nI 0) hx hb dX12_readLine_3 (by decide) ?_
  refine lv_sipush (v := nI 9999) hx hb dX12_readLine_4 (by decide) ?_
  refine va_calli (va_runV (As := [.int (nI 4), .int (nI 4), .int (nI 0), .int (nI 9999)]) (rest := []) ⟨hx, hb, hml, hown, hts⟩ (m_digitsX l hl0 D A sad τ fi fr ol L a hF he ha (by omega) (by omega) 4 4 (by omega) (by omega) (nI 0) (nI 9999)) (cwV 4 hts gX12_readLine_X12_digits rfl rfl rfl (by decide +kernel) ⟨Nat.le_of_ble_eq_true rfl, Nat.le_of_ble_eq_true rfl⟩) ⟨zQc_bl, zRecv hH (zk_30 hF) rfl, zQc_at hz hS hA hH⟩ rfl rfl hl.1 rfl (lv_room (Nat.le_of_ble_eq_true rfl)) dX12_readLine_7 ⟨Nat.le_of_ble_eq_true rfl, Nat.le_of_ble_eq_true rfl⟩) hS (fun q _ h => h) (fun q h => h) (fun r101 u9 t9 H1 locs ht9 hvm9 hw hB hz1 hk1 hS => ?_)
  have hH := zMv ht9 hvm9 hB
  clear hB
  generalize u9 = f102 at hw hH
  generalize H1 = H at hH hS ⊢
  obtain ⟨-, ⟨c103, hc104, hc105, q106, hx107⟩, hf108⟩ := hw
  have q109 : f102 30 22 = nI L := by rw [hf108 30 22 (by omega)]; exact he
  have q110 : f102 30 26 = nI l0 := by rw [hf108 30 26 (by omega)]; exact hMl.2.1
  rcases hx107 with ⟨v1, _, hn1, rfl, rfl, h251, h241⟩ | ⟨hn1, rfl, h241⟩
  · skip
    have q111 : f102 30 24 = w24 := h241.trans hw24
    refine lv_if_ne (tgt := 15) hx hb dX12_readLine_10 (by decide) (fun c112 => ?_) (fun c112 => absurd c112 (by decide))
    refine lv_aload_n hx hb dX12_readLine_15 rfl (lv_at hl 0 rfl) ?_
    refine zGetR (D := D) (ci := 12) (C := RX12) (T := TX12) (N := 71) hx hb hts hiX12 hown hH (zk_30 hF) rfl 27 (by decide) rfl hw1 (fun _ h9 => h9) dX12_readLine_16 (zr_30_27 hF) ?_
    refine lv_aload_n hx hb dX12_readLine_19 rfl (lv_at hl 0 rfl) ?_
    refine zGetI (D := D) (ci := 12) (C := RX12) (T := TX12) (N := 71) hx hb hts hiX12 hown hH (zk_30 hF) rfl 26 (by decide) rfl hw2 (fun _ h9 => h9) dX12_readLine_20 q110 ?_
    refine lv_aload_n hx hb dX12_readLine_23 rfl (lv_at hl 0 rfl) ?_
    refine zGetI (D := D) (ci := 12) (C := RX12) (T := TX12) (N := 71) hx hb hts hiX12 hown hH (zk_30 hF) rfl 25 (by decide) rfl hw3 (fun _ h9 => h9) dX12_readLine_24 h251 ?_
    refine zIastN (D := D) hx hb hH hS (zk_48 hF) (zn_48 hF) (by omega) (by omega) dX12_readLine_27 (fun H locs hH hS => ?_)
    obtain ⟨f113, ef113⟩ : ∃ f9 : zFi, f9 = zu f102 48 l0 v1 := ⟨_, rfl⟩
    rw [← ef113] at hH
    have q114 : f113 30 22 = nI L := by rw [ef113, zu_n (fun h9 => absurd h9.1 (by decide))]; exact q109
    have q115 : f113 30 26 = nI l0 := by rw [ef113, zu_n (fun h9 => absurd h9.1 (by decide))]; exact q110
    have q116 : f113 30 23 = nI c103 := by rw [ef113, zu_n (fun h9 => absurd h9.1 (by decide))]; exact q106
    have q117 : f113 30 25 = v1 := by rw [ef113, zu_n (fun h9 => absurd h9.1 (by decide))]; exact h251
    have q118 : f113 30 24 = w24 := by rw [ef113, zu_n (fun h9 => absurd h9.1 (by decide))]; exact q111
    have q119 : f113 48 l0 = v1 := by rw [ef113]; exact zu_s
    refine lv_aload_n hx hb dX12_readLine_28 rfl (lv_at hl 0 rfl) ?_
    refine lv_ldc2 (v := 120) hx hb hown hw4 dX12_readLine_29 ?_
    refine va_calli (va_runV (As := [.long 120]) (rest := []) ⟨hx, hb, hml, hown, hts⟩ (m_passesX l hl0 D A sad τ f113 fr ol L c103 hF q114 q116 (by omega) (by omega) 120 ([120]) zWs_x) (cwV 1 hts gX12_readLine_X12_passes rfl rfl rfl (by decide +kernel) ⟨Nat.le_of_ble_eq_true rfl, Nat.le_of_ble_eq_true rfl⟩) ⟨zQc_bl, zRecv hH (zk_30 hF) rfl, zQc_at hz hS hA hH⟩ rfl rfl hl.1 rfl (lv_room (Nat.le_of_ble_eq_true rfl)) dX12_readLine_32 ⟨Nat.le_of_ble_eq_true rfl, Nat.le_of_ble_eq_true rfl⟩) hS (fun q _ h => h) (fun q h => h) (fun r120 u9 t9 H1 locs ht9 hvm9 hw hB hz1 hk1 hS => ?_)
    have hH := zMv ht9 hvm9 hB
    clear hB
    generalize u9 = f121 at hw hH
    generalize H1 = H at hH hS ⊢
    obtain ⟨-, ⟨c122, hc123, hc124, q125, hx126⟩, hf127⟩ := hw
    rw [(funext (fun k9 => by rw [ef113, zu_n (by omega), hf108 47 k9 (by omega)]) : f113 47 = fi 47)] at hx126
    have q128 : f121 30 22 = nI L := by rw [hf127 30 22 (by omega)]; exact q114
    have q129 : f121 30 26 = nI l0 := by rw [hf127 30 26 (by omega)]; exact q115
    have q130 : f121 30 25 = v1 := by rw [hf127 30 25 (by omega)]; exact q117
    have q131 : f121 48 l0 = v1 := by rw [hf127 48 l0 (by omega)]; exact q119
    rcases hx126 with ⟨_, hWx, rfl, rfl, h24x⟩ | ⟨hWx, rfl, h24x⟩
    · skip
      have q132 : f121 30 24 = w24 := h24x.trans q118
      refine lv_if_eq (tgt := 51) hx hb dX12_readLine_35 (by decide) (fun c133 => absurd c133 (by decide)) (fun c133 => ?_)
      refine lv_aload_n hx hb dX12_readLine_38 rfl (lv_at hl 0 rfl) ?_
      refine lv_iconst (v := nI 1) hx hb dX12_readLine_39 (by decide) ?_
      refine lv_bipush (v := nI 6) hx hb dX12_readLine_40 (by decide) ?_
      refine lv_iconst (v := nI 1) hx hb dX12_readLine_42 (by decide) ?_
      refine lv_bipush (v := nI 99) hx hb dX12_readLine_43 (by decide) ?_
      refine va_calli (va_runV (As := [.int (nI 1), .int (nI 6), .int (nI 1), .int (nI 99)]) (rest := []) ⟨hx, hb, hml, hown, hts⟩ (m_digitsX l hl0 D A sad τ f121 fr ol L c122 hF q128 q125 (by omega) (by omega) 1 6 (by omega) (by omega) (nI 1) (nI 99)) (cwV 4 hts gX12_readLine_X12_digits rfl rfl rfl (by decide +kernel) ⟨Nat.le_of_ble_eq_true rfl, Nat.le_of_ble_eq_true rfl⟩) ⟨zQc_bl, zRecv hH (zk_30 hF) rfl, zQc_at hz hS hA hH⟩ rfl rfl hl.1 rfl (lv_room (Nat.le_of_ble_eq_true rfl)) dX12_readLine_45 ⟨Nat.le_of_ble_eq_true rfl, Nat.le_of_ble_eq_true rfl⟩) hS (fun q _ h => h) (fun q h => h) (fun r134 u9 t9 H1 locs ht9 hvm9 hw hB hz1 hk1 hS => ?_)
      have hH := zMv ht9 hvm9 hB
      clear hB
      generalize u9 = f135 at hw hH
      generalize H1 = H at hH hS ⊢
      obtain ⟨-, ⟨c136, hc137, hc138, q139, hx140⟩, hf141⟩ := hw
      rw [(funext (fun k9 => by rw [hf127 47 k9 (by omega), ef113, zu_n (by omega), hf108 47 k9 (by omega)]) : f121 47 = fi 47)] at hx140
      have q142 : f135 30 22 = nI L := by rw [hf141 30 22 (by omega)]; exact q128
      have q143 : f135 30 26 = nI l0 := by rw [hf141 30 26 (by omega)]; exact q129
      have q144 : f135 48 l0 = v1 := by rw [hf141 48 l0 (by omega)]; exact q131
      rcases hx140 with ⟨v2, _, hn2, rfl, rfl, h252, h242⟩ | ⟨hn2, rfl, h242⟩
      · skip
        have q145 : f135 30 24 = w24 := h242.trans q132
        refine lv_if_ne (tgt := 53) hx hb dX12_readLine_48 (by decide) (fun c146 => ?_) (fun c146 => absurd c146 (by decide))
        refine lv_aload_n hx hb dX12_readLine_53 rfl (lv_at hl 0 rfl) ?_
        refine zGetR (D := D) (ci := 12) (C := RX12) (T := TX12) (N := 71) hx hb hts hiX12 hown hH (zk_30 hF) rfl 28 (by decide) rfl hw5 (fun _ h9 => h9) dX12_readLine_54 (zr_30_28 hF) ?_
        refine lv_aload_n hx hb dX12_readLine_57 rfl (lv_at hl 0 rfl) ?_
        refine zGetI (D := D) (ci := 12) (C := RX12) (T := TX12) (N := 71) hx hb hts hiX12 hown hH (zk_30 hF) rfl 26 (by decide) rfl hw2 (fun _ h9 => h9) dX12_readLine_58 q143 ?_
        refine lv_aload_n hx hb dX12_readLine_61 rfl (lv_at hl 0 rfl) ?_
        refine zGetI (D := D) (ci := 12) (C := RX12) (T := TX12) (N := 71) hx hb hts hiX12 hown hH (zk_30 hF) rfl 25 (by decide) rfl hw3 (fun _ h9 => h9) dX12_readLine_62 h252 ?_
        refine zIastN (D := D) hx hb hH hS (zk_49 hF) (zn_49 hF) (by omega) (by omega) dX12_readLine_65 (fun H locs hH hS => ?_)
        obtain ⟨f147, ef147⟩ : ∃ f9 : zFi, f9 = zu f135 49 l0 v2 := ⟨_, rfl⟩
        rw [← ef147] at hH
        have q148 : f147 30 22 = nI L := by rw [ef147, zu_n (fun h9 => absurd h9.1 (by decide))]; exact q142
        have q149 : f147 30 26 = nI l0 := by rw [ef147, zu_n (fun h9 => absurd h9.1 (by decide))]; exact q143
        have q150 : f147 48 l0 = v1 := by rw [ef147, zu_n (fun h9 => absurd h9.1 (by decide))]; exact q144
        have q151 : f147 30 23 = nI c136 := by rw [ef147, zu_n (fun h9 => absurd h9.1 (by decide))]; exact q139
        have q152 : f147 30 25 = v2 := by rw [ef147, zu_n (fun h9 => absurd h9.1 (by decide))]; exact h252
        have q153 : f147 30 24 = w24 := by rw [ef147, zu_n (fun h9 => absurd h9.1 (by decide))]; exact q145
        have q154 : f147 49 l0 = v2 := by rw [ef147]; exact zu_s
        refine lv_aload_n hx hb dX12_readLine_66 rfl (lv_at hl 0 rfl) ?_
        refine lv_dup hx hb dX12_readLine_67 rfl ?_
        refine zGetI (D := D) (ci := 12) (C := RX12) (T := TX12) (N := 71) hx hb hts hiX12 hown hH (zk_30 hF) rfl 26 (by decide) rfl hw2 (fun _ h9 => h9) dX12_readLine_68 q149 ?_
        refine lv_iconst (v := nI 1) hx hb dX12_readLine_71 (by decide) ?_
        refine lv_iadd hx hb dX12_readLine_72 ?_
        refine lv_topi (fun v155 ev155 => ?_)
        obtain rfl : v155 = nI (l0 + 1) := ev155.trans (nI_add _ _)
        refine zPutI (D := D) (ci := 12) (ty := .int) (C := RX12) (T := TX12) (N := 71) hx hb hts hiX12 tyX12 tyX12_ok nmX12 hown hH hS (zk_30 hF) rfl 26 (by decide) rfl hw2 (fun _ h9 => h9) rfl (by decide +kernel) rfl rfl dX12_readLine_73 (fun H locs hH hS => ?_)
        obtain ⟨f156, ef156⟩ : ∃ f9 : zFi, f9 = zu f147 30 26 (nI (l0 + 1)) := ⟨_, rfl⟩
        rw [← ef156] at hH
        have q157 : f156 30 22 = nI L := by rw [ef156, zu_n (fun h9 => absurd h9.2 (by decide))]; exact q148
        have q158 : f156 48 l0 = v1 := by rw [ef156, zu_n (fun h9 => absurd h9.1 (by decide))]; exact q150
        have q159 : f156 30 23 = nI c136 := by rw [ef156, zu_n (fun h9 => absurd h9.2 (by decide))]; exact q151
        have q160 : f156 30 25 = v2 := by rw [ef156, zu_n (fun h9 => absurd h9.2 (by decide))]; exact q152
        have q161 : f156 30 24 = w24 := by rw [ef156, zu_n (fun h9 => absurd h9.2 (by decide))]; exact q153
        have q162 : f156 49 l0 = v2 := by rw [ef156, zu_n (fun h9 => absurd h9.1 (by decide))]; exact q154
        have q163 : f156 30 26 = nI (l0 + 1) := by rw [ef156]; exact zu_s
        refine lv_iconst (v := nI 1) hx hb dX12_readLine_76 (by decide) ?_
        have hbd : 1 ≤ v2.toInt ∧ v2.toInt ≤ 99 := by have h9 := zNum_bd hn2; rw [nI_toInt (by omega), nI_toInt (by omega)] at h9; exact h9
        refine W.widen (k := 0) (n := 0) (by decide) (by decide) ?_
        exact W.zret (v := nI 1) hx hb hr (by decide) (fun t9 ht9 hW9 => ⟨⟨nI 1, f156, rfl, ⟨trivial, ⟨c136, by omega, by omega, q159, Or.inl ⟨(zS (fi 47) L c136, v1, v2), by simp only [zLn1, hn1, hWx, hn2], rfl, rfl, q161.trans hw24.symm, q158, q162, fun j h => ⟨by rw [ef156, zu_n (by omega), ef147, zu_n (by omega), hf141 48 j (by omega), hf127 48 j (by omega), ef113, zu_n (by omega), hf108 48 j (by omega)], by rw [ef156, zu_n (by omega), ef147, zu_n (by omega), hf141 49 j (by omega), hf127 49 j (by omega), ef113, zu_n (by omega), hf108 49 j (by omega)]⟩, hMl0.add hl7 q163 (by rw [q162]; exact hbd.1) (by rw [q162]; exact hbd.2) (fun j h => by rw [ef156, zu_n (by omega), ef147, zu_n (by omega), hf141 49 j (by omega), hf127 49 j (by omega), ef113, zu_n (by omega), hf108 49 j (by omega)])⟩⟩, fun a b h => by rw [ef156, zu_n (by omega), ef147, zu_n (by omega), hf141 a b (by omega), hf127 a b (by omega), ef113, zu_n (by omega), hf108 a b (by omega)]⟩, zEnd1 hH ht9 hW9⟩, hS.F ht9⟩) hS.2.2 dX12_readLine_77
      · skip
        refine lv_if_ne (tgt := 53) hx hb dX12_readLine_48 (by decide) (fun c164 => absurd (by decide) c164) (fun c164 => ?_)
        refine lv_iconst (v := nI 0) hx hb dX12_readLine_51 (by decide) ?_
        refine W.widen (k := 0) (n := 0) (by decide) (by decide) ?_
        exact W.zret (v := nI 0) hx hb hr (by decide) (fun t9 ht9 hW9 => ⟨⟨nI 0, f135, rfl, ⟨trivial, ⟨c136, by omega, by omega, q139, Or.inr ⟨zS (fi 47) L c122, by have h9 := zS_le (b := fi 47) (n := L) (a := c122) (by omega); omega, by simp only [zLn1, hn1, hWx, hn2], rfl, h242⟩⟩, fun a b h => by rw [hf141 a b (by omega), hf127 a b (by omega), ef113, zu_n (by omega), hf108 a b (by omega)]⟩, zEnd1 hH ht9 hW9⟩, hS.F ht9⟩) hS.2.2 dX12_readLine_52
    · skip
      refine lv_if_eq (tgt := 51) hx hb dX12_readLine_35 (by decide) (fun c165 => ?_) (fun c165 => absurd (by decide) c165)
      refine lv_iconst (v := nI 0) hx hb dX12_readLine_51 (by decide) ?_
      refine W.widen (k := 0) (n := 0) (by decide) (by decide) ?_
      exact W.zret (v := nI 0) hx hb hr (by decide) (fun t9 ht9 hW9 => ⟨⟨nI 0, f121, rfl, ⟨trivial, ⟨c122, by omega, by omega, q125, Or.inr ⟨zS (fi 47) L c103, by have h9 := zS_le (b := fi 47) (n := L) (a := c103) (by omega); omega, by simp only [zLn1, hn1, hWx], rfl, h24x⟩⟩, fun a b h => by rw [hf127 a b (by omega), ef113, zu_n (by omega), hf108 a b (by omega)]⟩, zEnd1 hH ht9 hW9⟩, hS.F ht9⟩) hS.2.2 dX12_readLine_52
  · skip
    refine lv_if_ne (tgt := 15) hx hb dX12_readLine_10 (by decide) (fun c166 => absurd (by decide) c166) (fun c166 => ?_)
    refine lv_iconst (v := nI 0) hx hb dX12_readLine_13 (by decide) ?_
    refine W.widen (k := 0) (n := 0) (by decide) (by decide) ?_
    exact W.zret (v := nI 0) hx hb hr (by decide) (fun t9 ht9 hW9 => ⟨⟨nI 0, f102, rfl, ⟨trivial, ⟨c103, by omega, by omega, q106, Or.inr ⟨zS (fi 47) L a, by have h9 := zS_le (b := fi 47) (n := L) (a := a) (by omega); omega, by simp only [zLn1, hn1], rfl, h241⟩⟩, fun a b h => by rw [hf108 a b (by omega)]⟩, zEnd1 hH ht9 hW9⟩, hS.F ht9⟩) hS.2.2 dX12_readLine_14
set_option maxHeartbeats 4000000 in
set_option maxRecDepth 100000 in
/-- readLetter -/
theorem m_readLetterX (l : Launch) (hl0 : l.stackTraces = false) (D : va_G) (A : Nat → Prop) (sad : Nat → Nat) (τ : zTy) (fi : zFi) (fr : zFr) (ol : Int64) (L a : Nat) (hF : zFix τ fr) (he : fi 30 22 = nI L) (ha : fi 30 23 = nI a) (hL4 : L ≤ 400) (haL : a ≤ L) (hB0 : ∀ j, j < L → 0 ≤ (fi 47 j).toInt) : Met l yX12_readLetter wsX12_readLetter ({ frames := 4, cells := 0, slots := 0, locals := 90 }) (va_Pc [.ref (τ.1 30)] (zQc D A sad τ fi fr ol)) (va_Qi (fun (r : Int32) (u : zFi) => ((∃ x, zLet (fi 47) L (zS (fi 47) L a) = .ok x ∧ r = 1 ∧ u 30 24 = fi 30 24 ∧ zMl u x.1 ∧ (∀ k, k < x.1 → u 48 k = x.2.1 k ∧ u 49 k = x.2.2.1 k) ∧ u 30 29 = x.2.2.2.1 ∧ u 30 30 = x.2.2.2.2) ∨ (∃ p, p ≤ 400 ∧ zLet (fi 47) L (zS (fi 47) L a) = .error p ∧ r = 0 ∧ u 30 24 = nI p)) ∧ ∀ a b, ¬ (a = 48 ∨ a = 49 ∨ (a = 30 ∧ 23 ≤ b ∧ b ≤ 30)) → u a b = fi a b) (fun (u : zFi) (t : State) => zH D A τ u fr ol t t.heap) A) 0 0 A := by
  refine Met.ofW (cc := cX12_readLetter) (maxL := 2) (ret := (some .boolean)) (by decide) rfl ?_
  intro p9 e9 s m args below meth c9 s₁ B hml hv
  obtain ⟨rfl, hz, hH, hA⟩ := hv
  have hx := B.exec
  have hb := B.bytes
  have hr := B.returns
  have hts := atoms_spec (ws := wsX12_readLetter) B.pre
  have hown : s.vm.findClass RX12 = some m.cls := findClass_of_methodNamed B.named
  have hlocks := B.notSynchronized
  have hS : va_S A s.heap s.heap [] := va_S.rf
  have hl := lv_entry ([.ref (τ.1 30)]) (n := 2) (Nat.le_of_ble_eq_true rfl)
  rw [lg_entry_eq]
  generalize (lg_sl ([.ref (τ.1 30)]) ++ List.replicate (2 - (lg_sl ([.ref (τ.1 30)])).length) Slot.unset).toArray = ls at hl ⊢
  have hl : lv_has ls 2 [(0, .ref (τ.1 30))] := hl
  obtain ⟨w24, hw24⟩ : ∃ w, fi 30 24 = w := ⟨_, rfl⟩
  have hw0 := hts (.fieldLink RX12 262 "PostHouseModel" "lines" "I") (by decide +kernel)
  have hiX12 : ∀ w ∈ u_ws RX12 TX12 71, w ∈ wsX12_readLetter := fun _ h => List.mem_cons_of_mem _ (List.mem_append_right _ h)
  have hw2 := hts (.constantLong RX12 270 7566701) (by decide +kernel)
  have hw3 := hts (.constant RX12 254 999999) (by decide +kernel)
  have hw4 := hts (.fieldLink RX12 229 "PostHouseModel" "number" "I") (by decide +kernel)
  have hw5 := hts (.fieldLink RX12 272 "PostHouseModel" "sum" "I") (by decide +kernel)
  have hw6 := hts (.fieldLink RX12 275 "PostHouseModel" "money" "I") (by decide +kernel)
  have hw7 := hts (.constantLong RX12 278 470020941177) (by decide +kernel)
  have hw8 := hts (.fieldLink RX12 206 "PostHouseModel" "at" "I") (by decide +kernel)
  refine lv_aload_n hx hb dX12_readLetter_0 rfl (lv_at hl 0 rfl) ?_
  refine lv_iconst (v := nI 0) hx hb dX12_readLetter_1 (by decide) ?_
  refine zPutI (D := D) (ci := 12) (ty := .int) (C := RX12) (T := TX12) (N := 71) hx hb hts hiX12 tyX12 tyX12_ok nmX12 hown hH hS (zk_30 hF) rfl 26 (by decide) rfl hw0 (fun _ h9 => h9) rfl (by decide +kernel) rfl rfl dX12_readLetter_2 (fun H locs hH hS => ?_)
  obtain ⟨f101, ef101⟩ : ∃ f9 : zFi, f9 = zu fi 30 26 (nI 0) := ⟨_, rfl⟩
  rw [← ef101] at hH
  have q102 : f101 30 22 = nI L := by rw [ef101, zu_n (fun h9 => absurd h9.2 (by decide))]; exact he
  have q103 : f101 30 23 = nI a := by rw [ef101, zu_n (fun h9 => absurd h9.2 (by decide))]; exact ha
  have q104 : f101 30 24 = w24 := by rw [ef101, zu_n (fun h9 => absurd h9.2 (by decide))]; exact hw24
  have q105 : f101 30 26 = nI 0 := by rw [ef101]; exact zu_s
  refine lv_iconst (v := nI 1) hx hb dX12_readLetter_5 (by decide) ?_
  refine lv_istore_n (lv' := [(1, .int (nI 1)), (0, .ref (τ.1 30))]) hx hb dX12_readLetter_6 rfl hl (by decide) rfl (fun ls hl => ?_)
  refine zLp (σ := Nat × Nat × Nat × (Nat → Int32) × (Nat → Int32) × zFi) (fun x9 k9 H locs ls => (fun (m1 : Nat) (c : Nat) (l0 : Nat) (C : Nat → Int32) (P : Nat → Int32) (f : zFi) => k9 = 2 * (L - c) + m1 ∧ (m1 ≤ 1 ∧ c ≤ L ∧ f 30 23 = nI c ∧ zMl f l0 ∧ (m1 = 1 → l0 < 8) ∧ f 30 22 = nI L ∧ f 30 24 = w24 ∧ (∀ k, k < l0 → f 48 k = C k ∧ f 49 k = P k) ∧ ((m1 = 1 ∧ zLin (fi 47) L 8 (zS (fi 47) L a) 0 (fun _ => 0) (fun _ => 0) = zLin (fi 47) L (8 - l0) (zS (fi 47) L c) l0 C P) ∨ (m1 = 0 ∧ zLin (fi 47) L 8 (zS (fi 47) L a) 0 (fun _ => 0) (fun _ => 0) = .ok (zS (fi 47) L c, l0, C, P))) ∧ ∀ a b, ¬ (a = 48 ∨ a = 49 ∨ (a = 30 ∧ 23 ≤ b ∧ b ≤ 30)) → f a b = fi a b) ∧ zH D A τ f fr ol s H ∧ va_S A s.heap H locs ∧ lv_has ls 2 [(0, .ref (τ.1 30)), (1, .int (nI m1))]) x9.1 x9.2.1 x9.2.2.1 x9.2.2.2.1 x9.2.2.2.2.1 x9.2.2.2.2.2) (1, a, 0, (fun _ => 0), (fun _ => 0), f101) (2 * (L - a) + 1) (show 2 * (L - a) + 1 = 2 * (L - a) + 1 ∧ (1 ≤ 1 ∧ a ≤ L ∧ f101 30 23 = nI a ∧ zMl f101 0 ∧ (1 = 1 → 0 < 8) ∧ f101 30 22 = nI L ∧ f101 30 24 = w24 ∧ (∀ k, k < 0 → f101 48 k = ((fun _ => 0)) k ∧ f101 49 k = ((fun _ => 0)) k) ∧ ((1 = 1 ∧ zLin (fi 47) L 8 (zS (fi 47) L a) 0 (fun _ => 0) (fun _ => 0) = zLin (fi 47) L (8 - 0) (zS (fi 47) L a) 0 ((fun _ => 0)) ((fun _ => 0))) ∨ (1 = 0 ∧ zLin (fi 47) L 8 (zS (fi 47) L a) 0 (fun _ => 0) (fun _ => 0) = .ok (zS (fi 47) L a, 0, ((fun _ => 0)), ((fun _ => 0))))) ∧ ∀ a b, ¬ (a = 48 ∨ a = 49 ∨ (a = 30 ∧ 23 ≤ b ∧ b ≤ 30)) → f101 a b = fi a b) ∧ zH D A τ f101 fr ol s _ ∧ va_S A s.heap _ _ ∧ lv_has _ 2 [(0, .ref (τ.1 30)), (1, .int (nI 1))] from ⟨rfl, ⟨by omega, haL, q103, ⟨by omega, q105, fun j h => absurd h (by omega)⟩, by omega, q102, q104, fun k h => absurd h (by omega), Or.inl ⟨rfl, rfl⟩, fun a b h => by rw [ef101, zu_n (by omega)]⟩, hH, hS, lv_sub hl [1, 0] rfl⟩) (fun k9 ih x9 H locs ls hv9 => ?_)
  obtain ⟨m1, c, l0, C, P, f⟩ := x9
  have hv9 : k9 = 2 * (L - c) + m1 ∧ (m1 ≤ 1 ∧ c ≤ L ∧ f 30 23 = nI c ∧ zMl f l0 ∧ (m1 = 1 → l0 < 8) ∧ f 30 22 = nI L ∧ f 30 24 = w24 ∧ (∀ k, k < l0 → f 48 k = C k ∧ f 49 k = P k) ∧ ((m1 = 1 ∧ zLin (fi 47) L 8 (zS (fi 47) L a) 0 (fun _ => 0) (fun _ => 0) = zLin (fi 47) L (8 - l0) (zS (fi 47) L c) l0 C P) ∨ (m1 = 0 ∧ zLin (fi 47) L 8 (zS (fi 47) L a) 0 (fun _ => 0) (fun _ => 0) = .ok (zS (fi 47) L c, l0, C, P))) ∧ ∀ a b, ¬ (a = 48 ∨ a = 49 ∨ (a = 30 ∧ 23 ≤ b ∧ b ≤ 30)) → f a b = fi a b) ∧ zH D A τ f fr ol s H ∧ va_S A s.heap H locs ∧ lv_has ls 2 [(0, .ref (τ.1 30)), (1, .int (nI m1))] := hv9
  obtain ⟨hkih106, hv9, hH, hS, hl⟩ := hv9
  obtain ⟨h1, h2, p23, hMl, h8, p22, p24, hCP, hTT, hfr⟩ := hv9
  have ih106 := ih
  clear ih
  have p26 := hMl.2.1
  refine lv_iload_n hx hb dX12_readLetter_7 rfl (lv_at hl 1 rfl) ?_
  refine lv_if_eq (tgt := 74) hx hb dX12_readLetter_8 (by decide) (fun c107 => ?_) (fun c107 => ?_)
  · have zc107 := c107
    replace zc107 := zc_eq (nI_toInt (by omega)) ((by decide : (0 : Int32).toInt = 0)) zc107
    have hT0 : zLin (fi 47) L 8 (zS (fi 47) L a) 0 (fun _ => 0) (fun _ => 0) = .ok (zS (fi 47) L c, l0, C, P) := by rcases hTT with h9 | h9; (exfalso; omega); exact h9.2
    refine lv_aload_n hx hb dX12_readLetter_74 rfl (lv_at hl 0 rfl) ?_
    refine lv_ldc2 (v := 7566701) hx hb hown hw2 dX12_readLetter_75 ?_
    refine va_calli (va_runV (As := [.long 7566701]) (rest := []) ⟨hx, hb, hml, hown, hts⟩ (m_passesX l hl0 D A sad τ f fr ol L c hF p22 p23 (by omega) (by omega) 7566701 ([115, 117, 109]) zWs_sum) (cwV 1 hts gX12_readLetter_X12_passes rfl rfl rfl (by decide +kernel) ⟨Nat.le_of_ble_eq_true rfl, Nat.le_of_ble_eq_true rfl⟩) ⟨zQc_bl, zRecv hH (zk_30 hF) rfl, zQc_at hz hS hA hH⟩ rfl rfl hl.1 rfl (lv_room (Nat.le_of_ble_eq_true rfl)) dX12_readLetter_78 ⟨Nat.le_of_ble_eq_true rfl, Nat.le_of_ble_eq_true rfl⟩) hS (fun q _ h => h) (fun q h => h) (fun r108 u9 t9 H1 locs ht9 hvm9 hw hB hz1 hk1 hS => ?_)
    have hH := zMv ht9 hvm9 hB
    clear hB
    generalize u9 = f109 at hw hH
    generalize H1 = H at hH hS ⊢
    obtain ⟨-, ⟨c110, hc111, hc112, q113, hx114⟩, hf115⟩ := hw
    rw [(funext (fun k9 => hfr _ k9 (by omega)) : f 47 = fi 47)] at hx114
    have q116 : f109 30 22 = nI L := by rw [hf115 30 22 (by omega)]; exact p22
    have q117 : f109 30 26 = nI l0 := by rw [hf115 30 26 (by omega)]; exact p26
    have hMl := zMl.ci (fi' := f109) hMl (fun i9 k9 h9 => hf115 i9 k9 (by omega))
    rcases hx114 with ⟨_, hWsum, rfl, rfl, h24sum⟩ | ⟨hWsum, rfl, h24sum⟩
    · skip
      have q118 : f109 30 24 = w24 := h24sum.trans p24
      refine lv_if_eq (tgt := 97) hx hb dX12_readLetter_81 (by decide) (fun c119 => absurd c119 (by decide)) (fun c119 => ?_)
      refine lv_aload_n hx hb dX12_readLetter_84 rfl (lv_at hl 0 rfl) ?_
      refine lv_iconst (v := nI 1) hx hb dX12_readLetter_85 (by decide) ?_
      refine lv_bipush (v := nI 6) hx hb dX12_readLetter_86 (by decide) ?_
      refine lv_iconst (v := nI 0) hx hb dX12_readLetter_88 (by decide) ?_
      refine lv_ldc (v := nI 999999) hx hb hown hw3 dX12_readLetter_89 ?_
      refine va_calli (va_runV (As := [.int (nI 1), .int (nI 6), .int (nI 0), .int (nI 999999)]) (rest := []) ⟨hx, hb, hml, hown, hts⟩ (m_digitsX l hl0 D A sad τ f109 fr ol L c110 hF q116 q113 (by omega) (by omega) 1 6 (by omega) (by omega) (nI 0) (nI 999999)) (cwV 4 hts gX12_readLetter_X12_digits rfl rfl rfl (by decide +kernel) ⟨Nat.le_of_ble_eq_true rfl, Nat.le_of_ble_eq_true rfl⟩) ⟨zQc_bl, zRecv hH (zk_30 hF) rfl, zQc_at hz hS hA hH⟩ rfl rfl hl.1 rfl (lv_room (Nat.le_of_ble_eq_true rfl)) dX12_readLetter_91 ⟨Nat.le_of_ble_eq_true rfl, Nat.le_of_ble_eq_true rfl⟩) hS (fun q _ h => h) (fun q h => h) (fun r120 u9 t9 H1 locs ht9 hvm9 hw hB hz1 hk1 hS => ?_)
      have hH := zMv ht9 hvm9 hB
      clear hB
      generalize u9 = f121 at hw hH
      generalize H1 = H at hH hS ⊢
      obtain ⟨-, ⟨c122, hc123, hc124, q125, hx126⟩, hf127⟩ := hw
      rw [(funext (fun k9 => by rw [hf115 47 k9 (by omega)]; exact hfr _ k9 (by omega)) : f109 47 = fi 47)] at hx126
      have q128 : f121 30 22 = nI L := by rw [hf127 30 22 (by omega)]; exact q116
      have q129 : f121 30 26 = nI l0 := by rw [hf127 30 26 (by omega)]; exact q117
      have hMl := zMl.ci (fi' := f121) hMl (fun i9 k9 h9 => hf127 i9 k9 (by omega))
      rcases hx126 with ⟨vs, _, hns, rfl, rfl, h25s, h24s⟩ | ⟨hns, rfl, h24s⟩
      · skip
        have q130 : f121 30 24 = w24 := h24s.trans q118
        refine lv_if_ne (tgt := 99) hx hb dX12_readLetter_94 (by decide) (fun c131 => ?_) (fun c131 => absurd c131 (by decide))
        refine lv_aload_n hx hb dX12_readLetter_99 rfl (lv_at hl 0 rfl) ?_
        refine lv_aload_n hx hb dX12_readLetter_100 rfl (lv_at hl 0 rfl) ?_
        refine zGetI (D := D) (ci := 12) (C := RX12) (T := TX12) (N := 71) hx hb hts hiX12 hown hH (zk_30 hF) rfl 25 (by decide) rfl hw4 (fun _ h9 => h9) dX12_readLetter_101 h25s ?_
        refine zPutI (D := D) (ci := 12) (ty := .int) (C := RX12) (T := TX12) (N := 71) hx hb hts hiX12 tyX12 tyX12_ok nmX12 hown hH hS (zk_30 hF) rfl 29 (by decide) rfl hw5 (fun _ h9 => h9) rfl (by decide +kernel) rfl rfl dX12_readLetter_104 (fun H locs hH hS => ?_)
        obtain ⟨f132, ef132⟩ : ∃ f9 : zFi, f9 = zu f121 30 29 vs := ⟨_, rfl⟩
        rw [← ef132] at hH
        have q133 : f132 30 22 = nI L := by rw [ef132, zu_n (fun h9 => absurd h9.2 (by decide))]; exact q128
        have q134 : f132 30 26 = nI l0 := by rw [ef132, zu_n (fun h9 => absurd h9.2 (by decide))]; exact q129
        have q135 : f132 30 23 = nI c122 := by rw [ef132, zu_n (fun h9 => absurd h9.2 (by decide))]; exact q125
        have q136 : f132 30 25 = vs := by rw [ef132, zu_n (fun h9 => absurd h9.2 (by decide))]; exact h25s
        have q137 : f132 30 24 = w24 := by rw [ef132, zu_n (fun h9 => absurd h9.2 (by decide))]; exact q130
        have q138 : f132 30 29 = vs := by rw [ef132]; exact zu_s
        have hMl := zMl.ci (fi' := f132) hMl (fun i9 k9 h9 => by rw [ef132]; exact zu_n (by omega))
        refine lv_aload_n hx hb dX12_readLetter_107 rfl (lv_at hl 0 rfl) ?_
        refine lv_aload_n hx hb dX12_readLetter_108 rfl (lv_at hl 0 rfl) ?_
        refine zGetI (D := D) (ci := 12) (C := RX12) (T := TX12) (N := 71) hx hb hts hiX12 hown hH (zk_30 hF) rfl 25 (by decide) rfl hw4 (fun _ h9 => h9) dX12_readLetter_109 q136 ?_
        refine zPutI (D := D) (ci := 12) (ty := .int) (C := RX12) (T := TX12) (N := 71) hx hb hts hiX12 tyX12 tyX12_ok nmX12 hown hH hS (zk_30 hF) rfl 30 (by decide) rfl hw6 (fun _ h9 => h9) rfl (by decide +kernel) rfl rfl dX12_readLetter_112 (fun H locs hH hS => ?_)
        obtain ⟨f139, ef139⟩ : ∃ f9 : zFi, f9 = zu f132 30 30 vs := ⟨_, rfl⟩
        rw [← ef139] at hH
        have q140 : f139 30 22 = nI L := by rw [ef139, zu_n (fun h9 => absurd h9.2 (by decide))]; exact q133
        have q141 : f139 30 26 = nI l0 := by rw [ef139, zu_n (fun h9 => absurd h9.2 (by decide))]; exact q134
        have q142 : f139 30 23 = nI c122 := by rw [ef139, zu_n (fun h9 => absurd h9.2 (by decide))]; exact q135
        have q143 : f139 30 25 = vs := by rw [ef139, zu_n (fun h9 => absurd h9.2 (by decide))]; exact q136
        have q144 : f139 30 24 = w24 := by rw [ef139, zu_n (fun h9 => absurd h9.2 (by decide))]; exact q137
        have q145 : f139 30 29 = vs := by rw [ef139, zu_n (fun h9 => absurd h9.2 (by decide))]; exact q138
        have q146 : f139 30 30 = vs := by rw [ef139]; exact zu_s
        have hMl := zMl.ci (fi' := f139) hMl (fun i9 k9 h9 => by rw [ef139]; exact zu_n (by omega))
        refine lv_aload_n hx hb dX12_readLetter_115 rfl (lv_at hl 0 rfl) ?_
        refine va_calli (va_runV (As := []) (rest := []) ⟨hx, hb, hml, hown, hts⟩ (m_signX l hl0 D A sad τ f139 fr ol L c122 hF q140 q142 (by omega) (by omega)) (cwV 0 hts gX12_readLetter_X12_sign rfl rfl rfl (by decide +kernel) ⟨Nat.le_of_ble_eq_true rfl, Nat.le_of_ble_eq_true rfl⟩) ⟨zQc_bl, zRecv hH (zk_30 hF) rfl, zQc_at hz hS hA hH⟩ rfl rfl hl.1 rfl (lv_room (Nat.le_of_ble_eq_true rfl)) dX12_readLetter_116 ⟨Nat.le_of_ble_eq_true rfl, Nat.le_of_ble_eq_true rfl⟩) hS (fun q _ h => h) (fun q h => h) (fun r147 u9 t9 H1 locs ht9 hvm9 hw hB hz1 hk1 hS => ?_)
        have hH := zMv ht9 hvm9 hB
        clear hB
        generalize u9 = f148 at hw hH
        generalize H1 = H at hH hS ⊢
        obtain ⟨-, ⟨c149, hc150, hc151, q152, hx153⟩, hf154⟩ := hw
        rw [(funext (fun k9 => by rw [ef139, zu_n (by omega), ef132, zu_n (by omega), hf127 47 k9 (by omega), hf115 47 k9 (by omega)]; exact hfr _ k9 (by omega)) : f139 47 = fi 47)] at hx153
        have q155 : f148 30 22 = nI L := by rw [hf154 30 22 (by omega)]; exact q140
        have q156 : f148 30 26 = nI l0 := by rw [hf154 30 26 (by omega)]; exact q141
        have q157 : f148 30 25 = vs := by rw [hf154 30 25 (by omega)]; exact q143
        have q158 : f148 30 24 = w24 := by rw [hf154 30 24 (by omega)]; exact q144
        have q159 : f148 30 29 = vs := by rw [hf154 30 29 (by omega)]; exact q145
        have q160 : f148 30 30 = vs := by rw [hf154 30 30 (by omega)]; exact q146
        have hMl := zMl.ci (fi' := f148) hMl (fun i9 k9 h9 => hf154 i9 k9 (by omega))
        obtain ⟨hcz5, hsg5⟩ := hx153
        refine lv_iconst (v := (-1)) hx hb dX12_readLetter_119 (by decide) ?_
        refine lv_icmp_ne (tgt := 125) hx hb dX12_readLetter_120 (by decide) (fun c161 => ?_) (fun c161 => ?_)
        · have zc161 := c161
          replace zc161 := zc_neq (rfl) ((by decide : ((-1) : Int32).toInt = (-1))) zc161
          have hend5 : c149 < L := by rcases hsg5 with h9 | h9; exact h9.1; exact absurd (by rw [h9.2]; decide) zc161
          refine lv_aload_n hx hb dX12_readLetter_125 rfl (lv_at hl 0 rfl) ?_
          refine lv_ldc2 (v := 470020941177) hx hb hown hw7 dX12_readLetter_126 ?_
          refine va_calli (va_runV (As := [.long 470020941177]) (rest := []) ⟨hx, hb, hml, hown, hts⟩ (m_passesX l hl0 D A sad τ f148 fr ol L c149 hF q155 q152 (by omega) (by omega) 470020941177 ([109, 111, 110, 101, 121]) zWs_money) (cwV 1 hts gX12_readLetter_X12_passes rfl rfl rfl (by decide +kernel) ⟨Nat.le_of_ble_eq_true rfl, Nat.le_of_ble_eq_true rfl⟩) ⟨zQc_bl, zRecv hH (zk_30 hF) rfl, zQc_at hz hS hA hH⟩ rfl rfl hl.1 rfl (lv_room (Nat.le_of_ble_eq_true rfl)) dX12_readLetter_129 ⟨Nat.le_of_ble_eq_true rfl, Nat.le_of_ble_eq_true rfl⟩) hS (fun q _ h => h) (fun q h => h) (fun r162 u9 t9 H1 locs ht9 hvm9 hw hB hz1 hk1 hS => ?_)
          have hH := zMv ht9 hvm9 hB
          clear hB
          generalize u9 = f163 at hw hH
          generalize H1 = H at hH hS ⊢
          obtain ⟨-, ⟨c164, hc165, hc166, q167, hx168⟩, hf169⟩ := hw
          rw [(funext (fun k9 => by rw [hf154 47 k9 (by omega), ef139, zu_n (by omega), ef132, zu_n (by omega), hf127 47 k9 (by omega), hf115 47 k9 (by omega)]; exact hfr _ k9 (by omega)) : f148 47 = fi 47)] at hx168
          have q170 : f163 30 22 = nI L := by rw [hf169 30 22 (by omega)]; exact q155
          have q171 : f163 30 26 = nI l0 := by rw [hf169 30 26 (by omega)]; exact q156
          have q172 : f163 30 25 = vs := by rw [hf169 30 25 (by omega)]; exact q157
          have q173 : f163 30 29 = vs := by rw [hf169 30 29 (by omega)]; exact q159
          have q174 : f163 30 30 = vs := by rw [hf169 30 30 (by omega)]; exact q160
          have hMl := zMl.ci (fi' := f163) hMl (fun i9 k9 h9 => hf169 i9 k9 (by omega))
          rcases hx168 with ⟨_, hWmoney, rfl, rfl, h24money⟩ | ⟨hWmoney, rfl, h24money⟩
          · skip
            have q175 : f163 30 24 = w24 := h24money.trans q158
            refine lv_if_eq (tgt := 148) hx hb dX12_readLetter_132 (by decide) (fun c176 => absurd c176 (by decide)) (fun c176 => ?_)
            refine lv_aload_n hx hb dX12_readLetter_135 rfl (lv_at hl 0 rfl) ?_
            refine lv_iconst (v := nI 1) hx hb dX12_readLetter_136 (by decide) ?_
            refine lv_bipush (v := nI 6) hx hb dX12_readLetter_137 (by decide) ?_
            refine lv_iconst (v := nI 0) hx hb dX12_readLetter_139 (by decide) ?_
            refine lv_ldc (v := nI 999999) hx hb hown hw3 dX12_readLetter_140 ?_
            refine va_calli (va_runV (As := [.int (nI 1), .int (nI 6), .int (nI 0), .int (nI 999999)]) (rest := []) ⟨hx, hb, hml, hown, hts⟩ (m_digitsX l hl0 D A sad τ f163 fr ol L c164 hF q170 q167 (by omega) (by omega) 1 6 (by omega) (by omega) (nI 0) (nI 999999)) (cwV 4 hts gX12_readLetter_X12_digits rfl rfl rfl (by decide +kernel) ⟨Nat.le_of_ble_eq_true rfl, Nat.le_of_ble_eq_true rfl⟩) ⟨zQc_bl, zRecv hH (zk_30 hF) rfl, zQc_at hz hS hA hH⟩ rfl rfl hl.1 rfl (lv_room (Nat.le_of_ble_eq_true rfl)) dX12_readLetter_142 ⟨Nat.le_of_ble_eq_true rfl, Nat.le_of_ble_eq_true rfl⟩) hS (fun q _ h => h) (fun q h => h) (fun r177 u9 t9 H1 locs ht9 hvm9 hw hB hz1 hk1 hS => ?_)
            have hH := zMv ht9 hvm9 hB
            clear hB
            generalize u9 = f178 at hw hH
            generalize H1 = H at hH hS ⊢
            obtain ⟨-, ⟨c179, hc180, hc181, q182, hx183⟩, hf184⟩ := hw
            rw [(funext (fun k9 => by rw [hf169 47 k9 (by omega), hf154 47 k9 (by omega), ef139, zu_n (by omega), ef132, zu_n (by omega), hf127 47 k9 (by omega), hf115 47 k9 (by omega)]; exact hfr _ k9 (by omega)) : f163 47 = fi 47)] at hx183
            have q185 : f178 30 22 = nI L := by rw [hf184 30 22 (by omega)]; exact q170
            have q186 : f178 30 26 = nI l0 := by rw [hf184 30 26 (by omega)]; exact q171
            have q187 : f178 30 29 = vs := by rw [hf184 30 29 (by omega)]; exact q173
            have q188 : f178 30 30 = vs := by rw [hf184 30 30 (by omega)]; exact q174
            have hMl := zMl.ci (fi' := f178) hMl (fun i9 k9 h9 => hf184 i9 k9 (by omega))
            rcases hx183 with ⟨vm, _, hnm, rfl, rfl, h25m, h24m⟩ | ⟨hnm, rfl, h24m⟩
            · skip
              have q189 : f178 30 24 = w24 := h24m.trans q175
              refine lv_if_ne (tgt := 150) hx hb dX12_readLetter_145 (by decide) (fun c190 => ?_) (fun c190 => absurd c190 (by decide))
              refine lv_aload_n hx hb dX12_readLetter_150 rfl (lv_at hl 0 rfl) ?_
              refine lv_aload_n hx hb dX12_readLetter_151 rfl (lv_at hl 0 rfl) ?_
              refine zGetI (D := D) (ci := 12) (C := RX12) (T := TX12) (N := 71) hx hb hts hiX12 hown hH (zk_30 hF) rfl 25 (by decide) rfl hw4 (fun _ h9 => h9) dX12_readLetter_152 h25m ?_
              refine zPutI (D := D) (ci := 12) (ty := .int) (C := RX12) (T := TX12) (N := 71) hx hb hts hiX12 tyX12 tyX12_ok nmX12 hown hH hS (zk_30 hF) rfl 30 (by decide) rfl hw6 (fun _ h9 => h9) rfl (by decide +kernel) rfl rfl dX12_readLetter_155 (fun H locs hH hS => ?_)
              obtain ⟨f191, ef191⟩ : ∃ f9 : zFi, f9 = zu f178 30 30 vm := ⟨_, rfl⟩
              rw [← ef191] at hH
              have q192 : f191 30 22 = nI L := by rw [ef191, zu_n (fun h9 => absurd h9.2 (by decide))]; exact q185
              have q193 : f191 30 26 = nI l0 := by rw [ef191, zu_n (fun h9 => absurd h9.2 (by decide))]; exact q186
              have q194 : f191 30 29 = vs := by rw [ef191, zu_n (fun h9 => absurd h9.2 (by decide))]; exact q187
              have q195 : f191 30 23 = nI c179 := by rw [ef191, zu_n (fun h9 => absurd h9.2 (by decide))]; exact q182
              have q196 : f191 30 25 = vm := by rw [ef191, zu_n (fun h9 => absurd h9.2 (by decide))]; exact h25m
              have q197 : f191 30 24 = w24 := by rw [ef191, zu_n (fun h9 => absurd h9.2 (by decide))]; exact q189
              have q198 : f191 30 30 = vm := by rw [ef191]; exact zu_s
              have hMl := zMl.ci (fi' := f191) hMl (fun i9 k9 h9 => by rw [ef191]; exact zu_n (by omega))
              refine lv_aload_n hx hb dX12_readLetter_158 rfl (lv_at hl 0 rfl) ?_
              refine va_calli (va_runV (As := []) (rest := []) ⟨hx, hb, hml, hown, hts⟩ (m_signX l hl0 D A sad τ f191 fr ol L c179 hF q192 q195 (by omega) (by omega)) (cwV 0 hts gX12_readLetter_X12_sign rfl rfl rfl (by decide +kernel) ⟨Nat.le_of_ble_eq_true rfl, Nat.le_of_ble_eq_true rfl⟩) ⟨zQc_bl, zRecv hH (zk_30 hF) rfl, zQc_at hz hS hA hH⟩ rfl rfl hl.1 rfl (lv_room (Nat.le_of_ble_eq_true rfl)) dX12_readLetter_159 ⟨Nat.le_of_ble_eq_true rfl, Nat.le_of_ble_eq_true rfl⟩) hS (fun q _ h => h) (fun q h => h) (fun r199 u9 t9 H1 locs ht9 hvm9 hw hB hz1 hk1 hS => ?_)
              have hH := zMv ht9 hvm9 hB
              clear hB
              generalize u9 = f200 at hw hH
              generalize H1 = H at hH hS ⊢
              obtain ⟨-, ⟨c201, hc202, hc203, q204, hx205⟩, hf206⟩ := hw
              rw [(funext (fun k9 => by rw [ef191, zu_n (by omega), hf184 47 k9 (by omega), hf169 47 k9 (by omega), hf154 47 k9 (by omega), ef139, zu_n (by omega), ef132, zu_n (by omega), hf127 47 k9 (by omega), hf115 47 k9 (by omega)]; exact hfr _ k9 (by omega)) : f191 47 = fi 47)] at hx205
              have q207 : f200 30 22 = nI L := by rw [hf206 30 22 (by omega)]; exact q192
              have q208 : f200 30 26 = nI l0 := by rw [hf206 30 26 (by omega)]; exact q193
              have q209 : f200 30 29 = vs := by rw [hf206 30 29 (by omega)]; exact q194
              have q210 : f200 30 25 = vm := by rw [hf206 30 25 (by omega)]; exact q196
              have q211 : f200 30 24 = w24 := by rw [hf206 30 24 (by omega)]; exact q197
              have q212 : f200 30 30 = vm := by rw [hf206 30 30 (by omega)]; exact q198
              have hMl := zMl.ci (fi' := f200) hMl (fun i9 k9 h9 => hf206 i9 k9 (by omega))
              obtain ⟨hcz6, hsg6⟩ := hx205
              refine lv_iconst (v := (-1)) hx hb dX12_readLetter_162 (by decide) ?_
              refine lv_icmp_eq (tgt := 177) hx hb dX12_readLetter_163 (by decide) (fun c213 => ?_) (fun c213 => ?_)
              · have zc213 := c213
                replace zc213 := zc_eq (rfl) ((by decide : ((-1) : Int32).toInt = (-1))) zc213
                have hend6 : c201 = L := by rcases hsg6 with h9 | h9; (exfalso; have h7 := hB0 c201 h9.1; rw [← h9.2] at h7; omega); exact h9.1
                refine lv_iconst (v := nI 1) hx hb dX12_readLetter_177 (by decide) ?_
                refine lv_goto (tgt := 182) hx hb dX12_readLetter_178 (by decide) ?_
                have hid : zS (fi 47) L c149 = zS (fi 47) L c122 := by rw [hcz5]; exact zS_idem (by omega)
                have hWm := hWmoney
                rw [hid] at hWm
                refine W.widen (k := 0) (n := 0) (by decide) (by decide) ?_
                exact W.zret (v := nI 1) hx hb hr (by decide) (fun t9 ht9 hW9 => ⟨⟨nI 1, f200, rfl, ⟨Or.inl ⟨(l0, C, P, vs, vm), by simp only [zLet, zLe0, hT0, hWsum, hns, hWm, hnm, ← hcz6, hend6, Nat.lt_irrefl, if_false], rfl, q211.trans hw24.symm, hMl, fun k hk => ⟨by rw [hf206 48 k (by omega), ef191, zu_n (by omega), hf184 48 k (by omega), hf169 48 k (by omega), hf154 48 k (by omega), ef139, zu_n (by omega), ef132, zu_n (by omega), hf127 48 k (by omega), hf115 48 k (by omega)]; exact (hCP k hk).1, by rw [hf206 49 k (by omega), ef191, zu_n (by omega), hf184 49 k (by omega), hf169 49 k (by omega), hf154 49 k (by omega), ef139, zu_n (by omega), ef132, zu_n (by omega), hf127 49 k (by omega), hf115 49 k (by omega)]; exact (hCP k hk).2⟩, q209, q212⟩, fun a b h => by rw [hf206 a b (by omega), ef191, zu_n (by omega), hf184 a b (by omega), hf169 a b (by omega), hf154 a b (by omega), ef139, zu_n (by omega), ef132, zu_n (by omega), hf127 a b (by omega), hf115 a b (by omega)]; exact hfr a b h⟩, zEnd1 hH ht9 hW9⟩, hS.F ht9⟩) hS.2.2 dX12_readLetter_182
              · have zc213 := c213
                replace zc213 := zc_neq (rfl) ((by decide : ((-1) : Int32).toInt = (-1))) zc213
                have hend6 : c201 < L := by rcases hsg6 with h9 | h9; exact h9.1; exact absurd (by rw [h9.2]; decide) zc213
                refine lv_aload_n hx hb dX12_readLetter_166 rfl (lv_at hl 0 rfl) ?_
                refine lv_aload_n hx hb dX12_readLetter_167 rfl (lv_at hl 0 rfl) ?_
                refine zGetI (D := D) (ci := 12) (C := RX12) (T := TX12) (N := 71) hx hb hts hiX12 hown hH (zk_30 hF) rfl 23 (by decide) rfl hw8 (fun _ h9 => h9) dX12_readLetter_168 q204 ?_
                refine va_calli (va_runV (As := [.int (nI c201)]) (rest := []) ⟨hx, hb, hml, hown, hts⟩ (m_wrongX l hl0 D A sad τ f200 fr ol (nI c201) hF) (cwV 1 hts gX12_readLetter_X12_wrong rfl rfl rfl (by decide +kernel) ⟨Nat.le_of_ble_eq_true rfl, Nat.le_of_ble_eq_true rfl⟩) ⟨zQc_bl, zRecv hH (zk_30 hF) rfl, zQc_at hz hS hA hH⟩ rfl rfl hl.1 rfl (lv_room (Nat.le_of_ble_eq_true rfl)) dX12_readLetter_171 ⟨Nat.le_of_ble_eq_true rfl, Nat.le_of_ble_eq_true rfl⟩) hS (fun q _ h => h) (fun q h => h) (fun r214 u9 t9 H1 locs ht9 hvm9 hw hB hz1 hk1 hS => ?_)
                have hH := zMv ht9 hvm9 hB
                clear hB
                generalize u9 = f215 at hw hH
                generalize H1 = H at hH hS ⊢
                obtain ⟨rfl, ef215⟩ := hw
                have q216 : f215 30 22 = nI L := by rw [ef215, zu_n (fun h9 => absurd h9.2 (by decide))]; exact q207
                have q217 : f215 30 26 = nI l0 := by rw [ef215, zu_n (fun h9 => absurd h9.2 (by decide))]; exact q208
                have q218 : f215 30 29 = vs := by rw [ef215, zu_n (fun h9 => absurd h9.2 (by decide))]; exact q209
                have q219 : f215 30 25 = vm := by rw [ef215, zu_n (fun h9 => absurd h9.2 (by decide))]; exact q210
                have q220 : f215 30 30 = vm := by rw [ef215, zu_n (fun h9 => absurd h9.2 (by decide))]; exact q212
                have q221 : f215 30 23 = nI c201 := by rw [ef215, zu_n (fun h9 => absurd h9.2 (by decide))]; exact q204
                have q222 : f215 30 24 = nI c201 := by rw [ef215]; exact zu_s
                have hMl := zMl.ci (fi' := f215) hMl (fun i9 k9 h9 => by rw [ef215]; exact zu_n (by omega))
                refine lv_if_eq (tgt := 181) hx hb dX12_readLetter_174 (by decide) (fun c223 => ?_) (fun c223 => absurd (by decide) c223)
                refine lv_iconst (v := nI 0) hx hb dX12_readLetter_181 (by decide) ?_
                have hid : zS (fi 47) L c149 = zS (fi 47) L c122 := by rw [hcz5]; exact zS_idem (by omega)
                have hWm := hWmoney
                rw [hid] at hWm
                refine W.widen (k := 0) (n := 0) (by decide) (by decide) ?_
                exact W.zret (v := nI 0) hx hb hr (by decide) (fun t9 ht9 hW9 => ⟨⟨nI 0, f215, rfl, ⟨Or.inr ⟨c201, by omega, by rw [hcz6]; simp only [zLet, zLe0, hT0, hWsum, hns, hWm, hnm]; rw [if_pos (by rw [← hcz6]; exact hend6)], rfl, by rw [ef215, zu_s]⟩, fun a b h => by rw [ef215, zu_n (by omega), hf206 a b (by omega), ef191, zu_n (by omega), hf184 a b (by omega), hf169 a b (by omega), hf154 a b (by omega), ef139, zu_n (by omega), ef132, zu_n (by omega), hf127 a b (by omega), hf115 a b (by omega)]; exact hfr a b h⟩, zEnd1 hH ht9 hW9⟩, hS.F ht9⟩) hS.2.2 dX12_readLetter_182
            · skip
              refine lv_if_ne (tgt := 150) hx hb dX12_readLetter_145 (by decide) (fun c224 => absurd (by decide) c224) (fun c224 => ?_)
              refine lv_iconst (v := nI 0) hx hb dX12_readLetter_148 (by decide) ?_
              have hid : zS (fi 47) L c149 = zS (fi 47) L c122 := by rw [hcz5]; exact zS_idem (by omega)
              have hWm := hWmoney
              rw [hid] at hWm
              refine W.widen (k := 0) (n := 0) (by decide) (by decide) ?_
              exact W.zret (v := nI 0) hx hb hr (by decide) (fun t9 ht9 hW9 => ⟨⟨nI 0, f178, rfl, ⟨Or.inr ⟨zS (fi 47) L c164, by have h9 := zS_le (b := fi 47) (n := L) (a := c164) (by omega); omega, by simp only [zLet, zLe0, hT0, hWsum, hns, hWm, hnm], rfl, h24m⟩, fun a b h => by rw [hf184 a b (by omega), hf169 a b (by omega), hf154 a b (by omega), ef139, zu_n (by omega), ef132, zu_n (by omega), hf127 a b (by omega), hf115 a b (by omega)]; exact hfr a b h⟩, zEnd1 hH ht9 hW9⟩, hS.F ht9⟩) hS.2.2 dX12_readLetter_149
          · skip
            refine lv_if_eq (tgt := 148) hx hb dX12_readLetter_132 (by decide) (fun c225 => ?_) (fun c225 => absurd (by decide) c225)
            refine lv_iconst (v := nI 0) hx hb dX12_readLetter_148 (by decide) ?_
            have hid : zS (fi 47) L c149 = zS (fi 47) L c122 := by rw [hcz5]; exact zS_idem (by omega)
            have hWm := hWmoney
            rw [hid] at hWm
            refine W.widen (k := 0) (n := 0) (by decide) (by decide) ?_
            exact W.zret (v := nI 0) hx hb hr (by decide) (fun t9 ht9 hW9 => ⟨⟨nI 0, f163, rfl, ⟨Or.inr ⟨c149, by omega, by rw [hcz5]; simp only [zLet, zLe0, hT0, hWsum, hns, hWm]; rw [if_pos (by rw [← hcz5]; exact hend5)], rfl, by rw [h24money, hid, hcz5]⟩, fun a b h => by rw [hf169 a b (by omega), hf154 a b (by omega), ef139, zu_n (by omega), ef132, zu_n (by omega), hf127 a b (by omega), hf115 a b (by omega)]; exact hfr a b h⟩, zEnd1 hH ht9 hW9⟩, hS.F ht9⟩) hS.2.2 dX12_readLetter_149
        · have zc161 := c161
          replace zc161 := zc_eq (rfl) ((by decide : ((-1) : Int32).toInt = (-1))) zc161
          have hend5 : c149 = L := by rcases hsg5 with h9 | h9; (exfalso; have h7 := hB0 c149 h9.1; rw [← h9.2] at h7; omega); exact h9.1
          refine lv_iconst (v := nI 1) hx hb dX12_readLetter_123 (by decide) ?_
          refine W.widen (k := 0) (n := 0) (by decide) (by decide) ?_
          exact W.zret (v := nI 1) hx hb hr (by decide) (fun t9 ht9 hW9 => ⟨⟨nI 1, f148, rfl, ⟨Or.inl ⟨(l0, C, P, vs, vs), by simp only [zLet, zLe0, hT0, hWsum, hns, ← hcz5, hend5, zWrd_not (b := fi 47) (n := L) (a := L) (ws := [109, 111, 110, 101, 121]) (by omega) (by decide) (fun h9 => absurd h9 (by omega)), Nat.lt_irrefl, if_false], rfl, q158.trans hw24.symm, hMl, fun k hk => ⟨by rw [hf154 48 k (by omega), ef139, zu_n (by omega), ef132, zu_n (by omega), hf127 48 k (by omega), hf115 48 k (by omega)]; exact (hCP k hk).1, by rw [hf154 49 k (by omega), ef139, zu_n (by omega), ef132, zu_n (by omega), hf127 49 k (by omega), hf115 49 k (by omega)]; exact (hCP k hk).2⟩, q159, q160⟩, fun a b h => by rw [hf154 a b (by omega), ef139, zu_n (by omega), ef132, zu_n (by omega), hf127 a b (by omega), hf115 a b (by omega)]; exact hfr a b h⟩, zEnd1 hH ht9 hW9⟩, hS.F ht9⟩) hS.2.2 dX12_readLetter_124
      · skip
        refine lv_if_ne (tgt := 99) hx hb dX12_readLetter_94 (by decide) (fun c226 => absurd (by decide) c226) (fun c226 => ?_)
        refine lv_iconst (v := nI 0) hx hb dX12_readLetter_97 (by decide) ?_
        refine W.widen (k := 0) (n := 0) (by decide) (by decide) ?_
        exact W.zret (v := nI 0) hx hb hr (by decide) (fun t9 ht9 hW9 => ⟨⟨nI 0, f121, rfl, ⟨Or.inr ⟨zS (fi 47) L c110, by have h9 := zS_le (b := fi 47) (n := L) (a := c110) (by omega); omega, by simp only [zLet, zLe0, hT0, hWsum, hns], rfl, h24s⟩, fun a b h => by rw [hf127 a b (by omega), hf115 a b (by omega)]; exact hfr a b h⟩, zEnd1 hH ht9 hW9⟩, hS.F ht9⟩) hS.2.2 dX12_readLetter_98
    · skip
      refine lv_if_eq (tgt := 97) hx hb dX12_readLetter_81 (by decide) (fun c227 => ?_) (fun c227 => absurd (by decide) c227)
      refine lv_iconst (v := nI 0) hx hb dX12_readLetter_97 (by decide) ?_
      refine W.widen (k := 0) (n := 0) (by decide) (by decide) ?_
      exact W.zret (v := nI 0) hx hb hr (by decide) (fun t9 ht9 hW9 => ⟨⟨nI 0, f109, rfl, ⟨Or.inr ⟨zS (fi 47) L c, by have h9 := zS_le (b := fi 47) (n := L) (a := c) (by omega); omega, by simp only [zLet, zLe0, hT0, hWsum], rfl, h24sum⟩, fun a b h => by rw [hf115 a b (by omega)]; exact hfr a b h⟩, zEnd1 hH ht9 hW9⟩, hS.F ht9⟩) hS.2.2 dX12_readLetter_98
  · have zc107 := c107
    replace zc107 := zc_neq (nI_toInt (by omega)) ((by decide : (0 : Int32).toInt = 0)) zc107
    refine lv_aload_n hx hb dX12_readLetter_11 rfl (lv_at hl 0 rfl) ?_
    have hT1 : zLin (fi 47) L 8 (zS (fi 47) L a) 0 (fun _ => 0) (fun _ => 0) = zLin (fi 47) L (8 - l0) (zS (fi 47) L c) l0 C P := by rcases hTT with h9 | h9; exact h9.2; exfalso; omega
    have hl7 := h8 (by omega)
    refine va_calli (va_runV (As := []) (rest := []) ⟨hx, hb, hml, hown, hts⟩ (m_readLineX l hl0 D A sad τ f fr ol L c hF p22 p23 (by omega) (by omega) l0 hMl hl7) (cwV 0 hts gX12_readLetter_X12_readLine rfl rfl rfl (by decide +kernel) ⟨Nat.le_of_ble_eq_true rfl, Nat.le_of_ble_eq_true rfl⟩) ⟨zQc_bl, zRecv hH (zk_30 hF) rfl, zQc_at hz hS hA hH⟩ rfl rfl hl.1 rfl (lv_room (Nat.le_of_ble_eq_true rfl)) dX12_readLetter_12 ⟨Nat.le_of_ble_eq_true rfl, Nat.le_of_ble_eq_true rfl⟩) hS (fun q _ h => h) (fun q h => h) (fun r228 u9 t9 H1 locs ht9 hvm9 hw hB hz1 hk1 hS => ?_)
    have hH := zMv ht9 hvm9 hB
    clear hB
    generalize u9 = f229 at hw hH
    generalize H1 = H at hH hS ⊢
    obtain ⟨-, ⟨c230, hc231, hc232, q233, hx234⟩, hf235⟩ := hw
    rw [(funext (fun k9 => hfr _ k9 (by omega)) : f 47 = fi 47)] at hx234
    have q236 : f229 30 22 = nI L := by rw [hf235 30 22 (by omega)]; exact p22
    rcases hx234 with ⟨xx, hln, hze, rfl, h24L, h48, h49, hjj, hmz⟩ | ⟨px, hpx, hln, rfl, h24L⟩
    · skip
      have q237 : f229 30 24 = w24 := h24L.trans p24
      have hMl := hmz
      have hmlq := hMl.2.1
      have hCP1 := zup_cp hCP h48 h49 hjj
      refine lv_if_ne (tgt := 20) hx hb dX12_readLetter_15 (by decide) (fun c238 => ?_) (fun c238 => absurd c238 (by decide))
      refine lv_aload_n hx hb dX12_readLetter_20 rfl (lv_at hl 0 rfl) ?_
      refine va_calli (va_runV (As := []) (rest := []) ⟨hx, hb, hml, hown, hts⟩ (m_signX l hl0 D A sad τ f229 fr ol L c230 hF q236 q233 (by omega) (by omega)) (cwV 0 hts gX12_readLetter_X12_sign rfl rfl rfl (by decide +kernel) ⟨Nat.le_of_ble_eq_true rfl, Nat.le_of_ble_eq_true rfl⟩) ⟨zQc_bl, zRecv hH (zk_30 hF) rfl, zQc_at hz hS hA hH⟩ rfl rfl hl.1 rfl (lv_room (Nat.le_of_ble_eq_true rfl)) dX12_readLetter_21 ⟨Nat.le_of_ble_eq_true rfl, Nat.le_of_ble_eq_true rfl⟩) hS (fun q _ h => h) (fun q h => h) (fun r239 u9 t9 H1 locs ht9 hvm9 hw hB hz1 hk1 hS => ?_)
      have hH := zMv ht9 hvm9 hB
      clear hB
      generalize u9 = f240 at hw hH
      generalize H1 = H at hH hS ⊢
      obtain ⟨-, ⟨c241, hc242, hc243, q244, hx245⟩, hf246⟩ := hw
      rw [(funext (fun k9 => by rw [hf235 47 k9 (by omega)]; exact hfr _ k9 (by omega)) : f229 47 = fi 47)] at hx245
      have q247 : f240 30 22 = nI L := by rw [hf246 30 22 (by omega)]; exact q236
      have q248 : f240 30 24 = w24 := by rw [hf246 30 24 (by omega)]; exact q237
      have q249 : f240 30 26 = nI (l0 + 1) := by rw [hf246 30 26 (by omega)]; exact hmlq
      have hMl := zMl.ci (fi' := f240) hMl (fun i9 k9 h9 => hf246 i9 k9 (by omega))
      obtain ⟨hcz, hsg⟩ := hx245
      refine lv_bipush (v := nI 44) hx hb dX12_readLetter_24 (by decide) ?_
      refine lv_icmp_ne (tgt := 33) hx hb dX12_readLetter_26 (by decide) (fun c250 => ?_) (fun c250 => ?_)
      · have zc250 := c250
        replace zc250 := zc_neq (rfl) (nI_toInt (by omega)) zc250
        have hb44 : c241 < L → ¬ (fi 47 c241).toInt = 44 := fun h8 => by rcases hsg with h9 | h9; (rw [← h9.2]; omega); omega
        refine lv_iconst (v := nI 0) hx hb dX12_readLetter_33 (by decide) ?_
        refine lv_istore_n (lv' := [(1, .int (nI 0)), (0, .ref (τ.1 30))]) hx hb dX12_readLetter_34 rfl hl (by decide) rfl (fun ls hl => ?_)
        refine lv_iload_n hx hb dX12_readLetter_35 rfl (lv_at hl 0 rfl) ?_
        refine lv_if_eq (tgt := 57) hx hb dX12_readLetter_36 (by decide) (fun c251 => ?_) (fun c251 => absurd (by decide) c251)
        refine lv_iload_n hx hb dX12_readLetter_57 rfl (lv_at hl 0 rfl) ?_
        refine lv_if_eq (tgt := 7) hx hb dX12_readLetter_58 (by decide) (fun c252 => ?_) (fun c252 => absurd (by decide) c252)
        exact ih106 (2 * (L - c241) + 0) (by omega) (0, c241, l0 + 1, (zup C l0 xx.2.1), (zup P l0 xx.2.2), f240) _ _ _ (show 2 * (L - c241) + 0 = 2 * (L - c241) + 0 ∧ (0 ≤ 1 ∧ c241 ≤ L ∧ f240 30 23 = nI c241 ∧ zMl f240 (l0 + 1) ∧ (0 = 1 → (l0 + 1) < 8) ∧ f240 30 22 = nI L ∧ f240 30 24 = w24 ∧ (∀ k, k < (l0 + 1) → f240 48 k = ((zup C l0 xx.2.1)) k ∧ f240 49 k = ((zup P l0 xx.2.2)) k) ∧ ((0 = 1 ∧ zLin (fi 47) L 8 (zS (fi 47) L a) 0 (fun _ => 0) (fun _ => 0) = zLin (fi 47) L (8 - (l0 + 1)) (zS (fi 47) L c241) (l0 + 1) ((zup C l0 xx.2.1)) ((zup P l0 xx.2.2))) ∨ (0 = 0 ∧ zLin (fi 47) L 8 (zS (fi 47) L a) 0 (fun _ => 0) (fun _ => 0) = .ok (zS (fi 47) L c241, (l0 + 1), ((zup C l0 xx.2.1)), ((zup P l0 xx.2.2))))) ∧ ∀ a b, ¬ (a = 48 ∨ a = 49 ∨ (a = 30 ∧ 23 ≤ b ∧ b ≤ 30)) → f240 a b = fi a b) ∧ zH D A τ f240 fr ol s _ ∧ va_S A s.heap _ _ ∧ lv_has _ 2 [(0, .ref (τ.1 30)), (1, .int (nI 0))] from ⟨rfl, ⟨by omega, by omega, q244, hMl, by omega, q247, q248, fun k hk => ⟨by rw [hf246 48 k (by omega)]; exact (hCP1 k hk).1, by rw [hf246 49 k (by omega)]; exact (hCP1 k hk).2⟩, Or.inr ⟨rfl, by rw [show zS (fi 47) L c241 = c241 from by rw [hcz]; exact zS_idem (by omega)]; exact zLin_n hl7 hT1 hln (hcz.trans hze) (Or.inr hb44)⟩, fun a b h => by rw [hf246 a b (by omega), hf235 a b (by omega)]; exact hfr a b h⟩, hH, hS, lv_sub hl [1, 0] rfl⟩)
      · have zc250 := c250
        replace zc250 := zc_eq (rfl) (nI_toInt (by omega)) zc250
        have hcl : c241 < L := by rcases hsg with h9 | h9; exact h9.1; (rw [h9.2] at zc250; exact absurd zc250 (by decide))
        have hb44 : (fi 47 c241).toInt = 44 := by rcases hsg with h9 | h9; (rw [← h9.2]; omega); omega
        refine lv_iconst (v := nI 1) hx hb dX12_readLetter_29 (by decide) ?_
        refine lv_goto (tgt := 34) hx hb dX12_readLetter_30 (by decide) ?_
        refine lv_istore_n (lv' := [(1, .int (nI 1)), (0, .ref (τ.1 30))]) hx hb dX12_readLetter_34 rfl hl (by decide) rfl (fun ls hl => ?_)
        refine lv_iload_n hx hb dX12_readLetter_35 rfl (lv_at hl 0 rfl) ?_
        refine lv_if_eq (tgt := 57) hx hb dX12_readLetter_36 (by decide) (fun c253 => absurd c253 (by decide)) (fun c253 => ?_)
        refine lv_aload_n hx hb dX12_readLetter_39 rfl (lv_at hl 1 rfl) ?_
        refine zGetI (D := D) (ci := 12) (C := RX12) (T := TX12) (N := 71) hx hb hts hiX12 hown hH (zk_30 hF) rfl 26 (by decide) rfl hw0 (fun _ h9 => h9) dX12_readLetter_40 q249 ?_
        refine lv_bipush (v := nI 8) hx hb dX12_readLetter_43 (by decide) ?_
        refine lv_icmp_ne (tgt := 57) hx hb dX12_readLetter_45 (by decide) (fun c254 => ?_) (fun c254 => ?_)
        · have zc254 := c254
          replace zc254 := zc_neq (nI_toInt (by omega)) (nI_toInt (by omega)) zc254
          refine lv_iload_n hx hb dX12_readLetter_57 rfl (lv_at hl 0 rfl) ?_
          refine lv_if_eq (tgt := 7) hx hb dX12_readLetter_58 (by decide) (fun c255 => absurd c255 (by decide)) (fun c255 => ?_)
          refine lv_aload_n hx hb dX12_readLetter_61 rfl (lv_at hl 1 rfl) ?_
          refine lv_dup hx hb dX12_readLetter_62 rfl ?_
          refine zGetI (D := D) (ci := 12) (C := RX12) (T := TX12) (N := 71) hx hb hts hiX12 hown hH (zk_30 hF) rfl 23 (by decide) rfl hw8 (fun _ h9 => h9) dX12_readLetter_63 q244 ?_
          refine lv_iconst (v := nI 1) hx hb dX12_readLetter_66 (by decide) ?_
          refine lv_iadd hx hb dX12_readLetter_67 ?_
          refine lv_topi (fun v256 ev256 => ?_)
          obtain rfl : v256 = nI (c241 + 1) := ev256.trans (nI_add _ _)
          refine zPutI (D := D) (ci := 12) (ty := .int) (C := RX12) (T := TX12) (N := 71) hx hb hts hiX12 tyX12 tyX12_ok nmX12 hown hH hS (zk_30 hF) rfl 23 (by decide) rfl hw8 (fun _ h9 => h9) rfl (by decide +kernel) rfl rfl dX12_readLetter_68 (fun H locs hH hS => ?_)
          obtain ⟨f257, ef257⟩ : ∃ f9 : zFi, f9 = zu f240 30 23 (nI (c241 + 1)) := ⟨_, rfl⟩
          rw [← ef257] at hH
          have q258 : f257 30 22 = nI L := by rw [ef257, zu_n (fun h9 => absurd h9.2 (by decide))]; exact q247
          have q259 : f257 30 24 = w24 := by rw [ef257, zu_n (fun h9 => absurd h9.2 (by decide))]; exact q248
          have q260 : f257 30 26 = nI (l0 + 1) := by rw [ef257, zu_n (fun h9 => absurd h9.2 (by decide))]; exact q249
          have q261 : f257 30 23 = nI (c241 + 1) := by rw [ef257]; exact zu_s
          have hMl := zMl.ci (fi' := f257) hMl (fun i9 k9 h9 => by rw [ef257]; exact zu_n (by omega))
          refine lv_goto (tgt := 7) hx hb dX12_readLetter_71 (by decide) ?_
          exact ih106 (2 * (L - (c241 + 1)) + 1) (by omega) (1, c241 + 1, l0 + 1, (zup C l0 xx.2.1), (zup P l0 xx.2.2), f257) _ _ _ (show 2 * (L - (c241 + 1)) + 1 = 2 * (L - (c241 + 1)) + 1 ∧ (1 ≤ 1 ∧ (c241 + 1) ≤ L ∧ f257 30 23 = nI (c241 + 1) ∧ zMl f257 (l0 + 1) ∧ (1 = 1 → (l0 + 1) < 8) ∧ f257 30 22 = nI L ∧ f257 30 24 = w24 ∧ (∀ k, k < (l0 + 1) → f257 48 k = ((zup C l0 xx.2.1)) k ∧ f257 49 k = ((zup P l0 xx.2.2)) k) ∧ ((1 = 1 ∧ zLin (fi 47) L 8 (zS (fi 47) L a) 0 (fun _ => 0) (fun _ => 0) = zLin (fi 47) L (8 - (l0 + 1)) (zS (fi 47) L (c241 + 1)) (l0 + 1) ((zup C l0 xx.2.1)) ((zup P l0 xx.2.2))) ∨ (1 = 0 ∧ zLin (fi 47) L 8 (zS (fi 47) L a) 0 (fun _ => 0) (fun _ => 0) = .ok (zS (fi 47) L (c241 + 1), (l0 + 1), ((zup C l0 xx.2.1)), ((zup P l0 xx.2.2))))) ∧ ∀ a b, ¬ (a = 48 ∨ a = 49 ∨ (a = 30 ∧ 23 ≤ b ∧ b ≤ 30)) → f257 a b = fi a b) ∧ zH D A τ f257 fr ol s _ ∧ va_S A s.heap _ _ ∧ lv_has _ 2 [(0, .ref (τ.1 30)), (1, .int (nI 1))] from ⟨rfl, ⟨by omega, by omega, q261, hMl, by omega, q258, q259, fun k hk => ⟨by rw [ef257, zu_n (by omega), hf246 48 k (by omega)]; exact (hCP1 k hk).1, by rw [ef257, zu_n (by omega), hf246 49 k (by omega)]; exact (hCP1 k hk).2⟩, Or.inl ⟨rfl, zLin_y hl7 hT1 hln (hcz.trans hze) hcl hb44 (by omega)⟩, fun a b h => by rw [ef257, zu_n (by omega), hf246 a b (by omega), hf235 a b (by omega)]; exact hfr a b h⟩, hH, hS, lv_sub hl [1, 0] rfl⟩)
        · have zc254 := c254
          replace zc254 := zc_eq (nI_toInt (by omega)) (nI_toInt (by omega)) zc254
          refine lv_aload_n hx hb dX12_readLetter_48 rfl (lv_at hl 1 rfl) ?_
          refine lv_aload_n hx hb dX12_readLetter_49 rfl (lv_at hl 1 rfl) ?_
          refine zGetI (D := D) (ci := 12) (C := RX12) (T := TX12) (N := 71) hx hb hts hiX12 hown hH (zk_30 hF) rfl 23 (by decide) rfl hw8 (fun _ h9 => h9) dX12_readLetter_50 q244 ?_
          refine va_calli (va_runV (As := [.int (nI c241)]) (rest := []) ⟨hx, hb, hml, hown, hts⟩ (m_wrongX l hl0 D A sad τ f240 fr ol (nI c241) hF) (cwV 1 hts gX12_readLetter_X12_wrong rfl rfl rfl (by decide +kernel) ⟨Nat.le_of_ble_eq_true rfl, Nat.le_of_ble_eq_true rfl⟩) ⟨zQc_bl, zRecv hH (zk_30 hF) rfl, zQc_at hz hS hA hH⟩ rfl rfl hl.1 rfl (lv_room (Nat.le_of_ble_eq_true rfl)) dX12_readLetter_53 ⟨Nat.le_of_ble_eq_true rfl, Nat.le_of_ble_eq_true rfl⟩) hS (fun q _ h => h) (fun q h => h) (fun r262 u9 t9 H1 locs ht9 hvm9 hw hB hz1 hk1 hS => ?_)
          have hH := zMv ht9 hvm9 hB
          clear hB
          generalize u9 = f263 at hw hH
          generalize H1 = H at hH hS ⊢
          obtain ⟨rfl, ef263⟩ := hw
          have q264 : f263 30 22 = nI L := by rw [ef263, zu_n (fun h9 => absurd h9.2 (by decide))]; exact q247
          have q265 : f263 30 26 = nI (l0 + 1) := by rw [ef263, zu_n (fun h9 => absurd h9.2 (by decide))]; exact q249
          have q266 : f263 30 23 = nI c241 := by rw [ef263, zu_n (fun h9 => absurd h9.2 (by decide))]; exact q244
          have q267 : f263 30 24 = nI c241 := by rw [ef263]; exact zu_s
          have hMl := zMl.ci (fi' := f263) hMl (fun i9 k9 h9 => by rw [ef263]; exact zu_n (by omega))
          refine W.widen (k := 0) (n := 0) (by decide) (by decide) ?_
          exact W.zret (v := 0) hx hb hr (by decide) (fun t9 ht9 hW9 => ⟨⟨0, f263, rfl, ⟨Or.inr ⟨c241, by omega, by simp only [zLet, zLe0, zLin_n hl7 hT1 hln (hcz.trans hze) (Or.inl (by omega)), zWrd_not (b := fi 47) (n := L) (a := c241) (ws := [115, 117, 109]) (by omega) (by decide) (fun _ h9 => by have h91 := h9.1; omega)], rfl, by rw [ef263, zu_s]⟩, fun a b h => by rw [ef263, zu_n (by omega), hf246 a b (by omega), hf235 a b (by omega)]; exact hfr a b h⟩, zEnd1 hH ht9 hW9⟩, hS.F ht9⟩) hS.2.2 dX12_readLetter_56
    · skip
      refine lv_if_ne (tgt := 20) hx hb dX12_readLetter_15 (by decide) (fun c268 => absurd (by decide) c268) (fun c268 => ?_)
      refine lv_iconst (v := nI 0) hx hb dX12_readLetter_18 (by decide) ?_
      refine W.widen (k := 0) (n := 0) (by decide) (by decide) ?_
      exact W.zret (v := nI 0) hx hb hr (by decide) (fun t9 ht9 hW9 => ⟨⟨nI 0, f229, rfl, ⟨Or.inr ⟨px, hpx, by simp only [zLet, zLe0, zLin_e hl7 hT1 hln], rfl, h24L⟩, fun a b h => by rw [hf235 a b (by omega)]; exact hfr a b h⟩, zEnd1 hH ht9 hW9⟩, hS.F ht9⟩) hS.2.2 dX12_readLetter_19
set_option maxHeartbeats 4000000 in
set_option maxRecDepth 100000 in
/-- priceOf -/
theorem m_priceOfN (l : Launch) (hl0 : l.stackTraces = false) (D : va_G) (A : Nat → Prop) (sad : Nat → Nat) (τ : zTy) (fi : zFi) (fr : zFr) (ol : Int64) (c : Nat) (hF : zFix τ fr) (n : Nat) (hMt : zMt fi n) (td : Nat) (cd pN : Nat → Nat) (hPb : zqPb fi n td cd pN) (hc : c < 10000) : Met l yX12_priceOf wsX12_priceOf ({ frames := 1, cells := 0, slots := 0, locals := 24 }) (va_Pc [.ref (τ.1 30), .int (nI c)] (zQc D A sad τ fi fr ol)) (va_Qi (fun (r : Int32) (u : Unit) => (zPo cd pN n c = 0 ∧ r = -1) ∨ (0 < zPo cd pN n c ∧ r = nI (zPo cd pN n c))) (fun (u : Unit) (t : State) => zH D A τ fi fr ol t t.heap) A) 0 0 A := by
  refine Met.ofW (cc := cX12_priceOf) (maxL := 3) (ret := (some .int)) (by decide) rfl ?_
  intro p9 e9 s m args below meth c9 s₁ B hml hv
  obtain ⟨rfl, hz, hH, hA⟩ := hv
  have hx := B.exec
  have hb := B.bytes
  have hr := B.returns
  have hts := atoms_spec (ws := wsX12_priceOf) B.pre
  have hown : s.vm.findClass RX12 = some m.cls := findClass_of_methodNamed B.named
  have hlocks := B.notSynchronized
  have hS : va_S A s.heap s.heap [] := va_S.rf
  have hl := lv_entry ([.ref (τ.1 30), .int (nI c)]) (n := 3) (Nat.le_of_ble_eq_true rfl)
  rw [lg_entry_eq]
  generalize (lg_sl ([.ref (τ.1 30), .int (nI c)]) ++ List.replicate (3 - (lg_sl ([.ref (τ.1 30), .int (nI c)])).length) Slot.unset).toArray = ls at hl ⊢
  have hl : lv_has ls 3 [(0, .ref (τ.1 30)), (1, .int (nI c))] := hl
  have hm30 := hMt.1
  have hiX12 : ∀ w ∈ u_ws RX12 TX12 71, w ∈ wsX12_priceOf := fun _ h => List.mem_cons_of_mem _ (List.mem_append_right _ h)
  have hw1 := hts (.fieldLink RX12 200 "PostHouseModel" "today" "I") (by decide +kernel)
  refine lv_aload_n hx hb dX12_priceOf_0 rfl (lv_at hl 0 rfl) ?_
  refine lv_iload_n hx hb dX12_priceOf_1 rfl (lv_at hl 1 rfl) ?_
  refine va_calli (va_runV (As := [.int (nI c)]) (rest := []) ⟨hx, hb, hml, hown, hts⟩ (m_thingOf l hl0 D A sad τ fi fr ol (nI c) hF n hMt.2.1 (by omega)) (cwV 1 hts gX12_priceOf_X12_thingOf rfl rfl rfl (by decide +kernel) ⟨Nat.le_of_ble_eq_true rfl, Nat.le_of_ble_eq_true rfl⟩) ⟨zQc_bl, zRecv hH (zk_30 hF) rfl, zQc_at hz hS hA hH⟩ rfl rfl hl.1 rfl (lv_room (Nat.le_of_ble_eq_true rfl)) dX12_priceOf_2 ⟨Nat.le_of_ble_eq_true rfl, Nat.le_of_ble_eq_true rfl⟩) hS (fun q _ h => h) (fun q h => h) (fun r101 u9 t9 H1 locs ht9 hvm9 hw hB hz1 hk1 hS => ?_)
  have hH := zMv ht9 hvm9 hB
  generalize H1 = H at hH hS ⊢
  rcases hw with ⟨t102, ht102, hcd, hcl, rfl⟩ | ⟨hno, rfl⟩
  · skip
    refine lv_istore_n (lv' := [(2, .int (nI t102)), (0, .ref (τ.1 30)), (1, .int (nI c))]) hx hb dX12_priceOf_5 rfl hl (by decide) rfl (fun ls hl => ?_)
    refine lv_iload_n hx hb dX12_priceOf_6 rfl (lv_at hl 0 rfl) ?_
    refine lv_iconst (v := (-1)) hx hb dX12_priceOf_7 (by decide) ?_
    refine lv_icmp_ne (tgt := 15) hx hb dX12_priceOf_8 (by decide) (fun c103 => ?_) (fun c103 => False.elim (by have zc103 := zc_eq (nI_toInt (by omega)) ((by decide : ((-1) : Int32).toInt = (-1))) c103; omega))
    refine lv_aload_n hx hb dX12_priceOf_15 rfl (lv_at hl 1 rfl) ?_
    refine lv_iload_n hx hb dX12_priceOf_16 rfl (lv_at hl 0 rfl) ?_
    refine lv_aload_n hx hb dX12_priceOf_17 rfl (lv_at hl 1 rfl) ?_
    refine zGetI (D := D) (ci := 12) (C := RX12) (T := TX12) (N := 71) hx hb hts hiX12 hown hH (zk_30 hF) rfl 1 (by decide) rfl hw1 (fun _ h9 => h9) dX12_priceOf_18 hPb.1 ?_
    obtain ⟨k104, h4k104, h0k104, hmk104⟩ := (hPb.2.2 t102 (by omega)).2.2.2.1
    refine va_calli (va_runV (As := [.int (nI t102), .int (nI td)]) (rest := []) ⟨hx, hb, hml, hown, hts⟩ (m_costX l hl0 D A sad τ fi fr ol (nI td) hF t102 k104 (by omega) h0k104 h4k104) (cwV 2 hts gX12_priceOf_X12_cost rfl rfl rfl (by decide +kernel) ⟨Nat.le_of_ble_eq_true rfl, Nat.le_of_ble_eq_true rfl⟩) ⟨zQc_bl, zRecv hH (zk_30 hF) rfl, zQc_at hz hS hA hH⟩ rfl rfl hl.1 rfl (lv_room (Nat.le_of_ble_eq_true rfl)) dX12_priceOf_21 ⟨Nat.le_of_ble_eq_true rfl, Nat.le_of_ble_eq_true rfl⟩) hS (fun q _ h => h) (fun q h => h) (fun r105 u9 t9 H1 locs ht9 hvm9 hw hB hz1 hk1 hS => ?_)
    have hH := zMv ht9 hvm9 hB
    generalize H1 = H at hH hS ⊢
    have hcok104 := zPv_or (hw.uni hmk104)
    clear hw
    have hcbk104 := (hPb.2.2 t102 (by omega)).2.2.1
    rcases hcok104 with ⟨hzk104, rfl⟩ | ⟨hzk104, rfl⟩
    · skip
      have hpe : zPo cd pN n c = pN t102 := zPo_at ht102 (zNi (by have h9 := (hPb.2.2 t102 ht102).2.1; omega) (by omega) ((hPb.2.2 t102 ht102).1.symm.trans hcd)) (hPb.2.2 t102 ht102).2.2.2.2
      refine W.widen (k := 0) (n := 0) (by decide) (by decide) ?_
      exact W.iret (v := (-1)) hx hb hr (fun t9 ht9 hW9 => ⟨⟨(-1), (), rfl, Or.inl ⟨by rw [hpe]; exact hzk104, rfl⟩, zEnd1 hH ht9 hW9⟩, hS.F ht9⟩) hS.2.2 dX12_priceOf_24
    · skip
      have hpe : zPo cd pN n c = pN t102 := zPo_at ht102 (zNi (by have h9 := (hPb.2.2 t102 ht102).2.1; omega) (by omega) ((hPb.2.2 t102 ht102).1.symm.trans hcd)) (hPb.2.2 t102 ht102).2.2.2.2
      refine W.widen (k := 0) (n := 0) (by decide) (by decide) ?_
      exact W.iret (v := nI (pN t102)) hx hb hr (fun t9 ht9 hW9 => ⟨⟨nI (pN t102), (), rfl, Or.inr ⟨by rw [hpe]; exact hzk104, by rw [hpe]⟩, zEnd1 hH ht9 hW9⟩, hS.F ht9⟩) hS.2.2 dX12_priceOf_24
  · skip
    refine lv_istore_n (lv' := [(2, .int ((-1))), (0, .ref (τ.1 30)), (1, .int (nI c))]) hx hb dX12_priceOf_5 rfl hl (by decide) rfl (fun ls hl => ?_)
    refine lv_iload_n hx hb dX12_priceOf_6 rfl (lv_at hl 0 rfl) ?_
    refine lv_iconst (v := (-1)) hx hb dX12_priceOf_7 (by decide) ?_
    refine lv_icmp_ne (tgt := 15) hx hb dX12_priceOf_8 (by decide) (fun c106 => absurd (by decide) c106) (fun c106 => ?_)
    refine lv_iconst (v := (-1)) hx hb dX12_priceOf_11 (by decide) ?_
    refine lv_goto (tgt := 24) hx hb dX12_priceOf_12 (by decide) ?_
    refine W.widen (k := 0) (n := 0) (by decide) (by decide) ?_
    exact W.iret (v := (-1)) hx hb hr (fun t9 ht9 hW9 => ⟨⟨(-1), (), rfl, Or.inl ⟨zPo_no (fun t9 q9 e9 => hno t9 q9 (by rw [(hPb.2.2 t9 q9).1, e9])), rfl⟩, zEnd1 hH ht9 hW9⟩, hS.F ht9⟩) hS.2.2 dX12_priceOf_24
set_option maxHeartbeats 4000000 in
set_option maxRecDepth 100000 in
/-- due -/
theorem m_dueN (l : Launch) (hl0 : l.stackTraces = false) (D : va_G) (A : Nat → Prop) (sad : Nat → Nat) (τ : zTy) (fi : zFi) (fr : zFr) (ol : Int64) (x : Int32) (hF : zFix τ fr) : Met l yX12_due wsX12_due ({ frames := 0, cells := 0, slots := 0, locals := 0 }) (va_Pc [.ref (τ.1 30), .int x] (zQc D A sad τ fi fr ol)) (va_Qi (fun (r : Int32) (u : Unit) => r = zDue (fi 44) x) (fun (u : Unit) (t : State) => zH D A τ fi fr ol t t.heap) A) 0 0 A := by
  refine Met.ofW (cc := cX12_due) (maxL := 2) (ret := (some .int)) (by decide) rfl ?_
  intro p9 e9 s m args below meth c9 s₁ B hml hv
  obtain ⟨rfl, hz, hH, hA⟩ := hv
  have hx := B.exec
  have hb := B.bytes
  have hr := B.returns
  have hts := atoms_spec (ws := wsX12_due) B.pre
  have hown : s.vm.findClass RX12 = some m.cls := findClass_of_methodNamed B.named
  have hlocks := B.notSynchronized
  have hS : va_S A s.heap s.heap [] := va_S.rf
  have hl := lv_entry ([.ref (τ.1 30), .int x]) (n := 2) (Nat.le_of_ble_eq_true rfl)
  rw [lg_entry_eq]
  generalize (lg_sl ([.ref (τ.1 30), .int x]) ++ List.replicate (2 - (lg_sl ([.ref (τ.1 30), .int x])).length) Slot.unset).toArray = ls at hl ⊢
  have hl : lv_has ls 2 [(0, .ref (τ.1 30)), (1, .int x)] := hl
  have hiX12 : ∀ w ∈ u_ws RX12 TX12 71, w ∈ wsX12_due := fun _ h => List.mem_cons_of_mem _ (List.mem_append_right _ h)
  have hw1 := hts (.fieldLink RX12 49 "PostHouseModel" "rule" "[I") (by decide +kernel)
  refine lv_iload_n hx hb dX12_due_0 rfl (lv_at hl 1 rfl) ?_
  refine lv_iload_n hx hb dX12_due_1 rfl (lv_at hl 1 rfl) ?_
  refine lv_aload_n hx hb dX12_due_2 rfl (lv_at hl 0 rfl) ?_
  refine zGetR (D := D) (ci := 12) (C := RX12) (T := TX12) (N := 71) hx hb hts hiX12 hown hH (zk_30 hF) rfl 17 (by decide) rfl hw1 (fun _ h9 => h9) dX12_due_3 (zr_30_17 hF) ?_
  refine lv_iconst (v := nI 2) hx hb dX12_due_6 (by decide) ?_
  refine zIaldN (D := D) hx hb hH (zk_44 hF) (zn_44 hF) (by omega) (by omega) rfl dX12_due_7 ?_
  refine lv_icmp_ge (tgt := 20) hx hb dX12_due_8 (by decide) (fun c101 => ?_) (fun c101 => ?_)
  · have zc101 := c101
    replace zc101 := zc_le (rfl) (rfl) zc101
    refine lv_iconst (v := nI 0) hx hb dX12_due_20 (by decide) ?_
    refine lv_iadd hx hb dX12_due_21 ?_
    refine lv_topi (fun v102 ev102 => ?_)
    refine W.widen (k := 0) (n := 0) (by decide) (by decide) ?_
    exact W.iret (v := v102) hx hb hr (fun t9 ht9 hW9 => ⟨⟨v102, (), rfl, by show v102 = zDue (fi 44) x; rw [ev102]; unfold zDue; rw [if_neg (by omega)]; rfl, zEnd1 hH ht9 hW9⟩, hS.F ht9⟩) hS.2.2 dX12_due_22
  · have zc101 := c101
    replace zc101 := zc_nle (rfl) (rfl) zc101
    refine lv_aload_n hx hb dX12_due_11 rfl (lv_at hl 0 rfl) ?_
    refine zGetR (D := D) (ci := 12) (C := RX12) (T := TX12) (N := 71) hx hb hts hiX12 hown hH (zk_30 hF) rfl 17 (by decide) rfl hw1 (fun _ h9 => h9) dX12_due_12 (zr_30_17 hF) ?_
    refine lv_iconst (v := nI 1) hx hb dX12_due_15 (by decide) ?_
    refine zIaldN (D := D) hx hb hH (zk_44 hF) (zn_44 hF) (by omega) (by omega) rfl dX12_due_16 ?_
    refine lv_goto (tgt := 21) hx hb dX12_due_17 (by decide) ?_
    refine lv_iadd hx hb dX12_due_21 ?_
    refine lv_topi (fun v103 ev103 => ?_)
    refine W.widen (k := 0) (n := 0) (by decide) (by decide) ?_
    exact W.iret (v := v103) hx hb hr (fun t9 ht9 hW9 => ⟨⟨v103, (), rfl, by show v103 = zDue (fi 44) x; rw [ev103]; unfold zDue; rw [if_pos (by omega)], zEnd1 hH ht9 hW9⟩, hS.F ht9⟩) hS.2.2 dX12_due_22
set_option maxHeartbeats 4000000 in
set_option maxRecDepth 100000 in
/-- known -/
theorem m_knownN (l : Launch) (hl0 : l.stackTraces = false) (D : va_G) (A : Nat → Prop) (sad : Nat → Nat) (τ : zTy) (fi : zFi) (fr : zFr) (ol : Int64) (hF : zFix τ fr) (n : Nat) (hMt : zMt fi n) (td : Nat) (cd pN : Nat → Nat) (hPb : zqPb fi n td cd pN) (l0 : Nat) (lc mn : Nat → Nat) (hLy : zqLy fi l0 lc mn) : Met l yX12_known wsX12_known ({ frames := 2, cells := 0, slots := 0, locals := 46 }) (va_Pc [.ref (τ.1 30)] (zQc D A sad τ fi fr ol)) (va_Qi (fun (r : Int32) (u : Unit) => r = nI (zCn (fun j => zPo cd pN n (lc j)) l0)) (fun (u : Unit) (t : State) => zH D A τ fi fr ol t t.heap) A) 0 0 A := by
  refine Met.ofW (cc := cX12_known) (maxL := 3) (ret := (some .int)) (by decide) rfl ?_
  intro p9 e9 s m args below meth c9 s₁ B hml hv
  obtain ⟨rfl, hz, hH, hA⟩ := hv
  have hx := B.exec
  have hb := B.bytes
  have hr := B.returns
  have hts := atoms_spec (ws := wsX12_known) B.pre
  have hown : s.vm.findClass RX12 = some m.cls := findClass_of_methodNamed B.named
  have hlocks := B.notSynchronized
  have hS : va_S A s.heap s.heap [] := va_S.rf
  have hl := lv_entry ([.ref (τ.1 30)]) (n := 3) (Nat.le_of_ble_eq_true rfl)
  rw [lg_entry_eq]
  generalize (lg_sl ([.ref (τ.1 30)]) ++ List.replicate (3 - (lg_sl ([.ref (τ.1 30)])).length) Slot.unset).toArray = ls at hl ⊢
  have hl : lv_has ls 3 [(0, .ref (τ.1 30))] := hl
  have hm30 := hMt.1
  have hl8 := hLy.1
  have hiX12 : ∀ w ∈ u_ws RX12 TX12 71, w ∈ wsX12_known := fun _ h => List.mem_cons_of_mem _ (List.mem_append_right _ h)
  have hw1 := hts (.fieldLink RX12 262 "PostHouseModel" "lines" "I") (by decide +kernel)
  have hw2 := hts (.fieldLink RX12 65 "PostHouseModel" "lineCode" "[I") (by decide +kernel)
  refine lv_iconst (v := nI 0) hx hb dX12_known_0 (by decide) ?_
  refine lv_istore_n (lv' := [(1, .int (nI 0)), (0, .ref (τ.1 30))]) hx hb dX12_known_1 rfl hl (by decide) rfl (fun ls hl => ?_)
  refine lv_iconst (v := nI 0) hx hb dX12_known_2 (by decide) ?_
  refine lv_istore_n (lv' := [(2, .int (nI 0)), (1, .int (nI 0)), (0, .ref (τ.1 30))]) hx hb dX12_known_3 rfl hl (by decide) rfl (fun ls hl => ?_)
  refine zLp (σ := Nat × Nat) (fun x9 k9 H locs ls => (fun (i : Nat) (sm : Nat) => k9 = l0 - i ∧ (i ≤ l0 ∧ sm = zCn (fun j => zPo cd pN n (lc j)) i) ∧ zH D A τ fi fr ol s H ∧ va_S A s.heap H locs ∧ lv_has ls 3 [(0, .ref (τ.1 30)), (1, .int (nI sm)), (2, .int (nI i))]) x9.1 x9.2) (0, 0) (l0 - 0) (show l0 - 0 = l0 - 0 ∧ (0 ≤ l0 ∧ 0 = zCn (fun j => zPo cd pN n (lc j)) 0) ∧ zH D A τ fi fr ol s _ ∧ va_S A s.heap _ _ ∧ lv_has _ 3 [(0, .ref (τ.1 30)), (1, .int (nI 0)), (2, .int (nI 0))] from ⟨rfl, ⟨Nat.zero_le _, rfl⟩, hH, hS, lv_sub hl [2, 1, 0] rfl⟩) (fun k9 ih x9 H locs ls hv9 => ?_)
  obtain ⟨i, sm⟩ := x9
  have hv9 : k9 = l0 - i ∧ (i ≤ l0 ∧ sm = zCn (fun j => zPo cd pN n (lc j)) i) ∧ zH D A τ fi fr ol s H ∧ va_S A s.heap H locs ∧ lv_has ls 3 [(0, .ref (τ.1 30)), (1, .int (nI sm)), (2, .int (nI i))] := hv9
  obtain ⟨hkih101, hv9, hH, hS, hl⟩ := hv9
  obtain ⟨h1, hsm⟩ := hv9
  have ih101 := ih
  clear ih
  refine lv_iload_n hx hb dX12_known_4 rfl (lv_at hl 2 rfl) ?_
  refine lv_aload_n hx hb dX12_known_5 rfl (lv_at hl 0 rfl) ?_
  refine zGetI (D := D) (ci := 12) (C := RX12) (T := TX12) (N := 71) hx hb hts hiX12 hown hH (zk_30 hF) rfl 26 (by decide) rfl hw1 (fun _ h9 => h9) dX12_known_6 hLy.2.1 ?_
  refine lv_icmp_ge (tgt := 40) hx hb dX12_known_9 (by decide) (fun c102 => ?_) (fun c102 => ?_)
  · have zc102 := c102
    replace zc102 := zc_le (nI_toInt (by omega)) (nI_toInt (by omega)) zc102
    refine lv_iload_n hx hb dX12_known_40 rfl (lv_at hl 1 rfl) ?_
    refine W.widen (k := 0) (n := 0) (by decide) (by decide) ?_
    exact W.iret (v := nI sm) hx hb hr (fun t9 ht9 hW9 => ⟨⟨nI sm, (), rfl, by rw [show l0 = i by omega, ← hsm], zEnd1 hH ht9 hW9⟩, hS.F ht9⟩) hS.2.2 dX12_known_41
  · have zc102 := c102
    replace zc102 := zc_nle (nI_toInt (by omega)) (nI_toInt (by omega)) zc102
    refine lv_iload_n hx hb dX12_known_12 rfl (lv_at hl 1 rfl) ?_
    refine lv_aload_n hx hb dX12_known_13 rfl (lv_at hl 0 rfl) ?_
    refine lv_aload_n hx hb dX12_known_14 rfl (lv_at hl 0 rfl) ?_
    refine zGetR (D := D) (ci := 12) (C := RX12) (T := TX12) (N := 71) hx hb hts hiX12 hown hH (zk_30 hF) rfl 27 (by decide) rfl hw2 (fun _ h9 => h9) dX12_known_15 (zr_30_27 hF) ?_
    refine lv_iload_n hx hb dX12_known_18 rfl (lv_at hl 2 rfl) ?_
    refine zIaldN (D := D) hx hb hH (zk_48 hF) (zn_48 hF) (by omega) (by omega) (hLy.2.2 i (by omega)).1 dX12_known_19 ?_
    refine va_calli (va_runV (As := [.int (nI (lc i))]) (rest := [.int (nI sm)]) ⟨hx, hb, hml, hown, hts⟩ (m_priceOfN l hl0 D A sad τ fi fr ol (lc i) hF n hMt td cd pN hPb ((hLy.2.2 i (by omega)).2.1)) (cwV 1 hts gX12_known_X12_priceOf rfl rfl rfl (by decide +kernel) ⟨Nat.le_of_ble_eq_true rfl, Nat.le_of_ble_eq_true rfl⟩) ⟨zQc_bl, zRecv hH (zk_30 hF) rfl, zQc_at hz hS hA hH⟩ rfl rfl hl.1 rfl (lv_room (Nat.le_of_ble_eq_true rfl)) dX12_known_20 ⟨Nat.le_of_ble_eq_true rfl, Nat.le_of_ble_eq_true rfl⟩) hS (fun q _ h => h) (fun q h => h) (fun r103 u9 t9 H1 locs ht9 hvm9 hw hB hz1 hk1 hS => ?_)
    have hH := zMv ht9 hvm9 hB
    generalize H1 = H at hH hS ⊢
    have hpl := hPb.le (c := lc i)
    rcases hw with ⟨hpz, rfl⟩ | ⟨hpz, rfl⟩
    · skip
      refine lv_iconst (v := (-1)) hx hb dX12_known_23 (by decide) ?_
      refine lv_icmp_ne (tgt := 31) hx hb dX12_known_24 (by decide) (fun c104 => absurd (by decide) c104) (fun c104 => ?_)
      refine lv_iconst (v := nI 0) hx hb dX12_known_27 (by decide) ?_
      refine lv_goto (tgt := 32) hx hb dX12_known_28 (by decide) ?_
      refine lv_iadd hx hb dX12_known_32 ?_
      refine lv_topi (fun v105 ev105 => ?_)
      obtain rfl : v105 = nI (sm + 0) := ev105.trans (nI_add _ _)
      refine lv_istore_n (lv' := [(1, .int (nI (sm + 0))), (0, .ref (τ.1 30)), (2, .int (nI i))]) hx hb dX12_known_33 rfl hl (by decide) rfl (fun ls hl => ?_)
      refine lv_iinc (v := nI (i + 1)) (lv' := [(2, .int (nI (i + 1))), (1, .int (nI (sm + 0))), (0, .ref (τ.1 30))]) hx hb dX12_known_34 hl (k := 2) rfl (by rw [show (Int32.ofInt 1 : Int32) = nI 1 from by decide, nI_add]) (by decide) rfl (fun ls hl => ?_)
      refine lv_goto (tgt := 4) hx hb dX12_known_37 (by decide) ?_
      exact ih101 (l0 - (i + 1)) (by omega) (i + 1, sm + 0) _ _ _ (show l0 - (i + 1) = l0 - (i + 1) ∧ ((i + 1) ≤ l0 ∧ (sm + 0) = zCn (fun j => zPo cd pN n (lc j)) (i + 1)) ∧ zH D A τ fi fr ol s _ ∧ va_S A s.heap _ _ ∧ lv_has _ 3 [(0, .ref (τ.1 30)), (1, .int (nI (sm + 0))), (2, .int (nI (i + 1)))] from ⟨rfl, ⟨by omega, by simp only [zCn]; rw [← hsm, if_pos hpz]⟩, hH, hS, lv_sub hl [2, 1, 0] rfl⟩)
    · skip
      refine lv_iconst (v := (-1)) hx hb dX12_known_23 (by decide) ?_
      refine lv_icmp_ne (tgt := 31) hx hb dX12_known_24 (by decide) (fun c106 => ?_) (fun c106 => False.elim (by have zc106 := zc_eq (nI_toInt (by omega)) ((by decide : ((-1) : Int32).toInt = (-1))) c106; omega))
      refine lv_iconst (v := nI 1) hx hb dX12_known_31 (by decide) ?_
      refine lv_iadd hx hb dX12_known_32 ?_
      refine lv_topi (fun v107 ev107 => ?_)
      obtain rfl : v107 = nI (sm + 1) := ev107.trans (nI_add _ _)
      refine lv_istore_n (lv' := [(1, .int (nI (sm + 1))), (0, .ref (τ.1 30)), (2, .int (nI i))]) hx hb dX12_known_33 rfl hl (by decide) rfl (fun ls hl => ?_)
      refine lv_iinc (v := nI (i + 1)) (lv' := [(2, .int (nI (i + 1))), (1, .int (nI (sm + 1))), (0, .ref (τ.1 30))]) hx hb dX12_known_34 hl (k := 2) rfl (by rw [show (Int32.ofInt 1 : Int32) = nI 1 from by decide, nI_add]) (by decide) rfl (fun ls hl => ?_)
      refine lv_goto (tgt := 4) hx hb dX12_known_37 (by decide) ?_
      exact ih101 (l0 - (i + 1)) (by omega) (i + 1, sm + 1) _ _ _ (show l0 - (i + 1) = l0 - (i + 1) ∧ ((i + 1) ≤ l0 ∧ (sm + 1) = zCn (fun j => zPo cd pN n (lc j)) (i + 1)) ∧ zH D A τ fi fr ol s _ ∧ va_S A s.heap _ _ ∧ lv_has _ 3 [(0, .ref (τ.1 30)), (1, .int (nI (sm + 1))), (2, .int (nI (i + 1)))] from ⟨rfl, ⟨by omega, by simp only [zCn]; rw [← hsm, if_neg (by omega)]⟩, hH, hS, lv_sub hl [2, 1, 0] rfl⟩)
set_option maxHeartbeats 4000000 in
set_option maxRecDepth 100000 in
/-- total -/
theorem m_totalN (l : Launch) (hl0 : l.stackTraces = false) (D : va_G) (A : Nat → Prop) (sad : Nat → Nat) (τ : zTy) (fi : zFi) (fr : zFr) (ol : Int64) (x : Int32) (c0 : Nat) (hc0 : c0 < 10000) (hF : zFix τ fr) (n : Nat) (hMt : zMt fi n) (td : Nat) (cd pN : Nat → Nat) (hPb : zqPb fi n td cd pN) (l0 : Nat) (lc mn : Nat → Nat) (hLy : zqLy fi l0 lc mn) : Met l yX12_total wsX12_total ({ frames := 2, cells := 0, slots := 0, locals := 46 }) (va_Pc [.ref (τ.1 30), .int x, .int (nI c0)] (zQc D A sad τ fi fr ol)) (va_Qi (fun (r : Int32) (u : Unit) => (r = -1 ∧ ∃ j, j < l0 ∧ zPo cd pN n (zIf x c0 lc j) = 0) ∨ ((∀ j, j < l0 → 0 < zPo cd pN n (zIf x c0 lc j)) ∧ r = nI (zSm (fun j => zPo cd pN n (zIf x c0 lc j) * mn j) l0))) (fun (u : Unit) (t : State) => zH D A τ fi fr ol t t.heap) A) 0 0 A := by
  refine Met.ofW (cc := cX12_total) (maxL := 6) (ret := (some .int)) (by decide) rfl ?_
  intro p9 e9 s m args below meth c9 s₁ B hml hv
  obtain ⟨rfl, hz, hH, hA⟩ := hv
  have hx := B.exec
  have hb := B.bytes
  have hr := B.returns
  have hts := atoms_spec (ws := wsX12_total) B.pre
  have hown : s.vm.findClass RX12 = some m.cls := findClass_of_methodNamed B.named
  have hlocks := B.notSynchronized
  have hS : va_S A s.heap s.heap [] := va_S.rf
  have hl := lv_entry ([.ref (τ.1 30), .int x, .int (nI c0)]) (n := 6) (Nat.le_of_ble_eq_true rfl)
  rw [lg_entry_eq]
  generalize (lg_sl ([.ref (τ.1 30), .int x, .int (nI c0)]) ++ List.replicate (6 - (lg_sl ([.ref (τ.1 30), .int x, .int (nI c0)])).length) Slot.unset).toArray = ls at hl ⊢
  have hl : lv_has ls 6 [(0, .ref (τ.1 30)), (1, .int x), (2, .int (nI c0))] := hl
  have hm30 := hMt.1
  have hl8 := hLy.1
  have hiX12 : ∀ w ∈ u_ws RX12 TX12 71, w ∈ wsX12_total := fun _ h => List.mem_cons_of_mem _ (List.mem_append_right _ h)
  have hw1 := hts (.fieldLink RX12 262 "PostHouseModel" "lines" "I") (by decide +kernel)
  have hw2 := hts (.fieldLink RX12 65 "PostHouseModel" "lineCode" "[I") (by decide +kernel)
  have hw3 := hts (.fieldLink RX12 68 "PostHouseModel" "lineMany" "[I") (by decide +kernel)
  refine lv_iconst (v := nI 0) hx hb dX12_total_0 (by decide) ?_
  refine lv_istore_n (lv' := [(3, .int (nI 0)), (0, .ref (τ.1 30)), (1, .int x), (2, .int (nI c0))]) hx hb dX12_total_1 rfl hl (by decide) rfl (fun ls hl => ?_)
  refine lv_iconst (v := nI 0) hx hb dX12_total_2 (by decide) ?_
  refine lv_istore (lv' := [(4, .int (nI 0)), (3, .int (nI 0)), (0, .ref (τ.1 30)), (1, .int x), (2, .int (nI c0))]) hx hb dX12_total_3 hl (by decide) rfl (fun ls hl => ?_)
  refine zLp (σ := Nat × Nat) (fun x9 k9 H locs ls => (fun (i : Nat) (sm : Nat) => k9 = l0 - i ∧ (i ≤ l0 ∧ (∀ j, j < i → 0 < zPo cd pN n (zIf x c0 lc j)) ∧ sm = zSm (fun j => zPo cd pN n (zIf x c0 lc j) * mn j) i) ∧ zH D A τ fi fr ol s H ∧ va_S A s.heap H locs ∧ lv_has ls 6 [(0, .ref (τ.1 30)), (1, .int x), (2, .int (nI c0)), (3, .int (nI sm)), (4, .int (nI i))]) x9.1 x9.2) (0, 0) (l0 - 0) (show l0 - 0 = l0 - 0 ∧ (0 ≤ l0 ∧ (∀ j, j < 0 → 0 < zPo cd pN n (zIf x c0 lc j)) ∧ 0 = zSm (fun j => zPo cd pN n (zIf x c0 lc j) * mn j) 0) ∧ zH D A τ fi fr ol s _ ∧ va_S A s.heap _ _ ∧ lv_has _ 6 [(0, .ref (τ.1 30)), (1, .int x), (2, .int (nI c0)), (3, .int (nI 0)), (4, .int (nI 0))] from ⟨rfl, ⟨Nat.zero_le _, fun j h => absurd h (by omega), rfl⟩, hH, hS, lv_sub hl [2, 3, 4, 1, 0] rfl⟩) (fun k9 ih x9 H locs ls hv9 => ?_)
  obtain ⟨i, sm⟩ := x9
  have hv9 : k9 = l0 - i ∧ (i ≤ l0 ∧ (∀ j, j < i → 0 < zPo cd pN n (zIf x c0 lc j)) ∧ sm = zSm (fun j => zPo cd pN n (zIf x c0 lc j) * mn j) i) ∧ zH D A τ fi fr ol s H ∧ va_S A s.heap H locs ∧ lv_has ls 6 [(0, .ref (τ.1 30)), (1, .int x), (2, .int (nI c0)), (3, .int (nI sm)), (4, .int (nI i))] := hv9
  obtain ⟨hkih101, hv9, hH, hS, hl⟩ := hv9
  obtain ⟨h1, hpj, hsm⟩ := hv9
  have ih101 := ih
  clear ih
  refine lv_iload hx hb dX12_total_5 (lv_at hl 4 rfl) ?_
  refine lv_aload_n hx hb dX12_total_7 rfl (lv_at hl 0 rfl) ?_
  refine zGetI (D := D) (ci := 12) (C := RX12) (T := TX12) (N := 71) hx hb hts hiX12 hown hH (zk_30 hF) rfl 26 (by decide) rfl hw1 (fun _ h9 => h9) dX12_total_8 hLy.2.1 ?_
  refine lv_icmp_ge (tgt := 64) hx hb dX12_total_11 (by decide) (fun c102 => ?_) (fun c102 => ?_)
  · have zc102 := c102
    replace zc102 := zc_le (nI_toInt (by omega)) (nI_toInt (by omega)) zc102
    refine lv_iload_n hx hb dX12_total_64 rfl (lv_at hl 3 rfl) ?_
    refine W.widen (k := 0) (n := 0) (by decide) (by decide) ?_
    exact W.iret (v := nI sm) hx hb hr (fun t9 ht9 hW9 => ⟨⟨nI sm, (), rfl, Or.inr ⟨fun j h => hpj j (by omega), by rw [show l0 = i by omega, ← hsm]⟩, zEnd1 hH ht9 hW9⟩, hS.F ht9⟩) hS.2.2 dX12_total_65
  · have zc102 := c102
    replace zc102 := zc_nle (nI_toInt (by omega)) (nI_toInt (by omega)) zc102
    refine lv_aload_n hx hb dX12_total_14 rfl (lv_at hl 0 rfl) ?_
    refine lv_iload hx hb dX12_total_15 (lv_at hl 4 rfl) ?_
    refine lv_iload_n hx hb dX12_total_17 rfl (lv_at hl 1 rfl) ?_
    refine lv_icmp_ne (tgt := 25) hx hb dX12_total_18 (by decide) (fun c103 => ?_) (fun c103 => ?_)
    · have zc103 := c103
      replace zc103 := zc_neq (nI_toInt (by omega)) (rfl) zc103
      have hzi : zIf x c0 lc i = lc i := if_neg (fun h9 => zc103 (by rw [h9, nI_toInt (by omega)]))
      refine lv_aload_n hx hb dX12_total_25 rfl (lv_at hl 0 rfl) ?_
      refine zGetR (D := D) (ci := 12) (C := RX12) (T := TX12) (N := 71) hx hb hts hiX12 hown hH (zk_30 hF) rfl 27 (by decide) rfl hw2 (fun _ h9 => h9) dX12_total_26 (zr_30_27 hF) ?_
      refine lv_iload hx hb dX12_total_29 (lv_at hl 4 rfl) ?_
      refine zIaldN (D := D) hx hb hH (zk_48 hF) (zn_48 hF) (by omega) (by omega) (hLy.2.2 i (by omega)).1 dX12_total_31 ?_
      refine va_calli (va_runV (As := [.int (nI (lc i))]) (rest := []) ⟨hx, hb, hml, hown, hts⟩ (m_priceOfN l hl0 D A sad τ fi fr ol (lc i) hF n hMt td cd pN hPb ((hLy.2.2 i (by omega)).2.1)) (cwV 1 hts gX12_total_X12_priceOf rfl rfl rfl (by decide +kernel) ⟨Nat.le_of_ble_eq_true rfl, Nat.le_of_ble_eq_true rfl⟩) ⟨zQc_bl, zRecv hH (zk_30 hF) rfl, zQc_at hz hS hA hH⟩ rfl rfl hl.1 rfl (lv_room (Nat.le_of_ble_eq_true rfl)) dX12_total_32 ⟨Nat.le_of_ble_eq_true rfl, Nat.le_of_ble_eq_true rfl⟩) hS (fun q _ h => h) (fun q h => h) (fun r104 u9 t9 H1 locs ht9 hvm9 hw hB hz1 hk1 hS => ?_)
      have hH := zMv ht9 hvm9 hB
      generalize H1 = H at hH hS ⊢
      have hpl := hPb.le (c := lc i)
      rcases hw with ⟨hpz, rfl⟩ | ⟨hpz, rfl⟩
      · skip
        refine lv_istore (lv' := [(5, .int ((-1))), (0, .ref (τ.1 30)), (1, .int x), (2, .int (nI c0)), (3, .int (nI sm)), (4, .int (nI i))]) hx hb dX12_total_35 hl (by decide) rfl (fun ls hl => ?_)
        refine lv_iload hx hb dX12_total_37 (lv_at hl 0 rfl) ?_
        refine lv_iconst (v := (-1)) hx hb dX12_total_39 (by decide) ?_
        refine lv_icmp_ne (tgt := 45) hx hb dX12_total_40 (by decide) (fun c105 => absurd (by decide) c105) (fun c105 => ?_)
        refine lv_iconst (v := (-1)) hx hb dX12_total_43 (by decide) ?_
        refine W.widen (k := 0) (n := 0) (by decide) (by decide) ?_
        exact W.iret (v := (-1)) hx hb hr (fun t9 ht9 hW9 => ⟨⟨(-1), (), rfl, Or.inl ⟨rfl, i, by omega, by rw [hzi]; exact hpz⟩, zEnd1 hH ht9 hW9⟩, hS.F ht9⟩) hS.2.2 dX12_total_44
      · skip
        refine lv_istore (lv' := [(5, .int (nI (zPo cd pN n (lc i)))), (0, .ref (τ.1 30)), (1, .int x), (2, .int (nI c0)), (3, .int (nI sm)), (4, .int (nI i))]) hx hb dX12_total_35 hl (by decide) rfl (fun ls hl => ?_)
        refine lv_iload hx hb dX12_total_37 (lv_at hl 0 rfl) ?_
        refine lv_iconst (v := (-1)) hx hb dX12_total_39 (by decide) ?_
        refine lv_icmp_ne (tgt := 45) hx hb dX12_total_40 (by decide) (fun c106 => ?_) (fun c106 => False.elim (by have zc106 := zc_eq (nI_toInt (by omega)) ((by decide : ((-1) : Int32).toInt = (-1))) c106; omega))
        refine lv_iload_n hx hb dX12_total_45 rfl (lv_at hl 4 rfl) ?_
        refine lv_iload hx hb dX12_total_46 (lv_at hl 0 rfl) ?_
        refine lv_aload_n hx hb dX12_total_48 rfl (lv_at hl 1 rfl) ?_
        refine zGetR (D := D) (ci := 12) (C := RX12) (T := TX12) (N := 71) hx hb hts hiX12 hown hH (zk_30 hF) rfl 28 (by decide) rfl hw3 (fun _ h9 => h9) dX12_total_49 (zr_30_28 hF) ?_
        refine lv_iload hx hb dX12_total_52 (lv_at hl 5 rfl) ?_
        refine zIaldN (D := D) hx hb hH (zk_49 hF) (zn_49 hF) (by omega) (by omega) (hLy.2.2 i (by omega)).2.2.1 dX12_total_54 ?_
        refine lv_imul hx hb dX12_total_55 ?_
        refine lv_topi (fun v107 ev107 => ?_)
        obtain rfl : v107 = nI ((zPo cd pN n (lc i)) * (mn i)) := ev107.trans (pk_mul _ _)
        refine lv_iadd hx hb dX12_total_56 ?_
        refine lv_topi (fun v108 ev108 => ?_)
        obtain rfl : v108 = nI (sm + (zPo cd pN n (lc i)) * (mn i)) := ev108.trans (nI_add _ _)
        refine lv_istore_n (lv' := [(3, .int (nI (sm + (zPo cd pN n (lc i)) * (mn i)))), (5, .int (nI (zPo cd pN n (lc i)))), (0, .ref (τ.1 30)), (1, .int x), (2, .int (nI c0)), (4, .int (nI i))]) hx hb dX12_total_57 rfl hl (by decide) rfl (fun ls hl => ?_)
        refine lv_iinc (v := nI (i + 1)) (lv' := [(4, .int (nI (i + 1))), (3, .int (nI (sm + (zPo cd pN n (lc i)) * (mn i)))), (5, .int (nI (zPo cd pN n (lc i)))), (0, .ref (τ.1 30)), (1, .int x), (2, .int (nI c0))]) hx hb dX12_total_58 hl (k := 5) rfl (by rw [show (Int32.ofInt 1 : Int32) = nI 1 from by decide, nI_add]) (by decide) rfl (fun ls hl => ?_)
        refine lv_goto (tgt := 5) hx hb dX12_total_61 (by decide) ?_
        exact ih101 (l0 - (i + 1)) (by omega) (i + 1, sm + (zPo cd pN n (lc i)) * (mn i)) _ _ _ (show l0 - (i + 1) = l0 - (i + 1) ∧ ((i + 1) ≤ l0 ∧ (∀ j, j < (i + 1) → 0 < zPo cd pN n (zIf x c0 lc j)) ∧ (sm + (zPo cd pN n (lc i)) * (mn i)) = zSm (fun j => zPo cd pN n (zIf x c0 lc j) * mn j) (i + 1)) ∧ zH D A τ fi fr ol s _ ∧ va_S A s.heap _ _ ∧ lv_has _ 6 [(0, .ref (τ.1 30)), (1, .int x), (2, .int (nI c0)), (3, .int (nI (sm + (zPo cd pN n (lc i)) * (mn i)))), (4, .int (nI (i + 1)))] from ⟨rfl, ⟨by omega, fun j h9 => by by_cases h7 : j = i; (subst h7; rw [hzi]; exact hpz); exact hpj j (by omega), by simp only [zSm]; rw [hzi, ← hsm]⟩, hH, hS, lv_sub hl [3, 4, 5, 1, 0] rfl⟩)
    · have zc103 := c103
      replace zc103 := zc_eq (nI_toInt (by omega)) (rfl) zc103
      have hzi : zIf x c0 lc i = c0 := if_pos (Int32.toInt_inj.mp (by rw [nI_toInt (by omega)]; exact zc103.symm))
      refine lv_iload_n hx hb dX12_total_21 rfl (lv_at hl 2 rfl) ?_
      refine lv_goto (tgt := 32) hx hb dX12_total_22 (by decide) ?_
      refine va_calli (va_runV (As := [.int (nI c0)]) (rest := []) ⟨hx, hb, hml, hown, hts⟩ (m_priceOfN l hl0 D A sad τ fi fr ol c0 hF n hMt td cd pN hPb hc0) (cwV 1 hts gX12_total_X12_priceOf rfl rfl rfl (by decide +kernel) ⟨Nat.le_of_ble_eq_true rfl, Nat.le_of_ble_eq_true rfl⟩) ⟨zQc_bl, zRecv hH (zk_30 hF) rfl, zQc_at hz hS hA hH⟩ rfl rfl hl.1 rfl (lv_room (Nat.le_of_ble_eq_true rfl)) dX12_total_32 ⟨Nat.le_of_ble_eq_true rfl, Nat.le_of_ble_eq_true rfl⟩) hS (fun q _ h => h) (fun q h => h) (fun r109 u9 t9 H1 locs ht9 hvm9 hw hB hz1 hk1 hS => ?_)
      have hH := zMv ht9 hvm9 hB
      generalize H1 = H at hH hS ⊢
      have hpl := hPb.le (c := c0)
      rcases hw with ⟨hpz, rfl⟩ | ⟨hpz, rfl⟩
      · skip
        refine lv_istore (lv' := [(5, .int ((-1))), (0, .ref (τ.1 30)), (1, .int x), (2, .int (nI c0)), (3, .int (nI sm)), (4, .int (nI i))]) hx hb dX12_total_35 hl (by decide) rfl (fun ls hl => ?_)
        refine lv_iload hx hb dX12_total_37 (lv_at hl 0 rfl) ?_
        refine lv_iconst (v := (-1)) hx hb dX12_total_39 (by decide) ?_
        refine lv_icmp_ne (tgt := 45) hx hb dX12_total_40 (by decide) (fun c110 => absurd (by decide) c110) (fun c110 => ?_)
        refine lv_iconst (v := (-1)) hx hb dX12_total_43 (by decide) ?_
        refine W.widen (k := 0) (n := 0) (by decide) (by decide) ?_
        exact W.iret (v := (-1)) hx hb hr (fun t9 ht9 hW9 => ⟨⟨(-1), (), rfl, Or.inl ⟨rfl, i, by omega, by rw [hzi]; exact hpz⟩, zEnd1 hH ht9 hW9⟩, hS.F ht9⟩) hS.2.2 dX12_total_44
      · skip
        refine lv_istore (lv' := [(5, .int (nI (zPo cd pN n c0))), (0, .ref (τ.1 30)), (1, .int x), (2, .int (nI c0)), (3, .int (nI sm)), (4, .int (nI i))]) hx hb dX12_total_35 hl (by decide) rfl (fun ls hl => ?_)
        refine lv_iload hx hb dX12_total_37 (lv_at hl 0 rfl) ?_
        refine lv_iconst (v := (-1)) hx hb dX12_total_39 (by decide) ?_
        refine lv_icmp_ne (tgt := 45) hx hb dX12_total_40 (by decide) (fun c111 => ?_) (fun c111 => False.elim (by have zc111 := zc_eq (nI_toInt (by omega)) ((by decide : ((-1) : Int32).toInt = (-1))) c111; omega))
        refine lv_iload_n hx hb dX12_total_45 rfl (lv_at hl 4 rfl) ?_
        refine lv_iload hx hb dX12_total_46 (lv_at hl 0 rfl) ?_
        refine lv_aload_n hx hb dX12_total_48 rfl (lv_at hl 1 rfl) ?_
        refine zGetR (D := D) (ci := 12) (C := RX12) (T := TX12) (N := 71) hx hb hts hiX12 hown hH (zk_30 hF) rfl 28 (by decide) rfl hw3 (fun _ h9 => h9) dX12_total_49 (zr_30_28 hF) ?_
        refine lv_iload hx hb dX12_total_52 (lv_at hl 5 rfl) ?_
        refine zIaldN (D := D) hx hb hH (zk_49 hF) (zn_49 hF) (by omega) (by omega) (hLy.2.2 i (by omega)).2.2.1 dX12_total_54 ?_
        refine lv_imul hx hb dX12_total_55 ?_
        refine lv_topi (fun v112 ev112 => ?_)
        obtain rfl : v112 = nI ((zPo cd pN n c0) * (mn i)) := ev112.trans (pk_mul _ _)
        refine lv_iadd hx hb dX12_total_56 ?_
        refine lv_topi (fun v113 ev113 => ?_)
        obtain rfl : v113 = nI (sm + (zPo cd pN n c0) * (mn i)) := ev113.trans (nI_add _ _)
        refine lv_istore_n (lv' := [(3, .int (nI (sm + (zPo cd pN n c0) * (mn i)))), (5, .int (nI (zPo cd pN n c0))), (0, .ref (τ.1 30)), (1, .int x), (2, .int (nI c0)), (4, .int (nI i))]) hx hb dX12_total_57 rfl hl (by decide) rfl (fun ls hl => ?_)
        refine lv_iinc (v := nI (i + 1)) (lv' := [(4, .int (nI (i + 1))), (3, .int (nI (sm + (zPo cd pN n c0) * (mn i)))), (5, .int (nI (zPo cd pN n c0))), (0, .ref (τ.1 30)), (1, .int x), (2, .int (nI c0))]) hx hb dX12_total_58 hl (k := 5) rfl (by rw [show (Int32.ofInt 1 : Int32) = nI 1 from by decide, nI_add]) (by decide) rfl (fun ls hl => ?_)
        refine lv_goto (tgt := 5) hx hb dX12_total_61 (by decide) ?_
        exact ih101 (l0 - (i + 1)) (by omega) (i + 1, sm + (zPo cd pN n c0) * (mn i)) _ _ _ (show l0 - (i + 1) = l0 - (i + 1) ∧ ((i + 1) ≤ l0 ∧ (∀ j, j < (i + 1) → 0 < zPo cd pN n (zIf x c0 lc j)) ∧ (sm + (zPo cd pN n c0) * (mn i)) = zSm (fun j => zPo cd pN n (zIf x c0 lc j) * mn j) (i + 1)) ∧ zH D A τ fi fr ol s _ ∧ va_S A s.heap _ _ ∧ lv_has _ 6 [(0, .ref (τ.1 30)), (1, .int x), (2, .int (nI c0)), (3, .int (nI (sm + (zPo cd pN n c0) * (mn i)))), (4, .int (nI (i + 1)))] from ⟨rfl, ⟨by omega, fun j h9 => by by_cases h7 : j = i; (subst h7; rw [hzi]; exact hpz); exact hpj j (by omega), by simp only [zSm]; rw [hzi, ← hsm]⟩, hH, hS, lv_sub hl [3, 4, 5, 1, 0] rfl⟩)
set_option maxHeartbeats 4000000 in
set_option maxRecDepth 100000 in
/-- oneDigit -/
theorem m_oneDigitN (l : Launch) (hl0 : l.stackTraces = false) (D : va_G) (A : Nat → Prop) (sad : Nat → Nat) (τ : zTy) (fi : zFi) (fr : zFr) (ol : Int64) (a b : Nat) (ha : a < 10000) (hb9 : b < 10000) : Met l yX12_oneDigit wsX12_oneDigit ({ frames := 0, cells := 0, slots := 0, locals := 0 }) (va_Pc [.int (nI a), .int (nI b)] (zQc D A sad τ fi fr ol)) (va_Qi (fun (r : Int32) (u : Unit) => (r = 1 ∧ zUd a b 4 = 1) ∨ (r = 0 ∧ ¬ zUd a b 4 = 1)) (fun (u : Unit) (t : State) => zH D A τ fi fr ol t t.heap) A) 0 0 A := by
  refine Met.ofW (cc := cX12_oneDigit) (maxL := 6) (ret := (some .boolean)) (by decide) rfl ?_
  intro p9 e9 s m args below meth c9 s₁ B hml hv
  obtain ⟨rfl, hz, hH, hA⟩ := hv
  have hx := B.exec
  have hb := B.bytes
  have hr := B.returns
  have hts := atoms_spec (ws := wsX12_oneDigit) B.pre
  have hown : s.vm.findClass RX12 = some m.cls := findClass_of_methodNamed B.named
  have hlocks := B.notSynchronized
  have hS : va_S A s.heap s.heap [] := va_S.rf
  have hl := lv_entry ([.int (nI a), .int (nI b)]) (n := 6) (Nat.le_of_ble_eq_true rfl)
  rw [lg_entry_eq]
  generalize (lg_sl ([.int (nI a), .int (nI b)]) ++ List.replicate (6 - (lg_sl ([.int (nI a), .int (nI b)])).length) Slot.unset).toArray = ls at hl ⊢
  have hl : lv_has ls 6 [(0, .int (nI a)), (1, .int (nI b))] := hl
  refine lv_iconst (v := nI 0) hx hb dX12_oneDigit_0 (by decide) ?_
  refine lv_istore_n (lv' := [(2, .int (nI 0)), (0, .int (nI a)), (1, .int (nI b))]) hx hb dX12_oneDigit_1 rfl hl (by decide) rfl (fun ls hl => ?_)
  refine lv_iload_n hx hb dX12_oneDigit_2 rfl (lv_at hl 1 rfl) ?_
  refine lv_istore_n (lv' := [(3, .int (nI a)), (2, .int (nI 0)), (0, .int (nI a)), (1, .int (nI b))]) hx hb dX12_oneDigit_3 rfl hl (by decide) rfl (fun ls hl => ?_)
  refine lv_iload_n hx hb dX12_oneDigit_4 rfl (lv_at hl 3 rfl) ?_
  refine lv_istore (lv' := [(4, .int (nI b)), (3, .int (nI a)), (2, .int (nI 0)), (0, .int (nI a)), (1, .int (nI b))]) hx hb dX12_oneDigit_5 hl (by decide) rfl (fun ls hl => ?_)
  refine lv_iconst (v := nI 0) hx hb dX12_oneDigit_7 (by decide) ?_
  refine lv_istore (lv' := [(5, .int (nI 0)), (4, .int (nI b)), (3, .int (nI a)), (2, .int (nI 0)), (0, .int (nI a)), (1, .int (nI b))]) hx hb dX12_oneDigit_8 hl (by decide) rfl (fun ls hl => ?_)
  refine zLp (σ := Nat × Nat × Nat × Nat) (fun x9 k9 H locs ls => (fun (i : Nat) (sm : Nat) (xx : Nat) (yy : Nat) => k9 = 4 - i ∧ (i ≤ 4 ∧ sm ≤ i ∧ sm = zUd a b i ∧ xx = a / 10 ^ i ∧ yy = b / 10 ^ i ∧ xx < 10000 ∧ yy < 10000) ∧ zH D A τ fi fr ol s H ∧ va_S A s.heap H locs ∧ lv_has ls 6 [(0, .int (nI a)), (1, .int (nI b)), (2, .int (nI sm)), (3, .int (nI xx)), (4, .int (nI yy)), (5, .int (nI i))]) x9.1 x9.2.1 x9.2.2.1 x9.2.2.2) (0, 0, a, b) (4 - 0) (show 4 - 0 = 4 - 0 ∧ (0 ≤ 4 ∧ 0 ≤ 0 ∧ 0 = zUd a b 0 ∧ a = a / 10 ^ 0 ∧ b = b / 10 ^ 0 ∧ a < 10000 ∧ b < 10000) ∧ zH D A τ fi fr ol s _ ∧ va_S A s.heap _ _ ∧ lv_has _ 6 [(0, .int (nI a)), (1, .int (nI b)), (2, .int (nI 0)), (3, .int (nI a)), (4, .int (nI b)), (5, .int (nI 0))] from ⟨rfl, ⟨by omega, by omega, rfl, by rw [Nat.pow_zero, Nat.div_one], by rw [Nat.pow_zero, Nat.div_one], ha, hb9⟩, hH, hS, lv_sub hl [4, 5, 3, 2, 1, 0] rfl⟩) (fun k9 ih x9 H locs ls hv9 => ?_)
  obtain ⟨i, sm, xx, yy⟩ := x9
  have hv9 : k9 = 4 - i ∧ (i ≤ 4 ∧ sm ≤ i ∧ sm = zUd a b i ∧ xx = a / 10 ^ i ∧ yy = b / 10 ^ i ∧ xx < 10000 ∧ yy < 10000) ∧ zH D A τ fi fr ol s H ∧ va_S A s.heap H locs ∧ lv_has ls 6 [(0, .int (nI a)), (1, .int (nI b)), (2, .int (nI sm)), (3, .int (nI xx)), (4, .int (nI yy)), (5, .int (nI i))] := hv9
  obtain ⟨hkih101, hv9, hH, hS, hl⟩ := hv9
  obtain ⟨h1, hs4, hsm, hxx, hyy, hx4, hy4⟩ := hv9
  have ih101 := ih
  clear ih
  refine lv_iload hx hb dX12_oneDigit_10 (lv_at hl 5 rfl) ?_
  refine lv_iconst (v := nI 4) hx hb dX12_oneDigit_12 (by decide) ?_
  refine lv_icmp_ge (tgt := 54) hx hb dX12_oneDigit_13 (by decide) (fun c102 => ?_) (fun c102 => ?_)
  · have zc102 := c102
    replace zc102 := zc_le (nI_toInt (by omega)) (nI_toInt (by omega)) zc102
    refine lv_iload_n hx hb dX12_oneDigit_54 rfl (lv_at hl 2 rfl) ?_
    refine lv_iconst (v := nI 1) hx hb dX12_oneDigit_55 (by decide) ?_
    refine lv_icmp_ne (tgt := 63) hx hb dX12_oneDigit_56 (by decide) (fun c103 => ?_) (fun c103 => ?_)
    · have zc103 := c103
      replace zc103 := zc_neq (nI_toInt (by omega)) (nI_toInt (by omega)) zc103
      refine lv_iconst (v := nI 0) hx hb dX12_oneDigit_63 (by decide) ?_
      have h4 : i = 4 := by omega
      subst h4
      refine W.widen (k := 0) (n := 0) (by decide) (by decide) ?_
      exact W.zret (v := nI 0) hx hb hr (by decide) (fun t9 ht9 hW9 => ⟨⟨nI 0, (), rfl, Or.inr ⟨rfl, by omega⟩, zEnd1 hH ht9 hW9⟩, hS.F ht9⟩) hS.2.2 dX12_oneDigit_64
    · have zc103 := c103
      replace zc103 := zc_eq (nI_toInt (by omega)) (nI_toInt (by omega)) zc103
      refine lv_iconst (v := nI 1) hx hb dX12_oneDigit_59 (by decide) ?_
      refine lv_goto (tgt := 64) hx hb dX12_oneDigit_60 (by decide) ?_
      have h4 : i = 4 := by omega
      subst h4
      refine W.widen (k := 0) (n := 0) (by decide) (by decide) ?_
      exact W.zret (v := nI 1) hx hb hr (by decide) (fun t9 ht9 hW9 => ⟨⟨nI 1, (), rfl, Or.inl ⟨rfl, by omega⟩, zEnd1 hH ht9 hW9⟩, hS.F ht9⟩) hS.2.2 dX12_oneDigit_64
  · have zc102 := c102
    replace zc102 := zc_nle (nI_toInt (by omega)) (nI_toInt (by omega)) zc102
    refine lv_iload_n hx hb dX12_oneDigit_16 rfl (lv_at hl 2 rfl) ?_
    refine lv_iload_n hx hb dX12_oneDigit_17 rfl (lv_at hl 3 rfl) ?_
    refine lv_bipush (v := nI 10) hx hb dX12_oneDigit_18 (by decide) ?_
    refine lv_irem hx hb dX12_oneDigit_20 (by decide) ?_
    refine lv_topi (fun v104 ev104 => ?_)
    obtain rfl : v104 = nI (xx % 10) := ev104.trans (zI_rem (b := 10) (by omega) (by decide) (by decide))
    refine lv_iload hx hb dX12_oneDigit_21 (lv_at hl 4 rfl) ?_
    refine lv_bipush (v := nI 10) hx hb dX12_oneDigit_23 (by decide) ?_
    refine lv_irem hx hb dX12_oneDigit_25 (by decide) ?_
    refine lv_topi (fun v105 ev105 => ?_)
    obtain rfl : v105 = nI (yy % 10) := ev105.trans (zI_rem (b := 10) (by omega) (by decide) (by decide))
    refine lv_icmp_eq (tgt := 33) hx hb dX12_oneDigit_26 (by decide) (fun c106 => ?_) (fun c106 => ?_)
    · have zc106 := c106
      replace zc106 := zc_eq (nI_toInt (by omega)) (nI_toInt (by omega)) zc106
      refine lv_iconst (v := nI 0) hx hb dX12_oneDigit_33 (by decide) ?_
      refine lv_iadd hx hb dX12_oneDigit_34 ?_
      refine lv_topi (fun v107 ev107 => ?_)
      obtain rfl : v107 = nI (sm + 0) := ev107.trans (nI_add _ _)
      refine lv_istore_n (lv' := [(2, .int (nI (sm + 0))), (0, .int (nI a)), (1, .int (nI b)), (3, .int (nI xx)), (4, .int (nI yy)), (5, .int (nI i))]) hx hb dX12_oneDigit_35 rfl hl (by decide) rfl (fun ls hl => ?_)
      refine lv_iload_n hx hb dX12_oneDigit_36 rfl (lv_at hl 3 rfl) ?_
      refine lv_bipush (v := nI 10) hx hb dX12_oneDigit_37 (by decide) ?_
      refine lv_idiv hx hb dX12_oneDigit_39 (by decide) ?_
      refine lv_topi (fun v108 ev108 => ?_)
      obtain rfl : v108 = nI (xx / 10) := ev108.trans (zI_div (b := 10) (by omega) (by decide) (by decide))
      refine lv_istore_n (lv' := [(3, .int (nI (xx / 10))), (2, .int (nI (sm + 0))), (0, .int (nI a)), (1, .int (nI b)), (4, .int (nI yy)), (5, .int (nI i))]) hx hb dX12_oneDigit_40 rfl hl (by decide) rfl (fun ls hl => ?_)
      refine lv_iload hx hb dX12_oneDigit_41 (lv_at hl 4 rfl) ?_
      refine lv_bipush (v := nI 10) hx hb dX12_oneDigit_43 (by decide) ?_
      refine lv_idiv hx hb dX12_oneDigit_45 (by decide) ?_
      refine lv_topi (fun v109 ev109 => ?_)
      obtain rfl : v109 = nI (yy / 10) := ev109.trans (zI_div (b := 10) (by omega) (by decide) (by decide))
      refine lv_istore (lv' := [(4, .int (nI (yy / 10))), (3, .int (nI (xx / 10))), (2, .int (nI (sm + 0))), (0, .int (nI a)), (1, .int (nI b)), (5, .int (nI i))]) hx hb dX12_oneDigit_46 hl (by decide) rfl (fun ls hl => ?_)
      refine lv_iinc (v := nI (i + 1)) (lv' := [(5, .int (nI (i + 1))), (4, .int (nI (yy / 10))), (3, .int (nI (xx / 10))), (2, .int (nI (sm + 0))), (0, .int (nI a)), (1, .int (nI b))]) hx hb dX12_oneDigit_48 hl (k := 5) rfl (by rw [show (Int32.ofInt 1 : Int32) = nI 1 from by decide, nI_add]) (by decide) rfl (fun ls hl => ?_)
      refine lv_goto (tgt := 10) hx hb dX12_oneDigit_51 (by decide) ?_
      exact ih101 (4 - (i + 1)) (by omega) (i + 1, sm + 0, xx / 10, yy / 10) _ _ _ (show 4 - (i + 1) = 4 - (i + 1) ∧ ((i + 1) ≤ 4 ∧ (sm + 0) ≤ (i + 1) ∧ (sm + 0) = zUd a b (i + 1) ∧ (xx / 10) = a / 10 ^ (i + 1) ∧ (yy / 10) = b / 10 ^ (i + 1) ∧ (xx / 10) < 10000 ∧ (yy / 10) < 10000) ∧ zH D A τ fi fr ol s _ ∧ va_S A s.heap _ _ ∧ lv_has _ 6 [(0, .int (nI a)), (1, .int (nI b)), (2, .int (nI (sm + 0))), (3, .int (nI (xx / 10))), (4, .int (nI (yy / 10))), (5, .int (nI (i + 1)))] from ⟨rfl, ⟨by omega, by omega, by simp only [zUd]; rw [← hsm, if_pos (by rw [← hxx, ← hyy]; omega)], by rw [hxx, Nat.div_div_eq_div_mul, Nat.pow_succ], by rw [hyy, Nat.div_div_eq_div_mul, Nat.pow_succ], by omega, by omega⟩, hH, hS, lv_sub hl [4, 5, 3, 2, 1, 0] rfl⟩)
    · have zc106 := c106
      replace zc106 := zc_neq (nI_toInt (by omega)) (nI_toInt (by omega)) zc106
      refine lv_iconst (v := nI 1) hx hb dX12_oneDigit_29 (by decide) ?_
      refine lv_goto (tgt := 34) hx hb dX12_oneDigit_30 (by decide) ?_
      refine lv_iadd hx hb dX12_oneDigit_34 ?_
      refine lv_topi (fun v110 ev110 => ?_)
      obtain rfl : v110 = nI (sm + 1) := ev110.trans (nI_add _ _)
      refine lv_istore_n (lv' := [(2, .int (nI (sm + 1))), (0, .int (nI a)), (1, .int (nI b)), (3, .int (nI xx)), (4, .int (nI yy)), (5, .int (nI i))]) hx hb dX12_oneDigit_35 rfl hl (by decide) rfl (fun ls hl => ?_)
      refine lv_iload_n hx hb dX12_oneDigit_36 rfl (lv_at hl 3 rfl) ?_
      refine lv_bipush (v := nI 10) hx hb dX12_oneDigit_37 (by decide) ?_
      refine lv_idiv hx hb dX12_oneDigit_39 (by decide) ?_
      refine lv_topi (fun v111 ev111 => ?_)
      obtain rfl : v111 = nI (xx / 10) := ev111.trans (zI_div (b := 10) (by omega) (by decide) (by decide))
      refine lv_istore_n (lv' := [(3, .int (nI (xx / 10))), (2, .int (nI (sm + 1))), (0, .int (nI a)), (1, .int (nI b)), (4, .int (nI yy)), (5, .int (nI i))]) hx hb dX12_oneDigit_40 rfl hl (by decide) rfl (fun ls hl => ?_)
      refine lv_iload hx hb dX12_oneDigit_41 (lv_at hl 4 rfl) ?_
      refine lv_bipush (v := nI 10) hx hb dX12_oneDigit_43 (by decide) ?_
      refine lv_idiv hx hb dX12_oneDigit_45 (by decide) ?_
      refine lv_topi (fun v112 ev112 => ?_)
      obtain rfl : v112 = nI (yy / 10) := ev112.trans (zI_div (b := 10) (by omega) (by decide) (by decide))
      refine lv_istore (lv' := [(4, .int (nI (yy / 10))), (3, .int (nI (xx / 10))), (2, .int (nI (sm + 1))), (0, .int (nI a)), (1, .int (nI b)), (5, .int (nI i))]) hx hb dX12_oneDigit_46 hl (by decide) rfl (fun ls hl => ?_)
      refine lv_iinc (v := nI (i + 1)) (lv' := [(5, .int (nI (i + 1))), (4, .int (nI (yy / 10))), (3, .int (nI (xx / 10))), (2, .int (nI (sm + 1))), (0, .int (nI a)), (1, .int (nI b))]) hx hb dX12_oneDigit_48 hl (k := 5) rfl (by rw [show (Int32.ofInt 1 : Int32) = nI 1 from by decide, nI_add]) (by decide) rfl (fun ls hl => ?_)
      refine lv_goto (tgt := 10) hx hb dX12_oneDigit_51 (by decide) ?_
      exact ih101 (4 - (i + 1)) (by omega) (i + 1, sm + 1, xx / 10, yy / 10) _ _ _ (show 4 - (i + 1) = 4 - (i + 1) ∧ ((i + 1) ≤ 4 ∧ (sm + 1) ≤ (i + 1) ∧ (sm + 1) = zUd a b (i + 1) ∧ (xx / 10) = a / 10 ^ (i + 1) ∧ (yy / 10) = b / 10 ^ (i + 1) ∧ (xx / 10) < 10000 ∧ (yy / 10) < 10000) ∧ zH D A τ fi fr ol s _ ∧ va_S A s.heap _ _ ∧ lv_has _ 6 [(0, .int (nI a)), (1, .int (nI b)), (2, .int (nI (sm + 1))), (3, .int (nI (xx / 10))), (4, .int (nI (yy / 10))), (5, .int (nI (i + 1)))] from ⟨rfl, ⟨by omega, by omega, by simp only [zUd]; rw [← hsm, if_neg (by rw [← hxx, ← hyy]; omega)], by rw [hxx, Nat.div_div_eq_div_mul, Nat.pow_succ], by rw [hyy, Nat.div_div_eq_div_mul, Nat.pow_succ], by omega, by omega⟩, hH, hS, lv_sub hl [4, 5, 3, 2, 1, 0] rfl⟩)
set_option maxHeartbeats 4000000 in
set_option maxRecDepth 100000 in
/-- findMendings -/
theorem m_findMN (l : Launch) (hl0 : l.stackTraces = false) (D : va_G) (A : Nat → Prop) (sad : Nat → Nat) (τ : zTy) (fi : zFi) (fr : zFr) (ol : Int64) (hF : zFix τ fr) (n : Nat) (hMt : zMt fi n) (td : Nat) (cd pN : Nat → Nat) (hPb : zqPb fi n td cd pN) (l0 : Nat) (lc mn : Nat → Nat) (hLy : zqLy fi l0 lc mn) (ok : Nat → Nat → Bool) (sm0 : Nat) (hs0 : fi 30 29 = nI sm0) (hs9 : sm0 ≤ 999999) (hok : (∀ k t, k < l0 → t < n → (ok k t = true ↔ zUd (cd t) (lc k) 4 = 1 ∧ 0 < pN t ∧ (∀ j, j < l0 → 0 < zPo cd pN n (zIf (nI k) (cd t) lc j)) ∧ zSm (fun j => zPo cd pN n (zIf (nI k) (cd t) lc j) * mn j) l0 = sm0))) : Met l yX12_findMendings wsX12_findMendings ({ frames := 3, cells := 0, slots := 0, locals := 71 }) (va_Pc [.ref (τ.1 30)] (zQc D A sad τ fi fr ol)) (va_Qv (fun (u : zFi) => zFI u (zFM ok n cd l0) ∧ ∀ a b, ¬ (a = 30 ∧ 31 ≤ b ∧ b ≤ 33) → u a b = fi a b) (fun (u : zFi) (t : State) => zH D A τ u fr ol t t.heap) A) 0 0 A := by
  refine Met.ofW (cc := cX12_findMendings) (maxL := 3) (ret := none) (by decide) rfl ?_
  intro p9 e9 s m args below meth c9 s₁ B hml hv
  obtain ⟨rfl, hz, hH, hA⟩ := hv
  have hx := B.exec
  have hb := B.bytes
  have hr := B.returns
  have hts := atoms_spec (ws := wsX12_findMendings) B.pre
  have hown : s.vm.findClass RX12 = some m.cls := findClass_of_methodNamed B.named
  have hlocks := B.notSynchronized
  have hS : va_S A s.heap s.heap [] := va_S.rf
  have hl := lv_entry ([.ref (τ.1 30)]) (n := 3) (Nat.le_of_ble_eq_true rfl)
  rw [lg_entry_eq]
  generalize (lg_sl ([.ref (τ.1 30)]) ++ List.replicate (3 - (lg_sl ([.ref (τ.1 30)])).length) Slot.unset).toArray = ls at hl ⊢
  have hl : lv_has ls 3 [(0, .ref (τ.1 30))] := hl
  have hm30 := hMt.1
  have hl8 := hLy.1
  have hMt0 := hMt
  have hLy0 := hLy
  have hPb0 := hPb
  have hw0 := hts (.fieldLink RX12 283 "PostHouseModel" "mendings" "I") (by decide +kernel)
  have hiX12 : ∀ w ∈ u_ws RX12 TX12 71, w ∈ wsX12_findMendings := fun _ h => List.mem_cons_of_mem _ (List.mem_append_right _ h)
  have hw2 := hts (.fieldLink RX12 262 "PostHouseModel" "lines" "I") (by decide +kernel)
  have hw3 := hts (.fieldLink RX12 168 "PostHouseModel" "things" "I") (by decide +kernel)
  have hw4 := hts (.fieldLink RX12 7 "PostHouseModel" "code" "[I") (by decide +kernel)
  have hw5 := hts (.fieldLink RX12 65 "PostHouseModel" "lineCode" "[I") (by decide +kernel)
  have hw6 := hts (.fieldLink RX12 200 "PostHouseModel" "today" "I") (by decide +kernel)
  have hw7 := hts (.fieldLink RX12 272 "PostHouseModel" "sum" "I") (by decide +kernel)
  have hw8 := hts (.fieldLink RX12 293 "PostHouseModel" "mendLine" "I") (by decide +kernel)
  have hw9 := hts (.fieldLink RX12 296 "PostHouseModel" "mendCode" "I") (by decide +kernel)
  refine lv_aload_n hx hb dX12_findMendings_0 rfl (lv_at hl 0 rfl) ?_
  refine lv_iconst (v := nI 0) hx hb dX12_findMendings_1 (by decide) ?_
  refine zPutI (D := D) (ci := 12) (ty := .int) (C := RX12) (T := TX12) (N := 71) hx hb hts hiX12 tyX12 tyX12_ok nmX12 hown hH hS (zk_30 hF) rfl 31 (by decide) rfl hw0 (fun _ h9 => h9) rfl (by decide +kernel) rfl rfl dX12_findMendings_2 (fun H locs hH hS => ?_)
  obtain ⟨f101, ef101⟩ : ∃ f9 : zFi, f9 = zu fi 30 31 (nI 0) := ⟨_, rfl⟩
  rw [← ef101] at hH
  have q102 : f101 30 2 = nI n := by rw [ef101, zu_n (fun h9 => absurd h9.2 (by decide))]; exact hMt.2.1
  have q103 : f101 30 1 = nI td := by rw [ef101, zu_n (fun h9 => absurd h9.2 (by decide))]; exact hPb.1
  have q104 : f101 30 26 = nI l0 := by rw [ef101, zu_n (fun h9 => absurd h9.2 (by decide))]; exact hLy.2.1
  have q105 : f101 30 29 = nI sm0 := by rw [ef101, zu_n (fun h9 => absurd h9.2 (by decide))]; exact hs0
  have q106 : f101 30 31 = nI 0 := by rw [ef101]; exact zu_s
  have hMt := zMt.ci (fi' := f101) hMt (fun i9 k9 h9 => by rw [ef101]; exact zu_n (by omega))
  have hLy := zqLy.cg (fi' := f101) hLy (fun i9 k9 h9 => by rw [ef101]; exact zu_n (by omega))
  have hPb := zqPb.cg (fi' := f101) hPb (fun i9 k9 h9 => by rw [ef101]; exact zu_n (by omega))
  refine lv_iconst (v := nI 0) hx hb dX12_findMendings_5 (by decide) ?_
  refine lv_istore_n (lv' := [(1, .int (nI 0)), (0, .ref (τ.1 30))]) hx hb dX12_findMendings_6 rfl hl (by decide) rfl (fun ls hl => ?_)
  refine zLp (σ := Nat × zFi) (fun x9 k9 H locs ls => (fun (i : Nat) (f : zFi) => k9 = l0 - i ∧ (i ≤ l0 ∧ zFI f (zFM ok n cd i) ∧ ∀ a b, ¬ (a = 30 ∧ 31 ≤ b ∧ b ≤ 33) → f a b = fi a b) ∧ zH D A τ f fr ol s H ∧ va_S A s.heap H locs ∧ lv_has ls 3 [(0, .ref (τ.1 30)), (1, .int (nI i))]) x9.1 x9.2) (0, f101) (l0 - 0) (show l0 - 0 = l0 - 0 ∧ (0 ≤ l0 ∧ zFI f101 (zFM ok n cd 0) ∧ ∀ a b, ¬ (a = 30 ∧ 31 ≤ b ∧ b ≤ 33) → f101 a b = fi a b) ∧ zH D A τ f101 fr ol s _ ∧ va_S A s.heap _ _ ∧ lv_has _ 3 [(0, .ref (τ.1 30)), (1, .int (nI 0))] from ⟨rfl, ⟨Nat.zero_le _, ⟨q106, fun h9 => absurd rfl h9⟩, fun a b h => by rw [ef101, zu_n (by omega)]⟩, hH, hS, lv_sub hl [1, 0] rfl⟩) (fun k9 ih x9 H locs ls hv9 => ?_)
  obtain ⟨i, f⟩ := x9
  have hv9 : k9 = l0 - i ∧ (i ≤ l0 ∧ zFI f (zFM ok n cd i) ∧ ∀ a b, ¬ (a = 30 ∧ 31 ≤ b ∧ b ≤ 33) → f a b = fi a b) ∧ zH D A τ f fr ol s H ∧ va_S A s.heap H locs ∧ lv_has ls 3 [(0, .ref (τ.1 30)), (1, .int (nI i))] := hv9
  obtain ⟨hkih107, hv9, hH, hS, hl⟩ := hv9
  obtain ⟨h1, hp, hfr⟩ := hv9
  have ih107 := ih
  clear ih
  have hMt := zMt.ci (fi' := f) hMt0 (fun i9 k9 h9 => hfr i9 k9 (by omega))
  have hLy := zqLy.cg (fi' := f) hLy0 (fun i9 k9 h9 => hfr i9 k9 (by omega))
  have hPb := zqPb.cg (fi' := f) hPb0 (fun i9 k9 h9 => hfr i9 k9 (by omega))
  have p2 := hMt.2.1
  have p26 := hLy.2.1
  have p1 := hPb.1
  have p29 : f 30 29 = nI sm0 := by rw [hfr 30 29 (by omega)]; exact hs0
  have p31 := hp.1
  refine lv_iload_n hx hb dX12_findMendings_7 rfl (lv_at hl 1 rfl) ?_
  refine lv_aload_n hx hb dX12_findMendings_8 rfl (lv_at hl 0 rfl) ?_
  refine zGetI (D := D) (ci := 12) (C := RX12) (T := TX12) (N := 71) hx hb hts hiX12 hown hH (zk_30 hF) rfl 26 (by decide) rfl hw2 (fun _ h9 => h9) dX12_findMendings_9 p26 ?_
  refine lv_icmp_ge (tgt := 114) hx hb dX12_findMendings_12 (by decide) (fun c108 => ?_) (fun c108 => ?_)
  · have zc108 := c108
    replace zc108 := zc_le (nI_toInt (by omega)) (nI_toInt (by omega)) zc108
    refine W.widen (k := 0) (n := 0) (by decide) (by decide) ?_
    exact W.vret hx hb hr (fun t9 ht9 hW9 => ⟨⟨f, rfl, ⟨by rw [show l0 = i by omega]; exact hp, hfr⟩, zEnd1 hH ht9 hW9⟩, hS.F ht9⟩) hS.2.2 dX12_findMendings_114
  · have zc108 := c108
    replace zc108 := zc_nle (nI_toInt (by omega)) (nI_toInt (by omega)) zc108
    refine lv_iconst (v := nI 0) hx hb dX12_findMendings_15 (by decide) ?_
    refine lv_istore_n (lv' := [(2, .int (nI 0)), (0, .ref (τ.1 30)), (1, .int (nI i))]) hx hb dX12_findMendings_16 rfl hl (by decide) rfl (fun ls hl => ?_)
    refine zLp (σ := Nat × zFi) (fun x9 k9 H locs ls => (fun (i2 : Nat) (f2 : zFi) => k9 = n - i2 ∧ (i2 ≤ n ∧ zFI f2 (zFN (ok i) i cd (zFM ok n cd i) i2) ∧ ∀ a b, ¬ (a = 30 ∧ 31 ≤ b ∧ b ≤ 33) → f2 a b = fi a b) ∧ zH D A τ f2 fr ol s H ∧ va_S A s.heap H locs ∧ lv_has ls 3 [(0, .ref (τ.1 30)), (1, .int (nI i)), (2, .int (nI i2))]) x9.1 x9.2) (0, f) (n - 0) (show n - 0 = n - 0 ∧ (0 ≤ n ∧ zFI f (zFN (ok i) i cd (zFM ok n cd i) 0) ∧ ∀ a b, ¬ (a = 30 ∧ 31 ≤ b ∧ b ≤ 33) → f a b = fi a b) ∧ zH D A τ f fr ol s _ ∧ va_S A s.heap _ _ ∧ lv_has _ 3 [(0, .ref (τ.1 30)), (1, .int (nI i)), (2, .int (nI 0))] from ⟨rfl, ⟨Nat.zero_le _, hp, hfr⟩, hH, hS, lv_sub hl [1, 2, 0] rfl⟩) (fun k9 ih x9 H locs ls hv9 => ?_)
    obtain ⟨i2, f2⟩ := x9
    have hv9 : k9 = n - i2 ∧ (i2 ≤ n ∧ zFI f2 (zFN (ok i) i cd (zFM ok n cd i) i2) ∧ ∀ a b, ¬ (a = 30 ∧ 31 ≤ b ∧ b ≤ 33) → f2 a b = fi a b) ∧ zH D A τ f2 fr ol s H ∧ va_S A s.heap H locs ∧ lv_has ls 3 [(0, .ref (τ.1 30)), (1, .int (nI i)), (2, .int (nI i2))] := hv9
    obtain ⟨hkih109, hv9, hH, hS, hl⟩ := hv9
    obtain ⟨h2, hp2, hfr2⟩ := hv9
    have ih109 := ih
    clear ih
    have hMt := zMt.ci (fi' := f2) hMt0 (fun i9 k9 h9 => hfr2 i9 k9 (by omega))
    have hLy := zqLy.cg (fi' := f2) hLy0 (fun i9 k9 h9 => hfr2 i9 k9 (by omega))
    have hPb := zqPb.cg (fi' := f2) hPb0 (fun i9 k9 h9 => hfr2 i9 k9 (by omega))
    have p2 := hMt.2.1
    have p26 := hLy.2.1
    have p1 := hPb.1
    have p29 : f2 30 29 = nI sm0 := by rw [hfr2 30 29 (by omega)]; exact hs0
    have p31 := hp2.1
    refine lv_iload_n hx hb dX12_findMendings_17 rfl (lv_at hl 2 rfl) ?_
    refine lv_aload_n hx hb dX12_findMendings_18 rfl (lv_at hl 0 rfl) ?_
    refine zGetI (D := D) (ci := 12) (C := RX12) (T := TX12) (N := 71) hx hb hts hiX12 hown hH (zk_30 hF) rfl 2 (by decide) rfl hw3 (fun _ h9 => h9) dX12_findMendings_19 p2 ?_
    refine lv_icmp_ge (tgt := 108) hx hb dX12_findMendings_22 (by decide) (fun c110 => ?_) (fun c110 => ?_)
    · have zc110 := c110
      replace zc110 := zc_le (nI_toInt (by omega)) (nI_toInt (by omega)) zc110
      refine lv_iinc (v := nI (i + 1)) (lv' := [(1, .int (nI (i + 1))), (0, .ref (τ.1 30)), (2, .int (nI i2))]) hx hb dX12_findMendings_108 hl (k := 1) rfl (by rw [show (Int32.ofInt 1 : Int32) = nI 1 from by decide, nI_add]) (by decide) rfl (fun ls hl => ?_)
      refine lv_goto (tgt := 7) hx hb dX12_findMendings_111 (by decide) ?_
      exact ih107 (l0 - (i + 1)) (by omega) (i + 1, f2) _ _ _ (show l0 - (i + 1) = l0 - (i + 1) ∧ ((i + 1) ≤ l0 ∧ zFI f2 (zFM ok n cd (i + 1)) ∧ ∀ a b, ¬ (a = 30 ∧ 31 ≤ b ∧ b ≤ 33) → f2 a b = fi a b) ∧ zH D A τ f2 fr ol s _ ∧ va_S A s.heap _ _ ∧ lv_has _ 3 [(0, .ref (τ.1 30)), (1, .int (nI (i + 1)))] from ⟨rfl, ⟨by omega, by show zFI f2 (zFN (ok i) i cd (zFM ok n cd i) n); rw [show n = i2 by omega] at hp2 ⊢; exact hp2, hfr2⟩, hH, hS, lv_sub hl [1, 0] rfl⟩)
    · have zc110 := c110
      replace zc110 := zc_nle (nI_toInt (by omega)) (nI_toInt (by omega)) zc110
      refine lv_aload_n hx hb dX12_findMendings_25 rfl (lv_at hl 0 rfl) ?_
      refine zGetR (D := D) (ci := 12) (C := RX12) (T := TX12) (N := 71) hx hb hts hiX12 hown hH (zk_30 hF) rfl 3 (by decide) rfl hw4 (fun _ h9 => h9) dX12_findMendings_26 (zr_30_3 hF) ?_
      refine lv_iload_n hx hb dX12_findMendings_29 rfl (lv_at hl 2 rfl) ?_
      refine zIaldN (D := D) hx hb hH (zk_31 hF) (zn_31 hF) (by omega) (by omega) (hPb.2.2 i2 (by omega)).1 dX12_findMendings_30 ?_
      refine lv_aload_n hx hb dX12_findMendings_31 rfl (lv_at hl 0 rfl) ?_
      refine zGetR (D := D) (ci := 12) (C := RX12) (T := TX12) (N := 71) hx hb hts hiX12 hown hH (zk_30 hF) rfl 27 (by decide) rfl hw5 (fun _ h9 => h9) dX12_findMendings_32 (zr_30_27 hF) ?_
      refine lv_iload_n hx hb dX12_findMendings_35 rfl (lv_at hl 1 rfl) ?_
      refine zIaldN (D := D) hx hb hH (zk_48 hF) (zn_48 hF) (by omega) (by omega) (hLy.2.2 i (by omega)).1 dX12_findMendings_36 ?_
      refine va_calli (va_runS (As := [.int (nI (cd i2)), .int (nI (lc i))]) (rest := []) ⟨hx, hb, hml, hown, hts⟩ (m_oneDigitN l hl0 D A sad τ f2 fr ol (cd i2) (lc i) ((hPb.2.2 i2 (by omega)).2.1) ((hLy.2.2 i (by omega)).2.1)) (cwS 2 hts gX12_findMendings_X12_oneDigit rfl rfl rfl (by decide +kernel) ⟨Nat.le_of_ble_eq_true rfl, Nat.le_of_ble_eq_true rfl⟩) ⟨zQc_bl, zQc_at hz hS hA hH⟩ rfl rfl hl.1 rfl (lv_room (Nat.le_of_ble_eq_true rfl)) dX12_findMendings_37 ⟨Nat.le_of_ble_eq_true rfl, Nat.le_of_ble_eq_true rfl⟩) hS (fun q _ h => h) (fun q h => h) (fun r111 u9 t9 H1 locs ht9 hvm9 hw hB hz1 hk1 hS => ?_)
      have hH := zMv ht9 hvm9 hB
      generalize H1 = H at hH hS ⊢
      rcases hw with ⟨rfl, hud⟩ | ⟨rfl, hud⟩
      · skip
        refine lv_if_eq (tgt := 102) hx hb dX12_findMendings_40 (by decide) (fun c112 => absurd c112 (by decide)) (fun c112 => ?_)
        refine lv_aload_n hx hb dX12_findMendings_43 rfl (lv_at hl 0 rfl) ?_
        refine lv_iload_n hx hb dX12_findMendings_44 rfl (lv_at hl 2 rfl) ?_
        refine lv_aload_n hx hb dX12_findMendings_45 rfl (lv_at hl 0 rfl) ?_
        refine zGetI (D := D) (ci := 12) (C := RX12) (T := TX12) (N := 71) hx hb hts hiX12 hown hH (zk_30 hF) rfl 1 (by decide) rfl hw6 (fun _ h9 => h9) dX12_findMendings_46 p1 ?_
        obtain ⟨k113, h4k113, h0k113, hmk113⟩ := (hPb.2.2 i2 (by omega)).2.2.2.1
        refine va_calli (va_runV (As := [.int (nI i2), .int (nI td)]) (rest := []) ⟨hx, hb, hml, hown, hts⟩ (m_costX l hl0 D A sad τ f2 fr ol (nI td) hF i2 k113 (by omega) h0k113 h4k113) (cwV 2 hts gX12_findMendings_X12_cost rfl rfl rfl (by decide +kernel) ⟨Nat.le_of_ble_eq_true rfl, Nat.le_of_ble_eq_true rfl⟩) ⟨zQc_bl, zRecv hH (zk_30 hF) rfl, zQc_at hz hS hA hH⟩ rfl rfl hl.1 rfl (lv_room (Nat.le_of_ble_eq_true rfl)) dX12_findMendings_49 ⟨Nat.le_of_ble_eq_true rfl, Nat.le_of_ble_eq_true rfl⟩) hS (fun q _ h => h) (fun q h => h) (fun r114 u9 t9 H1 locs ht9 hvm9 hw hB hz1 hk1 hS => ?_)
        have hH := zMv ht9 hvm9 hB
        generalize H1 = H at hH hS ⊢
        have hcok113 := zPv_or (hw.uni hmk113)
        clear hw
        have hcbk113 := (hPb.2.2 i2 (by omega)).2.2.1
        rcases hcok113 with ⟨hzk113, rfl⟩ | ⟨hzk113, rfl⟩
        · skip
          refine lv_iconst (v := (-1)) hx hb dX12_findMendings_52 (by decide) ?_
          refine lv_icmp_eq (tgt := 102) hx hb dX12_findMendings_53 (by decide) (fun c115 => ?_) (fun c115 => absurd (by decide) c115)
          refine lv_iinc (v := nI (i2 + 1)) (lv' := [(2, .int (nI (i2 + 1))), (0, .ref (τ.1 30)), (1, .int (nI i))]) hx hb dX12_findMendings_102 hl (k := 2) rfl (by rw [show (Int32.ofInt 1 : Int32) = nI 1 from by decide, nI_add]) (by decide) rfl (fun ls hl => ?_)
          refine lv_goto (tgt := 17) hx hb dX12_findMendings_105 (by decide) ?_
          exact ih109 (n - (i2 + 1)) (by omega) (i2 + 1, f2) _ _ _ (show n - (i2 + 1) = n - (i2 + 1) ∧ ((i2 + 1) ≤ n ∧ zFI f2 (zFN (ok i) i cd (zFM ok n cd i) (i2 + 1)) ∧ ∀ a b, ¬ (a = 30 ∧ 31 ≤ b ∧ b ≤ 33) → f2 a b = fi a b) ∧ zH D A τ f2 fr ol s _ ∧ va_S A s.heap _ _ ∧ lv_has _ 3 [(0, .ref (τ.1 30)), (1, .int (nI i)), (2, .int (nI (i2 + 1)))] from ⟨rfl, ⟨by omega, by rw [zFN_n (fun h8 => by have h9 := (hok i i2 (by omega) (by omega)).mp h8; exact absurd h9.2.1 (by omega))]; exact hp2, fun a b h => hfr2 a b h⟩, hH, hS, lv_sub hl [1, 2, 0] rfl⟩)
        · skip
          refine lv_iconst (v := (-1)) hx hb dX12_findMendings_52 (by decide) ?_
          refine lv_icmp_eq (tgt := 102) hx hb dX12_findMendings_53 (by decide) (fun c116 => False.elim (by have zc116 := zc_eq (nI_toInt (by omega)) ((by decide : ((-1) : Int32).toInt = (-1))) c116; omega)) (fun c116 => ?_)
          refine lv_aload_n hx hb dX12_findMendings_56 rfl (lv_at hl 0 rfl) ?_
          refine lv_iload_n hx hb dX12_findMendings_57 rfl (lv_at hl 1 rfl) ?_
          refine lv_aload_n hx hb dX12_findMendings_58 rfl (lv_at hl 0 rfl) ?_
          refine zGetR (D := D) (ci := 12) (C := RX12) (T := TX12) (N := 71) hx hb hts hiX12 hown hH (zk_30 hF) rfl 3 (by decide) rfl hw4 (fun _ h9 => h9) dX12_findMendings_59 (zr_30_3 hF) ?_
          refine lv_iload_n hx hb dX12_findMendings_62 rfl (lv_at hl 2 rfl) ?_
          refine zIaldN (D := D) hx hb hH (zk_31 hF) (zn_31 hF) (by omega) (by omega) (hPb.2.2 i2 (by omega)).1 dX12_findMendings_63 ?_
          refine va_calli (va_runV (As := [.int (nI i), .int (nI (cd i2))]) (rest := []) ⟨hx, hb, hml, hown, hts⟩ (m_totalN l hl0 D A sad τ f2 fr ol ((nI i)) ((cd i2)) ((hPb.2.2 i2 (by omega)).2.1) hF n hMt td cd pN hPb l0 lc mn hLy) (cwV 2 hts gX12_findMendings_X12_total rfl rfl rfl (by decide +kernel) ⟨Nat.le_of_ble_eq_true rfl, Nat.le_of_ble_eq_true rfl⟩) ⟨zQc_bl, zRecv hH (zk_30 hF) rfl, zQc_at hz hS hA hH⟩ rfl rfl hl.1 rfl (lv_room (Nat.le_of_ble_eq_true rfl)) dX12_findMendings_64 ⟨Nat.le_of_ble_eq_true rfl, Nat.le_of_ble_eq_true rfl⟩) hS (fun q _ h => h) (fun q h => h) (fun r117 u9 t9 H1 locs ht9 hvm9 hw hB hz1 hk1 hS => ?_)
          have hH := zMv ht9 hvm9 hB
          generalize H1 = H at hH hS ⊢
          have htb : zSm (fun j => zPo cd pN n (zIf (nI i) (cd i2) lc j) * mn j) l0 ≤ 7920000 := hLy.bd (P := fun j => zPo cd pN n (zIf (nI i) (cd i2) lc j)) (fun j => hPb.le) (Nat.le_refl l0)
          rcases hw with ⟨rfl, htj⟩ | ⟨htj, rfl⟩
          · skip
            refine lv_aload_n hx hb dX12_findMendings_67 rfl (lv_at hl 0 rfl) ?_
            refine zGetI (D := D) (ci := 12) (C := RX12) (T := TX12) (N := 71) hx hb hts hiX12 hown hH (zk_30 hF) rfl 29 (by decide) rfl hw7 (fun _ h9 => h9) dX12_findMendings_68 p29 ?_
            refine lv_icmp_eq (tgt := 77) hx hb dX12_findMendings_71 (by decide) (fun c118 => False.elim (by have zc118 := zc_eq ((by decide : ((-1) : Int32).toInt = (-1))) (nI_toInt (by omega)) c118; omega)) (fun c118 => ?_)
            refine lv_goto (tgt := 102) hx hb dX12_findMendings_74 (by decide) ?_
            refine lv_iinc (v := nI (i2 + 1)) (lv' := [(2, .int (nI (i2 + 1))), (0, .ref (τ.1 30)), (1, .int (nI i))]) hx hb dX12_findMendings_102 hl (k := 2) rfl (by rw [show (Int32.ofInt 1 : Int32) = nI 1 from by decide, nI_add]) (by decide) rfl (fun ls hl => ?_)
            refine lv_goto (tgt := 17) hx hb dX12_findMendings_105 (by decide) ?_
            exact ih109 (n - (i2 + 1)) (by omega) (i2 + 1, f2) _ _ _ (show n - (i2 + 1) = n - (i2 + 1) ∧ ((i2 + 1) ≤ n ∧ zFI f2 (zFN (ok i) i cd (zFM ok n cd i) (i2 + 1)) ∧ ∀ a b, ¬ (a = 30 ∧ 31 ≤ b ∧ b ≤ 33) → f2 a b = fi a b) ∧ zH D A τ f2 fr ol s _ ∧ va_S A s.heap _ _ ∧ lv_has _ 3 [(0, .ref (τ.1 30)), (1, .int (nI i)), (2, .int (nI (i2 + 1)))] from ⟨rfl, ⟨by omega, by rw [zFN_n (fun h8 => by have h9 := (hok i i2 (by omega) (by omega)).mp h8; exact (by obtain ⟨j9, q9, e9⟩ := htj; have h8 := h9.2.2.1 j9 q9; omega))]; exact hp2, fun a b h => hfr2 a b h⟩, hH, hS, lv_sub hl [1, 2, 0] rfl⟩)
          · skip
            refine lv_aload_n hx hb dX12_findMendings_67 rfl (lv_at hl 0 rfl) ?_
            refine zGetI (D := D) (ci := 12) (C := RX12) (T := TX12) (N := 71) hx hb hts hiX12 hown hH (zk_30 hF) rfl 29 (by decide) rfl hw7 (fun _ h9 => h9) dX12_findMendings_68 p29 ?_
            refine lv_icmp_eq (tgt := 77) hx hb dX12_findMendings_71 (by decide) (fun c119 => ?_) (fun c119 => ?_)
            · have zc119 := c119
              replace zc119 := zc_eq (nI_toInt (by omega)) (nI_toInt (by omega)) zc119
              refine lv_aload_n hx hb dX12_findMendings_77 rfl (lv_at hl 0 rfl) ?_
              refine lv_dup hx hb dX12_findMendings_78 rfl ?_
              refine zGetI (D := D) (ci := 12) (C := RX12) (T := TX12) (N := 71) hx hb hts hiX12 hown hH (zk_30 hF) rfl 31 (by decide) rfl hw0 (fun _ h9 => h9) dX12_findMendings_79 p31 ?_
              refine lv_iconst (v := nI 1) hx hb dX12_findMendings_82 (by decide) ?_
              refine lv_iadd hx hb dX12_findMendings_83 ?_
              refine lv_topi (fun v120 ev120 => ?_)
              obtain rfl : v120 = nI ((zFN (ok i) i cd (zFM ok n cd i) i2).1 + 1) := ev120.trans (nI_add _ _)
              refine zPutI (D := D) (ci := 12) (ty := .int) (C := RX12) (T := TX12) (N := 71) hx hb hts hiX12 tyX12 tyX12_ok nmX12 hown hH hS (zk_30 hF) rfl 31 (by decide) rfl hw0 (fun _ h9 => h9) rfl (by decide +kernel) rfl rfl dX12_findMendings_84 (fun H locs hH hS => ?_)
              obtain ⟨f121, ef121⟩ : ∃ f9 : zFi, f9 = zu f2 30 31 (nI ((zFN (ok i) i cd (zFM ok n cd i) i2).1 + 1)) := ⟨_, rfl⟩
              rw [← ef121] at hH
              have q122 : f121 30 2 = nI n := by rw [ef121, zu_n (fun h9 => absurd h9.2 (by decide))]; exact p2
              have q123 : f121 30 26 = nI l0 := by rw [ef121, zu_n (fun h9 => absurd h9.2 (by decide))]; exact p26
              have q124 : f121 30 1 = nI td := by rw [ef121, zu_n (fun h9 => absurd h9.2 (by decide))]; exact p1
              have q125 : f121 30 29 = nI sm0 := by rw [ef121, zu_n (fun h9 => absurd h9.2 (by decide))]; exact p29
              have q126 : f121 30 31 = nI ((zFN (ok i) i cd (zFM ok n cd i) i2).1 + 1) := by rw [ef121]; exact zu_s
              have hMt := zMt.ci (fi' := f121) hMt (fun i9 k9 h9 => by rw [ef121]; exact zu_n (by omega))
              have hLy := zqLy.cg (fi' := f121) hLy (fun i9 k9 h9 => by rw [ef121]; exact zu_n (by omega))
              have hPb := zqPb.cg (fi' := f121) hPb (fun i9 k9 h9 => by rw [ef121]; exact zu_n (by omega))
              refine lv_aload_n hx hb dX12_findMendings_87 rfl (lv_at hl 0 rfl) ?_
              refine lv_iload_n hx hb dX12_findMendings_88 rfl (lv_at hl 1 rfl) ?_
              refine zPutI (D := D) (ci := 12) (ty := .int) (C := RX12) (T := TX12) (N := 71) hx hb hts hiX12 tyX12 tyX12_ok nmX12 hown hH hS (zk_30 hF) rfl 32 (by decide) rfl hw8 (fun _ h9 => h9) rfl (by decide +kernel) rfl rfl dX12_findMendings_89 (fun H locs hH hS => ?_)
              obtain ⟨f127, ef127⟩ : ∃ f9 : zFi, f9 = zu f121 30 32 (nI i) := ⟨_, rfl⟩
              rw [← ef127] at hH
              have q128 : f127 30 2 = nI n := by rw [ef127, zu_n (fun h9 => absurd h9.2 (by decide))]; exact q122
              have q129 : f127 30 26 = nI l0 := by rw [ef127, zu_n (fun h9 => absurd h9.2 (by decide))]; exact q123
              have q130 : f127 30 1 = nI td := by rw [ef127, zu_n (fun h9 => absurd h9.2 (by decide))]; exact q124
              have q131 : f127 30 29 = nI sm0 := by rw [ef127, zu_n (fun h9 => absurd h9.2 (by decide))]; exact q125
              have q132 : f127 30 31 = nI ((zFN (ok i) i cd (zFM ok n cd i) i2).1 + 1) := by rw [ef127, zu_n (fun h9 => absurd h9.2 (by decide))]; exact q126
              have q133 : f127 30 32 = nI i := by rw [ef127]; exact zu_s
              have hMt := zMt.ci (fi' := f127) hMt (fun i9 k9 h9 => by rw [ef127]; exact zu_n (by omega))
              have hLy := zqLy.cg (fi' := f127) hLy (fun i9 k9 h9 => by rw [ef127]; exact zu_n (by omega))
              have hPb := zqPb.cg (fi' := f127) hPb (fun i9 k9 h9 => by rw [ef127]; exact zu_n (by omega))
              refine lv_aload_n hx hb dX12_findMendings_92 rfl (lv_at hl 0 rfl) ?_
              refine lv_aload_n hx hb dX12_findMendings_93 rfl (lv_at hl 0 rfl) ?_
              refine zGetR (D := D) (ci := 12) (C := RX12) (T := TX12) (N := 71) hx hb hts hiX12 hown hH (zk_30 hF) rfl 3 (by decide) rfl hw4 (fun _ h9 => h9) dX12_findMendings_94 (zr_30_3 hF) ?_
              refine lv_iload_n hx hb dX12_findMendings_97 rfl (lv_at hl 2 rfl) ?_
              refine zIaldN (D := D) hx hb hH (zk_31 hF) (zn_31 hF) (by omega) (by omega) (hPb.2.2 i2 (by omega)).1 dX12_findMendings_98 ?_
              refine zPutI (D := D) (ci := 12) (ty := .int) (C := RX12) (T := TX12) (N := 71) hx hb hts hiX12 tyX12 tyX12_ok nmX12 hown hH hS (zk_30 hF) rfl 33 (by decide) rfl hw9 (fun _ h9 => h9) rfl (by decide +kernel) rfl rfl dX12_findMendings_99 (fun H locs hH hS => ?_)
              obtain ⟨f134, ef134⟩ : ∃ f9 : zFi, f9 = zu f127 30 33 (nI (cd i2)) := ⟨_, rfl⟩
              rw [← ef134] at hH
              have q135 : f134 30 2 = nI n := by rw [ef134, zu_n (fun h9 => absurd h9.2 (by decide))]; exact q128
              have q136 : f134 30 26 = nI l0 := by rw [ef134, zu_n (fun h9 => absurd h9.2 (by decide))]; exact q129
              have q137 : f134 30 1 = nI td := by rw [ef134, zu_n (fun h9 => absurd h9.2 (by decide))]; exact q130
              have q138 : f134 30 29 = nI sm0 := by rw [ef134, zu_n (fun h9 => absurd h9.2 (by decide))]; exact q131
              have q139 : f134 30 31 = nI ((zFN (ok i) i cd (zFM ok n cd i) i2).1 + 1) := by rw [ef134, zu_n (fun h9 => absurd h9.2 (by decide))]; exact q132
              have q140 : f134 30 32 = nI i := by rw [ef134, zu_n (fun h9 => absurd h9.2 (by decide))]; exact q133
              have q141 : f134 30 33 = nI (cd i2) := by rw [ef134]; exact zu_s
              have hMt := zMt.ci (fi' := f134) hMt (fun i9 k9 h9 => by rw [ef134]; exact zu_n (by omega))
              have hLy := zqLy.cg (fi' := f134) hLy (fun i9 k9 h9 => by rw [ef134]; exact zu_n (by omega))
              have hPb := zqPb.cg (fi' := f134) hPb (fun i9 k9 h9 => by rw [ef134]; exact zu_n (by omega))
              refine lv_iinc (v := nI (i2 + 1)) (lv' := [(2, .int (nI (i2 + 1))), (0, .ref (τ.1 30)), (1, .int (nI i))]) hx hb dX12_findMendings_102 hl (k := 2) rfl (by rw [show (Int32.ofInt 1 : Int32) = nI 1 from by decide, nI_add]) (by decide) rfl (fun ls hl => ?_)
              refine lv_goto (tgt := 17) hx hb dX12_findMendings_105 (by decide) ?_
              have hokt : ok i i2 = true := (hok i i2 (by omega) (by omega)).mpr ⟨hud, hzk113, htj, by omega⟩
              exact ih109 (n - (i2 + 1)) (by omega) (i2 + 1, f134) _ _ _ (show n - (i2 + 1) = n - (i2 + 1) ∧ ((i2 + 1) ≤ n ∧ zFI f134 (zFN (ok i) i cd (zFM ok n cd i) (i2 + 1)) ∧ ∀ a b, ¬ (a = 30 ∧ 31 ≤ b ∧ b ≤ 33) → f134 a b = fi a b) ∧ zH D A τ f134 fr ol s _ ∧ va_S A s.heap _ _ ∧ lv_has _ 3 [(0, .ref (τ.1 30)), (1, .int (nI i)), (2, .int (nI (i2 + 1)))] from ⟨rfl, ⟨by omega, by rw [zFN_y hokt]; exact ⟨q139, fun _ => ⟨q140, q141⟩⟩, fun a b h => by rw [ef134, zu_n (by omega), ef127, zu_n (by omega), ef121, zu_n (by omega)]; exact hfr2 a b h⟩, hH, hS, lv_sub hl [1, 2, 0] rfl⟩)
            · have zc119 := c119
              replace zc119 := zc_neq (nI_toInt (by omega)) (nI_toInt (by omega)) zc119
              refine lv_goto (tgt := 102) hx hb dX12_findMendings_74 (by decide) ?_
              refine lv_iinc (v := nI (i2 + 1)) (lv' := [(2, .int (nI (i2 + 1))), (0, .ref (τ.1 30)), (1, .int (nI i))]) hx hb dX12_findMendings_102 hl (k := 2) rfl (by rw [show (Int32.ofInt 1 : Int32) = nI 1 from by decide, nI_add]) (by decide) rfl (fun ls hl => ?_)
              refine lv_goto (tgt := 17) hx hb dX12_findMendings_105 (by decide) ?_
              exact ih109 (n - (i2 + 1)) (by omega) (i2 + 1, f2) _ _ _ (show n - (i2 + 1) = n - (i2 + 1) ∧ ((i2 + 1) ≤ n ∧ zFI f2 (zFN (ok i) i cd (zFM ok n cd i) (i2 + 1)) ∧ ∀ a b, ¬ (a = 30 ∧ 31 ≤ b ∧ b ≤ 33) → f2 a b = fi a b) ∧ zH D A τ f2 fr ol s _ ∧ va_S A s.heap _ _ ∧ lv_has _ 3 [(0, .ref (τ.1 30)), (1, .int (nI i)), (2, .int (nI (i2 + 1)))] from ⟨rfl, ⟨by omega, by rw [zFN_n (fun h8 => by have h9 := (hok i i2 (by omega) (by omega)).mp h8; exact (by have h8 := h9.2.2.2; omega))]; exact hp2, fun a b h => hfr2 a b h⟩, hH, hS, lv_sub hl [1, 2, 0] rfl⟩)
      · skip
        refine lv_if_eq (tgt := 102) hx hb dX12_findMendings_40 (by decide) (fun c142 => ?_) (fun c142 => absurd (by decide) c142)
        refine lv_iinc (v := nI (i2 + 1)) (lv' := [(2, .int (nI (i2 + 1))), (0, .ref (τ.1 30)), (1, .int (nI i))]) hx hb dX12_findMendings_102 hl (k := 2) rfl (by rw [show (Int32.ofInt 1 : Int32) = nI 1 from by decide, nI_add]) (by decide) rfl (fun ls hl => ?_)
        refine lv_goto (tgt := 17) hx hb dX12_findMendings_105 (by decide) ?_
        exact ih109 (n - (i2 + 1)) (by omega) (i2 + 1, f2) _ _ _ (show n - (i2 + 1) = n - (i2 + 1) ∧ ((i2 + 1) ≤ n ∧ zFI f2 (zFN (ok i) i cd (zFM ok n cd i) (i2 + 1)) ∧ ∀ a b, ¬ (a = 30 ∧ 31 ≤ b ∧ b ≤ 33) → f2 a b = fi a b) ∧ zH D A τ f2 fr ol s _ ∧ va_S A s.heap _ _ ∧ lv_has _ 3 [(0, .ref (τ.1 30)), (1, .int (nI i)), (2, .int (nI (i2 + 1)))] from ⟨rfl, ⟨by omega, by rw [zFN_n (fun h8 => by have h9 := (hok i i2 (by omega) (by omega)).mp h8; exact hud h9.1)]; exact hp2, fun a b h => hfr2 a b h⟩, hH, hS, lv_sub hl [1, 2, 0] rfl⟩)
theorem zNarB {x y : Int32} (h : y = 0 ∨ y = 1) (e : x = y := by rfl) : vp_nar .boolean x = y := by
  subst e
  rcases h with h | h <;> rw [h] <;> decide
theorem zGp.cp {τ τ' : zTy} {fi fi' : zFi} {fr fr' : zFr} {g Ln : Nat} (h : zGp τ fi fr g Ln 8 τ' fi' fr') (h0 : ∀ k, k < Ln → fi' (210 + 10 * g) k = fi (200 + 10 * g) k) : ∀ j, j < 8 → ∀ k, k < (if j < 6 then Ln else 8 * Ln) → fi' (200 + j + 10 * (g + 1)) k = fi (200 + j + 10 * g) k := fun j hj k hk => by
  rw [show 200 + j + 10 * (g + 1) = 210 + 10 * g + j by omega, show 200 + j + 10 * g = 200 + 10 * g + j by omega]
  by_cases q : j = 0
  · subst q; exact h0 k (by rw [if_pos (by omega)] at hk; exact hk)
  · exact h.2.2.2.1 j (by omega) hj k hk
set_option maxHeartbeats 4000000 in
set_option maxRecDepth 100000 in
/-- grow -/
theorem m_growN_0 (l : Launch) (hl0 : l.stackTraces = false) (D : va_G) (A : Nat → Prop) (sad : Nat → Nat) (τ : zTy) (fi : zFi) (fr : zFr) (ol : Int64) (hF : zFix τ fr) (hMq : zMq τ fi fr 0 64 64) (hbl : ∀ k, k < 64 → fi 200 k = 0 ∨ fi 200 k = 1) : Met l yX12_grow wsX12_grow ({ frames := 1, cells := 8, slots := 2816, locals := 22 }) (va_Pc [.ref (τ.1 30)] (zQc D A sad τ fi fr ol)) (va_Qv (fun (u : zTy × zFi × zFr) => (zMq u.1 u.2.1 u.2.2 1 128 64 ∧ zGz τ fr u.1 u.2.2 ∧ ∀ i k, ¬ (200 ≤ i ∧ i < 240) → u.2.1 i k = fi i k) ∧ ∀ j, j < 8 → ∀ k, k < (if j < 6 then 64 else 8 * 64) → u.2.1 (200 + j + 10 * (0 + 1)) k = fi (200 + j + 10 * 0) k) (fun (u : zTy × zFi × zFr) (t : State) => zH D A u.1 u.2.1 u.2.2 ol t t.heap) A) 8 2816 A := by
  refine Met.ofW (cc := cX12_grow) (maxL := 3) (ret := none) (by decide) rfl ?_
  intro p9 e9 s m args below meth c9 s₁ B hml hv
  obtain ⟨rfl, hz, hH, hA⟩ := hv
  have hx := B.exec
  have hb := B.bytes
  have hr := B.returns
  have hts := atoms_spec (ws := wsX12_grow) B.pre
  have hown : s.vm.findClass RX12 = some m.cls := findClass_of_methodNamed B.named
  have hlocks := B.notSynchronized
  have hS : va_S A s.heap s.heap [] := va_S.rf
  have hl := lv_entry ([.ref (τ.1 30)]) (n := 3) (Nat.le_of_ble_eq_true rfl)
  rw [lg_entry_eq]
  generalize (lg_sl ([.ref (τ.1 30)]) ++ List.replicate (3 - (lg_sl ([.ref (τ.1 30)])).length) Slot.unset).toArray = ls at hl ⊢
  have hl : lv_has ls 3 [(0, .ref (τ.1 30))] := hl
  have hMq0 := hMq
  obtain ⟨-, -, h35, ⟨⟨k0, l0⟩, ⟨k1, l1⟩, ⟨k2, l2⟩, ⟨k3, l3⟩, ⟨k4, l4⟩, ⟨k5, l5⟩, ⟨k6, l6⟩, ⟨k7, l7⟩⟩, ⟨r0, r1, r2, r3, r4, r5, r6, r7⟩, -, hvd⟩ := hMq
  have k0 : τ.2.2.1 200 = 3 := k0
  have l0 : τ.2.2.2 200 = 64 := l0
  have r0 : fr 30 37 = some 200 := r0
  have v0 : τ.2.2.1 210 = 0 := hvd 1 (by omega) (by omega) 0 (by omega)
  have k1 : τ.2.2.1 201 = 1 := k1
  have l1 : τ.2.2.2 201 = 64 := l1
  have r1 : fr 30 38 = some 201 := r1
  have v1 : τ.2.2.1 211 = 0 := hvd 1 (by omega) (by omega) 1 (by omega)
  have k2 : τ.2.2.1 202 = 1 := k2
  have l2 : τ.2.2.2 202 = 64 := l2
  have r2 : fr 30 39 = some 202 := r2
  have v2 : τ.2.2.1 212 = 0 := hvd 1 (by omega) (by omega) 2 (by omega)
  have k3 : τ.2.2.1 203 = 1 := k3
  have l3 : τ.2.2.2 203 = 64 := l3
  have r3 : fr 30 40 = some 203 := r3
  have v3 : τ.2.2.1 213 = 0 := hvd 1 (by omega) (by omega) 3 (by omega)
  have k4 : τ.2.2.1 204 = 1 := k4
  have l4 : τ.2.2.2 204 = 64 := l4
  have r4 : fr 30 41 = some 204 := r4
  have v4 : τ.2.2.1 214 = 0 := hvd 1 (by omega) (by omega) 4 (by omega)
  have k5 : τ.2.2.1 205 = 1 := k5
  have l5 : τ.2.2.2 205 = 64 := l5
  have r5 : fr 30 42 = some 205 := r5
  have v5 : τ.2.2.1 215 = 0 := hvd 1 (by omega) (by omega) 5 (by omega)
  have k6 : τ.2.2.1 206 = 1 := k6
  have l6 : τ.2.2.2 206 = 512 := l6
  have r6 : fr 30 43 = some 206 := r6
  have v6 : τ.2.2.1 216 = 0 := hvd 1 (by omega) (by omega) 6 (by omega)
  have k7 : τ.2.2.1 207 = 1 := k7
  have l7 : τ.2.2.2 207 = 512 := l7
  have r7 : fr 30 44 = some 207 := r7
  have v7 : τ.2.2.1 217 = 0 := hvd 1 (by omega) (by omega) 7 (by omega)
  have hiX12 : ∀ w ∈ u_ws RX12 TX12 71, w ∈ wsX12_grow := fun _ h => List.mem_cons_of_mem _ (List.mem_append_right _ h)
  have hw1 := hts (.fieldLink RX12 320 "PostHouseModel" "doubts" "I") (by decide +kernel)
  have hw2 := hts (.arrayClass .boolean) (by decide +kernel)
  have hw3 := hts (.fieldLink RX12 71 "PostHouseModel" "doubtWaits" "[Z") (by decide +kernel)
  have hw4 := hts (.fieldLink RX12 75 "PostHouseModel" "doubtMendings" "[I") (by decide +kernel)
  have hw5 := hts (.fieldLink RX12 78 "PostHouseModel" "doubtLines" "[I") (by decide +kernel)
  have hw6 := hts (.fieldLink RX12 81 "PostHouseModel" "doubtKnown" "[I") (by decide +kernel)
  have hw7 := hts (.fieldLink RX12 84 "PostHouseModel" "doubtSum" "[I") (by decide +kernel)
  have hw8 := hts (.fieldLink RX12 87 "PostHouseModel" "doubtMoney" "[I") (by decide +kernel)
  have hw9 := hts (.fieldLink RX12 90 "PostHouseModel" "doubtCode" "[I") (by decide +kernel)
  have hw10 := hts (.fieldLink RX12 93 "PostHouseModel" "doubtMany" "[I") (by decide +kernel)
  refine lv_iconst (v := nI 2) hx hb dX12_grow_0 (by decide) ?_
  refine lv_aload_n hx hb dX12_grow_1 rfl (lv_at hl 0 rfl) ?_
  refine zGetI (D := D) (ci := 12) (C := RX12) (T := TX12) (N := 71) hx hb hts hiX12 hown hH (zk_30 hF) rfl 35 (by decide) rfl hw1 (fun _ h9 => h9) dX12_grow_2 h35 ?_
  refine lv_imul hx hb dX12_grow_5 ?_
  refine lv_topi (fun v101 ev101 => ?_)
  obtain rfl : v101 = nI 128 := ev101.trans (by decide)
  refine zNewa (D := D) (atype := .boolean) (t := 3) (N' := 128) hx hb hw2 rfl (by decide) (by decide) rfl hH hS hA 210 v0 (by decide) (by decide) (by first | decide | (simp only [zT, componentBytes]; omega)) (Nat.le_of_ble_eq_true rfl) (Nat.le_of_ble_eq_true rfl) dX12_grow_6 (fun q9 c9 H hH8 hS => ?_)
  obtain ⟨τ102, eτ102⟩ : ∃ t9 : zTy, t9 = (va_up τ.1 210 q9, va_up τ.2.1 210 c9, va_up τ.2.2.1 210 3, va_up τ.2.2.2 210 128) := ⟨_, rfl⟩
  obtain ⟨f103, ef103⟩ : ∃ f9 : zFi, f9 = va_up fi 210 (fun _ => 0) := ⟨_, rfl⟩
  obtain ⟨g104, eg104⟩ : ∃ f9 : zFr, f9 = va_up fr 210 (fun _ => none) := ⟨_, rfl⟩
  have hH : zH D A τ102 f103 g104 ol s H := by rw [eτ102, ef103, eg104]; exact hH8
  clear hH8
  have hqτ102 : τ102.1 210 = q9 := by rw [eτ102]; exact va_up_self τ.1 210 q9
  have haτ102 : ∀ i, i ≠ 210 → τ102.1 i = τ.1 i := fun i h => by rw [eτ102]; exact va_up_ne _ _ h
  have hkτ102 : τ102.2.2.1 210 = 3 := by rw [eτ102]; exact va_up_self τ.2.2.1 210 3
  have hnτ102 : τ102.2.2.2 210 = 128 := by rw [eτ102]; exact va_up_self τ.2.2.2 210 128
  have hbτ102 : ∀ i, i ≠ 210 → τ102.2.2.1 i = τ.2.2.1 i ∧ τ102.2.2.2 i = τ.2.2.2 i := fun i h => by rw [eτ102]; exact ⟨va_up_ne _ _ h, va_up_ne _ _ h⟩
  have hFτ102 : zFix τ102 g104 := by rw [eτ102, eg104]; exact hF.up (by omega)
  clear eτ102
  subst hqτ102
  rw [show τ.1 30 = τ102.1 30 from (haτ102 30 (by omega)).symm] at hl
  have q105 : f103 30 35 = nI 64 := by rw [ef103, va_up_ne _ _ (by omega)]; exact h35
  refine W.widen (k := 1) (n := 128) (by decide) (by decide) ?_
  refine lv_astore_n (lv' := [(1, .ref (τ102.1 210)), (0, .ref (τ102.1 30))]) hx hb dX12_grow_8 rfl hl (by decide) rfl (fun ls hl => ?_)
  refine lv_iconst (v := nI 0) hx hb dX12_grow_9 (by decide) ?_
  refine lv_istore_n (lv' := [(2, .int (nI 0)), (1, .ref (τ102.1 210)), (0, .ref (τ102.1 30))]) hx hb dX12_grow_10 rfl hl (by decide) rfl (fun ls hl => ?_)
  refine zLp (σ := Nat × zFi) (fun x9 k9 H locs ls => (fun (i : Nat) (f : zFi) => k9 = 64 - i ∧ (i ≤ 64 ∧ (∀ k, k < i → f 210 k = fi 200 k) ∧ ∀ i9 k, i9 ≠ 210 → f i9 k = fi i9 k) ∧ zH D A τ102 f g104 ol s H ∧ va_S A s.heap H locs ∧ lv_has ls 3 [(0, .ref (τ102.1 30)), (1, .ref (τ102.1 210)), (2, .int (nI i))]) x9.1 x9.2) (0, f103) (64 - 0) (show 64 - 0 = 64 - 0 ∧ (0 ≤ 64 ∧ (∀ k, k < 0 → f103 210 k = fi 200 k) ∧ ∀ i9 k, i9 ≠ 210 → f103 i9 k = fi i9 k) ∧ zH D A τ102 f103 g104 ol s _ ∧ va_S A s.heap _ _ ∧ lv_has _ 3 [(0, .ref (τ102.1 30)), (1, .ref (τ102.1 210)), (2, .int (nI 0))] from ⟨rfl, ⟨Nat.zero_le _, fun k h => absurd h (by omega), fun i k h => by rw [ef103, va_up_ne _ _ h]⟩, hH, hS, lv_sub hl [2, 1, 0] rfl⟩) (fun k9 ih x9 H locs ls hv9 => ?_)
  obtain ⟨i, f⟩ := x9
  have hv9 : k9 = 64 - i ∧ (i ≤ 64 ∧ (∀ k, k < i → f 210 k = fi 200 k) ∧ ∀ i9 k, i9 ≠ 210 → f i9 k = fi i9 k) ∧ zH D A τ102 f g104 ol s H ∧ va_S A s.heap H locs ∧ lv_has ls 3 [(0, .ref (τ102.1 30)), (1, .ref (τ102.1 210)), (2, .int (nI i))] := hv9
  obtain ⟨hkih106, hv9, hH, hS, hl⟩ := hv9
  obtain ⟨h1, hwc, hfr⟩ := hv9
  have ih106 := ih
  clear ih
  have q35 : f 30 35 = nI 64 := by rw [hfr 30 35 (by omega)]; exact h35
  refine lv_iload_n hx hb dX12_grow_11 rfl (lv_at hl 2 rfl) ?_
  refine lv_aload_n hx hb dX12_grow_12 rfl (lv_at hl 0 rfl) ?_
  refine zGetI (D := D) (ci := 12) (C := RX12) (T := TX12) (N := 71) hx hb hts hiX12 hown hH (zk_30 hFτ102) rfl 35 (by decide) rfl hw1 (fun _ h9 => h9) dX12_grow_13 q35 ?_
  refine lv_icmp_ge (tgt := 34) hx hb dX12_grow_16 (by decide) (fun c107 => ?_) (fun c107 => ?_)
  · have zc107 := c107
    replace zc107 := zc_le (nI_toInt (by omega)) (nI_toInt (by omega)) zc107
    refine lv_aload_n hx hb dX12_grow_34 rfl (lv_at hl 0 rfl) ?_
    refine lv_aload_n hx hb dX12_grow_35 rfl (lv_at hl 1 rfl) ?_
    refine zPutR (D := D) (ci := 12) (ty := .array .boolean) (C := RX12) (T := TX12) (N := 71) hx hb hts hiX12 tyX12 tyX12_ok nmX12 hown hH hS (zk_30 hFτ102) rfl 37 (by decide) rfl hw3 (fun _ h9 => h9) rfl (by rw [hkτ102]; decide)  (by decide +kernel) rfl rfl dX12_grow_36 (fun H locs hH hS => ?_)
    obtain ⟨g108, eg108⟩ : ∃ f9 : zFr, f9 = zur g104 30 37 (some 210) := ⟨_, rfl⟩
    rw [← eg108] at hH
    have hF109 : zFix τ102 g108 := by rw [eg108]; exact hFτ102.ur30 (by omega)
    have hG : zGp τ fi fr 0 64 1 τ102 f g108 := zGp.first (ib := 210) (by omega) haτ102 hbτ102 hkτ102 hnτ102 hfr eg104 eg108 hF109
    have hW0 : ∀ k, k < 64 → f 210 k = fi 200 k := fun k h => hwc k (by omega)
    refine lv_aload_n hx hb dX12_grow_39 rfl (lv_at hl 0 rfl) ?_
    refine lv_aload_n hx hb dX12_grow_40 rfl (lv_at hl 0 rfl) ?_
    refine zGetR (D := D) (ci := 12) (C := RX12) (T := TX12) (N := 71) hx hb hts hiX12 hown hH (zk_30 hG.2.2.2.2.2.2) rfl 38 (by decide) rfl hw4 (fun _ h9 => h9) dX12_grow_41 (by rw [hG.2.2.2.2.1 30 38 (by omega) (by omega)]; exact r1) ?_
    refine va_callq (va_runS (As := [.ref (τ102.1 201)]) (rest := [.ref (τ102.1 30)]) ⟨hx, hb, hml, hown, hts⟩ (m_longer_64 l hl0 D A sad τ102 f g108 ol hG.2.2.2.2.2.2 201 211 (⟨(show τ102.2.2.1 201 = 1 by rw [(hG.1 201 (by omega)).2.1]; exact k1), (show τ102.2.2.2 201 = 64 by rw [(hG.1 201 (by omega)).2.2]; exact l1)⟩) (by rw [(hG.1 211 (by omega)).2.1]; exact v1) (by omega) (by omega)) (cwS 1 hts gX12_grow_X12_longer rfl rfl rfl (by decide +kernel) ⟨Nat.le_of_ble_eq_true rfl, Nat.le_of_ble_eq_true rfl⟩) ⟨zQc_bl, zQc_at hz hS hA hH⟩ rfl rfl hl.1 rfl (lv_room (Nat.le_of_ble_eq_true rfl)) dX12_grow_44 ⟨Nat.le_of_ble_eq_true rfl, Nat.le_of_ble_eq_true rfl⟩) hS (fun q _ h => h) (fun q h => h) (fun r110 u9 t9 H1 locs ht9 hvm9 hw hB hz1 hk1 hS => ?_)
    obtain ⟨τ111, f112, g113⟩ := u9
    have hH := zMv ht9 hvm9 hB
    clear hB
    simp only at hw hH
    generalize H1 = H at hH hS ⊢
    refine W.widen (k := 2) (n := 256) (by decide) (by decide) ?_
    obtain ⟨rfl, hlg⟩ := hw
    have ha6 : ∀ i, i ≠ 211 → τ111.1 i = τ102.1 i := fun i h => (hlg.1 i h).1
    refine W.eq (g2 := F0 m 47 ls [.ref (τ111.1 211), .ref (τ102.1 30)]) rfl ?_
    rw [show τ102.1 30 = τ111.1 30 from (ha6 30 (by omega)).symm] at hl
    rw [show τ102.1 210 = τ111.1 210 from (ha6 210 (by omega)).symm] at hl
    refine W.eq (g2 := F0 m 47 ls [.ref (τ111.1 211), .ref (τ111.1 30)]) (by rw [ha6 30 (by omega)]) ?_
    refine zPutR (D := D) (ci := 12) (ty := .array .int) (C := RX12) (T := TX12) (N := 71) hx hb hts hiX12 tyX12 tyX12_ok nmX12 hown hH hS (zk_30 hlg.2.2.1) rfl 38 (by decide) rfl hw4 (fun _ h9 => h9) rfl (by rw [hlg.2.1.1]; decide)  (by decide +kernel) rfl rfl dX12_grow_47 (fun H locs hH hS => ?_)
    obtain ⟨g114, eg114⟩ : ∃ f9 : zFr, f9 = zur g113 30 38 (some 211) := ⟨_, rfl⟩
    rw [← eg114] at hH
    have hF115 : zFix τ111 g114 := by rw [eg114]; exact hlg.2.2.1.ur30 (by omega)
    have hG := zGp.step (ia := 201) (ib := 211) (N := 64) (kk := 38) hG (by omega) (by omega) (by omega) (by omega) (by decide) hlg (by omega) eg114 hF115
    have hG : zGp τ fi fr 0 64 2 τ111 f112 g114 := hG
    have hW0 : ∀ k, k < 64 → f112 210 k = fi 200 k := fun k h => by rw [hlg.2.2.2.1 210 k (by omega)]; exact hW0 k h
    refine lv_aload_n hx hb dX12_grow_50 rfl (lv_at hl 0 rfl) ?_
    refine lv_aload_n hx hb dX12_grow_51 rfl (lv_at hl 0 rfl) ?_
    refine zGetR (D := D) (ci := 12) (C := RX12) (T := TX12) (N := 71) hx hb hts hiX12 hown hH (zk_30 hG.2.2.2.2.2.2) rfl 39 (by decide) rfl hw5 (fun _ h9 => h9) dX12_grow_52 (by rw [hG.2.2.2.2.1 30 39 (by omega) (by omega)]; exact r2) ?_
    refine va_callq (va_runS (As := [.ref (τ111.1 202)]) (rest := [.ref (τ111.1 30)]) ⟨hx, hb, hml, hown, hts⟩ (m_longer_64 l hl0 D A sad τ111 f112 g114 ol hG.2.2.2.2.2.2 202 212 (⟨(show τ111.2.2.1 202 = 1 by rw [(hG.1 202 (by omega)).2.1]; exact k2), (show τ111.2.2.2 202 = 64 by rw [(hG.1 202 (by omega)).2.2]; exact l2)⟩) (by rw [(hG.1 212 (by omega)).2.1]; exact v2) (by omega) (by omega)) (cwS 1 hts gX12_grow_X12_longer rfl rfl rfl (by decide +kernel) ⟨Nat.le_of_ble_eq_true rfl, Nat.le_of_ble_eq_true rfl⟩) ⟨zQc_bl, zQc_at hz hS hA hH⟩ rfl rfl hl.1 rfl (lv_room (Nat.le_of_ble_eq_true rfl)) dX12_grow_55 ⟨Nat.le_of_ble_eq_true rfl, Nat.le_of_ble_eq_true rfl⟩) hS (fun q _ h => h) (fun q h => h) (fun r116 u9 t9 H1 locs ht9 hvm9 hw hB hz1 hk1 hS => ?_)
    obtain ⟨τ117, f118, g119⟩ := u9
    have hH := zMv ht9 hvm9 hB
    clear hB
    simp only at hw hH
    generalize H1 = H at hH hS ⊢
    refine W.widen (k := 3) (n := 384) (by decide) (by decide) ?_
    obtain ⟨rfl, hlg⟩ := hw
    have ha6 : ∀ i, i ≠ 212 → τ117.1 i = τ111.1 i := fun i h => (hlg.1 i h).1
    refine W.eq (g2 := F0 m 58 ls [.ref (τ117.1 212), .ref (τ111.1 30)]) rfl ?_
    rw [show τ111.1 30 = τ117.1 30 from (ha6 30 (by omega)).symm] at hl
    rw [show τ111.1 210 = τ117.1 210 from (ha6 210 (by omega)).symm] at hl
    refine W.eq (g2 := F0 m 58 ls [.ref (τ117.1 212), .ref (τ117.1 30)]) (by rw [ha6 30 (by omega)]) ?_
    refine zPutR (D := D) (ci := 12) (ty := .array .int) (C := RX12) (T := TX12) (N := 71) hx hb hts hiX12 tyX12 tyX12_ok nmX12 hown hH hS (zk_30 hlg.2.2.1) rfl 39 (by decide) rfl hw5 (fun _ h9 => h9) rfl (by rw [hlg.2.1.1]; decide)  (by decide +kernel) rfl rfl dX12_grow_58 (fun H locs hH hS => ?_)
    obtain ⟨g120, eg120⟩ : ∃ f9 : zFr, f9 = zur g119 30 39 (some 212) := ⟨_, rfl⟩
    rw [← eg120] at hH
    have hF121 : zFix τ117 g120 := by rw [eg120]; exact hlg.2.2.1.ur30 (by omega)
    have hG := zGp.step (ia := 202) (ib := 212) (N := 64) (kk := 39) hG (by omega) (by omega) (by omega) (by omega) (by decide) hlg (by omega) eg120 hF121
    have hG : zGp τ fi fr 0 64 3 τ117 f118 g120 := hG
    have hW0 : ∀ k, k < 64 → f118 210 k = fi 200 k := fun k h => by rw [hlg.2.2.2.1 210 k (by omega)]; exact hW0 k h
    refine lv_aload_n hx hb dX12_grow_61 rfl (lv_at hl 0 rfl) ?_
    refine lv_aload_n hx hb dX12_grow_62 rfl (lv_at hl 0 rfl) ?_
    refine zGetR (D := D) (ci := 12) (C := RX12) (T := TX12) (N := 71) hx hb hts hiX12 hown hH (zk_30 hG.2.2.2.2.2.2) rfl 40 (by decide) rfl hw6 (fun _ h9 => h9) dX12_grow_63 (by rw [hG.2.2.2.2.1 30 40 (by omega) (by omega)]; exact r3) ?_
    refine va_callq (va_runS (As := [.ref (τ117.1 203)]) (rest := [.ref (τ117.1 30)]) ⟨hx, hb, hml, hown, hts⟩ (m_longer_64 l hl0 D A sad τ117 f118 g120 ol hG.2.2.2.2.2.2 203 213 (⟨(show τ117.2.2.1 203 = 1 by rw [(hG.1 203 (by omega)).2.1]; exact k3), (show τ117.2.2.2 203 = 64 by rw [(hG.1 203 (by omega)).2.2]; exact l3)⟩) (by rw [(hG.1 213 (by omega)).2.1]; exact v3) (by omega) (by omega)) (cwS 1 hts gX12_grow_X12_longer rfl rfl rfl (by decide +kernel) ⟨Nat.le_of_ble_eq_true rfl, Nat.le_of_ble_eq_true rfl⟩) ⟨zQc_bl, zQc_at hz hS hA hH⟩ rfl rfl hl.1 rfl (lv_room (Nat.le_of_ble_eq_true rfl)) dX12_grow_66 ⟨Nat.le_of_ble_eq_true rfl, Nat.le_of_ble_eq_true rfl⟩) hS (fun q _ h => h) (fun q h => h) (fun r122 u9 t9 H1 locs ht9 hvm9 hw hB hz1 hk1 hS => ?_)
    obtain ⟨τ123, f124, g125⟩ := u9
    have hH := zMv ht9 hvm9 hB
    clear hB
    simp only at hw hH
    generalize H1 = H at hH hS ⊢
    refine W.widen (k := 4) (n := 512) (by decide) (by decide) ?_
    obtain ⟨rfl, hlg⟩ := hw
    have ha6 : ∀ i, i ≠ 213 → τ123.1 i = τ117.1 i := fun i h => (hlg.1 i h).1
    refine W.eq (g2 := F0 m 69 ls [.ref (τ123.1 213), .ref (τ117.1 30)]) rfl ?_
    rw [show τ117.1 30 = τ123.1 30 from (ha6 30 (by omega)).symm] at hl
    rw [show τ117.1 210 = τ123.1 210 from (ha6 210 (by omega)).symm] at hl
    refine W.eq (g2 := F0 m 69 ls [.ref (τ123.1 213), .ref (τ123.1 30)]) (by rw [ha6 30 (by omega)]) ?_
    refine zPutR (D := D) (ci := 12) (ty := .array .int) (C := RX12) (T := TX12) (N := 71) hx hb hts hiX12 tyX12 tyX12_ok nmX12 hown hH hS (zk_30 hlg.2.2.1) rfl 40 (by decide) rfl hw6 (fun _ h9 => h9) rfl (by rw [hlg.2.1.1]; decide)  (by decide +kernel) rfl rfl dX12_grow_69 (fun H locs hH hS => ?_)
    obtain ⟨g126, eg126⟩ : ∃ f9 : zFr, f9 = zur g125 30 40 (some 213) := ⟨_, rfl⟩
    rw [← eg126] at hH
    have hF127 : zFix τ123 g126 := by rw [eg126]; exact hlg.2.2.1.ur30 (by omega)
    have hG := zGp.step (ia := 203) (ib := 213) (N := 64) (kk := 40) hG (by omega) (by omega) (by omega) (by omega) (by decide) hlg (by omega) eg126 hF127
    have hG : zGp τ fi fr 0 64 4 τ123 f124 g126 := hG
    have hW0 : ∀ k, k < 64 → f124 210 k = fi 200 k := fun k h => by rw [hlg.2.2.2.1 210 k (by omega)]; exact hW0 k h
    refine lv_aload_n hx hb dX12_grow_72 rfl (lv_at hl 0 rfl) ?_
    refine lv_aload_n hx hb dX12_grow_73 rfl (lv_at hl 0 rfl) ?_
    refine zGetR (D := D) (ci := 12) (C := RX12) (T := TX12) (N := 71) hx hb hts hiX12 hown hH (zk_30 hG.2.2.2.2.2.2) rfl 41 (by decide) rfl hw7 (fun _ h9 => h9) dX12_grow_74 (by rw [hG.2.2.2.2.1 30 41 (by omega) (by omega)]; exact r4) ?_
    refine va_callq (va_runS (As := [.ref (τ123.1 204)]) (rest := [.ref (τ123.1 30)]) ⟨hx, hb, hml, hown, hts⟩ (m_longer_64 l hl0 D A sad τ123 f124 g126 ol hG.2.2.2.2.2.2 204 214 (⟨(show τ123.2.2.1 204 = 1 by rw [(hG.1 204 (by omega)).2.1]; exact k4), (show τ123.2.2.2 204 = 64 by rw [(hG.1 204 (by omega)).2.2]; exact l4)⟩) (by rw [(hG.1 214 (by omega)).2.1]; exact v4) (by omega) (by omega)) (cwS 1 hts gX12_grow_X12_longer rfl rfl rfl (by decide +kernel) ⟨Nat.le_of_ble_eq_true rfl, Nat.le_of_ble_eq_true rfl⟩) ⟨zQc_bl, zQc_at hz hS hA hH⟩ rfl rfl hl.1 rfl (lv_room (Nat.le_of_ble_eq_true rfl)) dX12_grow_77 ⟨Nat.le_of_ble_eq_true rfl, Nat.le_of_ble_eq_true rfl⟩) hS (fun q _ h => h) (fun q h => h) (fun r128 u9 t9 H1 locs ht9 hvm9 hw hB hz1 hk1 hS => ?_)
    obtain ⟨τ129, f130, g131⟩ := u9
    have hH := zMv ht9 hvm9 hB
    clear hB
    simp only at hw hH
    generalize H1 = H at hH hS ⊢
    refine W.widen (k := 5) (n := 640) (by decide) (by decide) ?_
    obtain ⟨rfl, hlg⟩ := hw
    have ha6 : ∀ i, i ≠ 214 → τ129.1 i = τ123.1 i := fun i h => (hlg.1 i h).1
    refine W.eq (g2 := F0 m 80 ls [.ref (τ129.1 214), .ref (τ123.1 30)]) rfl ?_
    rw [show τ123.1 30 = τ129.1 30 from (ha6 30 (by omega)).symm] at hl
    rw [show τ123.1 210 = τ129.1 210 from (ha6 210 (by omega)).symm] at hl
    refine W.eq (g2 := F0 m 80 ls [.ref (τ129.1 214), .ref (τ129.1 30)]) (by rw [ha6 30 (by omega)]) ?_
    refine zPutR (D := D) (ci := 12) (ty := .array .int) (C := RX12) (T := TX12) (N := 71) hx hb hts hiX12 tyX12 tyX12_ok nmX12 hown hH hS (zk_30 hlg.2.2.1) rfl 41 (by decide) rfl hw7 (fun _ h9 => h9) rfl (by rw [hlg.2.1.1]; decide)  (by decide +kernel) rfl rfl dX12_grow_80 (fun H locs hH hS => ?_)
    obtain ⟨g132, eg132⟩ : ∃ f9 : zFr, f9 = zur g131 30 41 (some 214) := ⟨_, rfl⟩
    rw [← eg132] at hH
    have hF133 : zFix τ129 g132 := by rw [eg132]; exact hlg.2.2.1.ur30 (by omega)
    have hG := zGp.step (ia := 204) (ib := 214) (N := 64) (kk := 41) hG (by omega) (by omega) (by omega) (by omega) (by decide) hlg (by omega) eg132 hF133
    have hG : zGp τ fi fr 0 64 5 τ129 f130 g132 := hG
    have hW0 : ∀ k, k < 64 → f130 210 k = fi 200 k := fun k h => by rw [hlg.2.2.2.1 210 k (by omega)]; exact hW0 k h
    refine lv_aload_n hx hb dX12_grow_83 rfl (lv_at hl 0 rfl) ?_
    refine lv_aload_n hx hb dX12_grow_84 rfl (lv_at hl 0 rfl) ?_
    refine zGetR (D := D) (ci := 12) (C := RX12) (T := TX12) (N := 71) hx hb hts hiX12 hown hH (zk_30 hG.2.2.2.2.2.2) rfl 42 (by decide) rfl hw8 (fun _ h9 => h9) dX12_grow_85 (by rw [hG.2.2.2.2.1 30 42 (by omega) (by omega)]; exact r5) ?_
    refine va_callq (va_runS (As := [.ref (τ129.1 205)]) (rest := [.ref (τ129.1 30)]) ⟨hx, hb, hml, hown, hts⟩ (m_longer_64 l hl0 D A sad τ129 f130 g132 ol hG.2.2.2.2.2.2 205 215 (⟨(show τ129.2.2.1 205 = 1 by rw [(hG.1 205 (by omega)).2.1]; exact k5), (show τ129.2.2.2 205 = 64 by rw [(hG.1 205 (by omega)).2.2]; exact l5)⟩) (by rw [(hG.1 215 (by omega)).2.1]; exact v5) (by omega) (by omega)) (cwS 1 hts gX12_grow_X12_longer rfl rfl rfl (by decide +kernel) ⟨Nat.le_of_ble_eq_true rfl, Nat.le_of_ble_eq_true rfl⟩) ⟨zQc_bl, zQc_at hz hS hA hH⟩ rfl rfl hl.1 rfl (lv_room (Nat.le_of_ble_eq_true rfl)) dX12_grow_88 ⟨Nat.le_of_ble_eq_true rfl, Nat.le_of_ble_eq_true rfl⟩) hS (fun q _ h => h) (fun q h => h) (fun r134 u9 t9 H1 locs ht9 hvm9 hw hB hz1 hk1 hS => ?_)
    obtain ⟨τ135, f136, g137⟩ := u9
    have hH := zMv ht9 hvm9 hB
    clear hB
    simp only at hw hH
    generalize H1 = H at hH hS ⊢
    refine W.widen (k := 6) (n := 768) (by decide) (by decide) ?_
    obtain ⟨rfl, hlg⟩ := hw
    have ha6 : ∀ i, i ≠ 215 → τ135.1 i = τ129.1 i := fun i h => (hlg.1 i h).1
    refine W.eq (g2 := F0 m 91 ls [.ref (τ135.1 215), .ref (τ129.1 30)]) rfl ?_
    rw [show τ129.1 30 = τ135.1 30 from (ha6 30 (by omega)).symm] at hl
    rw [show τ129.1 210 = τ135.1 210 from (ha6 210 (by omega)).symm] at hl
    refine W.eq (g2 := F0 m 91 ls [.ref (τ135.1 215), .ref (τ135.1 30)]) (by rw [ha6 30 (by omega)]) ?_
    refine zPutR (D := D) (ci := 12) (ty := .array .int) (C := RX12) (T := TX12) (N := 71) hx hb hts hiX12 tyX12 tyX12_ok nmX12 hown hH hS (zk_30 hlg.2.2.1) rfl 42 (by decide) rfl hw8 (fun _ h9 => h9) rfl (by rw [hlg.2.1.1]; decide)  (by decide +kernel) rfl rfl dX12_grow_91 (fun H locs hH hS => ?_)
    obtain ⟨g138, eg138⟩ : ∃ f9 : zFr, f9 = zur g137 30 42 (some 215) := ⟨_, rfl⟩
    rw [← eg138] at hH
    have hF139 : zFix τ135 g138 := by rw [eg138]; exact hlg.2.2.1.ur30 (by omega)
    have hG := zGp.step (ia := 205) (ib := 215) (N := 64) (kk := 42) hG (by omega) (by omega) (by omega) (by omega) (by decide) hlg (by omega) eg138 hF139
    have hG : zGp τ fi fr 0 64 6 τ135 f136 g138 := hG
    have hW0 : ∀ k, k < 64 → f136 210 k = fi 200 k := fun k h => by rw [hlg.2.2.2.1 210 k (by omega)]; exact hW0 k h
    refine lv_aload_n hx hb dX12_grow_94 rfl (lv_at hl 0 rfl) ?_
    refine lv_aload_n hx hb dX12_grow_95 rfl (lv_at hl 0 rfl) ?_
    refine zGetR (D := D) (ci := 12) (C := RX12) (T := TX12) (N := 71) hx hb hts hiX12 hown hH (zk_30 hG.2.2.2.2.2.2) rfl 43 (by decide) rfl hw9 (fun _ h9 => h9) dX12_grow_96 (by rw [hG.2.2.2.2.1 30 43 (by omega) (by omega)]; exact r6) ?_
    refine va_callq (va_runS (As := [.ref (τ135.1 206)]) (rest := [.ref (τ135.1 30)]) ⟨hx, hb, hml, hown, hts⟩ (m_longer_512 l hl0 D A sad τ135 f136 g138 ol hG.2.2.2.2.2.2 206 216 (⟨(show τ135.2.2.1 206 = 1 by rw [(hG.1 206 (by omega)).2.1]; exact k6), (show τ135.2.2.2 206 = 512 by rw [(hG.1 206 (by omega)).2.2]; exact l6)⟩) (by rw [(hG.1 216 (by omega)).2.1]; exact v6) (by omega) (by omega)) (cwS 1 hts gX12_grow_X12_longer rfl rfl rfl (by decide +kernel) ⟨Nat.le_of_ble_eq_true rfl, Nat.le_of_ble_eq_true rfl⟩) ⟨zQc_bl, zQc_at hz hS hA hH⟩ rfl rfl hl.1 rfl (lv_room (Nat.le_of_ble_eq_true rfl)) dX12_grow_99 ⟨Nat.le_of_ble_eq_true rfl, Nat.le_of_ble_eq_true rfl⟩) hS (fun q _ h => h) (fun q h => h) (fun r140 u9 t9 H1 locs ht9 hvm9 hw hB hz1 hk1 hS => ?_)
    obtain ⟨τ141, f142, g143⟩ := u9
    have hH := zMv ht9 hvm9 hB
    clear hB
    simp only at hw hH
    generalize H1 = H at hH hS ⊢
    refine W.widen (k := 7) (n := 1792) (by decide) (by decide) ?_
    obtain ⟨rfl, hlg⟩ := hw
    have ha6 : ∀ i, i ≠ 216 → τ141.1 i = τ135.1 i := fun i h => (hlg.1 i h).1
    refine W.eq (g2 := F0 m 102 ls [.ref (τ141.1 216), .ref (τ135.1 30)]) rfl ?_
    rw [show τ135.1 30 = τ141.1 30 from (ha6 30 (by omega)).symm] at hl
    rw [show τ135.1 210 = τ141.1 210 from (ha6 210 (by omega)).symm] at hl
    refine W.eq (g2 := F0 m 102 ls [.ref (τ141.1 216), .ref (τ141.1 30)]) (by rw [ha6 30 (by omega)]) ?_
    refine zPutR (D := D) (ci := 12) (ty := .array .int) (C := RX12) (T := TX12) (N := 71) hx hb hts hiX12 tyX12 tyX12_ok nmX12 hown hH hS (zk_30 hlg.2.2.1) rfl 43 (by decide) rfl hw9 (fun _ h9 => h9) rfl (by rw [hlg.2.1.1]; decide)  (by decide +kernel) rfl rfl dX12_grow_102 (fun H locs hH hS => ?_)
    obtain ⟨g144, eg144⟩ : ∃ f9 : zFr, f9 = zur g143 30 43 (some 216) := ⟨_, rfl⟩
    rw [← eg144] at hH
    have hF145 : zFix τ141 g144 := by rw [eg144]; exact hlg.2.2.1.ur30 (by omega)
    have hG := zGp.step (ia := 206) (ib := 216) (N := 512) (kk := 43) hG (by omega) (by omega) (by omega) (by omega) (by decide) hlg (by omega) eg144 hF145
    have hG : zGp τ fi fr 0 64 7 τ141 f142 g144 := hG
    have hW0 : ∀ k, k < 64 → f142 210 k = fi 200 k := fun k h => by rw [hlg.2.2.2.1 210 k (by omega)]; exact hW0 k h
    refine lv_aload_n hx hb dX12_grow_105 rfl (lv_at hl 0 rfl) ?_
    refine lv_aload_n hx hb dX12_grow_106 rfl (lv_at hl 0 rfl) ?_
    refine zGetR (D := D) (ci := 12) (C := RX12) (T := TX12) (N := 71) hx hb hts hiX12 hown hH (zk_30 hG.2.2.2.2.2.2) rfl 44 (by decide) rfl hw10 (fun _ h9 => h9) dX12_grow_107 (by rw [hG.2.2.2.2.1 30 44 (by omega) (by omega)]; exact r7) ?_
    refine va_callq (va_runS (As := [.ref (τ141.1 207)]) (rest := [.ref (τ141.1 30)]) ⟨hx, hb, hml, hown, hts⟩ (m_longer_512 l hl0 D A sad τ141 f142 g144 ol hG.2.2.2.2.2.2 207 217 (⟨(show τ141.2.2.1 207 = 1 by rw [(hG.1 207 (by omega)).2.1]; exact k7), (show τ141.2.2.2 207 = 512 by rw [(hG.1 207 (by omega)).2.2]; exact l7)⟩) (by rw [(hG.1 217 (by omega)).2.1]; exact v7) (by omega) (by omega)) (cwS 1 hts gX12_grow_X12_longer rfl rfl rfl (by decide +kernel) ⟨Nat.le_of_ble_eq_true rfl, Nat.le_of_ble_eq_true rfl⟩) ⟨zQc_bl, zQc_at hz hS hA hH⟩ rfl rfl hl.1 rfl (lv_room (Nat.le_of_ble_eq_true rfl)) dX12_grow_110 ⟨Nat.le_of_ble_eq_true rfl, Nat.le_of_ble_eq_true rfl⟩) hS (fun q _ h => h) (fun q h => h) (fun r146 u9 t9 H1 locs ht9 hvm9 hw hB hz1 hk1 hS => ?_)
    obtain ⟨τ147, f148, g149⟩ := u9
    have hH := zMv ht9 hvm9 hB
    clear hB
    simp only at hw hH
    generalize H1 = H at hH hS ⊢
    refine W.widen (k := 8) (n := 2816) (by decide) (by decide) ?_
    obtain ⟨rfl, hlg⟩ := hw
    have ha6 : ∀ i, i ≠ 217 → τ147.1 i = τ141.1 i := fun i h => (hlg.1 i h).1
    refine W.eq (g2 := F0 m 113 ls [.ref (τ147.1 217), .ref (τ141.1 30)]) rfl ?_
    rw [show τ141.1 30 = τ147.1 30 from (ha6 30 (by omega)).symm] at hl
    rw [show τ141.1 210 = τ147.1 210 from (ha6 210 (by omega)).symm] at hl
    refine W.eq (g2 := F0 m 113 ls [.ref (τ147.1 217), .ref (τ147.1 30)]) (by rw [ha6 30 (by omega)]) ?_
    refine zPutR (D := D) (ci := 12) (ty := .array .int) (C := RX12) (T := TX12) (N := 71) hx hb hts hiX12 tyX12 tyX12_ok nmX12 hown hH hS (zk_30 hlg.2.2.1) rfl 44 (by decide) rfl hw10 (fun _ h9 => h9) rfl (by rw [hlg.2.1.1]; decide)  (by decide +kernel) rfl rfl dX12_grow_113 (fun H locs hH hS => ?_)
    obtain ⟨g150, eg150⟩ : ∃ f9 : zFr, f9 = zur g149 30 44 (some 217) := ⟨_, rfl⟩
    rw [← eg150] at hH
    have hF151 : zFix τ147 g150 := by rw [eg150]; exact hlg.2.2.1.ur30 (by omega)
    have hG := zGp.step (ia := 207) (ib := 217) (N := 512) (kk := 44) hG (by omega) (by omega) (by omega) (by omega) (by decide) hlg (by omega) eg150 hF151
    have hG : zGp τ fi fr 0 64 8 τ147 f148 g150 := hG
    have hW0 : ∀ k, k < 64 → f148 210 k = fi 200 k := fun k h => by rw [hlg.2.2.2.1 210 k (by omega)]; exact hW0 k h
    refine W.widen (k := 8) (n := 2816) (by decide) (by decide) ?_
    exact W.vret hx hb hr (fun t9 ht9 hW9 => ⟨⟨(τ147, f148, g150), rfl, (show (zMq τ147 f148 g150 1 128 64 ∧ zGz τ fr τ147 g150 ∧ ∀ i k, ¬ (200 ≤ i ∧ i < 240) → f148 i k = fi i k) ∧ ∀ j, j < 8 → ∀ k, k < (if j < 6 then 64 else 8 * 64) → f148 (200 + j + 10 * (0 + 1)) k = fi (200 + j + 10 * 0) k from ⟨zGp.done hMq0 (by omega) hG, zGp.cp hG hW0⟩), zEnd1 hH ht9 hW9⟩, hS.F ht9⟩) hS.2.2 dX12_grow_116
  · have zc107 := c107
    replace zc107 := zc_nle (nI_toInt (by omega)) (nI_toInt (by omega)) zc107
    refine lv_aload_n hx hb dX12_grow_19 rfl (lv_at hl 1 rfl) ?_
    refine lv_iload_n hx hb dX12_grow_20 rfl (lv_at hl 2 rfl) ?_
    refine lv_aload_n hx hb dX12_grow_21 rfl (lv_at hl 0 rfl) ?_
    refine zGetR (D := D) (ci := 12) (C := RX12) (T := TX12) (N := 71) hx hb hts hiX12 hown hH (zk_30 hFτ102) rfl 37 (by decide) rfl hw3 (fun _ h9 => h9) dX12_grow_22 (by rw [eg104, va_up_ne _ _ (by omega)]; exact r0) ?_
    refine lv_iload_n hx hb dX12_grow_25 rfl (lv_at hl 2 rfl) ?_
    refine zZaldN (D := D) hx hb hH (show τ102.2.2.1 200 = 3 by rw [(hbτ102 200 (by omega)).1]; exact k0) (show τ102.2.2.2 200 = 64 by rw [(hbτ102 200 (by omega)).2]; exact l0) (by omega) (by omega) rfl dX12_grow_26 ?_
    refine zZastN (D := D) hx hb hH hS hkτ102 hnτ102 (by omega) (by omega) dX12_grow_27 (fun H locs hH hS => ?_)
    obtain ⟨f152, ef152⟩ : ∃ f9 : zFi, f9 = zu f 210 i (vp_nar .boolean (f 200 i)) := ⟨_, rfl⟩
    rw [← ef152] at hH
    have q153 : f152 30 35 = nI 64 := by rw [ef152, zu_n (fun h9 => absurd h9.1 (by decide))]; exact q35
    have q154 : f152 210 i = (vp_nar .boolean (f 200 i)) := by rw [ef152]; exact zu_s
    refine lv_iinc (v := nI (i + 1)) (lv' := [(2, .int (nI (i + 1))), (0, .ref (τ102.1 30)), (1, .ref (τ102.1 210))]) hx hb dX12_grow_28 hl (k := 2) rfl (by rw [show (Int32.ofInt 1 : Int32) = nI 1 from by decide, nI_add]) (by decide) rfl (fun ls hl => ?_)
    refine lv_goto (tgt := 11) hx hb dX12_grow_31 (by decide) ?_
    exact ih106 (64 - (i + 1)) (by omega) (i + 1, f152) _ _ _ (show 64 - (i + 1) = 64 - (i + 1) ∧ ((i + 1) ≤ 64 ∧ (∀ k, k < (i + 1) → f152 210 k = fi 200 k) ∧ ∀ i9 k, i9 ≠ 210 → f152 i9 k = fi i9 k) ∧ zH D A τ102 f152 g104 ol s _ ∧ va_S A s.heap _ _ ∧ lv_has _ 3 [(0, .ref (τ102.1 30)), (1, .ref (τ102.1 210)), (2, .int (nI (i + 1)))] from ⟨rfl, ⟨by omega, fun k h => by by_cases h7 : k = i; (subst h7; rw [ef152, zu_s, hfr 200 k (by omega)]; exact zNarB (hbl k (by omega))); (rw [ef152, zu_n (by omega)]; exact hwc k (by omega)), fun i9 k h => by rw [ef152, zu_n (by omega)]; exact hfr i9 k h⟩, hH, hS, lv_sub hl [1, 2, 0] rfl⟩)
set_option maxHeartbeats 4000000 in
set_option maxRecDepth 100000 in
/-- grow -/
theorem m_growN_1 (l : Launch) (hl0 : l.stackTraces = false) (D : va_G) (A : Nat → Prop) (sad : Nat → Nat) (τ : zTy) (fi : zFi) (fr : zFr) (ol : Int64) (hF : zFix τ fr) (hMq : zMq τ fi fr 1 128 128) (hbl : ∀ k, k < 128 → fi 210 k = 0 ∨ fi 210 k = 1) : Met l yX12_grow wsX12_grow ({ frames := 1, cells := 8, slots := 5632, locals := 22 }) (va_Pc [.ref (τ.1 30)] (zQc D A sad τ fi fr ol)) (va_Qv (fun (u : zTy × zFi × zFr) => (zMq u.1 u.2.1 u.2.2 2 256 128 ∧ zGz τ fr u.1 u.2.2 ∧ ∀ i k, ¬ (200 ≤ i ∧ i < 240) → u.2.1 i k = fi i k) ∧ ∀ j, j < 8 → ∀ k, k < (if j < 6 then 128 else 8 * 128) → u.2.1 (200 + j + 10 * (1 + 1)) k = fi (200 + j + 10 * 1) k) (fun (u : zTy × zFi × zFr) (t : State) => zH D A u.1 u.2.1 u.2.2 ol t t.heap) A) 8 5632 A := by
  refine Met.ofW (cc := cX12_grow) (maxL := 3) (ret := none) (by decide) rfl ?_
  intro p9 e9 s m args below meth c9 s₁ B hml hv
  obtain ⟨rfl, hz, hH, hA⟩ := hv
  have hx := B.exec
  have hb := B.bytes
  have hr := B.returns
  have hts := atoms_spec (ws := wsX12_grow) B.pre
  have hown : s.vm.findClass RX12 = some m.cls := findClass_of_methodNamed B.named
  have hlocks := B.notSynchronized
  have hS : va_S A s.heap s.heap [] := va_S.rf
  have hl := lv_entry ([.ref (τ.1 30)]) (n := 3) (Nat.le_of_ble_eq_true rfl)
  rw [lg_entry_eq]
  generalize (lg_sl ([.ref (τ.1 30)]) ++ List.replicate (3 - (lg_sl ([.ref (τ.1 30)])).length) Slot.unset).toArray = ls at hl ⊢
  have hl : lv_has ls 3 [(0, .ref (τ.1 30))] := hl
  have hMq0 := hMq
  obtain ⟨-, -, h35, ⟨⟨k0, l0⟩, ⟨k1, l1⟩, ⟨k2, l2⟩, ⟨k3, l3⟩, ⟨k4, l4⟩, ⟨k5, l5⟩, ⟨k6, l6⟩, ⟨k7, l7⟩⟩, ⟨r0, r1, r2, r3, r4, r5, r6, r7⟩, -, hvd⟩ := hMq
  have k0 : τ.2.2.1 210 = 3 := k0
  have l0 : τ.2.2.2 210 = 128 := l0
  have r0 : fr 30 37 = some 210 := r0
  have v0 : τ.2.2.1 220 = 0 := hvd 2 (by omega) (by omega) 0 (by omega)
  have k1 : τ.2.2.1 211 = 1 := k1
  have l1 : τ.2.2.2 211 = 128 := l1
  have r1 : fr 30 38 = some 211 := r1
  have v1 : τ.2.2.1 221 = 0 := hvd 2 (by omega) (by omega) 1 (by omega)
  have k2 : τ.2.2.1 212 = 1 := k2
  have l2 : τ.2.2.2 212 = 128 := l2
  have r2 : fr 30 39 = some 212 := r2
  have v2 : τ.2.2.1 222 = 0 := hvd 2 (by omega) (by omega) 2 (by omega)
  have k3 : τ.2.2.1 213 = 1 := k3
  have l3 : τ.2.2.2 213 = 128 := l3
  have r3 : fr 30 40 = some 213 := r3
  have v3 : τ.2.2.1 223 = 0 := hvd 2 (by omega) (by omega) 3 (by omega)
  have k4 : τ.2.2.1 214 = 1 := k4
  have l4 : τ.2.2.2 214 = 128 := l4
  have r4 : fr 30 41 = some 214 := r4
  have v4 : τ.2.2.1 224 = 0 := hvd 2 (by omega) (by omega) 4 (by omega)
  have k5 : τ.2.2.1 215 = 1 := k5
  have l5 : τ.2.2.2 215 = 128 := l5
  have r5 : fr 30 42 = some 215 := r5
  have v5 : τ.2.2.1 225 = 0 := hvd 2 (by omega) (by omega) 5 (by omega)
  have k6 : τ.2.2.1 216 = 1 := k6
  have l6 : τ.2.2.2 216 = 1024 := l6
  have r6 : fr 30 43 = some 216 := r6
  have v6 : τ.2.2.1 226 = 0 := hvd 2 (by omega) (by omega) 6 (by omega)
  have k7 : τ.2.2.1 217 = 1 := k7
  have l7 : τ.2.2.2 217 = 1024 := l7
  have r7 : fr 30 44 = some 217 := r7
  have v7 : τ.2.2.1 227 = 0 := hvd 2 (by omega) (by omega) 7 (by omega)
  have hiX12 : ∀ w ∈ u_ws RX12 TX12 71, w ∈ wsX12_grow := fun _ h => List.mem_cons_of_mem _ (List.mem_append_right _ h)
  have hw1 := hts (.fieldLink RX12 320 "PostHouseModel" "doubts" "I") (by decide +kernel)
  have hw2 := hts (.arrayClass .boolean) (by decide +kernel)
  have hw3 := hts (.fieldLink RX12 71 "PostHouseModel" "doubtWaits" "[Z") (by decide +kernel)
  have hw4 := hts (.fieldLink RX12 75 "PostHouseModel" "doubtMendings" "[I") (by decide +kernel)
  have hw5 := hts (.fieldLink RX12 78 "PostHouseModel" "doubtLines" "[I") (by decide +kernel)
  have hw6 := hts (.fieldLink RX12 81 "PostHouseModel" "doubtKnown" "[I") (by decide +kernel)
  have hw7 := hts (.fieldLink RX12 84 "PostHouseModel" "doubtSum" "[I") (by decide +kernel)
  have hw8 := hts (.fieldLink RX12 87 "PostHouseModel" "doubtMoney" "[I") (by decide +kernel)
  have hw9 := hts (.fieldLink RX12 90 "PostHouseModel" "doubtCode" "[I") (by decide +kernel)
  have hw10 := hts (.fieldLink RX12 93 "PostHouseModel" "doubtMany" "[I") (by decide +kernel)
  refine lv_iconst (v := nI 2) hx hb dX12_grow_0 (by decide) ?_
  refine lv_aload_n hx hb dX12_grow_1 rfl (lv_at hl 0 rfl) ?_
  refine zGetI (D := D) (ci := 12) (C := RX12) (T := TX12) (N := 71) hx hb hts hiX12 hown hH (zk_30 hF) rfl 35 (by decide) rfl hw1 (fun _ h9 => h9) dX12_grow_2 h35 ?_
  refine lv_imul hx hb dX12_grow_5 ?_
  refine lv_topi (fun v101 ev101 => ?_)
  obtain rfl : v101 = nI 256 := ev101.trans (by decide)
  refine zNewa (D := D) (atype := .boolean) (t := 3) (N' := 256) hx hb hw2 rfl (by decide) (by decide) rfl hH hS hA 220 v0 (by decide) (by decide) (by first | decide | (simp only [zT, componentBytes]; omega)) (Nat.le_of_ble_eq_true rfl) (Nat.le_of_ble_eq_true rfl) dX12_grow_6 (fun q9 c9 H hH8 hS => ?_)
  obtain ⟨τ102, eτ102⟩ : ∃ t9 : zTy, t9 = (va_up τ.1 220 q9, va_up τ.2.1 220 c9, va_up τ.2.2.1 220 3, va_up τ.2.2.2 220 256) := ⟨_, rfl⟩
  obtain ⟨f103, ef103⟩ : ∃ f9 : zFi, f9 = va_up fi 220 (fun _ => 0) := ⟨_, rfl⟩
  obtain ⟨g104, eg104⟩ : ∃ f9 : zFr, f9 = va_up fr 220 (fun _ => none) := ⟨_, rfl⟩
  have hH : zH D A τ102 f103 g104 ol s H := by rw [eτ102, ef103, eg104]; exact hH8
  clear hH8
  have hqτ102 : τ102.1 220 = q9 := by rw [eτ102]; exact va_up_self τ.1 220 q9
  have haτ102 : ∀ i, i ≠ 220 → τ102.1 i = τ.1 i := fun i h => by rw [eτ102]; exact va_up_ne _ _ h
  have hkτ102 : τ102.2.2.1 220 = 3 := by rw [eτ102]; exact va_up_self τ.2.2.1 220 3
  have hnτ102 : τ102.2.2.2 220 = 256 := by rw [eτ102]; exact va_up_self τ.2.2.2 220 256
  have hbτ102 : ∀ i, i ≠ 220 → τ102.2.2.1 i = τ.2.2.1 i ∧ τ102.2.2.2 i = τ.2.2.2 i := fun i h => by rw [eτ102]; exact ⟨va_up_ne _ _ h, va_up_ne _ _ h⟩
  have hFτ102 : zFix τ102 g104 := by rw [eτ102, eg104]; exact hF.up (by omega)
  clear eτ102
  subst hqτ102
  rw [show τ.1 30 = τ102.1 30 from (haτ102 30 (by omega)).symm] at hl
  have q105 : f103 30 35 = nI 128 := by rw [ef103, va_up_ne _ _ (by omega)]; exact h35
  refine W.widen (k := 1) (n := 256) (by decide) (by decide) ?_
  refine lv_astore_n (lv' := [(1, .ref (τ102.1 220)), (0, .ref (τ102.1 30))]) hx hb dX12_grow_8 rfl hl (by decide) rfl (fun ls hl => ?_)
  refine lv_iconst (v := nI 0) hx hb dX12_grow_9 (by decide) ?_
  refine lv_istore_n (lv' := [(2, .int (nI 0)), (1, .ref (τ102.1 220)), (0, .ref (τ102.1 30))]) hx hb dX12_grow_10 rfl hl (by decide) rfl (fun ls hl => ?_)
  refine zLp (σ := Nat × zFi) (fun x9 k9 H locs ls => (fun (i : Nat) (f : zFi) => k9 = 128 - i ∧ (i ≤ 128 ∧ (∀ k, k < i → f 220 k = fi 210 k) ∧ ∀ i9 k, i9 ≠ 220 → f i9 k = fi i9 k) ∧ zH D A τ102 f g104 ol s H ∧ va_S A s.heap H locs ∧ lv_has ls 3 [(0, .ref (τ102.1 30)), (1, .ref (τ102.1 220)), (2, .int (nI i))]) x9.1 x9.2) (0, f103) (128 - 0) (show 128 - 0 = 128 - 0 ∧ (0 ≤ 128 ∧ (∀ k, k < 0 → f103 220 k = fi 210 k) ∧ ∀ i9 k, i9 ≠ 220 → f103 i9 k = fi i9 k) ∧ zH D A τ102 f103 g104 ol s _ ∧ va_S A s.heap _ _ ∧ lv_has _ 3 [(0, .ref (τ102.1 30)), (1, .ref (τ102.1 220)), (2, .int (nI 0))] from ⟨rfl, ⟨Nat.zero_le _, fun k h => absurd h (by omega), fun i k h => by rw [ef103, va_up_ne _ _ h]⟩, hH, hS, lv_sub hl [2, 1, 0] rfl⟩) (fun k9 ih x9 H locs ls hv9 => ?_)
  obtain ⟨i, f⟩ := x9
  have hv9 : k9 = 128 - i ∧ (i ≤ 128 ∧ (∀ k, k < i → f 220 k = fi 210 k) ∧ ∀ i9 k, i9 ≠ 220 → f i9 k = fi i9 k) ∧ zH D A τ102 f g104 ol s H ∧ va_S A s.heap H locs ∧ lv_has ls 3 [(0, .ref (τ102.1 30)), (1, .ref (τ102.1 220)), (2, .int (nI i))] := hv9
  obtain ⟨hkih106, hv9, hH, hS, hl⟩ := hv9
  obtain ⟨h1, hwc, hfr⟩ := hv9
  have ih106 := ih
  clear ih
  have q35 : f 30 35 = nI 128 := by rw [hfr 30 35 (by omega)]; exact h35
  refine lv_iload_n hx hb dX12_grow_11 rfl (lv_at hl 2 rfl) ?_
  refine lv_aload_n hx hb dX12_grow_12 rfl (lv_at hl 0 rfl) ?_
  refine zGetI (D := D) (ci := 12) (C := RX12) (T := TX12) (N := 71) hx hb hts hiX12 hown hH (zk_30 hFτ102) rfl 35 (by decide) rfl hw1 (fun _ h9 => h9) dX12_grow_13 q35 ?_
  refine lv_icmp_ge (tgt := 34) hx hb dX12_grow_16 (by decide) (fun c107 => ?_) (fun c107 => ?_)
  · have zc107 := c107
    replace zc107 := zc_le (nI_toInt (by omega)) (nI_toInt (by omega)) zc107
    refine lv_aload_n hx hb dX12_grow_34 rfl (lv_at hl 0 rfl) ?_
    refine lv_aload_n hx hb dX12_grow_35 rfl (lv_at hl 1 rfl) ?_
    refine zPutR (D := D) (ci := 12) (ty := .array .boolean) (C := RX12) (T := TX12) (N := 71) hx hb hts hiX12 tyX12 tyX12_ok nmX12 hown hH hS (zk_30 hFτ102) rfl 37 (by decide) rfl hw3 (fun _ h9 => h9) rfl (by rw [hkτ102]; decide)  (by decide +kernel) rfl rfl dX12_grow_36 (fun H locs hH hS => ?_)
    obtain ⟨g108, eg108⟩ : ∃ f9 : zFr, f9 = zur g104 30 37 (some 220) := ⟨_, rfl⟩
    rw [← eg108] at hH
    have hF109 : zFix τ102 g108 := by rw [eg108]; exact hFτ102.ur30 (by omega)
    have hG : zGp τ fi fr 1 128 1 τ102 f g108 := zGp.first (ib := 220) (by omega) haτ102 hbτ102 hkτ102 hnτ102 hfr eg104 eg108 hF109
    have hW0 : ∀ k, k < 128 → f 220 k = fi 210 k := fun k h => hwc k (by omega)
    refine lv_aload_n hx hb dX12_grow_39 rfl (lv_at hl 0 rfl) ?_
    refine lv_aload_n hx hb dX12_grow_40 rfl (lv_at hl 0 rfl) ?_
    refine zGetR (D := D) (ci := 12) (C := RX12) (T := TX12) (N := 71) hx hb hts hiX12 hown hH (zk_30 hG.2.2.2.2.2.2) rfl 38 (by decide) rfl hw4 (fun _ h9 => h9) dX12_grow_41 (by rw [hG.2.2.2.2.1 30 38 (by omega) (by omega)]; exact r1) ?_
    refine va_callq (va_runS (As := [.ref (τ102.1 211)]) (rest := [.ref (τ102.1 30)]) ⟨hx, hb, hml, hown, hts⟩ (m_longer_128 l hl0 D A sad τ102 f g108 ol hG.2.2.2.2.2.2 211 221 (⟨(show τ102.2.2.1 211 = 1 by rw [(hG.1 211 (by omega)).2.1]; exact k1), (show τ102.2.2.2 211 = 128 by rw [(hG.1 211 (by omega)).2.2]; exact l1)⟩) (by rw [(hG.1 221 (by omega)).2.1]; exact v1) (by omega) (by omega)) (cwS 1 hts gX12_grow_X12_longer rfl rfl rfl (by decide +kernel) ⟨Nat.le_of_ble_eq_true rfl, Nat.le_of_ble_eq_true rfl⟩) ⟨zQc_bl, zQc_at hz hS hA hH⟩ rfl rfl hl.1 rfl (lv_room (Nat.le_of_ble_eq_true rfl)) dX12_grow_44 ⟨Nat.le_of_ble_eq_true rfl, Nat.le_of_ble_eq_true rfl⟩) hS (fun q _ h => h) (fun q h => h) (fun r110 u9 t9 H1 locs ht9 hvm9 hw hB hz1 hk1 hS => ?_)
    obtain ⟨τ111, f112, g113⟩ := u9
    have hH := zMv ht9 hvm9 hB
    clear hB
    simp only at hw hH
    generalize H1 = H at hH hS ⊢
    refine W.widen (k := 2) (n := 512) (by decide) (by decide) ?_
    obtain ⟨rfl, hlg⟩ := hw
    have ha6 : ∀ i, i ≠ 221 → τ111.1 i = τ102.1 i := fun i h => (hlg.1 i h).1
    refine W.eq (g2 := F0 m 47 ls [.ref (τ111.1 221), .ref (τ102.1 30)]) rfl ?_
    rw [show τ102.1 30 = τ111.1 30 from (ha6 30 (by omega)).symm] at hl
    rw [show τ102.1 220 = τ111.1 220 from (ha6 220 (by omega)).symm] at hl
    refine W.eq (g2 := F0 m 47 ls [.ref (τ111.1 221), .ref (τ111.1 30)]) (by rw [ha6 30 (by omega)]) ?_
    refine zPutR (D := D) (ci := 12) (ty := .array .int) (C := RX12) (T := TX12) (N := 71) hx hb hts hiX12 tyX12 tyX12_ok nmX12 hown hH hS (zk_30 hlg.2.2.1) rfl 38 (by decide) rfl hw4 (fun _ h9 => h9) rfl (by rw [hlg.2.1.1]; decide)  (by decide +kernel) rfl rfl dX12_grow_47 (fun H locs hH hS => ?_)
    obtain ⟨g114, eg114⟩ : ∃ f9 : zFr, f9 = zur g113 30 38 (some 221) := ⟨_, rfl⟩
    rw [← eg114] at hH
    have hF115 : zFix τ111 g114 := by rw [eg114]; exact hlg.2.2.1.ur30 (by omega)
    have hG := zGp.step (ia := 211) (ib := 221) (N := 128) (kk := 38) hG (by omega) (by omega) (by omega) (by omega) (by decide) hlg (by omega) eg114 hF115
    have hG : zGp τ fi fr 1 128 2 τ111 f112 g114 := hG
    have hW0 : ∀ k, k < 128 → f112 220 k = fi 210 k := fun k h => by rw [hlg.2.2.2.1 220 k (by omega)]; exact hW0 k h
    refine lv_aload_n hx hb dX12_grow_50 rfl (lv_at hl 0 rfl) ?_
    refine lv_aload_n hx hb dX12_grow_51 rfl (lv_at hl 0 rfl) ?_
    refine zGetR (D := D) (ci := 12) (C := RX12) (T := TX12) (N := 71) hx hb hts hiX12 hown hH (zk_30 hG.2.2.2.2.2.2) rfl 39 (by decide) rfl hw5 (fun _ h9 => h9) dX12_grow_52 (by rw [hG.2.2.2.2.1 30 39 (by omega) (by omega)]; exact r2) ?_
    refine va_callq (va_runS (As := [.ref (τ111.1 212)]) (rest := [.ref (τ111.1 30)]) ⟨hx, hb, hml, hown, hts⟩ (m_longer_128 l hl0 D A sad τ111 f112 g114 ol hG.2.2.2.2.2.2 212 222 (⟨(show τ111.2.2.1 212 = 1 by rw [(hG.1 212 (by omega)).2.1]; exact k2), (show τ111.2.2.2 212 = 128 by rw [(hG.1 212 (by omega)).2.2]; exact l2)⟩) (by rw [(hG.1 222 (by omega)).2.1]; exact v2) (by omega) (by omega)) (cwS 1 hts gX12_grow_X12_longer rfl rfl rfl (by decide +kernel) ⟨Nat.le_of_ble_eq_true rfl, Nat.le_of_ble_eq_true rfl⟩) ⟨zQc_bl, zQc_at hz hS hA hH⟩ rfl rfl hl.1 rfl (lv_room (Nat.le_of_ble_eq_true rfl)) dX12_grow_55 ⟨Nat.le_of_ble_eq_true rfl, Nat.le_of_ble_eq_true rfl⟩) hS (fun q _ h => h) (fun q h => h) (fun r116 u9 t9 H1 locs ht9 hvm9 hw hB hz1 hk1 hS => ?_)
    obtain ⟨τ117, f118, g119⟩ := u9
    have hH := zMv ht9 hvm9 hB
    clear hB
    simp only at hw hH
    generalize H1 = H at hH hS ⊢
    refine W.widen (k := 3) (n := 768) (by decide) (by decide) ?_
    obtain ⟨rfl, hlg⟩ := hw
    have ha6 : ∀ i, i ≠ 222 → τ117.1 i = τ111.1 i := fun i h => (hlg.1 i h).1
    refine W.eq (g2 := F0 m 58 ls [.ref (τ117.1 222), .ref (τ111.1 30)]) rfl ?_
    rw [show τ111.1 30 = τ117.1 30 from (ha6 30 (by omega)).symm] at hl
    rw [show τ111.1 220 = τ117.1 220 from (ha6 220 (by omega)).symm] at hl
    refine W.eq (g2 := F0 m 58 ls [.ref (τ117.1 222), .ref (τ117.1 30)]) (by rw [ha6 30 (by omega)]) ?_
    refine zPutR (D := D) (ci := 12) (ty := .array .int) (C := RX12) (T := TX12) (N := 71) hx hb hts hiX12 tyX12 tyX12_ok nmX12 hown hH hS (zk_30 hlg.2.2.1) rfl 39 (by decide) rfl hw5 (fun _ h9 => h9) rfl (by rw [hlg.2.1.1]; decide)  (by decide +kernel) rfl rfl dX12_grow_58 (fun H locs hH hS => ?_)
    obtain ⟨g120, eg120⟩ : ∃ f9 : zFr, f9 = zur g119 30 39 (some 222) := ⟨_, rfl⟩
    rw [← eg120] at hH
    have hF121 : zFix τ117 g120 := by rw [eg120]; exact hlg.2.2.1.ur30 (by omega)
    have hG := zGp.step (ia := 212) (ib := 222) (N := 128) (kk := 39) hG (by omega) (by omega) (by omega) (by omega) (by decide) hlg (by omega) eg120 hF121
    have hG : zGp τ fi fr 1 128 3 τ117 f118 g120 := hG
    have hW0 : ∀ k, k < 128 → f118 220 k = fi 210 k := fun k h => by rw [hlg.2.2.2.1 220 k (by omega)]; exact hW0 k h
    refine lv_aload_n hx hb dX12_grow_61 rfl (lv_at hl 0 rfl) ?_
    refine lv_aload_n hx hb dX12_grow_62 rfl (lv_at hl 0 rfl) ?_
    refine zGetR (D := D) (ci := 12) (C := RX12) (T := TX12) (N := 71) hx hb hts hiX12 hown hH (zk_30 hG.2.2.2.2.2.2) rfl 40 (by decide) rfl hw6 (fun _ h9 => h9) dX12_grow_63 (by rw [hG.2.2.2.2.1 30 40 (by omega) (by omega)]; exact r3) ?_
    refine va_callq (va_runS (As := [.ref (τ117.1 213)]) (rest := [.ref (τ117.1 30)]) ⟨hx, hb, hml, hown, hts⟩ (m_longer_128 l hl0 D A sad τ117 f118 g120 ol hG.2.2.2.2.2.2 213 223 (⟨(show τ117.2.2.1 213 = 1 by rw [(hG.1 213 (by omega)).2.1]; exact k3), (show τ117.2.2.2 213 = 128 by rw [(hG.1 213 (by omega)).2.2]; exact l3)⟩) (by rw [(hG.1 223 (by omega)).2.1]; exact v3) (by omega) (by omega)) (cwS 1 hts gX12_grow_X12_longer rfl rfl rfl (by decide +kernel) ⟨Nat.le_of_ble_eq_true rfl, Nat.le_of_ble_eq_true rfl⟩) ⟨zQc_bl, zQc_at hz hS hA hH⟩ rfl rfl hl.1 rfl (lv_room (Nat.le_of_ble_eq_true rfl)) dX12_grow_66 ⟨Nat.le_of_ble_eq_true rfl, Nat.le_of_ble_eq_true rfl⟩) hS (fun q _ h => h) (fun q h => h) (fun r122 u9 t9 H1 locs ht9 hvm9 hw hB hz1 hk1 hS => ?_)
    obtain ⟨τ123, f124, g125⟩ := u9
    have hH := zMv ht9 hvm9 hB
    clear hB
    simp only at hw hH
    generalize H1 = H at hH hS ⊢
    refine W.widen (k := 4) (n := 1024) (by decide) (by decide) ?_
    obtain ⟨rfl, hlg⟩ := hw
    have ha6 : ∀ i, i ≠ 223 → τ123.1 i = τ117.1 i := fun i h => (hlg.1 i h).1
    refine W.eq (g2 := F0 m 69 ls [.ref (τ123.1 223), .ref (τ117.1 30)]) rfl ?_
    rw [show τ117.1 30 = τ123.1 30 from (ha6 30 (by omega)).symm] at hl
    rw [show τ117.1 220 = τ123.1 220 from (ha6 220 (by omega)).symm] at hl
    refine W.eq (g2 := F0 m 69 ls [.ref (τ123.1 223), .ref (τ123.1 30)]) (by rw [ha6 30 (by omega)]) ?_
    refine zPutR (D := D) (ci := 12) (ty := .array .int) (C := RX12) (T := TX12) (N := 71) hx hb hts hiX12 tyX12 tyX12_ok nmX12 hown hH hS (zk_30 hlg.2.2.1) rfl 40 (by decide) rfl hw6 (fun _ h9 => h9) rfl (by rw [hlg.2.1.1]; decide)  (by decide +kernel) rfl rfl dX12_grow_69 (fun H locs hH hS => ?_)
    obtain ⟨g126, eg126⟩ : ∃ f9 : zFr, f9 = zur g125 30 40 (some 223) := ⟨_, rfl⟩
    rw [← eg126] at hH
    have hF127 : zFix τ123 g126 := by rw [eg126]; exact hlg.2.2.1.ur30 (by omega)
    have hG := zGp.step (ia := 213) (ib := 223) (N := 128) (kk := 40) hG (by omega) (by omega) (by omega) (by omega) (by decide) hlg (by omega) eg126 hF127
    have hG : zGp τ fi fr 1 128 4 τ123 f124 g126 := hG
    have hW0 : ∀ k, k < 128 → f124 220 k = fi 210 k := fun k h => by rw [hlg.2.2.2.1 220 k (by omega)]; exact hW0 k h
    refine lv_aload_n hx hb dX12_grow_72 rfl (lv_at hl 0 rfl) ?_
    refine lv_aload_n hx hb dX12_grow_73 rfl (lv_at hl 0 rfl) ?_
    refine zGetR (D := D) (ci := 12) (C := RX12) (T := TX12) (N := 71) hx hb hts hiX12 hown hH (zk_30 hG.2.2.2.2.2.2) rfl 41 (by decide) rfl hw7 (fun _ h9 => h9) dX12_grow_74 (by rw [hG.2.2.2.2.1 30 41 (by omega) (by omega)]; exact r4) ?_
    refine va_callq (va_runS (As := [.ref (τ123.1 214)]) (rest := [.ref (τ123.1 30)]) ⟨hx, hb, hml, hown, hts⟩ (m_longer_128 l hl0 D A sad τ123 f124 g126 ol hG.2.2.2.2.2.2 214 224 (⟨(show τ123.2.2.1 214 = 1 by rw [(hG.1 214 (by omega)).2.1]; exact k4), (show τ123.2.2.2 214 = 128 by rw [(hG.1 214 (by omega)).2.2]; exact l4)⟩) (by rw [(hG.1 224 (by omega)).2.1]; exact v4) (by omega) (by omega)) (cwS 1 hts gX12_grow_X12_longer rfl rfl rfl (by decide +kernel) ⟨Nat.le_of_ble_eq_true rfl, Nat.le_of_ble_eq_true rfl⟩) ⟨zQc_bl, zQc_at hz hS hA hH⟩ rfl rfl hl.1 rfl (lv_room (Nat.le_of_ble_eq_true rfl)) dX12_grow_77 ⟨Nat.le_of_ble_eq_true rfl, Nat.le_of_ble_eq_true rfl⟩) hS (fun q _ h => h) (fun q h => h) (fun r128 u9 t9 H1 locs ht9 hvm9 hw hB hz1 hk1 hS => ?_)
    obtain ⟨τ129, f130, g131⟩ := u9
    have hH := zMv ht9 hvm9 hB
    clear hB
    simp only at hw hH
    generalize H1 = H at hH hS ⊢
    refine W.widen (k := 5) (n := 1280) (by decide) (by decide) ?_
    obtain ⟨rfl, hlg⟩ := hw
    have ha6 : ∀ i, i ≠ 224 → τ129.1 i = τ123.1 i := fun i h => (hlg.1 i h).1
    refine W.eq (g2 := F0 m 80 ls [.ref (τ129.1 224), .ref (τ123.1 30)]) rfl ?_
    rw [show τ123.1 30 = τ129.1 30 from (ha6 30 (by omega)).symm] at hl
    rw [show τ123.1 220 = τ129.1 220 from (ha6 220 (by omega)).symm] at hl
    refine W.eq (g2 := F0 m 80 ls [.ref (τ129.1 224), .ref (τ129.1 30)]) (by rw [ha6 30 (by omega)]) ?_
    refine zPutR (D := D) (ci := 12) (ty := .array .int) (C := RX12) (T := TX12) (N := 71) hx hb hts hiX12 tyX12 tyX12_ok nmX12 hown hH hS (zk_30 hlg.2.2.1) rfl 41 (by decide) rfl hw7 (fun _ h9 => h9) rfl (by rw [hlg.2.1.1]; decide)  (by decide +kernel) rfl rfl dX12_grow_80 (fun H locs hH hS => ?_)
    obtain ⟨g132, eg132⟩ : ∃ f9 : zFr, f9 = zur g131 30 41 (some 224) := ⟨_, rfl⟩
    rw [← eg132] at hH
    have hF133 : zFix τ129 g132 := by rw [eg132]; exact hlg.2.2.1.ur30 (by omega)
    have hG := zGp.step (ia := 214) (ib := 224) (N := 128) (kk := 41) hG (by omega) (by omega) (by omega) (by omega) (by decide) hlg (by omega) eg132 hF133
    have hG : zGp τ fi fr 1 128 5 τ129 f130 g132 := hG
    have hW0 : ∀ k, k < 128 → f130 220 k = fi 210 k := fun k h => by rw [hlg.2.2.2.1 220 k (by omega)]; exact hW0 k h
    refine lv_aload_n hx hb dX12_grow_83 rfl (lv_at hl 0 rfl) ?_
    refine lv_aload_n hx hb dX12_grow_84 rfl (lv_at hl 0 rfl) ?_
    refine zGetR (D := D) (ci := 12) (C := RX12) (T := TX12) (N := 71) hx hb hts hiX12 hown hH (zk_30 hG.2.2.2.2.2.2) rfl 42 (by decide) rfl hw8 (fun _ h9 => h9) dX12_grow_85 (by rw [hG.2.2.2.2.1 30 42 (by omega) (by omega)]; exact r5) ?_
    refine va_callq (va_runS (As := [.ref (τ129.1 215)]) (rest := [.ref (τ129.1 30)]) ⟨hx, hb, hml, hown, hts⟩ (m_longer_128 l hl0 D A sad τ129 f130 g132 ol hG.2.2.2.2.2.2 215 225 (⟨(show τ129.2.2.1 215 = 1 by rw [(hG.1 215 (by omega)).2.1]; exact k5), (show τ129.2.2.2 215 = 128 by rw [(hG.1 215 (by omega)).2.2]; exact l5)⟩) (by rw [(hG.1 225 (by omega)).2.1]; exact v5) (by omega) (by omega)) (cwS 1 hts gX12_grow_X12_longer rfl rfl rfl (by decide +kernel) ⟨Nat.le_of_ble_eq_true rfl, Nat.le_of_ble_eq_true rfl⟩) ⟨zQc_bl, zQc_at hz hS hA hH⟩ rfl rfl hl.1 rfl (lv_room (Nat.le_of_ble_eq_true rfl)) dX12_grow_88 ⟨Nat.le_of_ble_eq_true rfl, Nat.le_of_ble_eq_true rfl⟩) hS (fun q _ h => h) (fun q h => h) (fun r134 u9 t9 H1 locs ht9 hvm9 hw hB hz1 hk1 hS => ?_)
    obtain ⟨τ135, f136, g137⟩ := u9
    have hH := zMv ht9 hvm9 hB
    clear hB
    simp only at hw hH
    generalize H1 = H at hH hS ⊢
    refine W.widen (k := 6) (n := 1536) (by decide) (by decide) ?_
    obtain ⟨rfl, hlg⟩ := hw
    have ha6 : ∀ i, i ≠ 225 → τ135.1 i = τ129.1 i := fun i h => (hlg.1 i h).1
    refine W.eq (g2 := F0 m 91 ls [.ref (τ135.1 225), .ref (τ129.1 30)]) rfl ?_
    rw [show τ129.1 30 = τ135.1 30 from (ha6 30 (by omega)).symm] at hl
    rw [show τ129.1 220 = τ135.1 220 from (ha6 220 (by omega)).symm] at hl
    refine W.eq (g2 := F0 m 91 ls [.ref (τ135.1 225), .ref (τ135.1 30)]) (by rw [ha6 30 (by omega)]) ?_
    refine zPutR (D := D) (ci := 12) (ty := .array .int) (C := RX12) (T := TX12) (N := 71) hx hb hts hiX12 tyX12 tyX12_ok nmX12 hown hH hS (zk_30 hlg.2.2.1) rfl 42 (by decide) rfl hw8 (fun _ h9 => h9) rfl (by rw [hlg.2.1.1]; decide)  (by decide +kernel) rfl rfl dX12_grow_91 (fun H locs hH hS => ?_)
    obtain ⟨g138, eg138⟩ : ∃ f9 : zFr, f9 = zur g137 30 42 (some 225) := ⟨_, rfl⟩
    rw [← eg138] at hH
    have hF139 : zFix τ135 g138 := by rw [eg138]; exact hlg.2.2.1.ur30 (by omega)
    have hG := zGp.step (ia := 215) (ib := 225) (N := 128) (kk := 42) hG (by omega) (by omega) (by omega) (by omega) (by decide) hlg (by omega) eg138 hF139
    have hG : zGp τ fi fr 1 128 6 τ135 f136 g138 := hG
    have hW0 : ∀ k, k < 128 → f136 220 k = fi 210 k := fun k h => by rw [hlg.2.2.2.1 220 k (by omega)]; exact hW0 k h
    refine lv_aload_n hx hb dX12_grow_94 rfl (lv_at hl 0 rfl) ?_
    refine lv_aload_n hx hb dX12_grow_95 rfl (lv_at hl 0 rfl) ?_
    refine zGetR (D := D) (ci := 12) (C := RX12) (T := TX12) (N := 71) hx hb hts hiX12 hown hH (zk_30 hG.2.2.2.2.2.2) rfl 43 (by decide) rfl hw9 (fun _ h9 => h9) dX12_grow_96 (by rw [hG.2.2.2.2.1 30 43 (by omega) (by omega)]; exact r6) ?_
    refine va_callq (va_runS (As := [.ref (τ135.1 216)]) (rest := [.ref (τ135.1 30)]) ⟨hx, hb, hml, hown, hts⟩ (m_longer_1024 l hl0 D A sad τ135 f136 g138 ol hG.2.2.2.2.2.2 216 226 (⟨(show τ135.2.2.1 216 = 1 by rw [(hG.1 216 (by omega)).2.1]; exact k6), (show τ135.2.2.2 216 = 1024 by rw [(hG.1 216 (by omega)).2.2]; exact l6)⟩) (by rw [(hG.1 226 (by omega)).2.1]; exact v6) (by omega) (by omega)) (cwS 1 hts gX12_grow_X12_longer rfl rfl rfl (by decide +kernel) ⟨Nat.le_of_ble_eq_true rfl, Nat.le_of_ble_eq_true rfl⟩) ⟨zQc_bl, zQc_at hz hS hA hH⟩ rfl rfl hl.1 rfl (lv_room (Nat.le_of_ble_eq_true rfl)) dX12_grow_99 ⟨Nat.le_of_ble_eq_true rfl, Nat.le_of_ble_eq_true rfl⟩) hS (fun q _ h => h) (fun q h => h) (fun r140 u9 t9 H1 locs ht9 hvm9 hw hB hz1 hk1 hS => ?_)
    obtain ⟨τ141, f142, g143⟩ := u9
    have hH := zMv ht9 hvm9 hB
    clear hB
    simp only at hw hH
    generalize H1 = H at hH hS ⊢
    refine W.widen (k := 7) (n := 3584) (by decide) (by decide) ?_
    obtain ⟨rfl, hlg⟩ := hw
    have ha6 : ∀ i, i ≠ 226 → τ141.1 i = τ135.1 i := fun i h => (hlg.1 i h).1
    refine W.eq (g2 := F0 m 102 ls [.ref (τ141.1 226), .ref (τ135.1 30)]) rfl ?_
    rw [show τ135.1 30 = τ141.1 30 from (ha6 30 (by omega)).symm] at hl
    rw [show τ135.1 220 = τ141.1 220 from (ha6 220 (by omega)).symm] at hl
    refine W.eq (g2 := F0 m 102 ls [.ref (τ141.1 226), .ref (τ141.1 30)]) (by rw [ha6 30 (by omega)]) ?_
    refine zPutR (D := D) (ci := 12) (ty := .array .int) (C := RX12) (T := TX12) (N := 71) hx hb hts hiX12 tyX12 tyX12_ok nmX12 hown hH hS (zk_30 hlg.2.2.1) rfl 43 (by decide) rfl hw9 (fun _ h9 => h9) rfl (by rw [hlg.2.1.1]; decide)  (by decide +kernel) rfl rfl dX12_grow_102 (fun H locs hH hS => ?_)
    obtain ⟨g144, eg144⟩ : ∃ f9 : zFr, f9 = zur g143 30 43 (some 226) := ⟨_, rfl⟩
    rw [← eg144] at hH
    have hF145 : zFix τ141 g144 := by rw [eg144]; exact hlg.2.2.1.ur30 (by omega)
    have hG := zGp.step (ia := 216) (ib := 226) (N := 1024) (kk := 43) hG (by omega) (by omega) (by omega) (by omega) (by decide) hlg (by omega) eg144 hF145
    have hG : zGp τ fi fr 1 128 7 τ141 f142 g144 := hG
    have hW0 : ∀ k, k < 128 → f142 220 k = fi 210 k := fun k h => by rw [hlg.2.2.2.1 220 k (by omega)]; exact hW0 k h
    refine lv_aload_n hx hb dX12_grow_105 rfl (lv_at hl 0 rfl) ?_
    refine lv_aload_n hx hb dX12_grow_106 rfl (lv_at hl 0 rfl) ?_
    refine zGetR (D := D) (ci := 12) (C := RX12) (T := TX12) (N := 71) hx hb hts hiX12 hown hH (zk_30 hG.2.2.2.2.2.2) rfl 44 (by decide) rfl hw10 (fun _ h9 => h9) dX12_grow_107 (by rw [hG.2.2.2.2.1 30 44 (by omega) (by omega)]; exact r7) ?_
    refine va_callq (va_runS (As := [.ref (τ141.1 217)]) (rest := [.ref (τ141.1 30)]) ⟨hx, hb, hml, hown, hts⟩ (m_longer_1024 l hl0 D A sad τ141 f142 g144 ol hG.2.2.2.2.2.2 217 227 (⟨(show τ141.2.2.1 217 = 1 by rw [(hG.1 217 (by omega)).2.1]; exact k7), (show τ141.2.2.2 217 = 1024 by rw [(hG.1 217 (by omega)).2.2]; exact l7)⟩) (by rw [(hG.1 227 (by omega)).2.1]; exact v7) (by omega) (by omega)) (cwS 1 hts gX12_grow_X12_longer rfl rfl rfl (by decide +kernel) ⟨Nat.le_of_ble_eq_true rfl, Nat.le_of_ble_eq_true rfl⟩) ⟨zQc_bl, zQc_at hz hS hA hH⟩ rfl rfl hl.1 rfl (lv_room (Nat.le_of_ble_eq_true rfl)) dX12_grow_110 ⟨Nat.le_of_ble_eq_true rfl, Nat.le_of_ble_eq_true rfl⟩) hS (fun q _ h => h) (fun q h => h) (fun r146 u9 t9 H1 locs ht9 hvm9 hw hB hz1 hk1 hS => ?_)
    obtain ⟨τ147, f148, g149⟩ := u9
    have hH := zMv ht9 hvm9 hB
    clear hB
    simp only at hw hH
    generalize H1 = H at hH hS ⊢
    refine W.widen (k := 8) (n := 5632) (by decide) (by decide) ?_
    obtain ⟨rfl, hlg⟩ := hw
    have ha6 : ∀ i, i ≠ 227 → τ147.1 i = τ141.1 i := fun i h => (hlg.1 i h).1
    refine W.eq (g2 := F0 m 113 ls [.ref (τ147.1 227), .ref (τ141.1 30)]) rfl ?_
    rw [show τ141.1 30 = τ147.1 30 from (ha6 30 (by omega)).symm] at hl
    rw [show τ141.1 220 = τ147.1 220 from (ha6 220 (by omega)).symm] at hl
    refine W.eq (g2 := F0 m 113 ls [.ref (τ147.1 227), .ref (τ147.1 30)]) (by rw [ha6 30 (by omega)]) ?_
    refine zPutR (D := D) (ci := 12) (ty := .array .int) (C := RX12) (T := TX12) (N := 71) hx hb hts hiX12 tyX12 tyX12_ok nmX12 hown hH hS (zk_30 hlg.2.2.1) rfl 44 (by decide) rfl hw10 (fun _ h9 => h9) rfl (by rw [hlg.2.1.1]; decide)  (by decide +kernel) rfl rfl dX12_grow_113 (fun H locs hH hS => ?_)
    obtain ⟨g150, eg150⟩ : ∃ f9 : zFr, f9 = zur g149 30 44 (some 227) := ⟨_, rfl⟩
    rw [← eg150] at hH
    have hF151 : zFix τ147 g150 := by rw [eg150]; exact hlg.2.2.1.ur30 (by omega)
    have hG := zGp.step (ia := 217) (ib := 227) (N := 1024) (kk := 44) hG (by omega) (by omega) (by omega) (by omega) (by decide) hlg (by omega) eg150 hF151
    have hG : zGp τ fi fr 1 128 8 τ147 f148 g150 := hG
    have hW0 : ∀ k, k < 128 → f148 220 k = fi 210 k := fun k h => by rw [hlg.2.2.2.1 220 k (by omega)]; exact hW0 k h
    refine W.widen (k := 8) (n := 5632) (by decide) (by decide) ?_
    exact W.vret hx hb hr (fun t9 ht9 hW9 => ⟨⟨(τ147, f148, g150), rfl, (show (zMq τ147 f148 g150 2 256 128 ∧ zGz τ fr τ147 g150 ∧ ∀ i k, ¬ (200 ≤ i ∧ i < 240) → f148 i k = fi i k) ∧ ∀ j, j < 8 → ∀ k, k < (if j < 6 then 128 else 8 * 128) → f148 (200 + j + 10 * (1 + 1)) k = fi (200 + j + 10 * 1) k from ⟨zGp.done hMq0 (by omega) hG, zGp.cp hG hW0⟩), zEnd1 hH ht9 hW9⟩, hS.F ht9⟩) hS.2.2 dX12_grow_116
  · have zc107 := c107
    replace zc107 := zc_nle (nI_toInt (by omega)) (nI_toInt (by omega)) zc107
    refine lv_aload_n hx hb dX12_grow_19 rfl (lv_at hl 1 rfl) ?_
    refine lv_iload_n hx hb dX12_grow_20 rfl (lv_at hl 2 rfl) ?_
    refine lv_aload_n hx hb dX12_grow_21 rfl (lv_at hl 0 rfl) ?_
    refine zGetR (D := D) (ci := 12) (C := RX12) (T := TX12) (N := 71) hx hb hts hiX12 hown hH (zk_30 hFτ102) rfl 37 (by decide) rfl hw3 (fun _ h9 => h9) dX12_grow_22 (by rw [eg104, va_up_ne _ _ (by omega)]; exact r0) ?_
    refine lv_iload_n hx hb dX12_grow_25 rfl (lv_at hl 2 rfl) ?_
    refine zZaldN (D := D) hx hb hH (show τ102.2.2.1 210 = 3 by rw [(hbτ102 210 (by omega)).1]; exact k0) (show τ102.2.2.2 210 = 128 by rw [(hbτ102 210 (by omega)).2]; exact l0) (by omega) (by omega) rfl dX12_grow_26 ?_
    refine zZastN (D := D) hx hb hH hS hkτ102 hnτ102 (by omega) (by omega) dX12_grow_27 (fun H locs hH hS => ?_)
    obtain ⟨f152, ef152⟩ : ∃ f9 : zFi, f9 = zu f 220 i (vp_nar .boolean (f 210 i)) := ⟨_, rfl⟩
    rw [← ef152] at hH
    have q153 : f152 30 35 = nI 128 := by rw [ef152, zu_n (fun h9 => absurd h9.1 (by decide))]; exact q35
    have q154 : f152 220 i = (vp_nar .boolean (f 210 i)) := by rw [ef152]; exact zu_s
    refine lv_iinc (v := nI (i + 1)) (lv' := [(2, .int (nI (i + 1))), (0, .ref (τ102.1 30)), (1, .ref (τ102.1 220))]) hx hb dX12_grow_28 hl (k := 2) rfl (by rw [show (Int32.ofInt 1 : Int32) = nI 1 from by decide, nI_add]) (by decide) rfl (fun ls hl => ?_)
    refine lv_goto (tgt := 11) hx hb dX12_grow_31 (by decide) ?_
    exact ih106 (128 - (i + 1)) (by omega) (i + 1, f152) _ _ _ (show 128 - (i + 1) = 128 - (i + 1) ∧ ((i + 1) ≤ 128 ∧ (∀ k, k < (i + 1) → f152 220 k = fi 210 k) ∧ ∀ i9 k, i9 ≠ 220 → f152 i9 k = fi i9 k) ∧ zH D A τ102 f152 g104 ol s _ ∧ va_S A s.heap _ _ ∧ lv_has _ 3 [(0, .ref (τ102.1 30)), (1, .ref (τ102.1 220)), (2, .int (nI (i + 1)))] from ⟨rfl, ⟨by omega, fun k h => by by_cases h7 : k = i; (subst h7; rw [ef152, zu_s, hfr 210 k (by omega)]; exact zNarB (hbl k (by omega))); (rw [ef152, zu_n (by omega)]; exact hwc k (by omega)), fun i9 k h => by rw [ef152, zu_n (by omega)]; exact hfr i9 k h⟩, hH, hS, lv_sub hl [1, 2, 0] rfl⟩)
set_option maxHeartbeats 4000000 in
set_option maxRecDepth 100000 in
/-- grow -/
theorem m_growN_2 (l : Launch) (hl0 : l.stackTraces = false) (D : va_G) (A : Nat → Prop) (sad : Nat → Nat) (τ : zTy) (fi : zFi) (fr : zFr) (ol : Int64) (hF : zFix τ fr) (hMq : zMq τ fi fr 2 256 256) (hbl : ∀ k, k < 256 → fi 220 k = 0 ∨ fi 220 k = 1) : Met l yX12_grow wsX12_grow ({ frames := 1, cells := 8, slots := 11264, locals := 22 }) (va_Pc [.ref (τ.1 30)] (zQc D A sad τ fi fr ol)) (va_Qv (fun (u : zTy × zFi × zFr) => (zMq u.1 u.2.1 u.2.2 3 512 256 ∧ zGz τ fr u.1 u.2.2 ∧ ∀ i k, ¬ (200 ≤ i ∧ i < 240) → u.2.1 i k = fi i k) ∧ ∀ j, j < 8 → ∀ k, k < (if j < 6 then 256 else 8 * 256) → u.2.1 (200 + j + 10 * (2 + 1)) k = fi (200 + j + 10 * 2) k) (fun (u : zTy × zFi × zFr) (t : State) => zH D A u.1 u.2.1 u.2.2 ol t t.heap) A) 8 11264 A := by
  refine Met.ofW (cc := cX12_grow) (maxL := 3) (ret := none) (by decide) rfl ?_
  intro p9 e9 s m args below meth c9 s₁ B hml hv
  obtain ⟨rfl, hz, hH, hA⟩ := hv
  have hx := B.exec
  have hb := B.bytes
  have hr := B.returns
  have hts := atoms_spec (ws := wsX12_grow) B.pre
  have hown : s.vm.findClass RX12 = some m.cls := findClass_of_methodNamed B.named
  have hlocks := B.notSynchronized
  have hS : va_S A s.heap s.heap [] := va_S.rf
  have hl := lv_entry ([.ref (τ.1 30)]) (n := 3) (Nat.le_of_ble_eq_true rfl)
  rw [lg_entry_eq]
  generalize (lg_sl ([.ref (τ.1 30)]) ++ List.replicate (3 - (lg_sl ([.ref (τ.1 30)])).length) Slot.unset).toArray = ls at hl ⊢
  have hl : lv_has ls 3 [(0, .ref (τ.1 30))] := hl
  have hMq0 := hMq
  obtain ⟨-, -, h35, ⟨⟨k0, l0⟩, ⟨k1, l1⟩, ⟨k2, l2⟩, ⟨k3, l3⟩, ⟨k4, l4⟩, ⟨k5, l5⟩, ⟨k6, l6⟩, ⟨k7, l7⟩⟩, ⟨r0, r1, r2, r3, r4, r5, r6, r7⟩, -, hvd⟩ := hMq
  have k0 : τ.2.2.1 220 = 3 := k0
  have l0 : τ.2.2.2 220 = 256 := l0
  have r0 : fr 30 37 = some 220 := r0
  have v0 : τ.2.2.1 230 = 0 := hvd 3 (by omega) (by omega) 0 (by omega)
  have k1 : τ.2.2.1 221 = 1 := k1
  have l1 : τ.2.2.2 221 = 256 := l1
  have r1 : fr 30 38 = some 221 := r1
  have v1 : τ.2.2.1 231 = 0 := hvd 3 (by omega) (by omega) 1 (by omega)
  have k2 : τ.2.2.1 222 = 1 := k2
  have l2 : τ.2.2.2 222 = 256 := l2
  have r2 : fr 30 39 = some 222 := r2
  have v2 : τ.2.2.1 232 = 0 := hvd 3 (by omega) (by omega) 2 (by omega)
  have k3 : τ.2.2.1 223 = 1 := k3
  have l3 : τ.2.2.2 223 = 256 := l3
  have r3 : fr 30 40 = some 223 := r3
  have v3 : τ.2.2.1 233 = 0 := hvd 3 (by omega) (by omega) 3 (by omega)
  have k4 : τ.2.2.1 224 = 1 := k4
  have l4 : τ.2.2.2 224 = 256 := l4
  have r4 : fr 30 41 = some 224 := r4
  have v4 : τ.2.2.1 234 = 0 := hvd 3 (by omega) (by omega) 4 (by omega)
  have k5 : τ.2.2.1 225 = 1 := k5
  have l5 : τ.2.2.2 225 = 256 := l5
  have r5 : fr 30 42 = some 225 := r5
  have v5 : τ.2.2.1 235 = 0 := hvd 3 (by omega) (by omega) 5 (by omega)
  have k6 : τ.2.2.1 226 = 1 := k6
  have l6 : τ.2.2.2 226 = 2048 := l6
  have r6 : fr 30 43 = some 226 := r6
  have v6 : τ.2.2.1 236 = 0 := hvd 3 (by omega) (by omega) 6 (by omega)
  have k7 : τ.2.2.1 227 = 1 := k7
  have l7 : τ.2.2.2 227 = 2048 := l7
  have r7 : fr 30 44 = some 227 := r7
  have v7 : τ.2.2.1 237 = 0 := hvd 3 (by omega) (by omega) 7 (by omega)
  have hiX12 : ∀ w ∈ u_ws RX12 TX12 71, w ∈ wsX12_grow := fun _ h => List.mem_cons_of_mem _ (List.mem_append_right _ h)
  have hw1 := hts (.fieldLink RX12 320 "PostHouseModel" "doubts" "I") (by decide +kernel)
  have hw2 := hts (.arrayClass .boolean) (by decide +kernel)
  have hw3 := hts (.fieldLink RX12 71 "PostHouseModel" "doubtWaits" "[Z") (by decide +kernel)
  have hw4 := hts (.fieldLink RX12 75 "PostHouseModel" "doubtMendings" "[I") (by decide +kernel)
  have hw5 := hts (.fieldLink RX12 78 "PostHouseModel" "doubtLines" "[I") (by decide +kernel)
  have hw6 := hts (.fieldLink RX12 81 "PostHouseModel" "doubtKnown" "[I") (by decide +kernel)
  have hw7 := hts (.fieldLink RX12 84 "PostHouseModel" "doubtSum" "[I") (by decide +kernel)
  have hw8 := hts (.fieldLink RX12 87 "PostHouseModel" "doubtMoney" "[I") (by decide +kernel)
  have hw9 := hts (.fieldLink RX12 90 "PostHouseModel" "doubtCode" "[I") (by decide +kernel)
  have hw10 := hts (.fieldLink RX12 93 "PostHouseModel" "doubtMany" "[I") (by decide +kernel)
  refine lv_iconst (v := nI 2) hx hb dX12_grow_0 (by decide) ?_
  refine lv_aload_n hx hb dX12_grow_1 rfl (lv_at hl 0 rfl) ?_
  refine zGetI (D := D) (ci := 12) (C := RX12) (T := TX12) (N := 71) hx hb hts hiX12 hown hH (zk_30 hF) rfl 35 (by decide) rfl hw1 (fun _ h9 => h9) dX12_grow_2 h35 ?_
  refine lv_imul hx hb dX12_grow_5 ?_
  refine lv_topi (fun v101 ev101 => ?_)
  obtain rfl : v101 = nI 512 := ev101.trans (by decide)
  refine zNewa (D := D) (atype := .boolean) (t := 3) (N' := 512) hx hb hw2 rfl (by decide) (by decide) rfl hH hS hA 230 v0 (by decide) (by decide) (by first | decide | (simp only [zT, componentBytes]; omega)) (Nat.le_of_ble_eq_true rfl) (Nat.le_of_ble_eq_true rfl) dX12_grow_6 (fun q9 c9 H hH8 hS => ?_)
  obtain ⟨τ102, eτ102⟩ : ∃ t9 : zTy, t9 = (va_up τ.1 230 q9, va_up τ.2.1 230 c9, va_up τ.2.2.1 230 3, va_up τ.2.2.2 230 512) := ⟨_, rfl⟩
  obtain ⟨f103, ef103⟩ : ∃ f9 : zFi, f9 = va_up fi 230 (fun _ => 0) := ⟨_, rfl⟩
  obtain ⟨g104, eg104⟩ : ∃ f9 : zFr, f9 = va_up fr 230 (fun _ => none) := ⟨_, rfl⟩
  have hH : zH D A τ102 f103 g104 ol s H := by rw [eτ102, ef103, eg104]; exact hH8
  clear hH8
  have hqτ102 : τ102.1 230 = q9 := by rw [eτ102]; exact va_up_self τ.1 230 q9
  have haτ102 : ∀ i, i ≠ 230 → τ102.1 i = τ.1 i := fun i h => by rw [eτ102]; exact va_up_ne _ _ h
  have hkτ102 : τ102.2.2.1 230 = 3 := by rw [eτ102]; exact va_up_self τ.2.2.1 230 3
  have hnτ102 : τ102.2.2.2 230 = 512 := by rw [eτ102]; exact va_up_self τ.2.2.2 230 512
  have hbτ102 : ∀ i, i ≠ 230 → τ102.2.2.1 i = τ.2.2.1 i ∧ τ102.2.2.2 i = τ.2.2.2 i := fun i h => by rw [eτ102]; exact ⟨va_up_ne _ _ h, va_up_ne _ _ h⟩
  have hFτ102 : zFix τ102 g104 := by rw [eτ102, eg104]; exact hF.up (by omega)
  clear eτ102
  subst hqτ102
  rw [show τ.1 30 = τ102.1 30 from (haτ102 30 (by omega)).symm] at hl
  have q105 : f103 30 35 = nI 256 := by rw [ef103, va_up_ne _ _ (by omega)]; exact h35
  refine W.widen (k := 1) (n := 512) (by decide) (by decide) ?_
  refine lv_astore_n (lv' := [(1, .ref (τ102.1 230)), (0, .ref (τ102.1 30))]) hx hb dX12_grow_8 rfl hl (by decide) rfl (fun ls hl => ?_)
  refine lv_iconst (v := nI 0) hx hb dX12_grow_9 (by decide) ?_
  refine lv_istore_n (lv' := [(2, .int (nI 0)), (1, .ref (τ102.1 230)), (0, .ref (τ102.1 30))]) hx hb dX12_grow_10 rfl hl (by decide) rfl (fun ls hl => ?_)
  refine zLp (σ := Nat × zFi) (fun x9 k9 H locs ls => (fun (i : Nat) (f : zFi) => k9 = 256 - i ∧ (i ≤ 256 ∧ (∀ k, k < i → f 230 k = fi 220 k) ∧ ∀ i9 k, i9 ≠ 230 → f i9 k = fi i9 k) ∧ zH D A τ102 f g104 ol s H ∧ va_S A s.heap H locs ∧ lv_has ls 3 [(0, .ref (τ102.1 30)), (1, .ref (τ102.1 230)), (2, .int (nI i))]) x9.1 x9.2) (0, f103) (256 - 0) (show 256 - 0 = 256 - 0 ∧ (0 ≤ 256 ∧ (∀ k, k < 0 → f103 230 k = fi 220 k) ∧ ∀ i9 k, i9 ≠ 230 → f103 i9 k = fi i9 k) ∧ zH D A τ102 f103 g104 ol s _ ∧ va_S A s.heap _ _ ∧ lv_has _ 3 [(0, .ref (τ102.1 30)), (1, .ref (τ102.1 230)), (2, .int (nI 0))] from ⟨rfl, ⟨Nat.zero_le _, fun k h => absurd h (by omega), fun i k h => by rw [ef103, va_up_ne _ _ h]⟩, hH, hS, lv_sub hl [2, 1, 0] rfl⟩) (fun k9 ih x9 H locs ls hv9 => ?_)
  obtain ⟨i, f⟩ := x9
  have hv9 : k9 = 256 - i ∧ (i ≤ 256 ∧ (∀ k, k < i → f 230 k = fi 220 k) ∧ ∀ i9 k, i9 ≠ 230 → f i9 k = fi i9 k) ∧ zH D A τ102 f g104 ol s H ∧ va_S A s.heap H locs ∧ lv_has ls 3 [(0, .ref (τ102.1 30)), (1, .ref (τ102.1 230)), (2, .int (nI i))] := hv9
  obtain ⟨hkih106, hv9, hH, hS, hl⟩ := hv9
  obtain ⟨h1, hwc, hfr⟩ := hv9
  have ih106 := ih
  clear ih
  have q35 : f 30 35 = nI 256 := by rw [hfr 30 35 (by omega)]; exact h35
  refine lv_iload_n hx hb dX12_grow_11 rfl (lv_at hl 2 rfl) ?_
  refine lv_aload_n hx hb dX12_grow_12 rfl (lv_at hl 0 rfl) ?_
  refine zGetI (D := D) (ci := 12) (C := RX12) (T := TX12) (N := 71) hx hb hts hiX12 hown hH (zk_30 hFτ102) rfl 35 (by decide) rfl hw1 (fun _ h9 => h9) dX12_grow_13 q35 ?_
  refine lv_icmp_ge (tgt := 34) hx hb dX12_grow_16 (by decide) (fun c107 => ?_) (fun c107 => ?_)
  · have zc107 := c107
    replace zc107 := zc_le (nI_toInt (by omega)) (nI_toInt (by omega)) zc107
    refine lv_aload_n hx hb dX12_grow_34 rfl (lv_at hl 0 rfl) ?_
    refine lv_aload_n hx hb dX12_grow_35 rfl (lv_at hl 1 rfl) ?_
    refine zPutR (D := D) (ci := 12) (ty := .array .boolean) (C := RX12) (T := TX12) (N := 71) hx hb hts hiX12 tyX12 tyX12_ok nmX12 hown hH hS (zk_30 hFτ102) rfl 37 (by decide) rfl hw3 (fun _ h9 => h9) rfl (by rw [hkτ102]; decide)  (by decide +kernel) rfl rfl dX12_grow_36 (fun H locs hH hS => ?_)
    obtain ⟨g108, eg108⟩ : ∃ f9 : zFr, f9 = zur g104 30 37 (some 230) := ⟨_, rfl⟩
    rw [← eg108] at hH
    have hF109 : zFix τ102 g108 := by rw [eg108]; exact hFτ102.ur30 (by omega)
    have hG : zGp τ fi fr 2 256 1 τ102 f g108 := zGp.first (ib := 230) (by omega) haτ102 hbτ102 hkτ102 hnτ102 hfr eg104 eg108 hF109
    have hW0 : ∀ k, k < 256 → f 230 k = fi 220 k := fun k h => hwc k (by omega)
    refine lv_aload_n hx hb dX12_grow_39 rfl (lv_at hl 0 rfl) ?_
    refine lv_aload_n hx hb dX12_grow_40 rfl (lv_at hl 0 rfl) ?_
    refine zGetR (D := D) (ci := 12) (C := RX12) (T := TX12) (N := 71) hx hb hts hiX12 hown hH (zk_30 hG.2.2.2.2.2.2) rfl 38 (by decide) rfl hw4 (fun _ h9 => h9) dX12_grow_41 (by rw [hG.2.2.2.2.1 30 38 (by omega) (by omega)]; exact r1) ?_
    refine va_callq (va_runS (As := [.ref (τ102.1 221)]) (rest := [.ref (τ102.1 30)]) ⟨hx, hb, hml, hown, hts⟩ (m_longer_256 l hl0 D A sad τ102 f g108 ol hG.2.2.2.2.2.2 221 231 (⟨(show τ102.2.2.1 221 = 1 by rw [(hG.1 221 (by omega)).2.1]; exact k1), (show τ102.2.2.2 221 = 256 by rw [(hG.1 221 (by omega)).2.2]; exact l1)⟩) (by rw [(hG.1 231 (by omega)).2.1]; exact v1) (by omega) (by omega)) (cwS 1 hts gX12_grow_X12_longer rfl rfl rfl (by decide +kernel) ⟨Nat.le_of_ble_eq_true rfl, Nat.le_of_ble_eq_true rfl⟩) ⟨zQc_bl, zQc_at hz hS hA hH⟩ rfl rfl hl.1 rfl (lv_room (Nat.le_of_ble_eq_true rfl)) dX12_grow_44 ⟨Nat.le_of_ble_eq_true rfl, Nat.le_of_ble_eq_true rfl⟩) hS (fun q _ h => h) (fun q h => h) (fun r110 u9 t9 H1 locs ht9 hvm9 hw hB hz1 hk1 hS => ?_)
    obtain ⟨τ111, f112, g113⟩ := u9
    have hH := zMv ht9 hvm9 hB
    clear hB
    simp only at hw hH
    generalize H1 = H at hH hS ⊢
    refine W.widen (k := 2) (n := 1024) (by decide) (by decide) ?_
    obtain ⟨rfl, hlg⟩ := hw
    have ha6 : ∀ i, i ≠ 231 → τ111.1 i = τ102.1 i := fun i h => (hlg.1 i h).1
    refine W.eq (g2 := F0 m 47 ls [.ref (τ111.1 231), .ref (τ102.1 30)]) rfl ?_
    rw [show τ102.1 30 = τ111.1 30 from (ha6 30 (by omega)).symm] at hl
    rw [show τ102.1 230 = τ111.1 230 from (ha6 230 (by omega)).symm] at hl
    refine W.eq (g2 := F0 m 47 ls [.ref (τ111.1 231), .ref (τ111.1 30)]) (by rw [ha6 30 (by omega)]) ?_
    refine zPutR (D := D) (ci := 12) (ty := .array .int) (C := RX12) (T := TX12) (N := 71) hx hb hts hiX12 tyX12 tyX12_ok nmX12 hown hH hS (zk_30 hlg.2.2.1) rfl 38 (by decide) rfl hw4 (fun _ h9 => h9) rfl (by rw [hlg.2.1.1]; decide)  (by decide +kernel) rfl rfl dX12_grow_47 (fun H locs hH hS => ?_)
    obtain ⟨g114, eg114⟩ : ∃ f9 : zFr, f9 = zur g113 30 38 (some 231) := ⟨_, rfl⟩
    rw [← eg114] at hH
    have hF115 : zFix τ111 g114 := by rw [eg114]; exact hlg.2.2.1.ur30 (by omega)
    have hG := zGp.step (ia := 221) (ib := 231) (N := 256) (kk := 38) hG (by omega) (by omega) (by omega) (by omega) (by decide) hlg (by omega) eg114 hF115
    have hG : zGp τ fi fr 2 256 2 τ111 f112 g114 := hG
    have hW0 : ∀ k, k < 256 → f112 230 k = fi 220 k := fun k h => by rw [hlg.2.2.2.1 230 k (by omega)]; exact hW0 k h
    refine lv_aload_n hx hb dX12_grow_50 rfl (lv_at hl 0 rfl) ?_
    refine lv_aload_n hx hb dX12_grow_51 rfl (lv_at hl 0 rfl) ?_
    refine zGetR (D := D) (ci := 12) (C := RX12) (T := TX12) (N := 71) hx hb hts hiX12 hown hH (zk_30 hG.2.2.2.2.2.2) rfl 39 (by decide) rfl hw5 (fun _ h9 => h9) dX12_grow_52 (by rw [hG.2.2.2.2.1 30 39 (by omega) (by omega)]; exact r2) ?_
    refine va_callq (va_runS (As := [.ref (τ111.1 222)]) (rest := [.ref (τ111.1 30)]) ⟨hx, hb, hml, hown, hts⟩ (m_longer_256 l hl0 D A sad τ111 f112 g114 ol hG.2.2.2.2.2.2 222 232 (⟨(show τ111.2.2.1 222 = 1 by rw [(hG.1 222 (by omega)).2.1]; exact k2), (show τ111.2.2.2 222 = 256 by rw [(hG.1 222 (by omega)).2.2]; exact l2)⟩) (by rw [(hG.1 232 (by omega)).2.1]; exact v2) (by omega) (by omega)) (cwS 1 hts gX12_grow_X12_longer rfl rfl rfl (by decide +kernel) ⟨Nat.le_of_ble_eq_true rfl, Nat.le_of_ble_eq_true rfl⟩) ⟨zQc_bl, zQc_at hz hS hA hH⟩ rfl rfl hl.1 rfl (lv_room (Nat.le_of_ble_eq_true rfl)) dX12_grow_55 ⟨Nat.le_of_ble_eq_true rfl, Nat.le_of_ble_eq_true rfl⟩) hS (fun q _ h => h) (fun q h => h) (fun r116 u9 t9 H1 locs ht9 hvm9 hw hB hz1 hk1 hS => ?_)
    obtain ⟨τ117, f118, g119⟩ := u9
    have hH := zMv ht9 hvm9 hB
    clear hB
    simp only at hw hH
    generalize H1 = H at hH hS ⊢
    refine W.widen (k := 3) (n := 1536) (by decide) (by decide) ?_
    obtain ⟨rfl, hlg⟩ := hw
    have ha6 : ∀ i, i ≠ 232 → τ117.1 i = τ111.1 i := fun i h => (hlg.1 i h).1
    refine W.eq (g2 := F0 m 58 ls [.ref (τ117.1 232), .ref (τ111.1 30)]) rfl ?_
    rw [show τ111.1 30 = τ117.1 30 from (ha6 30 (by omega)).symm] at hl
    rw [show τ111.1 230 = τ117.1 230 from (ha6 230 (by omega)).symm] at hl
    refine W.eq (g2 := F0 m 58 ls [.ref (τ117.1 232), .ref (τ117.1 30)]) (by rw [ha6 30 (by omega)]) ?_
    refine zPutR (D := D) (ci := 12) (ty := .array .int) (C := RX12) (T := TX12) (N := 71) hx hb hts hiX12 tyX12 tyX12_ok nmX12 hown hH hS (zk_30 hlg.2.2.1) rfl 39 (by decide) rfl hw5 (fun _ h9 => h9) rfl (by rw [hlg.2.1.1]; decide)  (by decide +kernel) rfl rfl dX12_grow_58 (fun H locs hH hS => ?_)
    obtain ⟨g120, eg120⟩ : ∃ f9 : zFr, f9 = zur g119 30 39 (some 232) := ⟨_, rfl⟩
    rw [← eg120] at hH
    have hF121 : zFix τ117 g120 := by rw [eg120]; exact hlg.2.2.1.ur30 (by omega)
    have hG := zGp.step (ia := 222) (ib := 232) (N := 256) (kk := 39) hG (by omega) (by omega) (by omega) (by omega) (by decide) hlg (by omega) eg120 hF121
    have hG : zGp τ fi fr 2 256 3 τ117 f118 g120 := hG
    have hW0 : ∀ k, k < 256 → f118 230 k = fi 220 k := fun k h => by rw [hlg.2.2.2.1 230 k (by omega)]; exact hW0 k h
    refine lv_aload_n hx hb dX12_grow_61 rfl (lv_at hl 0 rfl) ?_
    refine lv_aload_n hx hb dX12_grow_62 rfl (lv_at hl 0 rfl) ?_
    refine zGetR (D := D) (ci := 12) (C := RX12) (T := TX12) (N := 71) hx hb hts hiX12 hown hH (zk_30 hG.2.2.2.2.2.2) rfl 40 (by decide) rfl hw6 (fun _ h9 => h9) dX12_grow_63 (by rw [hG.2.2.2.2.1 30 40 (by omega) (by omega)]; exact r3) ?_
    refine va_callq (va_runS (As := [.ref (τ117.1 223)]) (rest := [.ref (τ117.1 30)]) ⟨hx, hb, hml, hown, hts⟩ (m_longer_256 l hl0 D A sad τ117 f118 g120 ol hG.2.2.2.2.2.2 223 233 (⟨(show τ117.2.2.1 223 = 1 by rw [(hG.1 223 (by omega)).2.1]; exact k3), (show τ117.2.2.2 223 = 256 by rw [(hG.1 223 (by omega)).2.2]; exact l3)⟩) (by rw [(hG.1 233 (by omega)).2.1]; exact v3) (by omega) (by omega)) (cwS 1 hts gX12_grow_X12_longer rfl rfl rfl (by decide +kernel) ⟨Nat.le_of_ble_eq_true rfl, Nat.le_of_ble_eq_true rfl⟩) ⟨zQc_bl, zQc_at hz hS hA hH⟩ rfl rfl hl.1 rfl (lv_room (Nat.le_of_ble_eq_true rfl)) dX12_grow_66 ⟨Nat.le_of_ble_eq_true rfl, Nat.le_of_ble_eq_true rfl⟩) hS (fun q _ h => h) (fun q h => h) (fun r122 u9 t9 H1 locs ht9 hvm9 hw hB hz1 hk1 hS => ?_)
    obtain ⟨τ123, f124, g125⟩ := u9
    have hH := zMv ht9 hvm9 hB
    clear hB
    simp only at hw hH
    generalize H1 = H at hH hS ⊢
    refine W.widen (k := 4) (n := 2048) (by decide) (by decide) ?_
    obtain ⟨rfl, hlg⟩ := hw
    have ha6 : ∀ i, i ≠ 233 → τ123.1 i = τ117.1 i := fun i h => (hlg.1 i h).1
    refine W.eq (g2 := F0 m 69 ls [.ref (τ123.1 233), .ref (τ117.1 30)]) rfl ?_
    rw [show τ117.1 30 = τ123.1 30 from (ha6 30 (by omega)).symm] at hl
    rw [show τ117.1 230 = τ123.1 230 from (ha6 230 (by omega)).symm] at hl
    refine W.eq (g2 := F0 m 69 ls [.ref (τ123.1 233), .ref (τ123.1 30)]) (by rw [ha6 30 (by omega)]) ?_
    refine zPutR (D := D) (ci := 12) (ty := .array .int) (C := RX12) (T := TX12) (N := 71) hx hb hts hiX12 tyX12 tyX12_ok nmX12 hown hH hS (zk_30 hlg.2.2.1) rfl 40 (by decide) rfl hw6 (fun _ h9 => h9) rfl (by rw [hlg.2.1.1]; decide)  (by decide +kernel) rfl rfl dX12_grow_69 (fun H locs hH hS => ?_)
    obtain ⟨g126, eg126⟩ : ∃ f9 : zFr, f9 = zur g125 30 40 (some 233) := ⟨_, rfl⟩
    rw [← eg126] at hH
    have hF127 : zFix τ123 g126 := by rw [eg126]; exact hlg.2.2.1.ur30 (by omega)
    have hG := zGp.step (ia := 223) (ib := 233) (N := 256) (kk := 40) hG (by omega) (by omega) (by omega) (by omega) (by decide) hlg (by omega) eg126 hF127
    have hG : zGp τ fi fr 2 256 4 τ123 f124 g126 := hG
    have hW0 : ∀ k, k < 256 → f124 230 k = fi 220 k := fun k h => by rw [hlg.2.2.2.1 230 k (by omega)]; exact hW0 k h
    refine lv_aload_n hx hb dX12_grow_72 rfl (lv_at hl 0 rfl) ?_
    refine lv_aload_n hx hb dX12_grow_73 rfl (lv_at hl 0 rfl) ?_
    refine zGetR (D := D) (ci := 12) (C := RX12) (T := TX12) (N := 71) hx hb hts hiX12 hown hH (zk_30 hG.2.2.2.2.2.2) rfl 41 (by decide) rfl hw7 (fun _ h9 => h9) dX12_grow_74 (by rw [hG.2.2.2.2.1 30 41 (by omega) (by omega)]; exact r4) ?_
    refine va_callq (va_runS (As := [.ref (τ123.1 224)]) (rest := [.ref (τ123.1 30)]) ⟨hx, hb, hml, hown, hts⟩ (m_longer_256 l hl0 D A sad τ123 f124 g126 ol hG.2.2.2.2.2.2 224 234 (⟨(show τ123.2.2.1 224 = 1 by rw [(hG.1 224 (by omega)).2.1]; exact k4), (show τ123.2.2.2 224 = 256 by rw [(hG.1 224 (by omega)).2.2]; exact l4)⟩) (by rw [(hG.1 234 (by omega)).2.1]; exact v4) (by omega) (by omega)) (cwS 1 hts gX12_grow_X12_longer rfl rfl rfl (by decide +kernel) ⟨Nat.le_of_ble_eq_true rfl, Nat.le_of_ble_eq_true rfl⟩) ⟨zQc_bl, zQc_at hz hS hA hH⟩ rfl rfl hl.1 rfl (lv_room (Nat.le_of_ble_eq_true rfl)) dX12_grow_77 ⟨Nat.le_of_ble_eq_true rfl, Nat.le_of_ble_eq_true rfl⟩) hS (fun q _ h => h) (fun q h => h) (fun r128 u9 t9 H1 locs ht9 hvm9 hw hB hz1 hk1 hS => ?_)
    obtain ⟨τ129, f130, g131⟩ := u9
    have hH := zMv ht9 hvm9 hB
    clear hB
    simp only at hw hH
    generalize H1 = H at hH hS ⊢
    refine W.widen (k := 5) (n := 2560) (by decide) (by decide) ?_
    obtain ⟨rfl, hlg⟩ := hw
    have ha6 : ∀ i, i ≠ 234 → τ129.1 i = τ123.1 i := fun i h => (hlg.1 i h).1
    refine W.eq (g2 := F0 m 80 ls [.ref (τ129.1 234), .ref (τ123.1 30)]) rfl ?_
    rw [show τ123.1 30 = τ129.1 30 from (ha6 30 (by omega)).symm] at hl
    rw [show τ123.1 230 = τ129.1 230 from (ha6 230 (by omega)).symm] at hl
    refine W.eq (g2 := F0 m 80 ls [.ref (τ129.1 234), .ref (τ129.1 30)]) (by rw [ha6 30 (by omega)]) ?_
    refine zPutR (D := D) (ci := 12) (ty := .array .int) (C := RX12) (T := TX12) (N := 71) hx hb hts hiX12 tyX12 tyX12_ok nmX12 hown hH hS (zk_30 hlg.2.2.1) rfl 41 (by decide) rfl hw7 (fun _ h9 => h9) rfl (by rw [hlg.2.1.1]; decide)  (by decide +kernel) rfl rfl dX12_grow_80 (fun H locs hH hS => ?_)
    obtain ⟨g132, eg132⟩ : ∃ f9 : zFr, f9 = zur g131 30 41 (some 234) := ⟨_, rfl⟩
    rw [← eg132] at hH
    have hF133 : zFix τ129 g132 := by rw [eg132]; exact hlg.2.2.1.ur30 (by omega)
    have hG := zGp.step (ia := 224) (ib := 234) (N := 256) (kk := 41) hG (by omega) (by omega) (by omega) (by omega) (by decide) hlg (by omega) eg132 hF133
    have hG : zGp τ fi fr 2 256 5 τ129 f130 g132 := hG
    have hW0 : ∀ k, k < 256 → f130 230 k = fi 220 k := fun k h => by rw [hlg.2.2.2.1 230 k (by omega)]; exact hW0 k h
    refine lv_aload_n hx hb dX12_grow_83 rfl (lv_at hl 0 rfl) ?_
    refine lv_aload_n hx hb dX12_grow_84 rfl (lv_at hl 0 rfl) ?_
    refine zGetR (D := D) (ci := 12) (C := RX12) (T := TX12) (N := 71) hx hb hts hiX12 hown hH (zk_30 hG.2.2.2.2.2.2) rfl 42 (by decide) rfl hw8 (fun _ h9 => h9) dX12_grow_85 (by rw [hG.2.2.2.2.1 30 42 (by omega) (by omega)]; exact r5) ?_
    refine va_callq (va_runS (As := [.ref (τ129.1 225)]) (rest := [.ref (τ129.1 30)]) ⟨hx, hb, hml, hown, hts⟩ (m_longer_256 l hl0 D A sad τ129 f130 g132 ol hG.2.2.2.2.2.2 225 235 (⟨(show τ129.2.2.1 225 = 1 by rw [(hG.1 225 (by omega)).2.1]; exact k5), (show τ129.2.2.2 225 = 256 by rw [(hG.1 225 (by omega)).2.2]; exact l5)⟩) (by rw [(hG.1 235 (by omega)).2.1]; exact v5) (by omega) (by omega)) (cwS 1 hts gX12_grow_X12_longer rfl rfl rfl (by decide +kernel) ⟨Nat.le_of_ble_eq_true rfl, Nat.le_of_ble_eq_true rfl⟩) ⟨zQc_bl, zQc_at hz hS hA hH⟩ rfl rfl hl.1 rfl (lv_room (Nat.le_of_ble_eq_true rfl)) dX12_grow_88 ⟨Nat.le_of_ble_eq_true rfl, Nat.le_of_ble_eq_true rfl⟩) hS (fun q _ h => h) (fun q h => h) (fun r134 u9 t9 H1 locs ht9 hvm9 hw hB hz1 hk1 hS => ?_)
    obtain ⟨τ135, f136, g137⟩ := u9
    have hH := zMv ht9 hvm9 hB
    clear hB
    simp only at hw hH
    generalize H1 = H at hH hS ⊢
    refine W.widen (k := 6) (n := 3072) (by decide) (by decide) ?_
    obtain ⟨rfl, hlg⟩ := hw
    have ha6 : ∀ i, i ≠ 235 → τ135.1 i = τ129.1 i := fun i h => (hlg.1 i h).1
    refine W.eq (g2 := F0 m 91 ls [.ref (τ135.1 235), .ref (τ129.1 30)]) rfl ?_
    rw [show τ129.1 30 = τ135.1 30 from (ha6 30 (by omega)).symm] at hl
    rw [show τ129.1 230 = τ135.1 230 from (ha6 230 (by omega)).symm] at hl
    refine W.eq (g2 := F0 m 91 ls [.ref (τ135.1 235), .ref (τ135.1 30)]) (by rw [ha6 30 (by omega)]) ?_
    refine zPutR (D := D) (ci := 12) (ty := .array .int) (C := RX12) (T := TX12) (N := 71) hx hb hts hiX12 tyX12 tyX12_ok nmX12 hown hH hS (zk_30 hlg.2.2.1) rfl 42 (by decide) rfl hw8 (fun _ h9 => h9) rfl (by rw [hlg.2.1.1]; decide)  (by decide +kernel) rfl rfl dX12_grow_91 (fun H locs hH hS => ?_)
    obtain ⟨g138, eg138⟩ : ∃ f9 : zFr, f9 = zur g137 30 42 (some 235) := ⟨_, rfl⟩
    rw [← eg138] at hH
    have hF139 : zFix τ135 g138 := by rw [eg138]; exact hlg.2.2.1.ur30 (by omega)
    have hG := zGp.step (ia := 225) (ib := 235) (N := 256) (kk := 42) hG (by omega) (by omega) (by omega) (by omega) (by decide) hlg (by omega) eg138 hF139
    have hG : zGp τ fi fr 2 256 6 τ135 f136 g138 := hG
    have hW0 : ∀ k, k < 256 → f136 230 k = fi 220 k := fun k h => by rw [hlg.2.2.2.1 230 k (by omega)]; exact hW0 k h
    refine lv_aload_n hx hb dX12_grow_94 rfl (lv_at hl 0 rfl) ?_
    refine lv_aload_n hx hb dX12_grow_95 rfl (lv_at hl 0 rfl) ?_
    refine zGetR (D := D) (ci := 12) (C := RX12) (T := TX12) (N := 71) hx hb hts hiX12 hown hH (zk_30 hG.2.2.2.2.2.2) rfl 43 (by decide) rfl hw9 (fun _ h9 => h9) dX12_grow_96 (by rw [hG.2.2.2.2.1 30 43 (by omega) (by omega)]; exact r6) ?_
    refine va_callq (va_runS (As := [.ref (τ135.1 226)]) (rest := [.ref (τ135.1 30)]) ⟨hx, hb, hml, hown, hts⟩ (m_longer_2048 l hl0 D A sad τ135 f136 g138 ol hG.2.2.2.2.2.2 226 236 (⟨(show τ135.2.2.1 226 = 1 by rw [(hG.1 226 (by omega)).2.1]; exact k6), (show τ135.2.2.2 226 = 2048 by rw [(hG.1 226 (by omega)).2.2]; exact l6)⟩) (by rw [(hG.1 236 (by omega)).2.1]; exact v6) (by omega) (by omega)) (cwS 1 hts gX12_grow_X12_longer rfl rfl rfl (by decide +kernel) ⟨Nat.le_of_ble_eq_true rfl, Nat.le_of_ble_eq_true rfl⟩) ⟨zQc_bl, zQc_at hz hS hA hH⟩ rfl rfl hl.1 rfl (lv_room (Nat.le_of_ble_eq_true rfl)) dX12_grow_99 ⟨Nat.le_of_ble_eq_true rfl, Nat.le_of_ble_eq_true rfl⟩) hS (fun q _ h => h) (fun q h => h) (fun r140 u9 t9 H1 locs ht9 hvm9 hw hB hz1 hk1 hS => ?_)
    obtain ⟨τ141, f142, g143⟩ := u9
    have hH := zMv ht9 hvm9 hB
    clear hB
    simp only at hw hH
    generalize H1 = H at hH hS ⊢
    refine W.widen (k := 7) (n := 7168) (by decide) (by decide) ?_
    obtain ⟨rfl, hlg⟩ := hw
    have ha6 : ∀ i, i ≠ 236 → τ141.1 i = τ135.1 i := fun i h => (hlg.1 i h).1
    refine W.eq (g2 := F0 m 102 ls [.ref (τ141.1 236), .ref (τ135.1 30)]) rfl ?_
    rw [show τ135.1 30 = τ141.1 30 from (ha6 30 (by omega)).symm] at hl
    rw [show τ135.1 230 = τ141.1 230 from (ha6 230 (by omega)).symm] at hl
    refine W.eq (g2 := F0 m 102 ls [.ref (τ141.1 236), .ref (τ141.1 30)]) (by rw [ha6 30 (by omega)]) ?_
    refine zPutR (D := D) (ci := 12) (ty := .array .int) (C := RX12) (T := TX12) (N := 71) hx hb hts hiX12 tyX12 tyX12_ok nmX12 hown hH hS (zk_30 hlg.2.2.1) rfl 43 (by decide) rfl hw9 (fun _ h9 => h9) rfl (by rw [hlg.2.1.1]; decide)  (by decide +kernel) rfl rfl dX12_grow_102 (fun H locs hH hS => ?_)
    obtain ⟨g144, eg144⟩ : ∃ f9 : zFr, f9 = zur g143 30 43 (some 236) := ⟨_, rfl⟩
    rw [← eg144] at hH
    have hF145 : zFix τ141 g144 := by rw [eg144]; exact hlg.2.2.1.ur30 (by omega)
    have hG := zGp.step (ia := 226) (ib := 236) (N := 2048) (kk := 43) hG (by omega) (by omega) (by omega) (by omega) (by decide) hlg (by omega) eg144 hF145
    have hG : zGp τ fi fr 2 256 7 τ141 f142 g144 := hG
    have hW0 : ∀ k, k < 256 → f142 230 k = fi 220 k := fun k h => by rw [hlg.2.2.2.1 230 k (by omega)]; exact hW0 k h
    refine lv_aload_n hx hb dX12_grow_105 rfl (lv_at hl 0 rfl) ?_
    refine lv_aload_n hx hb dX12_grow_106 rfl (lv_at hl 0 rfl) ?_
    refine zGetR (D := D) (ci := 12) (C := RX12) (T := TX12) (N := 71) hx hb hts hiX12 hown hH (zk_30 hG.2.2.2.2.2.2) rfl 44 (by decide) rfl hw10 (fun _ h9 => h9) dX12_grow_107 (by rw [hG.2.2.2.2.1 30 44 (by omega) (by omega)]; exact r7) ?_
    refine va_callq (va_runS (As := [.ref (τ141.1 227)]) (rest := [.ref (τ141.1 30)]) ⟨hx, hb, hml, hown, hts⟩ (m_longer_2048 l hl0 D A sad τ141 f142 g144 ol hG.2.2.2.2.2.2 227 237 (⟨(show τ141.2.2.1 227 = 1 by rw [(hG.1 227 (by omega)).2.1]; exact k7), (show τ141.2.2.2 227 = 2048 by rw [(hG.1 227 (by omega)).2.2]; exact l7)⟩) (by rw [(hG.1 237 (by omega)).2.1]; exact v7) (by omega) (by omega)) (cwS 1 hts gX12_grow_X12_longer rfl rfl rfl (by decide +kernel) ⟨Nat.le_of_ble_eq_true rfl, Nat.le_of_ble_eq_true rfl⟩) ⟨zQc_bl, zQc_at hz hS hA hH⟩ rfl rfl hl.1 rfl (lv_room (Nat.le_of_ble_eq_true rfl)) dX12_grow_110 ⟨Nat.le_of_ble_eq_true rfl, Nat.le_of_ble_eq_true rfl⟩) hS (fun q _ h => h) (fun q h => h) (fun r146 u9 t9 H1 locs ht9 hvm9 hw hB hz1 hk1 hS => ?_)
    obtain ⟨τ147, f148, g149⟩ := u9
    have hH := zMv ht9 hvm9 hB
    clear hB
    simp only at hw hH
    generalize H1 = H at hH hS ⊢
    refine W.widen (k := 8) (n := 11264) (by decide) (by decide) ?_
    obtain ⟨rfl, hlg⟩ := hw
    have ha6 : ∀ i, i ≠ 237 → τ147.1 i = τ141.1 i := fun i h => (hlg.1 i h).1
    refine W.eq (g2 := F0 m 113 ls [.ref (τ147.1 237), .ref (τ141.1 30)]) rfl ?_
    rw [show τ141.1 30 = τ147.1 30 from (ha6 30 (by omega)).symm] at hl
    rw [show τ141.1 230 = τ147.1 230 from (ha6 230 (by omega)).symm] at hl
    refine W.eq (g2 := F0 m 113 ls [.ref (τ147.1 237), .ref (τ147.1 30)]) (by rw [ha6 30 (by omega)]) ?_
    refine zPutR (D := D) (ci := 12) (ty := .array .int) (C := RX12) (T := TX12) (N := 71) hx hb hts hiX12 tyX12 tyX12_ok nmX12 hown hH hS (zk_30 hlg.2.2.1) rfl 44 (by decide) rfl hw10 (fun _ h9 => h9) rfl (by rw [hlg.2.1.1]; decide)  (by decide +kernel) rfl rfl dX12_grow_113 (fun H locs hH hS => ?_)
    obtain ⟨g150, eg150⟩ : ∃ f9 : zFr, f9 = zur g149 30 44 (some 237) := ⟨_, rfl⟩
    rw [← eg150] at hH
    have hF151 : zFix τ147 g150 := by rw [eg150]; exact hlg.2.2.1.ur30 (by omega)
    have hG := zGp.step (ia := 227) (ib := 237) (N := 2048) (kk := 44) hG (by omega) (by omega) (by omega) (by omega) (by decide) hlg (by omega) eg150 hF151
    have hG : zGp τ fi fr 2 256 8 τ147 f148 g150 := hG
    have hW0 : ∀ k, k < 256 → f148 230 k = fi 220 k := fun k h => by rw [hlg.2.2.2.1 230 k (by omega)]; exact hW0 k h
    refine W.widen (k := 8) (n := 11264) (by decide) (by decide) ?_
    exact W.vret hx hb hr (fun t9 ht9 hW9 => ⟨⟨(τ147, f148, g150), rfl, (show (zMq τ147 f148 g150 3 512 256 ∧ zGz τ fr τ147 g150 ∧ ∀ i k, ¬ (200 ≤ i ∧ i < 240) → f148 i k = fi i k) ∧ ∀ j, j < 8 → ∀ k, k < (if j < 6 then 256 else 8 * 256) → f148 (200 + j + 10 * (2 + 1)) k = fi (200 + j + 10 * 2) k from ⟨zGp.done hMq0 (by omega) hG, zGp.cp hG hW0⟩), zEnd1 hH ht9 hW9⟩, hS.F ht9⟩) hS.2.2 dX12_grow_116
  · have zc107 := c107
    replace zc107 := zc_nle (nI_toInt (by omega)) (nI_toInt (by omega)) zc107
    refine lv_aload_n hx hb dX12_grow_19 rfl (lv_at hl 1 rfl) ?_
    refine lv_iload_n hx hb dX12_grow_20 rfl (lv_at hl 2 rfl) ?_
    refine lv_aload_n hx hb dX12_grow_21 rfl (lv_at hl 0 rfl) ?_
    refine zGetR (D := D) (ci := 12) (C := RX12) (T := TX12) (N := 71) hx hb hts hiX12 hown hH (zk_30 hFτ102) rfl 37 (by decide) rfl hw3 (fun _ h9 => h9) dX12_grow_22 (by rw [eg104, va_up_ne _ _ (by omega)]; exact r0) ?_
    refine lv_iload_n hx hb dX12_grow_25 rfl (lv_at hl 2 rfl) ?_
    refine zZaldN (D := D) hx hb hH (show τ102.2.2.1 220 = 3 by rw [(hbτ102 220 (by omega)).1]; exact k0) (show τ102.2.2.2 220 = 256 by rw [(hbτ102 220 (by omega)).2]; exact l0) (by omega) (by omega) rfl dX12_grow_26 ?_
    refine zZastN (D := D) hx hb hH hS hkτ102 hnτ102 (by omega) (by omega) dX12_grow_27 (fun H locs hH hS => ?_)
    obtain ⟨f152, ef152⟩ : ∃ f9 : zFi, f9 = zu f 230 i (vp_nar .boolean (f 220 i)) := ⟨_, rfl⟩
    rw [← ef152] at hH
    have q153 : f152 30 35 = nI 256 := by rw [ef152, zu_n (fun h9 => absurd h9.1 (by decide))]; exact q35
    have q154 : f152 230 i = (vp_nar .boolean (f 220 i)) := by rw [ef152]; exact zu_s
    refine lv_iinc (v := nI (i + 1)) (lv' := [(2, .int (nI (i + 1))), (0, .ref (τ102.1 30)), (1, .ref (τ102.1 230))]) hx hb dX12_grow_28 hl (k := 2) rfl (by rw [show (Int32.ofInt 1 : Int32) = nI 1 from by decide, nI_add]) (by decide) rfl (fun ls hl => ?_)
    refine lv_goto (tgt := 11) hx hb dX12_grow_31 (by decide) ?_
    exact ih106 (256 - (i + 1)) (by omega) (i + 1, f152) _ _ _ (show 256 - (i + 1) = 256 - (i + 1) ∧ ((i + 1) ≤ 256 ∧ (∀ k, k < (i + 1) → f152 230 k = fi 220 k) ∧ ∀ i9 k, i9 ≠ 230 → f152 i9 k = fi i9 k) ∧ zH D A τ102 f152 g104 ol s _ ∧ va_S A s.heap _ _ ∧ lv_has _ 3 [(0, .ref (τ102.1 30)), (1, .ref (τ102.1 230)), (2, .int (nI (i + 1)))] from ⟨rfl, ⟨by omega, fun k h => by by_cases h7 : k = i; (subst h7; rw [ef152, zu_s, hfr 220 k (by omega)]; exact zNarB (hbl k (by omega))); (rw [ef152, zu_n (by omega)]; exact hwc k (by omega)), fun i9 k h => by rw [ef152, zu_n (by omega)]; exact hfr i9 k h⟩, hH, hS, lv_sub hl [1, 2, 0] rfl⟩)
theorem zIf_m1 {c j : Nat} {lc : Nat → Nat} (h : j < 2147483648) : zIf (-1) c lc j = lc j := if_neg (zNm1 h)
theorem zqLy.up {fi fi' : zFi} {L k c : Nat} {lc mn : Nat → Nat} (h : zqLy fi L lc mn) (hc : c < 10000) (e : fi' = zu fi 48 k (nI c)) : zqLy fi' L (zUp lc k c) mn := by
  refine ⟨h.1, by rw [e, zu_n (by omega)]; exact h.2.1, fun j w => ?_⟩
  obtain ⟨a1, a2, a3⟩ := h.2.2 j w
  unfold zUp
  by_cases q9 : j = k
  · subst q9; rw [if_pos rfl, e]; exact ⟨zu_s, hc, by rw [zu_n (by omega)]; exact a3⟩
  · rw [if_neg q9, e]; exact ⟨by rw [zu_n (by omega)]; exact a1, a2, by rw [zu_n (by omega)]; exact a3⟩
set_option maxHeartbeats 4000000 in
set_option maxRecDepth 100000 in
/-- letter -/
theorem m_letterN (l : Launch) (hl0 : l.stackTraces = false) (D : va_G) (A : Nat → Prop) (sad : Nat → Nat) (τ : zTy) (fi : zFi) (fr : zFr) (ol : Int64) (L : Nat) (hF : zFix τ fr) (hn : fi 30 21 = nI L) (hL4 : L ≤ 400) (n : Nat) (hMt : zMt fi n) (o : Nat) (hMo : zMo fi n o) (g Ln d : Nat) (hMq : zMq τ fi fr g Ln d) (hd5 : d < 512) (hB0 : ∀ j, j < L → 0 ≤ (fi 47 j).toInt) (td : Nat) (cd pN : Nat → Nat) (hPb : zqPb fi n td cd pN) (wq : Nat) (hwq : fi 30 36 = nI wq) (hw9 : wq ≤ 20) (hbl : ∀ k, k < d → fi (200 + 10 * g) k = 0 ∨ fi (200 + 10 * g) k = 1) : Met l yX12_letter wsX12_letter ({ frames := 5, cells := 8, slots := 11264, locals := 111 }) (va_Pc [.ref (τ.1 30)] (zQc D A sad τ fi fr ol)) (va_Qi (fun (r : Int32) (u : zTy × zFi × zFr) => ((∃ o2, o ≤ o2 ∧ o2 ≤ o + 1 ∧ zMo u.2.1 n o2) ∧ (∃ g2 L2 d2, d2 ≤ d + 1 ∧ zMq u.1 u.2.1 u.2.2 g2 L2 d2) ∧ u.2.1 30 21 = nI 0 ∧ zGz τ fr u.1 u.2.2 ∧ ∀ a b, ¬ (a = 48 ∨ a = 49 ∨ (50 ≤ a ∧ a ≤ 64) ∨ (200 ≤ a ∧ a < 240) ∨ (a = 30 ∧ (b = 0 ∨ (21 ≤ b ∧ b ≤ 36) ∨ b = 45))) → u.2.1 a b = fi a b) ∧ u.2.1 30 24 = (zFv (zLet (fi 47) L (zS (fi 47) L 0))) ∧ (((∃ p, zLet (fi 47) L (zS (fi 47) L 0) = .error p) ∧ u.2.1 30 0 = nI 1 ∧ u.2.1 30 45 = nI o ∧ u.1 = τ ∧ u.2.2 = fr ∧ u.2.1 30 35 = nI d ∧ u.2.1 30 36 = nI wq ∧ ∀ a b, 200 ≤ a → a < 240 → u.2.1 a b = fi a b) ∨ ((∃ xl lc2 m2 b2, zLet (fi 47) L (zS (fi 47) L 0) = .ok xl ∧ zLm2 cd pN n xl lc2 m2 b2 ∧ (((b2 = 1 ∧ (zDue (fi 44) (nI (zN xl.2.2.2.1))).toInt ≤ xl.2.2.2.2.toInt) ∧ o = 60) ∨ (¬ (b2 = 1 ∧ (zDue (fi 44) (nI (zN xl.2.2.2.1))).toInt ≤ xl.2.2.2.2.toInt) ∧ wq = 20))) ∧ u.2.1 30 0 = nI 2 ∧ u.2.1 30 45 = nI o ∧ u.1 = τ ∧ u.2.2 = fr ∧ u.2.1 30 35 = nI d ∧ u.2.1 30 36 = nI wq ∧ ∀ a b, 200 ≤ a → a < 240 → u.2.1 a b = fi a b) ∨ ((∃ xl lc2 m2 b2, zLet (fi 47) L (zS (fi 47) L 0) = .ok xl ∧ zLm2 cd pN n xl lc2 m2 b2 ∧ b2 = 1 ∧ (zDue (fi 44) (nI (zN xl.2.2.2.1))).toInt ≤ xl.2.2.2.2.toInt) ∧ o < 60 ∧ r = nI o ∧ u.2.1 30 0 = nI 0 ∧ u.2.1 30 45 = nI (o + 1) ∧ u.1 = τ ∧ u.2.2 = fr ∧ u.2.1 30 35 = nI d ∧ u.2.1 30 36 = nI wq ∧ ∀ a b, 200 ≤ a → a < 240 → u.2.1 a b = fi a b) ∨ ((∃ xl lc2 m2 b2, zLet (fi 47) L (zS (fi 47) L 0) = .ok xl ∧ zLm2 cd pN n xl lc2 m2 b2 ∧ ¬ (b2 = 1 ∧ (zDue (fi 44) (nI (zN xl.2.2.2.1))).toInt ≤ xl.2.2.2.2.toInt) ∧ ∃ g2 L2, zMq u.1 u.2.1 u.2.2 g2 L2 (d + 1) ∧ (∀ j, j < 8 → ∀ k, k < (if j < 6 then d else 8 * d) → u.2.1 (200 + j + 10 * g2) k = fi (200 + j + 10 * g) k) ∧ u.2.1 30 36 = nI (wq + 1) ∧ u.2.1 (200 + 10 * g2) d = nI 1 ∧ u.2.1 (201 + 10 * g2) d = nI m2 ∧ u.2.1 (202 + 10 * g2) d = nI xl.1 ∧ u.2.1 (203 + 10 * g2) d = nI (zCn (fun j => zPo cd pN n (lc2 j)) xl.1) ∧ u.2.1 (204 + 10 * g2) d = nI (zN xl.2.2.2.1) ∧ u.2.1 (205 + 10 * g2) d = xl.2.2.2.2 ∧ ∀ j, j < xl.1 → u.2.1 (206 + 10 * g2) (8 * d + j) = nI (lc2 j) ∧ u.2.1 (207 + 10 * g2) (8 * d + j) = nI (zMnN xl j)) ∧ ¬ wq = 20 ∧ r = -1 - nI (d + 1) ∧ u.2.1 30 0 = nI 0 ∧ u.2.1 30 45 = nI o))) (fun (u : zTy × zFi × zFr) (t : State) => zH D A u.1 u.2.1 u.2.2 ol t t.heap) A) 8 11264 A := by
  refine Met.ofW (cc := cX12_letter) (maxL := 6) (ret := (some .int)) (by decide) rfl ?_
  intro p9 e9 s m args below meth c9 s₁ B hml hv
  obtain ⟨rfl, hz, hH, hA⟩ := hv
  have hx := B.exec
  have hb := B.bytes
  have hr := B.returns
  have hts := atoms_spec (ws := wsX12_letter) B.pre
  have hown : s.vm.findClass RX12 = some m.cls := findClass_of_methodNamed B.named
  have hlocks := B.notSynchronized
  have hS : va_S A s.heap s.heap [] := va_S.rf
  have hl := lv_entry ([.ref (τ.1 30)]) (n := 6) (Nat.le_of_ble_eq_true rfl)
  rw [lg_entry_eq]
  generalize (lg_sl ([.ref (τ.1 30)]) ++ List.replicate (6 - (lg_sl ([.ref (τ.1 30)])).length) Slot.unset).toArray = ls at hl ⊢
  have hl : lv_has ls 6 [(0, .ref (τ.1 30))] := hl
  have hm30 := hMt.1
  have hLn : g ≤ 3 ∧ Ln ≤ 512 := by have := hMq.1; omega
  have hdL := hMq.2.1
  have ho60 := hMo.1
  have hw0 := hts (.fieldLink RX12 165 "PostHouseModel" "thrown" "I") (by decide +kernel)
  have hiX12 : ∀ w ∈ u_ws RX12 TX12 71, w ∈ wsX12_letter := fun _ h => List.mem_cons_of_mem _ (List.mem_append_right _ h)
  have hw2 := hts (.fieldLink RX12 71 "PostHouseModel" "doubtWaits" "[Z") (by decide +kernel)
  have hw3 := hts (.fieldLink RX12 320 "PostHouseModel" "doubts" "I") (by decide +kernel)
  have hw4 := hts (.fieldLink RX12 75 "PostHouseModel" "doubtMendings" "[I") (by decide +kernel)
  have hw5 := hts (.fieldLink RX12 283 "PostHouseModel" "mendings" "I") (by decide +kernel)
  have hw6 := hts (.fieldLink RX12 78 "PostHouseModel" "doubtLines" "[I") (by decide +kernel)
  have hw7 := hts (.fieldLink RX12 262 "PostHouseModel" "lines" "I") (by decide +kernel)
  have hw8 := hts (.fieldLink RX12 81 "PostHouseModel" "doubtKnown" "[I") (by decide +kernel)
  have hw9 := hts (.fieldLink RX12 84 "PostHouseModel" "doubtSum" "[I") (by decide +kernel)
  have hw10 := hts (.fieldLink RX12 272 "PostHouseModel" "sum" "I") (by decide +kernel)
  have hw11 := hts (.fieldLink RX12 87 "PostHouseModel" "doubtMoney" "[I") (by decide +kernel)
  have hw12 := hts (.fieldLink RX12 275 "PostHouseModel" "money" "I") (by decide +kernel)
  have hw13 := hts (.fieldLink RX12 311 "PostHouseModel" "waiting" "I") (by decide +kernel)
  have hw14 := hts (.fieldLink RX12 90 "PostHouseModel" "doubtCode" "[I") (by decide +kernel)
  have hw15 := hts (.fieldLink RX12 65 "PostHouseModel" "lineCode" "[I") (by decide +kernel)
  have hw16 := hts (.fieldLink RX12 93 "PostHouseModel" "doubtMany" "[I") (by decide +kernel)
  have hw17 := hts (.fieldLink RX12 68 "PostHouseModel" "lineMany" "[I") (by decide +kernel)
  have hw18 := hts (.fieldLink RX12 293 "PostHouseModel" "mendLine" "I") (by decide +kernel)
  have hw19 := hts (.fieldLink RX12 296 "PostHouseModel" "mendCode" "I") (by decide +kernel)
  have hw20 := hts (.fieldLink RX12 171 "PostHouseModel" "orders" "I") (by decide +kernel)
  have hw21 := hts (.fieldLink RX12 314 "PostHouseModel" "mended" "I") (by decide +kernel)
  refine lv_aload_n hx hb dX12_letter_0 rfl (lv_at hl 0 rfl) ?_
  refine va_callv (va_runV (As := []) (rest := []) ⟨hx, hb, hml, hown, hts⟩ (m_beginX l hl0 D A sad τ fi fr ol L hF hn) (cwV 0 hts gX12_letter_X12_beginText rfl rfl rfl (by decide +kernel) ⟨Nat.le_of_ble_eq_true rfl, Nat.le_of_ble_eq_true rfl⟩) ⟨zQc_bl, zRecv hH (zk_30 hF) rfl, zQc_at hz hS hA hH⟩ rfl rfl hl.1 rfl (lv_room (Nat.le_of_ble_eq_true rfl)) dX12_letter_1 ⟨Nat.le_of_ble_eq_true rfl, Nat.le_of_ble_eq_true rfl⟩) hS (fun q _ h => h) (fun q h => h) (fun u9 t9 H1 locs ht9 hvm9 hw hB hz1 hk1 hS => ?_)
  have hH := zMv ht9 hvm9 hB
  clear hB
  generalize u9 = f102 at hw hH
  generalize H1 = H at hH hS ⊢
  obtain ⟨q21, q22, q23, q24, hf21⟩ := hw
  have q103 : f102 30 45 = nI o := by rw [hf21 30 45 (by omega)]; exact hMo.2.1
  have q104 : f102 30 35 = nI d := by rw [hf21 30 35 (by omega)]; exact hMq.2.2.1
  have q105 : f102 30 36 = nI wq := by rw [hf21 30 36 (by omega)]; exact hwq
  have q106 : f102 30 2 = nI n := by rw [hf21 30 2 (by omega)]; exact hMt.2.1
  have hMt := zMt.ci (fi' := f102) hMt (fun i9 k9 h9 => hf21 i9 k9 (by omega))
  have hMo := zMo.ci (fi' := f102) hMo (fun i9 k9 h9 => hf21 i9 k9 (by omega))
  have hMq := zMq.ci (fi' := f102) hMq (fun i9 k9 h9 => hf21 i9 k9 (by omega))
  have hPb := zqPb.cg (fi' := f102) hPb (fun i9 k9 h9 => hf21 i9 k9 (by omega))
  refine lv_aload_n hx hb dX12_letter_4 rfl (lv_at hl 0 rfl) ?_
  refine lv_iconst (v := nI 0) hx hb dX12_letter_5 (by decide) ?_
  refine zPutI (D := D) (ci := 12) (ty := .int) (C := RX12) (T := TX12) (N := 71) hx hb hts hiX12 tyX12 tyX12_ok nmX12 hown hH hS (zk_30 hF) rfl 0 (by decide) rfl hw0 (fun _ h9 => h9) rfl (by decide +kernel) rfl rfl dX12_letter_6 (fun H locs hH hS => ?_)
  obtain ⟨f107, ef107⟩ : ∃ f9 : zFi, f9 = zu f102 30 0 (nI 0) := ⟨_, rfl⟩
  rw [← ef107] at hH
  have q108 : f107 30 45 = nI o := by rw [ef107, zu_n (fun h9 => absurd h9.2 (by decide))]; exact q103
  have q109 : f107 30 35 = nI d := by rw [ef107, zu_n (fun h9 => absurd h9.2 (by decide))]; exact q104
  have q110 : f107 30 36 = nI wq := by rw [ef107, zu_n (fun h9 => absurd h9.2 (by decide))]; exact q105
  have q111 : f107 30 2 = nI n := by rw [ef107, zu_n (fun h9 => absurd h9.2 (by decide))]; exact q106
  have q112 : f107 30 21 = nI 0 := by rw [ef107, zu_n (fun h9 => absurd h9.2 (by decide))]; exact q21
  have q113 : f107 30 22 = nI L := by rw [ef107, zu_n (fun h9 => absurd h9.2 (by decide))]; exact q22
  have q114 : f107 30 23 = nI 0 := by rw [ef107, zu_n (fun h9 => absurd h9.2 (by decide))]; exact q23
  have q115 : f107 30 24 = (-1) := by rw [ef107, zu_n (fun h9 => absurd h9.2 (by decide))]; exact q24
  have q116 : f107 30 0 = nI 0 := by rw [ef107]; exact zu_s
  have hMt := zMt.ci (fi' := f107) hMt (fun i9 k9 h9 => by rw [ef107]; exact zu_n (by omega))
  have hMo := zMo.ci (fi' := f107) hMo (fun i9 k9 h9 => by rw [ef107]; exact zu_n (by omega))
  have hMq := zMq.ci (fi' := f107) hMq (fun i9 k9 h9 => by rw [ef107]; exact zu_n (by omega))
  have hPb := zqPb.cg (fi' := f107) hPb (fun i9 k9 h9 => by rw [ef107]; exact zu_n (by omega))
  refine lv_aload_n hx hb dX12_letter_9 rfl (lv_at hl 0 rfl) ?_
  refine va_calli (va_runV (As := []) (rest := []) ⟨hx, hb, hml, hown, hts⟩ (m_readLetterX l hl0 D A sad τ f107 fr ol L 0 hF q113 q114 (by omega) (by omega) ((fun j hj => by rw [ef107, zu_n (by omega), hf21 47 j (by omega)]; exact hB0 j hj))) (cwV 0 hts gX12_letter_X12_readLetter rfl rfl rfl (by decide +kernel) ⟨Nat.le_of_ble_eq_true rfl, Nat.le_of_ble_eq_true rfl⟩) ⟨zQc_bl, zRecv hH (zk_30 hF) rfl, zQc_at hz hS hA hH⟩ rfl rfl hl.1 rfl (lv_room (Nat.le_of_ble_eq_true rfl)) dX12_letter_10 ⟨Nat.le_of_ble_eq_true rfl, Nat.le_of_ble_eq_true rfl⟩) hS (fun q _ h => h) (fun q h => h) (fun r117 u9 t9 H1 locs ht9 hvm9 hw hB hz1 hk1 hS => ?_)
  have hH := zMv ht9 hvm9 hB
  clear hB
  generalize u9 = f118 at hw hH
  generalize H1 = H at hH hS ⊢
  obtain ⟨hr119, hf120⟩ := hw
  rw [(funext (fun k9 => by rw [ef107, zu_n (by omega), hf21 47 k9 (by omega)]) : f107 47 = fi 47)] at hr119
  have q121 : f118 30 45 = nI o := by rw [hf120 30 45 (by omega)]; exact q108
  have q122 : f118 30 35 = nI d := by rw [hf120 30 35 (by omega)]; exact q109
  have q123 : f118 30 36 = nI wq := by rw [hf120 30 36 (by omega)]; exact q110
  have q124 : f118 30 2 = nI n := by rw [hf120 30 2 (by omega)]; exact q111
  have q125 : f118 30 21 = nI 0 := by rw [hf120 30 21 (by omega)]; exact q112
  have q126 : f118 30 22 = nI L := by rw [hf120 30 22 (by omega)]; exact q113
  have q127 : f118 30 0 = nI 0 := by rw [hf120 30 0 (by omega)]; exact q116
  have hMt := zMt.ci (fi' := f118) hMt (fun i9 k9 h9 => hf120 i9 k9 (by omega))
  have hMo := zMo.ci (fi' := f118) hMo (fun i9 k9 h9 => hf120 i9 k9 (by omega))
  have hMq := zMq.ci (fi' := f118) hMq (fun i9 k9 h9 => hf120 i9 k9 (by omega))
  have hPb := zqPb.cg (fi' := f118) hPb (fun i9 k9 h9 => hf120 i9 k9 (by omega))
  rcases hr119 with ⟨xl, hle, rfl, h24, hMl, hCP, h29, h30⟩ | ⟨px, -, hle, rfl, h24⟩
  · skip
    have hgd := zLet_in hle
    have hLy := zqLy.rd hgd hMl.2.1 hCP
    obtain ⟨l0, hl0e⟩ : ∃ l, l = xl.1 := ⟨_, rfl⟩
    rw [← hl0e] at hMl hLy
    have k24 : f118 30 24 = (zFv (zLet (fi 47) L (zS (fi 47) L 0))) := h24.trans (q115.trans (by rw [hle]; rfl))
    have k29 : f118 30 29 = nI (zN xl.2.2.2.1) := h29.trans (zN_eq hgd.2.2.2.1.1)
    have hs9 : (zN xl.2.2.2.1) ≤ 999999 := zN_le (by have h9 := hgd.2.2.2.1.2; omega)
    have hl8 := hMl.1
    refine lv_if_ne (tgt := 23) hx hb dX12_letter_13 (by decide) (fun c128 => ?_) (fun c128 => absurd c128 (by decide))
    refine zCut (σ := zFi × (Nat → Nat) × Nat × Nat) 186 (fun x9 => (fun (f6 : zFi) (lc2 : Nat → Nat) (m2 : Nat) (b2 : Nat) => []) x9.1 x9.2.1 x9.2.2.1 x9.2.2.2) (fun x9 H locs ls => (fun (f6 : zFi) (lc2 : Nat → Nat) (m2 : Nat) (b2 : Nat) => (zMl f6 l0 ∧ f6 30 21 = nI 0 ∧ f6 30 24 = (zFv (zLet (fi 47) L (zS (fi 47) L 0))) ∧ zMo f6 n o ∧ zMq τ f6 fr g Ln d ∧ (f6 30 0 = nI 0 ∧ f6 30 29 = nI (zN xl.2.2.2.1) ∧ f6 30 30 = xl.2.2.2.2 ∧ f6 30 31 = nI m2 ∧ f6 30 36 = nI wq ∧ f6 30 45 = nI o ∧ zqLy f6 l0 lc2 (zMnN xl)) ∧ zMe (zPl cd pN n (zLcN xl) (zMnN xl) l0 (zN xl.2.2.2.1)) (zFM (zOk cd pN n (zLcN xl) (zMnN xl) l0 (zN xl.2.2.2.1)) n cd l0) (zLcN xl) lc2 m2 b2 ∧ ¬ (b2 = 1 ∧ (zDue (fi 44) (nI (zN xl.2.2.2.1))).toInt ≤ xl.2.2.2.2.toInt) ∧ ¬ wq = 20 ∧ ∀ a b, ¬ (a = 48 ∨ a = 49 ∨ (a = 30 ∧ (b = 0 ∨ (21 ≤ b ∧ b ≤ 34)))) → f6 a b = fi a b) ∧ zH D A τ f6 fr ol s H ∧ va_S A s.heap H locs ∧ lv_has ls 6 [(0, .ref (τ.1 30)), (3, .int (nI (zCn (fun j => zPo cd pN n (lc2 j)) l0)))]) x9.1 x9.2.1 x9.2.2.1 x9.2.2.2) (fun x9 H locs ls hv9 => ?_) (fun hJ129 => ?_)
    · skip
      obtain ⟨f6, lc2, m2, b2⟩ := x9
      have hv9 : (zMl f6 l0 ∧ f6 30 21 = nI 0 ∧ f6 30 24 = (zFv (zLet (fi 47) L (zS (fi 47) L 0))) ∧ zMo f6 n o ∧ zMq τ f6 fr g Ln d ∧ (f6 30 0 = nI 0 ∧ f6 30 29 = nI (zN xl.2.2.2.1) ∧ f6 30 30 = xl.2.2.2.2 ∧ f6 30 31 = nI m2 ∧ f6 30 36 = nI wq ∧ f6 30 45 = nI o ∧ zqLy f6 l0 lc2 (zMnN xl)) ∧ zMe (zPl cd pN n (zLcN xl) (zMnN xl) l0 (zN xl.2.2.2.1)) (zFM (zOk cd pN n (zLcN xl) (zMnN xl) l0 (zN xl.2.2.2.1)) n cd l0) (zLcN xl) lc2 m2 b2 ∧ ¬ (b2 = 1 ∧ (zDue (fi 44) (nI (zN xl.2.2.2.1))).toInt ≤ xl.2.2.2.2.toInt) ∧ ¬ wq = 20 ∧ ∀ a b, ¬ (a = 48 ∨ a = 49 ∨ (a = 30 ∧ (b = 0 ∨ (21 ≤ b ∧ b ≤ 34)))) → f6 a b = fi a b) ∧ zH D A τ f6 fr ol s H ∧ va_S A s.heap H locs ∧ lv_has ls 6 [(0, .ref (τ.1 30)), (3, .int (nI (zCn (fun j => zPo cd pN n (lc2 j)) l0)))] := hv9
      obtain ⟨hv9, hH, hS, hl⟩ := hv9
      obtain ⟨hMl, q21, q24, hMo, hMq, hmore, hme, hnp, hnw, hfr6⟩ := hv9
      show W _ _ _ _ _ _ _ _ _ _ _ _ _ _ _ (F0 m 186 ls [])
      obtain ⟨q0, q29, q30, q31, q36, q45, hLy⟩ := hmore
      have p26 := hMl.2.1
      have p35 := hMq.2.2.1
      refine zCutC (c2 := 8) (s2 := 11264) (σ := zTy × zFi × zFr × Nat × Nat) 202 (fun x9 => (fun (T : zTy) (f7 : zFi) (G : zFr) (g3 : Nat) (L3 : Nat) => []) x9.1 x9.2.1 x9.2.2.1 x9.2.2.2.1 x9.2.2.2.2) (fun x9 H locs ls => (fun (T : zTy) (f7 : zFi) (G : zFr) (g3 : Nat) (L3 : Nat) => (zGz τ fr T G ∧ zMq T f7 G g3 L3 d ∧ d < L3 ∧ zMl f7 l0 ∧ zMo f7 n o ∧ f7 30 21 = nI 0 ∧ f7 30 24 = (zFv (zLet (fi 47) L (zS (fi 47) L 0))) ∧ (f7 30 0 = nI 0 ∧ f7 30 29 = nI (zN xl.2.2.2.1) ∧ f7 30 30 = xl.2.2.2.2 ∧ f7 30 31 = nI m2 ∧ f7 30 36 = nI wq ∧ f7 30 45 = nI o ∧ zqLy f7 l0 lc2 (zMnN xl)) ∧ (∀ j, j < 8 → ∀ k, k < (if j < 6 then d else 8 * d) → f7 (200 + j + 10 * g3) k = fi (200 + j + 10 * g) k) ∧ ∀ a b, ¬ (a = 48 ∨ a = 49 ∨ (50 ≤ a ∧ a ≤ 64) ∨ (200 ≤ a ∧ a < 240) ∨ (a = 30 ∧ (b = 0 ∨ (21 ≤ b ∧ b ≤ 36) ∨ b = 45))) → f7 a b = fi a b) ∧ zH D A T f7 G ol s H ∧ va_S A s.heap H locs ∧ lv_has ls 6 [(0, .ref (T.1 30)), (3, .int (nI (zCn (fun j => zPo cd pN n (lc2 j)) l0)))]) x9.1 x9.2.1 x9.2.2.1 x9.2.2.2.1 x9.2.2.2.2) (fun x9 H locs ls hv9 => ?_) (fun hJ130 => ?_)
      · skip
        obtain ⟨T, f7, G, g3, L3⟩ := x9
        have hv9 : (zGz τ fr T G ∧ zMq T f7 G g3 L3 d ∧ d < L3 ∧ zMl f7 l0 ∧ zMo f7 n o ∧ f7 30 21 = nI 0 ∧ f7 30 24 = (zFv (zLet (fi 47) L (zS (fi 47) L 0))) ∧ (f7 30 0 = nI 0 ∧ f7 30 29 = nI (zN xl.2.2.2.1) ∧ f7 30 30 = xl.2.2.2.2 ∧ f7 30 31 = nI m2 ∧ f7 30 36 = nI wq ∧ f7 30 45 = nI o ∧ zqLy f7 l0 lc2 (zMnN xl)) ∧ (∀ j, j < 8 → ∀ k, k < (if j < 6 then d else 8 * d) → f7 (200 + j + 10 * g3) k = fi (200 + j + 10 * g) k) ∧ ∀ a b, ¬ (a = 48 ∨ a = 49 ∨ (50 ≤ a ∧ a ≤ 64) ∨ (200 ≤ a ∧ a < 240) ∨ (a = 30 ∧ (b = 0 ∨ (21 ≤ b ∧ b ≤ 36) ∨ b = 45))) → f7 a b = fi a b) ∧ zH D A T f7 G ol s H ∧ va_S A s.heap H locs ∧ lv_has ls 6 [(0, .ref (T.1 30)), (3, .int (nI (zCn (fun j => zPo cd pN n (lc2 j)) l0)))] := hv9
        obtain ⟨hv9, hH, hS, hl⟩ := hv9
        obtain ⟨hGz, hMq, hdL3, hMl, hMo, q21, q24, hmore, hCo, hfr7⟩ := hv9
        show W _ _ _ _ _ _ _ _ _ _ _ _ _ _ _ (F0 m 202 ls [])
        obtain ⟨q0, q29, q30, q31, q36, q45, hLy⟩ := hmore
        have p26 := hMl.2.1
        have p35 := hMq.2.2.1
        have hLn3 : g3 ≤ 3 ∧ L3 ≤ 512 := by have := hMq.1; omega
        refine lv_aload_n hx hb dX12_letter_202 rfl (lv_at hl 0 rfl) ?_
        refine zGetR (D := D) (ci := 12) (C := RX12) (T := TX12) (N := 71) hx hb hts hiX12 hown hH (zk_30 hGz.2.2) rfl 37 (by decide) rfl hw2 (fun _ h9 => h9) dX12_letter_203 hMq.2.2.2.2.1.1 ?_
        refine lv_aload_n hx hb dX12_letter_206 rfl (lv_at hl 0 rfl) ?_
        refine zGetI (D := D) (ci := 12) (C := RX12) (T := TX12) (N := 71) hx hb hts hiX12 hown hH (zk_30 hGz.2.2) rfl 35 (by decide) rfl hw3 (fun _ h9 => h9) dX12_letter_207 p35 ?_
        refine lv_iconst (v := nI 1) hx hb dX12_letter_210 (by decide) ?_
        refine zZastN (D := D) hx hb hH hS hMq.2.2.2.1.1.1 hMq.2.2.2.1.1.2 (by omega) (by omega) dX12_letter_211 (fun H locs hH hS => ?_)
        obtain ⟨f131, ef131⟩ : ∃ f9 : zFi, f9 = zu f7 (200 + 10 * g3) d (vp_nar .boolean (nI 1)) := ⟨_, rfl⟩
        rw [← ef131] at hH
        have q132 : f131 30 26 = nI l0 := by rw [ef131, zu_n (fun h9 => by omega)]; exact p26
        have q133 : f131 30 35 = nI d := by rw [ef131, zu_n (fun h9 => by omega)]; exact p35
        have q134 : f131 30 21 = nI 0 := by rw [ef131, zu_n (fun h9 => by omega)]; exact q21
        have q135 : f131 30 24 = (zFv (zLet (fi 47) L (zS (fi 47) L 0))) := by rw [ef131, zu_n (fun h9 => by omega)]; exact q24
        have q136 : f131 30 0 = nI 0 := by rw [ef131, zu_n (fun h9 => by omega)]; exact q0
        have q137 : f131 30 29 = nI ((zN xl.2.2.2.1)) := by rw [ef131, zu_n (fun h9 => by omega)]; exact q29
        have q138 : f131 30 30 = xl.2.2.2.2 := by rw [ef131, zu_n (fun h9 => by omega)]; exact q30
        have q139 : f131 30 31 = nI m2 := by rw [ef131, zu_n (fun h9 => by omega)]; exact q31
        have q140 : f131 30 36 = nI wq := by rw [ef131, zu_n (fun h9 => by omega)]; exact q36
        have q141 : f131 30 45 = nI o := by rw [ef131, zu_n (fun h9 => by omega)]; exact q45
        have q142 : f131 (200 + 10 * g3) d = (vp_nar .boolean (nI 1)) := by rw [ef131]; exact zu_s
        refine lv_aload_n hx hb dX12_letter_212 rfl (lv_at hl 0 rfl) ?_
        refine zGetR (D := D) (ci := 12) (C := RX12) (T := TX12) (N := 71) hx hb hts hiX12 hown hH (zk_30 hGz.2.2) rfl 38 (by decide) rfl hw4 (fun _ h9 => h9) dX12_letter_213 hMq.2.2.2.2.1.2.1 ?_
        refine lv_aload_n hx hb dX12_letter_216 rfl (lv_at hl 0 rfl) ?_
        refine zGetI (D := D) (ci := 12) (C := RX12) (T := TX12) (N := 71) hx hb hts hiX12 hown hH (zk_30 hGz.2.2) rfl 35 (by decide) rfl hw3 (fun _ h9 => h9) dX12_letter_217 q133 ?_
        refine lv_aload_n hx hb dX12_letter_220 rfl (lv_at hl 0 rfl) ?_
        refine zGetI (D := D) (ci := 12) (C := RX12) (T := TX12) (N := 71) hx hb hts hiX12 hown hH (zk_30 hGz.2.2) rfl 31 (by decide) rfl hw5 (fun _ h9 => h9) dX12_letter_221 q139 ?_
        refine zIastN (D := D) hx hb hH hS hMq.2.2.2.1.2.1.1 hMq.2.2.2.1.2.1.2 (by omega) (by omega) dX12_letter_224 (fun H locs hH hS => ?_)
        obtain ⟨f143, ef143⟩ : ∃ f9 : zFi, f9 = zu f131 (201 + 10 * g3) d (nI m2) := ⟨_, rfl⟩
        rw [← ef143] at hH
        have q144 : f143 30 26 = nI l0 := by rw [ef143, zu_n (fun h9 => by omega)]; exact q132
        have q145 : f143 30 35 = nI d := by rw [ef143, zu_n (fun h9 => by omega)]; exact q133
        have q146 : f143 30 21 = nI 0 := by rw [ef143, zu_n (fun h9 => by omega)]; exact q134
        have q147 : f143 30 24 = (zFv (zLet (fi 47) L (zS (fi 47) L 0))) := by rw [ef143, zu_n (fun h9 => by omega)]; exact q135
        have q148 : f143 30 0 = nI 0 := by rw [ef143, zu_n (fun h9 => by omega)]; exact q136
        have q149 : f143 30 29 = nI ((zN xl.2.2.2.1)) := by rw [ef143, zu_n (fun h9 => by omega)]; exact q137
        have q150 : f143 30 30 = xl.2.2.2.2 := by rw [ef143, zu_n (fun h9 => by omega)]; exact q138
        have q151 : f143 30 31 = nI m2 := by rw [ef143, zu_n (fun h9 => by omega)]; exact q139
        have q152 : f143 30 36 = nI wq := by rw [ef143, zu_n (fun h9 => by omega)]; exact q140
        have q153 : f143 30 45 = nI o := by rw [ef143, zu_n (fun h9 => by omega)]; exact q141
        have q154 : f143 (200 + 10 * g3) d = (vp_nar .boolean (nI 1)) := by rw [ef143, zu_n (fun h9 => by omega)]; exact q142
        have q155 : f143 (201 + 10 * g3) d = nI m2 := by rw [ef143]; exact zu_s
        refine lv_aload_n hx hb dX12_letter_225 rfl (lv_at hl 0 rfl) ?_
        refine zGetR (D := D) (ci := 12) (C := RX12) (T := TX12) (N := 71) hx hb hts hiX12 hown hH (zk_30 hGz.2.2) rfl 39 (by decide) rfl hw6 (fun _ h9 => h9) dX12_letter_226 hMq.2.2.2.2.1.2.2.1 ?_
        refine lv_aload_n hx hb dX12_letter_229 rfl (lv_at hl 0 rfl) ?_
        refine zGetI (D := D) (ci := 12) (C := RX12) (T := TX12) (N := 71) hx hb hts hiX12 hown hH (zk_30 hGz.2.2) rfl 35 (by decide) rfl hw3 (fun _ h9 => h9) dX12_letter_230 q145 ?_
        refine lv_aload_n hx hb dX12_letter_233 rfl (lv_at hl 0 rfl) ?_
        refine zGetI (D := D) (ci := 12) (C := RX12) (T := TX12) (N := 71) hx hb hts hiX12 hown hH (zk_30 hGz.2.2) rfl 26 (by decide) rfl hw7 (fun _ h9 => h9) dX12_letter_234 q144 ?_
        refine zIastN (D := D) hx hb hH hS hMq.2.2.2.1.2.2.1.1 hMq.2.2.2.1.2.2.1.2 (by omega) (by omega) dX12_letter_237 (fun H locs hH hS => ?_)
        obtain ⟨f156, ef156⟩ : ∃ f9 : zFi, f9 = zu f143 (202 + 10 * g3) d (nI l0) := ⟨_, rfl⟩
        rw [← ef156] at hH
        have q157 : f156 30 26 = nI l0 := by rw [ef156, zu_n (fun h9 => by omega)]; exact q144
        have q158 : f156 30 35 = nI d := by rw [ef156, zu_n (fun h9 => by omega)]; exact q145
        have q159 : f156 30 21 = nI 0 := by rw [ef156, zu_n (fun h9 => by omega)]; exact q146
        have q160 : f156 30 24 = (zFv (zLet (fi 47) L (zS (fi 47) L 0))) := by rw [ef156, zu_n (fun h9 => by omega)]; exact q147
        have q161 : f156 30 0 = nI 0 := by rw [ef156, zu_n (fun h9 => by omega)]; exact q148
        have q162 : f156 30 29 = nI ((zN xl.2.2.2.1)) := by rw [ef156, zu_n (fun h9 => by omega)]; exact q149
        have q163 : f156 30 30 = xl.2.2.2.2 := by rw [ef156, zu_n (fun h9 => by omega)]; exact q150
        have q164 : f156 30 31 = nI m2 := by rw [ef156, zu_n (fun h9 => by omega)]; exact q151
        have q165 : f156 30 36 = nI wq := by rw [ef156, zu_n (fun h9 => by omega)]; exact q152
        have q166 : f156 30 45 = nI o := by rw [ef156, zu_n (fun h9 => by omega)]; exact q153
        have q167 : f156 (200 + 10 * g3) d = (vp_nar .boolean (nI 1)) := by rw [ef156, zu_n (fun h9 => by omega)]; exact q154
        have q168 : f156 (201 + 10 * g3) d = nI m2 := by rw [ef156, zu_n (fun h9 => by omega)]; exact q155
        have q169 : f156 (202 + 10 * g3) d = nI l0 := by rw [ef156]; exact zu_s
        refine lv_aload_n hx hb dX12_letter_238 rfl (lv_at hl 0 rfl) ?_
        refine zGetR (D := D) (ci := 12) (C := RX12) (T := TX12) (N := 71) hx hb hts hiX12 hown hH (zk_30 hGz.2.2) rfl 40 (by decide) rfl hw8 (fun _ h9 => h9) dX12_letter_239 hMq.2.2.2.2.1.2.2.2.1 ?_
        refine lv_aload_n hx hb dX12_letter_242 rfl (lv_at hl 0 rfl) ?_
        refine zGetI (D := D) (ci := 12) (C := RX12) (T := TX12) (N := 71) hx hb hts hiX12 hown hH (zk_30 hGz.2.2) rfl 35 (by decide) rfl hw3 (fun _ h9 => h9) dX12_letter_243 q158 ?_
        refine lv_iload_n hx hb dX12_letter_246 rfl (lv_at hl 1 rfl) ?_
        refine zIastN (D := D) hx hb hH hS hMq.2.2.2.1.2.2.2.1.1 hMq.2.2.2.1.2.2.2.1.2 (by omega) (by omega) dX12_letter_247 (fun H locs hH hS => ?_)
        obtain ⟨f170, ef170⟩ : ∃ f9 : zFi, f9 = zu f156 (203 + 10 * g3) d (nI (zCn (fun j => zPo cd pN n (lc2 j)) l0)) := ⟨_, rfl⟩
        rw [← ef170] at hH
        have q171 : f170 30 26 = nI l0 := by rw [ef170, zu_n (fun h9 => by omega)]; exact q157
        have q172 : f170 30 35 = nI d := by rw [ef170, zu_n (fun h9 => by omega)]; exact q158
        have q173 : f170 30 21 = nI 0 := by rw [ef170, zu_n (fun h9 => by omega)]; exact q159
        have q174 : f170 30 24 = (zFv (zLet (fi 47) L (zS (fi 47) L 0))) := by rw [ef170, zu_n (fun h9 => by omega)]; exact q160
        have q175 : f170 30 0 = nI 0 := by rw [ef170, zu_n (fun h9 => by omega)]; exact q161
        have q176 : f170 30 29 = nI ((zN xl.2.2.2.1)) := by rw [ef170, zu_n (fun h9 => by omega)]; exact q162
        have q177 : f170 30 30 = xl.2.2.2.2 := by rw [ef170, zu_n (fun h9 => by omega)]; exact q163
        have q178 : f170 30 31 = nI m2 := by rw [ef170, zu_n (fun h9 => by omega)]; exact q164
        have q179 : f170 30 36 = nI wq := by rw [ef170, zu_n (fun h9 => by omega)]; exact q165
        have q180 : f170 30 45 = nI o := by rw [ef170, zu_n (fun h9 => by omega)]; exact q166
        have q181 : f170 (200 + 10 * g3) d = (vp_nar .boolean (nI 1)) := by rw [ef170, zu_n (fun h9 => by omega)]; exact q167
        have q182 : f170 (201 + 10 * g3) d = nI m2 := by rw [ef170, zu_n (fun h9 => by omega)]; exact q168
        have q183 : f170 (202 + 10 * g3) d = nI l0 := by rw [ef170, zu_n (fun h9 => by omega)]; exact q169
        have q184 : f170 (203 + 10 * g3) d = nI (zCn (fun j => zPo cd pN n (lc2 j)) l0) := by rw [ef170]; exact zu_s
        refine lv_aload_n hx hb dX12_letter_248 rfl (lv_at hl 0 rfl) ?_
        refine zGetR (D := D) (ci := 12) (C := RX12) (T := TX12) (N := 71) hx hb hts hiX12 hown hH (zk_30 hGz.2.2) rfl 41 (by decide) rfl hw9 (fun _ h9 => h9) dX12_letter_249 hMq.2.2.2.2.1.2.2.2.2.1 ?_
        refine lv_aload_n hx hb dX12_letter_252 rfl (lv_at hl 0 rfl) ?_
        refine zGetI (D := D) (ci := 12) (C := RX12) (T := TX12) (N := 71) hx hb hts hiX12 hown hH (zk_30 hGz.2.2) rfl 35 (by decide) rfl hw3 (fun _ h9 => h9) dX12_letter_253 q172 ?_
        refine lv_aload_n hx hb dX12_letter_256 rfl (lv_at hl 0 rfl) ?_
        refine zGetI (D := D) (ci := 12) (C := RX12) (T := TX12) (N := 71) hx hb hts hiX12 hown hH (zk_30 hGz.2.2) rfl 29 (by decide) rfl hw10 (fun _ h9 => h9) dX12_letter_257 q176 ?_
        refine zIastN (D := D) hx hb hH hS hMq.2.2.2.1.2.2.2.2.1.1 hMq.2.2.2.1.2.2.2.2.1.2 (by omega) (by omega) dX12_letter_260 (fun H locs hH hS => ?_)
        obtain ⟨f185, ef185⟩ : ∃ f9 : zFi, f9 = zu f170 (204 + 10 * g3) d (nI ((zN xl.2.2.2.1))) := ⟨_, rfl⟩
        rw [← ef185] at hH
        have q186 : f185 30 26 = nI l0 := by rw [ef185, zu_n (fun h9 => by omega)]; exact q171
        have q187 : f185 30 35 = nI d := by rw [ef185, zu_n (fun h9 => by omega)]; exact q172
        have q188 : f185 30 21 = nI 0 := by rw [ef185, zu_n (fun h9 => by omega)]; exact q173
        have q189 : f185 30 24 = (zFv (zLet (fi 47) L (zS (fi 47) L 0))) := by rw [ef185, zu_n (fun h9 => by omega)]; exact q174
        have q190 : f185 30 0 = nI 0 := by rw [ef185, zu_n (fun h9 => by omega)]; exact q175
        have q191 : f185 30 29 = nI ((zN xl.2.2.2.1)) := by rw [ef185, zu_n (fun h9 => by omega)]; exact q176
        have q192 : f185 30 30 = xl.2.2.2.2 := by rw [ef185, zu_n (fun h9 => by omega)]; exact q177
        have q193 : f185 30 31 = nI m2 := by rw [ef185, zu_n (fun h9 => by omega)]; exact q178
        have q194 : f185 30 36 = nI wq := by rw [ef185, zu_n (fun h9 => by omega)]; exact q179
        have q195 : f185 30 45 = nI o := by rw [ef185, zu_n (fun h9 => by omega)]; exact q180
        have q196 : f185 (200 + 10 * g3) d = (vp_nar .boolean (nI 1)) := by rw [ef185, zu_n (fun h9 => by omega)]; exact q181
        have q197 : f185 (201 + 10 * g3) d = nI m2 := by rw [ef185, zu_n (fun h9 => by omega)]; exact q182
        have q198 : f185 (202 + 10 * g3) d = nI l0 := by rw [ef185, zu_n (fun h9 => by omega)]; exact q183
        have q199 : f185 (203 + 10 * g3) d = nI (zCn (fun j => zPo cd pN n (lc2 j)) l0) := by rw [ef185, zu_n (fun h9 => by omega)]; exact q184
        have q200 : f185 (204 + 10 * g3) d = nI ((zN xl.2.2.2.1)) := by rw [ef185]; exact zu_s
        refine lv_aload_n hx hb dX12_letter_261 rfl (lv_at hl 0 rfl) ?_
        refine zGetR (D := D) (ci := 12) (C := RX12) (T := TX12) (N := 71) hx hb hts hiX12 hown hH (zk_30 hGz.2.2) rfl 42 (by decide) rfl hw11 (fun _ h9 => h9) dX12_letter_262 hMq.2.2.2.2.1.2.2.2.2.2.1 ?_
        refine lv_aload_n hx hb dX12_letter_265 rfl (lv_at hl 0 rfl) ?_
        refine zGetI (D := D) (ci := 12) (C := RX12) (T := TX12) (N := 71) hx hb hts hiX12 hown hH (zk_30 hGz.2.2) rfl 35 (by decide) rfl hw3 (fun _ h9 => h9) dX12_letter_266 q187 ?_
        refine lv_aload_n hx hb dX12_letter_269 rfl (lv_at hl 0 rfl) ?_
        refine zGetI (D := D) (ci := 12) (C := RX12) (T := TX12) (N := 71) hx hb hts hiX12 hown hH (zk_30 hGz.2.2) rfl 30 (by decide) rfl hw12 (fun _ h9 => h9) dX12_letter_270 q192 ?_
        refine zIastN (D := D) hx hb hH hS hMq.2.2.2.1.2.2.2.2.2.1.1 hMq.2.2.2.1.2.2.2.2.2.1.2 (by omega) (by omega) dX12_letter_273 (fun H locs hH hS => ?_)
        obtain ⟨f201, ef201⟩ : ∃ f9 : zFi, f9 = zu f185 (205 + 10 * g3) d xl.2.2.2.2 := ⟨_, rfl⟩
        rw [← ef201] at hH
        have q202 : f201 30 26 = nI l0 := by rw [ef201, zu_n (fun h9 => by omega)]; exact q186
        have q203 : f201 30 35 = nI d := by rw [ef201, zu_n (fun h9 => by omega)]; exact q187
        have q204 : f201 30 21 = nI 0 := by rw [ef201, zu_n (fun h9 => by omega)]; exact q188
        have q205 : f201 30 24 = (zFv (zLet (fi 47) L (zS (fi 47) L 0))) := by rw [ef201, zu_n (fun h9 => by omega)]; exact q189
        have q206 : f201 30 0 = nI 0 := by rw [ef201, zu_n (fun h9 => by omega)]; exact q190
        have q207 : f201 30 29 = nI ((zN xl.2.2.2.1)) := by rw [ef201, zu_n (fun h9 => by omega)]; exact q191
        have q208 : f201 30 30 = xl.2.2.2.2 := by rw [ef201, zu_n (fun h9 => by omega)]; exact q192
        have q209 : f201 30 31 = nI m2 := by rw [ef201, zu_n (fun h9 => by omega)]; exact q193
        have q210 : f201 30 36 = nI wq := by rw [ef201, zu_n (fun h9 => by omega)]; exact q194
        have q211 : f201 30 45 = nI o := by rw [ef201, zu_n (fun h9 => by omega)]; exact q195
        have q212 : f201 (200 + 10 * g3) d = (vp_nar .boolean (nI 1)) := by rw [ef201, zu_n (fun h9 => by omega)]; exact q196
        have q213 : f201 (201 + 10 * g3) d = nI m2 := by rw [ef201, zu_n (fun h9 => by omega)]; exact q197
        have q214 : f201 (202 + 10 * g3) d = nI l0 := by rw [ef201, zu_n (fun h9 => by omega)]; exact q198
        have q215 : f201 (203 + 10 * g3) d = nI (zCn (fun j => zPo cd pN n (lc2 j)) l0) := by rw [ef201, zu_n (fun h9 => by omega)]; exact q199
        have q216 : f201 (204 + 10 * g3) d = nI ((zN xl.2.2.2.1)) := by rw [ef201, zu_n (fun h9 => by omega)]; exact q200
        have q217 : f201 (205 + 10 * g3) d = xl.2.2.2.2 := by rw [ef201]; exact zu_s
        refine lv_iconst (v := nI 0) hx hb dX12_letter_274 (by decide) ?_
        refine lv_istore (lv' := [(5, .int (nI 0)), (0, .ref (T.1 30)), (3, .int (nI (zCn (fun j => zPo cd pN n (lc2 j)) l0)))]) hx hb dX12_letter_275 hl (by decide) rfl (fun ls hl => ?_)
        refine zLp (σ := Nat × zFi) (fun x9 k9 H locs ls => (fun (i : Nat) (f8 : zFi) => k9 = l0 - i ∧ (i ≤ l0 ∧ (∀ k, k < i → f8 (206 + 10 * g3) (8 * d + k) = f7 48 k ∧ f8 (207 + 10 * g3) (8 * d + k) = f7 49 k) ∧ (∀ b, b < 8 * d → f8 (206 + 10 * g3) b = f7 (206 + 10 * g3) b ∧ f8 (207 + 10 * g3) b = f7 (207 + 10 * g3) b) ∧ ∀ a b, ¬ (a = 206 + 10 * g3 ∨ a = 207 + 10 * g3) → f8 a b = f201 a b) ∧ zH D A T f8 G ol s H ∧ va_S A s.heap H locs ∧ lv_has ls 6 [(0, .ref (T.1 30)), (5, .int (nI i))]) x9.1 x9.2) (0, f201) (l0 - 0) (show l0 - 0 = l0 - 0 ∧ (0 ≤ l0 ∧ (∀ k, k < 0 → f201 (206 + 10 * g3) (8 * d + k) = f7 48 k ∧ f201 (207 + 10 * g3) (8 * d + k) = f7 49 k) ∧ (∀ b, b < 8 * d → f201 (206 + 10 * g3) b = f7 (206 + 10 * g3) b ∧ f201 (207 + 10 * g3) b = f7 (207 + 10 * g3) b) ∧ ∀ a b, ¬ (a = 206 + 10 * g3 ∨ a = 207 + 10 * g3) → f201 a b = f201 a b) ∧ zH D A T f201 G ol s _ ∧ va_S A s.heap _ _ ∧ lv_has _ 6 [(0, .ref (T.1 30)), (5, .int (nI 0))] from ⟨rfl, ⟨Nat.zero_le _, fun k h => absurd h (by omega), fun b h => ⟨by rw [ef201, zu_n (by omega), ef185, zu_n (by omega), ef170, zu_n (by omega), ef156, zu_n (by omega), ef143, zu_n (by omega), ef131, zu_n (by omega)], by rw [ef201, zu_n (by omega), ef185, zu_n (by omega), ef170, zu_n (by omega), ef156, zu_n (by omega), ef143, zu_n (by omega), ef131, zu_n (by omega)]⟩, fun _ _ _ => rfl⟩, hH, hS, lv_sub hl [1, 0] rfl⟩) (fun k9 ih x9 H locs ls hv9 => ?_)
        obtain ⟨i, f8⟩ := x9
        have hv9 : k9 = l0 - i ∧ (i ≤ l0 ∧ (∀ k, k < i → f8 (206 + 10 * g3) (8 * d + k) = f7 48 k ∧ f8 (207 + 10 * g3) (8 * d + k) = f7 49 k) ∧ (∀ b, b < 8 * d → f8 (206 + 10 * g3) b = f7 (206 + 10 * g3) b ∧ f8 (207 + 10 * g3) b = f7 (207 + 10 * g3) b) ∧ ∀ a b, ¬ (a = 206 + 10 * g3 ∨ a = 207 + 10 * g3) → f8 a b = f201 a b) ∧ zH D A T f8 G ol s H ∧ va_S A s.heap H locs ∧ lv_has ls 6 [(0, .ref (T.1 30)), (5, .int (nI i))] := hv9
        obtain ⟨hkih218, hv9, hH, hS, hl⟩ := hv9
        obtain ⟨h1, hcp, hco, hfr8⟩ := hv9
        have ih218 := ih
        clear ih
        have p26 : f8 30 26 = nI l0 := by rw [hfr8 _ _ (by omega), ef201, zu_n (by omega), ef185, zu_n (by omega), ef170, zu_n (by omega), ef156, zu_n (by omega), ef143, zu_n (by omega), ef131, zu_n (by omega)]; exact hMl.2.1
        have p35 : f8 30 35 = nI d := by rw [hfr8 _ _ (by omega), ef201, zu_n (by omega), ef185, zu_n (by omega), ef170, zu_n (by omega), ef156, zu_n (by omega), ef143, zu_n (by omega), ef131, zu_n (by omega)]; exact hMq.2.2.1
        have p36 : f8 30 36 = nI wq := by rw [hfr8 _ _ (by omega), ef201, zu_n (by omega), ef185, zu_n (by omega), ef170, zu_n (by omega), ef156, zu_n (by omega), ef143, zu_n (by omega), ef131, zu_n (by omega)]; exact q36
        refine lv_iload hx hb dX12_letter_277 (lv_at hl 1 rfl) ?_
        refine lv_aload_n hx hb dX12_letter_279 rfl (lv_at hl 0 rfl) ?_
        refine zGetI (D := D) (ci := 12) (C := RX12) (T := TX12) (N := 71) hx hb hts hiX12 hown hH (zk_30 hGz.2.2) rfl 26 (by decide) rfl hw7 (fun _ h9 => h9) dX12_letter_280 p26 ?_
        refine lv_icmp_ge (tgt := 336) hx hb dX12_letter_283 (by decide) (fun c219 => ?_) (fun c219 => ?_)
        · have zc219 := c219
          replace zc219 := zc_le (nI_toInt (by omega)) (nI_toInt (by omega)) zc219
          refine lv_aload_n hx hb dX12_letter_336 rfl (lv_at hl 0 rfl) ?_
          refine lv_dup hx hb dX12_letter_337 rfl ?_
          refine zGetI (D := D) (ci := 12) (C := RX12) (T := TX12) (N := 71) hx hb hts hiX12 hown hH (zk_30 hGz.2.2) rfl 35 (by decide) rfl hw3 (fun _ h9 => h9) dX12_letter_338 p35 ?_
          refine lv_iconst (v := nI 1) hx hb dX12_letter_341 (by decide) ?_
          refine lv_iadd hx hb dX12_letter_342 ?_
          refine lv_topi (fun v220 ev220 => ?_)
          obtain rfl : v220 = nI (d + 1) := ev220.trans (nI_add _ _)
          refine zPutI (D := D) (ci := 12) (ty := .int) (C := RX12) (T := TX12) (N := 71) hx hb hts hiX12 tyX12 tyX12_ok nmX12 hown hH hS (zk_30 hGz.2.2) rfl 35 (by decide) rfl hw3 (fun _ h9 => h9) rfl (by decide +kernel) rfl rfl dX12_letter_343 (fun H locs hH hS => ?_)
          obtain ⟨f221, ef221⟩ : ∃ f9 : zFi, f9 = zu f8 30 35 (nI (d + 1)) := ⟨_, rfl⟩
          rw [← ef221] at hH
          have q222 : f221 30 26 = nI l0 := by rw [ef221, zu_n (fun h9 => absurd h9.2 (by decide))]; exact p26
          have q223 : f221 30 36 = nI wq := by rw [ef221, zu_n (fun h9 => absurd h9.2 (by decide))]; exact p36
          have q224 : f221 30 35 = nI (d + 1) := by rw [ef221]; exact zu_s
          refine lv_aload_n hx hb dX12_letter_346 rfl (lv_at hl 0 rfl) ?_
          refine lv_dup hx hb dX12_letter_347 rfl ?_
          refine zGetI (D := D) (ci := 12) (C := RX12) (T := TX12) (N := 71) hx hb hts hiX12 hown hH (zk_30 hGz.2.2) rfl 36 (by decide) rfl hw13 (fun _ h9 => h9) dX12_letter_348 q223 ?_
          refine lv_iconst (v := nI 1) hx hb dX12_letter_351 (by decide) ?_
          refine lv_iadd hx hb dX12_letter_352 ?_
          refine lv_topi (fun v225 ev225 => ?_)
          obtain rfl : v225 = nI (wq + 1) := ev225.trans (nI_add _ _)
          refine zPutI (D := D) (ci := 12) (ty := .int) (C := RX12) (T := TX12) (N := 71) hx hb hts hiX12 tyX12 tyX12_ok nmX12 hown hH hS (zk_30 hGz.2.2) rfl 36 (by decide) rfl hw13 (fun _ h9 => h9) rfl (by decide +kernel) rfl rfl dX12_letter_353 (fun H locs hH hS => ?_)
          obtain ⟨f226, ef226⟩ : ∃ f9 : zFi, f9 = zu f221 30 36 (nI (wq + 1)) := ⟨_, rfl⟩
          rw [← ef226] at hH
          have q227 : f226 30 26 = nI l0 := by rw [ef226, zu_n (fun h9 => absurd h9.2 (by decide))]; exact q222
          have q228 : f226 30 35 = nI (d + 1) := by rw [ef226, zu_n (fun h9 => absurd h9.2 (by decide))]; exact q224
          have q229 : f226 30 36 = nI (wq + 1) := by rw [ef226]; exact zu_s
          refine lv_iconst (v := (-1)) hx hb dX12_letter_356 (by decide) ?_
          refine lv_aload_n hx hb dX12_letter_357 rfl (lv_at hl 0 rfl) ?_
          refine zGetI (D := D) (ci := 12) (C := RX12) (T := TX12) (N := 71) hx hb hts hiX12 hown hH (zk_30 hGz.2.2) rfl 35 (by decide) rfl hw3 (fun _ h9 => h9) dX12_letter_358 q228 ?_
          refine lv_isub hx hb dX12_letter_361 ?_
          refine lv_topi (fun v230 ev230 => ?_)
          have hq9 := zMq.add (l0 := l0) hMq hdL3 hl8 q228 (by rw [ef226, zu_n (by omega), ef221, zu_n (by omega), hfr8 _ _ (by omega), ef201, zu_n (by omega), ef185, zu_n (by omega), ef170, zu_n (by omega), ef156, zu_s]) (fun k h => by rw [ef226, zu_n (by omega), ef221, zu_n (by omega), hfr8 _ _ (by omega), ef201, zu_n (by omega), ef185, zu_n (by omega), ef170, zu_n (by omega), ef156, zu_n (by omega), ef143, zu_n (by omega), ef131, zu_n (by omega)]) (fun k h => by rw [ef226, zu_n (by omega), ef221, zu_n (by omega), (hcp k (by omega)).2]; exact hMl.2.2 k h) (fun k h => by rw [ef226, zu_n (by omega), ef221, zu_n (by omega), (hco k h).2])
          have hold : ∀ j, j < 8 → ∀ k, k < (if j < 6 then d else 8 * d) → f226 (200 + j + 10 * g3) k = fi (200 + j + 10 * g) k := fun j hj k hk => by
            rw [← hCo j hj k hk, ef226, zu_n (by omega), ef221, zu_n (by omega)]
            by_cases h66 : j < 6
            · rw [if_pos h66] at hk; rw [hfr8 _ _ (by omega), ef201, zu_n (by omega), ef185, zu_n (by omega), ef170, zu_n (by omega), ef156, zu_n (by omega), ef143, zu_n (by omega), ef131, zu_n (by omega)]
            · rw [if_neg h66] at hk
              by_cases h67 : j = 6
              · subst h67; exact (hco k hk).1
              · obtain rfl : j = 7 := by omega
                exact (hco k hk).2
          refine W.widen (k := 8) (n := 11264) (by decide) (by decide) ?_
          exact W.iret (v := v230) hx hb hr (fun t9 ht9 hW9 => ⟨⟨v230, (T, f226, G), rfl, (show ((∃ o2, o ≤ o2 ∧ o2 ≤ o + 1 ∧ zMo f226 n o2) ∧ (∃ g2 L2 d2, d2 ≤ d + 1 ∧ zMq T f226 G g2 L2 d2) ∧ f226 30 21 = nI 0 ∧ zGz τ fr T G ∧ ∀ a b, ¬ (a = 48 ∨ a = 49 ∨ (50 ≤ a ∧ a ≤ 64) ∨ (200 ≤ a ∧ a < 240) ∨ (a = 30 ∧ (b = 0 ∨ (21 ≤ b ∧ b ≤ 36) ∨ b = 45))) → f226 a b = fi a b) ∧ f226 30 24 = (zFv (zLet (fi 47) L (zS (fi 47) L 0))) ∧ (((∃ p, zLet (fi 47) L (zS (fi 47) L 0) = .error p) ∧ f226 30 0 = nI 1 ∧ f226 30 45 = nI o ∧ T = τ ∧ G = fr ∧ f226 30 35 = nI d ∧ f226 30 36 = nI wq ∧ ∀ a b, 200 ≤ a → a < 240 → f226 a b = fi a b) ∨ ((∃ xl lc2 m2 b2, zLet (fi 47) L (zS (fi 47) L 0) = .ok xl ∧ zLm2 cd pN n xl lc2 m2 b2 ∧ (((b2 = 1 ∧ (zDue (fi 44) (nI (zN xl.2.2.2.1))).toInt ≤ xl.2.2.2.2.toInt) ∧ o = 60) ∨ (¬ (b2 = 1 ∧ (zDue (fi 44) (nI (zN xl.2.2.2.1))).toInt ≤ xl.2.2.2.2.toInt) ∧ wq = 20))) ∧ f226 30 0 = nI 2 ∧ f226 30 45 = nI o ∧ T = τ ∧ G = fr ∧ f226 30 35 = nI d ∧ f226 30 36 = nI wq ∧ ∀ a b, 200 ≤ a → a < 240 → f226 a b = fi a b) ∨ ((∃ xl lc2 m2 b2, zLet (fi 47) L (zS (fi 47) L 0) = .ok xl ∧ zLm2 cd pN n xl lc2 m2 b2 ∧ b2 = 1 ∧ (zDue (fi 44) (nI (zN xl.2.2.2.1))).toInt ≤ xl.2.2.2.2.toInt) ∧ o < 60 ∧ v230 = nI o ∧ f226 30 0 = nI 0 ∧ f226 30 45 = nI (o + 1) ∧ T = τ ∧ G = fr ∧ f226 30 35 = nI d ∧ f226 30 36 = nI wq ∧ ∀ a b, 200 ≤ a → a < 240 → f226 a b = fi a b) ∨ ((∃ xl lc2 m2 b2, zLet (fi 47) L (zS (fi 47) L 0) = .ok xl ∧ zLm2 cd pN n xl lc2 m2 b2 ∧ ¬ (b2 = 1 ∧ (zDue (fi 44) (nI (zN xl.2.2.2.1))).toInt ≤ xl.2.2.2.2.toInt) ∧ ∃ g2 L2, zMq T f226 G g2 L2 (d + 1) ∧ (∀ j, j < 8 → ∀ k, k < (if j < 6 then d else 8 * d) → f226 (200 + j + 10 * g2) k = fi (200 + j + 10 * g) k) ∧ f226 30 36 = nI (wq + 1) ∧ f226 (200 + 10 * g2) d = nI 1 ∧ f226 (201 + 10 * g2) d = nI m2 ∧ f226 (202 + 10 * g2) d = nI xl.1 ∧ f226 (203 + 10 * g2) d = nI (zCn (fun j => zPo cd pN n (lc2 j)) xl.1) ∧ f226 (204 + 10 * g2) d = nI (zN xl.2.2.2.1) ∧ f226 (205 + 10 * g2) d = xl.2.2.2.2 ∧ ∀ j, j < xl.1 → f226 (206 + 10 * g2) (8 * d + j) = nI (lc2 j) ∧ f226 (207 + 10 * g2) (8 * d + j) = nI (zMnN xl j)) ∧ ¬ wq = 20 ∧ v230 = -1 - nI (d + 1) ∧ f226 30 0 = nI 0 ∧ f226 30 45 = nI o)) from ⟨⟨⟨o, by omega, by omega, zMo.ci hMo (fun i9 k9 h9 => by rw [ef226, zu_n (by omega), ef221, zu_n (by omega), hfr8 _ _ (by omega), ef201, zu_n (by omega), ef185, zu_n (by omega), ef170, zu_n (by omega), ef156, zu_n (by omega), ef143, zu_n (by omega), ef131, zu_n (by omega)])⟩, ⟨g3, L3, d + 1, by omega, hq9⟩, by rw [ef226, zu_n (by omega), ef221, zu_n (by omega), hfr8 _ _ (by omega), ef201, zu_n (by omega), ef185, zu_n (by omega), ef170, zu_n (by omega), ef156, zu_n (by omega), ef143, zu_n (by omega), ef131, zu_n (by omega)]; exact q21, hGz, fun a b h => by rw [ef226, zu_n (by omega), ef221, zu_n (by omega), hfr8 _ _ (by omega), ef201, zu_n (by omega), ef185, zu_n (by omega), ef170, zu_n (by omega), ef156, zu_n (by omega), ef143, zu_n (by omega), ef131, zu_n (by omega)]; exact hfr7 a b h⟩, by rw [ef226, zu_n (by omega), ef221, zu_n (by omega), hfr8 _ _ (by omega), ef201, zu_n (by omega), ef185, zu_n (by omega), ef170, zu_n (by omega), ef156, zu_n (by omega), ef143, zu_n (by omega), ef131, zu_n (by omega)]; exact q24, Or.inr (Or.inr (Or.inr ⟨⟨xl, lc2, m2, b2, hle, by unfold zLm2; rw [← hl0e]; exact hme, hnp, ⟨g3, L3, hq9, hold, q229, by rw [ef226, zu_n (by omega), ef221, zu_n (by omega), hfr8 _ _ (by omega), ef201, zu_n (by omega), ef185, zu_n (by omega), ef170, zu_n (by omega), ef156, zu_n (by omega), ef143, zu_n (by omega), ef131, zu_s]; decide, by rw [ef226, zu_n (by omega), ef221, zu_n (by omega), hfr8 _ _ (by omega), ef201, zu_n (by omega), ef185, zu_n (by omega), ef170, zu_n (by omega), ef156, zu_n (by omega), ef143, zu_s], by rw [ef226, zu_n (by omega), ef221, zu_n (by omega), hfr8 _ _ (by omega), ef201, zu_n (by omega), ef185, zu_n (by omega), ef170, zu_n (by omega), ef156, zu_s, ← hl0e], by rw [ef226, zu_n (by omega), ef221, zu_n (by omega), hfr8 _ _ (by omega), ef201, zu_n (by omega), ef185, zu_n (by omega), ef170, zu_s, hl0e], by rw [ef226, zu_n (by omega), ef221, zu_n (by omega), hfr8 _ _ (by omega), ef201, zu_n (by omega), ef185, zu_s], by rw [ef226, zu_n (by omega), ef221, zu_n (by omega), hfr8 _ _ (by omega), ef201, zu_s], fun j hj => ⟨by rw [ef226, zu_n (by omega), ef221, zu_n (by omega), (hcp j (by omega)).1]; exact (hLy.2.2 j (by omega)).1, by rw [ef226, zu_n (by omega), ef221, zu_n (by omega), (hcp j (by omega)).2]; exact (hLy.2.2 j (by omega)).2.2.1⟩⟩⟩, hnw, ev230, by rw [ef226, zu_n (by omega), ef221, zu_n (by omega), hfr8 _ _ (by omega), ef201, zu_n (by omega), ef185, zu_n (by omega), ef170, zu_n (by omega), ef156, zu_n (by omega), ef143, zu_n (by omega), ef131, zu_n (by omega)]; exact q0, by rw [ef226, zu_n (by omega), ef221, zu_n (by omega), hfr8 _ _ (by omega), ef201, zu_n (by omega), ef185, zu_n (by omega), ef170, zu_n (by omega), ef156, zu_n (by omega), ef143, zu_n (by omega), ef131, zu_n (by omega)]; exact q45⟩))⟩), zEnd1 hH ht9 hW9⟩, hS.F ht9⟩) hS.2.2 dX12_letter_362
        · have zc219 := c219
          replace zc219 := zc_nle (nI_toInt (by omega)) (nI_toInt (by omega)) zc219
          refine lv_aload_n hx hb dX12_letter_286 rfl (lv_at hl 0 rfl) ?_
          refine zGetR (D := D) (ci := 12) (C := RX12) (T := TX12) (N := 71) hx hb hts hiX12 hown hH (zk_30 hGz.2.2) rfl 43 (by decide) rfl hw14 (fun _ h9 => h9) dX12_letter_287 hMq.2.2.2.2.1.2.2.2.2.2.2.1 ?_
          refine lv_bipush (v := nI 8) hx hb dX12_letter_290 (by decide) ?_
          refine lv_aload_n hx hb dX12_letter_292 rfl (lv_at hl 0 rfl) ?_
          refine zGetI (D := D) (ci := 12) (C := RX12) (T := TX12) (N := 71) hx hb hts hiX12 hown hH (zk_30 hGz.2.2) rfl 35 (by decide) rfl hw3 (fun _ h9 => h9) dX12_letter_293 p35 ?_
          refine lv_imul hx hb dX12_letter_296 ?_
          refine lv_topi (fun v231 ev231 => ?_)
          obtain rfl : v231 = nI (8 * d) := ev231.trans (pk_mul _ _)
          refine lv_iload hx hb dX12_letter_297 (lv_at hl 1 rfl) ?_
          refine lv_iadd hx hb dX12_letter_299 ?_
          refine lv_topi (fun v232 ev232 => ?_)
          obtain rfl : v232 = nI (8 * d + i) := ev232.trans (nI_add _ _)
          refine lv_aload_n hx hb dX12_letter_300 rfl (lv_at hl 0 rfl) ?_
          refine zGetR (D := D) (ci := 12) (C := RX12) (T := TX12) (N := 71) hx hb hts hiX12 hown hH (zk_30 hGz.2.2) rfl 27 (by decide) rfl hw15 (fun _ h9 => h9) dX12_letter_301 (zr_30_27 hGz.2.2) ?_
          refine lv_iload hx hb dX12_letter_304 (lv_at hl 1 rfl) ?_
          refine zIaldN (D := D) hx hb hH (zk_48 hGz.2.2) (zn_48 hGz.2.2) (by omega) (by omega) rfl dX12_letter_306 ?_
          refine zIastN (D := D) hx hb hH hS hMq.2.2.2.1.2.2.2.2.2.2.1.1 hMq.2.2.2.1.2.2.2.2.2.2.1.2 (by omega) (by omega) dX12_letter_307 (fun H locs hH hS => ?_)
          obtain ⟨f233, ef233⟩ : ∃ f9 : zFi, f9 = zu f8 (206 + 10 * g3) (8 * d + i) (f8 48 i) := ⟨_, rfl⟩
          rw [← ef233] at hH
          have q234 : f233 30 26 = nI l0 := by rw [ef233, zu_n (fun h9 => by omega)]; exact p26
          have q235 : f233 30 35 = nI d := by rw [ef233, zu_n (fun h9 => by omega)]; exact p35
          have q236 : f233 30 36 = nI wq := by rw [ef233, zu_n (fun h9 => by omega)]; exact p36
          have q237 : f233 (206 + 10 * g3) (8 * d + i) = f8 48 i := by rw [ef233]; exact zu_s
          refine lv_aload_n hx hb dX12_letter_308 rfl (lv_at hl 0 rfl) ?_
          refine zGetR (D := D) (ci := 12) (C := RX12) (T := TX12) (N := 71) hx hb hts hiX12 hown hH (zk_30 hGz.2.2) rfl 44 (by decide) rfl hw16 (fun _ h9 => h9) dX12_letter_309 hMq.2.2.2.2.1.2.2.2.2.2.2.2 ?_
          refine lv_bipush (v := nI 8) hx hb dX12_letter_312 (by decide) ?_
          refine lv_aload_n hx hb dX12_letter_314 rfl (lv_at hl 0 rfl) ?_
          refine zGetI (D := D) (ci := 12) (C := RX12) (T := TX12) (N := 71) hx hb hts hiX12 hown hH (zk_30 hGz.2.2) rfl 35 (by decide) rfl hw3 (fun _ h9 => h9) dX12_letter_315 q235 ?_
          refine lv_imul hx hb dX12_letter_318 ?_
          refine lv_topi (fun v238 ev238 => ?_)
          obtain rfl : v238 = nI (8 * d) := ev238.trans (pk_mul _ _)
          refine lv_iload hx hb dX12_letter_319 (lv_at hl 1 rfl) ?_
          refine lv_iadd hx hb dX12_letter_321 ?_
          refine lv_topi (fun v239 ev239 => ?_)
          obtain rfl : v239 = nI (8 * d + i) := ev239.trans (nI_add _ _)
          refine lv_aload_n hx hb dX12_letter_322 rfl (lv_at hl 0 rfl) ?_
          refine zGetR (D := D) (ci := 12) (C := RX12) (T := TX12) (N := 71) hx hb hts hiX12 hown hH (zk_30 hGz.2.2) rfl 28 (by decide) rfl hw17 (fun _ h9 => h9) dX12_letter_323 (zr_30_28 hGz.2.2) ?_
          refine lv_iload hx hb dX12_letter_326 (lv_at hl 1 rfl) ?_
          refine zIaldN (D := D) hx hb hH (zk_49 hGz.2.2) (zn_49 hGz.2.2) (by omega) (by omega) rfl dX12_letter_328 ?_
          refine zIastN (D := D) hx hb hH hS hMq.2.2.2.1.2.2.2.2.2.2.2.1 hMq.2.2.2.1.2.2.2.2.2.2.2.2 (by omega) (by omega) dX12_letter_329 (fun H locs hH hS => ?_)
          obtain ⟨f240, ef240⟩ : ∃ f9 : zFi, f9 = zu f233 (207 + 10 * g3) (8 * d + i) (f233 49 i) := ⟨_, rfl⟩
          rw [← ef240] at hH
          have q241 : f240 30 26 = nI l0 := by rw [ef240, zu_n (fun h9 => by omega)]; exact q234
          have q242 : f240 30 35 = nI d := by rw [ef240, zu_n (fun h9 => by omega)]; exact q235
          have q243 : f240 30 36 = nI wq := by rw [ef240, zu_n (fun h9 => by omega)]; exact q236
          have q244 : f240 (206 + 10 * g3) (8 * d + i) = f8 48 i := by rw [ef240, zu_n (fun h9 => by omega)]; exact q237
          have q245 : f240 (207 + 10 * g3) (8 * d + i) = f233 49 i := by rw [ef240]; exact zu_s
          refine lv_iinc (v := nI (i + 1)) (lv' := [(5, .int (nI (i + 1))), (0, .ref (T.1 30))]) hx hb dX12_letter_330 hl (k := 1) rfl (by rw [show (Int32.ofInt 1 : Int32) = nI 1 from by decide, nI_add]) (by decide) rfl (fun ls hl => ?_)
          refine lv_goto (tgt := 277) hx hb dX12_letter_333 (by decide) ?_
          exact ih218 (l0 - (i + 1)) (by omega) (i + 1, f240) _ _ _ (show l0 - (i + 1) = l0 - (i + 1) ∧ ((i + 1) ≤ l0 ∧ (∀ k, k < (i + 1) → f240 (206 + 10 * g3) (8 * d + k) = f7 48 k ∧ f240 (207 + 10 * g3) (8 * d + k) = f7 49 k) ∧ (∀ b, b < 8 * d → f240 (206 + 10 * g3) b = f7 (206 + 10 * g3) b ∧ f240 (207 + 10 * g3) b = f7 (207 + 10 * g3) b) ∧ ∀ a b, ¬ (a = 206 + 10 * g3 ∨ a = 207 + 10 * g3) → f240 a b = f201 a b) ∧ zH D A T f240 G ol s _ ∧ va_S A s.heap _ _ ∧ lv_has _ 6 [(0, .ref (T.1 30)), (5, .int (nI (i + 1)))] from ⟨rfl, ⟨by omega, fun k h => by by_cases h7 : k = i; (subst h7; exact ⟨by rw [ef240, zu_n (by omega), ef233, zu_s, hfr8 _ _ (by omega), ef201, zu_n (by omega), ef185, zu_n (by omega), ef170, zu_n (by omega), ef156, zu_n (by omega), ef143, zu_n (by omega), ef131, zu_n (by omega)], by rw [ef240, zu_s, ef233, zu_n (by omega), hfr8 _ _ (by omega), ef201, zu_n (by omega), ef185, zu_n (by omega), ef170, zu_n (by omega), ef156, zu_n (by omega), ef143, zu_n (by omega), ef131, zu_n (by omega)]⟩); (exact ⟨by rw [ef240, zu_n (by omega), ef233, zu_n (by omega)]; exact (hcp k (by omega)).1, by rw [ef240, zu_n (by omega), ef233, zu_n (by omega)]; exact (hcp k (by omega)).2⟩), fun b h => ⟨by rw [ef240, zu_n (by omega), ef233, zu_n (by omega)]; exact (hco b h).1, by rw [ef240, zu_n (by omega), ef233, zu_n (by omega)]; exact (hco b h).2⟩, fun a b h => by rw [ef240, zu_n (by omega), ef233, zu_n (by omega)]; exact hfr8 a b h⟩, hH, hS, lv_sub hl [1, 0] rfl⟩)
      · skip
        refine lv_aload_n hx hb dX12_letter_186 rfl (lv_at hl 0 rfl) ?_
        refine zGetI (D := D) (ci := 12) (C := RX12) (T := TX12) (N := 71) hx hb hts hiX12 hown hH (zk_30 hF) rfl 35 (by decide) rfl hw3 (fun _ h9 => h9) dX12_letter_187 p35 ?_
        refine lv_aload_n hx hb dX12_letter_190 rfl (lv_at hl 0 rfl) ?_
        refine zGetR (D := D) (ci := 12) (C := RX12) (T := TX12) (N := 71) hx hb hts hiX12 hown hH (zk_30 hF) rfl 39 (by decide) rfl hw6 (fun _ h9 => h9) dX12_letter_191 hMq.2.2.2.2.1.2.2.1 ?_
        refine zAlen (D := D) hx hb hH hMq.2.2.2.1.2.2.1.1 (by decide) (by decide) hMq.2.2.2.1.2.2.1.2 dX12_letter_194 ?_
        refine lv_icmp_ne (tgt := 202) hx hb dX12_letter_195 (by decide) (fun c246 => ?_) (fun c246 => ?_)
        · have zc246 := c246
          replace zc246 := zc_neq (nI_toInt (by omega)) (nI_toInt (by omega)) zc246
          refine W.widen (k := 8) (n := 11264) (by decide) (by decide) ?_
          exact hJ130 (τ, f6, fr, g, Ln) _ _ _ (show (zGz τ fr τ fr ∧ zMq τ f6 fr g Ln d ∧ d < Ln ∧ zMl f6 l0 ∧ zMo f6 n o ∧ f6 30 21 = nI 0 ∧ f6 30 24 = (zFv (zLet (fi 47) L (zS (fi 47) L 0))) ∧ (f6 30 0 = nI 0 ∧ f6 30 29 = nI (zN xl.2.2.2.1) ∧ f6 30 30 = xl.2.2.2.2 ∧ f6 30 31 = nI m2 ∧ f6 30 36 = nI wq ∧ f6 30 45 = nI o ∧ zqLy f6 l0 lc2 (zMnN xl)) ∧ (∀ j, j < 8 → ∀ k, k < (if j < 6 then d else 8 * d) → f6 (200 + j + 10 * g) k = fi (200 + j + 10 * g) k) ∧ ∀ a b, ¬ (a = 48 ∨ a = 49 ∨ (50 ≤ a ∧ a ≤ 64) ∨ (200 ≤ a ∧ a < 240) ∨ (a = 30 ∧ (b = 0 ∨ (21 ≤ b ∧ b ≤ 36) ∨ b = 45))) → f6 a b = fi a b) ∧ zH D A τ f6 fr ol s _ ∧ va_S A s.heap _ _ ∧ lv_has _ 6 [(0, .ref (τ.1 30)), (3, .int (nI (zCn (fun j => zPo cd pN n (lc2 j)) l0)))] from ⟨⟨zGz.rf hF, hMq, by omega, hMl, hMo, q21, q24, ⟨q0, q29, q30, q31, q36, q45, hLy⟩, fun j hj k hk => hfr6 _ _ (by omega), fun a b h => hfr6 a b (by omega)⟩, hH, hS, lv_sub hl [0, 1] rfl⟩)
        · have zc246 := c246
          replace zc246 := zc_eq (nI_toInt (by omega)) (nI_toInt (by omega)) zc246
          rcases hMq.1 with ⟨hg0, hL0⟩ | ⟨hg0, hL0⟩ | ⟨hg0, hL0⟩ | ⟨hg0, hL0⟩
          · skip
            refine lv_aload_n hx hb dX12_letter_198 rfl (lv_at hl 0 rfl) ?_
            refine va_callv (va_runV (As := []) (rest := []) ⟨hx, hb, hml, hown, hts⟩ (m_growN_0 l hl0 D A sad τ f6 fr ol hF ((by have h9 := hMq; rw [hg0, hL0, show d = 64 by omega] at h9; exact h9)) ((fun k9 h9 => by have h8 := hbl k9 (by omega); rw [← hfr6 (200 + 10 * g) k9 (by omega), hg0] at h8; exact h8))) (cwV 0 hts gX12_letter_X12_grow rfl rfl rfl (by decide +kernel) ⟨Nat.le_of_ble_eq_true rfl, Nat.le_of_ble_eq_true rfl⟩) ⟨zQc_bl, zRecv hH (zk_30 hF) rfl, zQc_at hz hS hA hH⟩ rfl rfl hl.1 rfl (lv_room (Nat.le_of_ble_eq_true rfl)) dX12_letter_199 ⟨Nat.le_of_ble_eq_true rfl, Nat.le_of_ble_eq_true rfl⟩) hS (fun q _ h => h) (fun q h => h) (fun u9 t9 H1 locs ht9 hvm9 hw hB hz1 hk1 hS => ?_)
            obtain ⟨τ248, f249, g250⟩ := u9
            have hH := zMv ht9 hvm9 hB
            clear hB
            simp only at hw hH
            generalize H1 = H at hH hS ⊢
            refine W.widen (k := 8) (n := 2816) (by decide) (by decide) ?_
            obtain ⟨⟨hq7, hz7, hf7⟩, hcp7⟩ := hw
            have ha7 : ∀ i, ¬ (200 ≤ i ∧ i < 240) → τ248.1 i = τ.1 i := fun i h => (hz7.1 i h).1
            rw [show τ.1 30 = τ248.1 30 from (ha7 30 (by omega)).symm] at hl
            have q251 : f249 30 26 = nI l0 := by rw [hf7 30 26 (by omega)]; exact p26
            have q252 : f249 30 35 = nI d := by rw [hf7 30 35 (by omega)]; exact p35
            have q253 : f249 30 21 = nI 0 := by rw [hf7 30 21 (by omega)]; exact q21
            have q254 : f249 30 24 = (zFv (zLet (fi 47) L (zS (fi 47) L 0))) := by rw [hf7 30 24 (by omega)]; exact q24
            have q255 : f249 30 0 = nI 0 := by rw [hf7 30 0 (by omega)]; exact q0
            have q256 : f249 30 29 = nI ((zN xl.2.2.2.1)) := by rw [hf7 30 29 (by omega)]; exact q29
            have q257 : f249 30 30 = xl.2.2.2.2 := by rw [hf7 30 30 (by omega)]; exact q30
            have q258 : f249 30 31 = nI m2 := by rw [hf7 30 31 (by omega)]; exact q31
            have q259 : f249 30 36 = nI wq := by rw [hf7 30 36 (by omega)]; exact q36
            have q260 : f249 30 45 = nI o := by rw [hf7 30 45 (by omega)]; exact q45
            have hMl := zMl.ci (fi' := f249) hMl (fun i9 k9 h9 => hf7 i9 k9 (by omega))
            have hMo := zMo.ci (fi' := f249) hMo (fun i9 k9 h9 => hf7 i9 k9 (by omega))
            have hLy := zqLy.cg (fi' := f249) hLy (fun i9 k9 h9 => hf7 i9 k9 (by omega))
            have hMq7 : zMq τ248 f249 g250 1 128 d := by have h9 := hq7; rw [show (64 : Nat) = d by omega] at h9; exact h9
            have hCo : ∀ j, j < 8 → ∀ k9, k9 < (if j < 6 then d else 8 * d) → f249 (200 + j + 10 * 1) k9 = fi (200 + j + 10 * g) k9 := fun j hj k9 hk9 => by rw [hcp7 j hj k9 (by rw [show (64 : Nat) = d by omega]; exact hk9), ← hg0]; exact hfr6 _ _ (by omega)
            refine W.widen (k := 8) (n := 11264) (by decide) (by decide) ?_
            exact hJ130 (τ248, f249, g250, 1, 128) _ _ _ (show (zGz τ fr τ248 g250 ∧ zMq τ248 f249 g250 1 128 d ∧ d < 128 ∧ zMl f249 l0 ∧ zMo f249 n o ∧ f249 30 21 = nI 0 ∧ f249 30 24 = (zFv (zLet (fi 47) L (zS (fi 47) L 0))) ∧ (f249 30 0 = nI 0 ∧ f249 30 29 = nI (zN xl.2.2.2.1) ∧ f249 30 30 = xl.2.2.2.2 ∧ f249 30 31 = nI m2 ∧ f249 30 36 = nI wq ∧ f249 30 45 = nI o ∧ zqLy f249 l0 lc2 (zMnN xl)) ∧ (∀ j, j < 8 → ∀ k, k < (if j < 6 then d else 8 * d) → f249 (200 + j + 10 * 1) k = fi (200 + j + 10 * g) k) ∧ ∀ a b, ¬ (a = 48 ∨ a = 49 ∨ (50 ≤ a ∧ a ≤ 64) ∨ (200 ≤ a ∧ a < 240) ∨ (a = 30 ∧ (b = 0 ∨ (21 ≤ b ∧ b ≤ 36) ∨ b = 45))) → f249 a b = fi a b) ∧ zH D A τ248 f249 g250 ol s _ ∧ va_S A s.heap _ _ ∧ lv_has _ 6 [(0, .ref (τ248.1 30)), (3, .int (nI (zCn (fun j => zPo cd pN n (lc2 j)) l0)))] from ⟨⟨hz7, hMq7, by omega, hMl, hMo, q253, q254, ⟨q255, q256, q257, q258, q259, q260, hLy⟩, hCo, fun a b h => by rw [hf7 a b (by omega)]; exact hfr6 a b (by omega)⟩, hH, hS, lv_sub hl [0, 1] rfl⟩)
          · skip
            refine lv_aload_n hx hb dX12_letter_198 rfl (lv_at hl 0 rfl) ?_
            refine va_callv (va_runV (As := []) (rest := []) ⟨hx, hb, hml, hown, hts⟩ (m_growN_1 l hl0 D A sad τ f6 fr ol hF ((by have h9 := hMq; rw [hg0, hL0, show d = 128 by omega] at h9; exact h9)) ((fun k9 h9 => by have h8 := hbl k9 (by omega); rw [← hfr6 (200 + 10 * g) k9 (by omega), hg0] at h8; exact h8))) (cwV 0 hts gX12_letter_X12_grow rfl rfl rfl (by decide +kernel) ⟨Nat.le_of_ble_eq_true rfl, Nat.le_of_ble_eq_true rfl⟩) ⟨zQc_bl, zRecv hH (zk_30 hF) rfl, zQc_at hz hS hA hH⟩ rfl rfl hl.1 rfl (lv_room (Nat.le_of_ble_eq_true rfl)) dX12_letter_199 ⟨Nat.le_of_ble_eq_true rfl, Nat.le_of_ble_eq_true rfl⟩) hS (fun q _ h => h) (fun q h => h) (fun u9 t9 H1 locs ht9 hvm9 hw hB hz1 hk1 hS => ?_)
            obtain ⟨τ262, f263, g264⟩ := u9
            have hH := zMv ht9 hvm9 hB
            clear hB
            simp only at hw hH
            generalize H1 = H at hH hS ⊢
            refine W.widen (k := 8) (n := 5632) (by decide) (by decide) ?_
            obtain ⟨⟨hq7, hz7, hf7⟩, hcp7⟩ := hw
            have ha7 : ∀ i, ¬ (200 ≤ i ∧ i < 240) → τ262.1 i = τ.1 i := fun i h => (hz7.1 i h).1
            rw [show τ.1 30 = τ262.1 30 from (ha7 30 (by omega)).symm] at hl
            have q265 : f263 30 26 = nI l0 := by rw [hf7 30 26 (by omega)]; exact p26
            have q266 : f263 30 35 = nI d := by rw [hf7 30 35 (by omega)]; exact p35
            have q267 : f263 30 21 = nI 0 := by rw [hf7 30 21 (by omega)]; exact q21
            have q268 : f263 30 24 = (zFv (zLet (fi 47) L (zS (fi 47) L 0))) := by rw [hf7 30 24 (by omega)]; exact q24
            have q269 : f263 30 0 = nI 0 := by rw [hf7 30 0 (by omega)]; exact q0
            have q270 : f263 30 29 = nI ((zN xl.2.2.2.1)) := by rw [hf7 30 29 (by omega)]; exact q29
            have q271 : f263 30 30 = xl.2.2.2.2 := by rw [hf7 30 30 (by omega)]; exact q30
            have q272 : f263 30 31 = nI m2 := by rw [hf7 30 31 (by omega)]; exact q31
            have q273 : f263 30 36 = nI wq := by rw [hf7 30 36 (by omega)]; exact q36
            have q274 : f263 30 45 = nI o := by rw [hf7 30 45 (by omega)]; exact q45
            have hMl := zMl.ci (fi' := f263) hMl (fun i9 k9 h9 => hf7 i9 k9 (by omega))
            have hMo := zMo.ci (fi' := f263) hMo (fun i9 k9 h9 => hf7 i9 k9 (by omega))
            have hLy := zqLy.cg (fi' := f263) hLy (fun i9 k9 h9 => hf7 i9 k9 (by omega))
            have hMq7 : zMq τ262 f263 g264 2 256 d := by have h9 := hq7; rw [show (128 : Nat) = d by omega] at h9; exact h9
            have hCo : ∀ j, j < 8 → ∀ k9, k9 < (if j < 6 then d else 8 * d) → f263 (200 + j + 10 * 2) k9 = fi (200 + j + 10 * g) k9 := fun j hj k9 hk9 => by rw [hcp7 j hj k9 (by rw [show (128 : Nat) = d by omega]; exact hk9), ← hg0]; exact hfr6 _ _ (by omega)
            refine W.widen (k := 8) (n := 11264) (by decide) (by decide) ?_
            exact hJ130 (τ262, f263, g264, 2, 256) _ _ _ (show (zGz τ fr τ262 g264 ∧ zMq τ262 f263 g264 2 256 d ∧ d < 256 ∧ zMl f263 l0 ∧ zMo f263 n o ∧ f263 30 21 = nI 0 ∧ f263 30 24 = (zFv (zLet (fi 47) L (zS (fi 47) L 0))) ∧ (f263 30 0 = nI 0 ∧ f263 30 29 = nI (zN xl.2.2.2.1) ∧ f263 30 30 = xl.2.2.2.2 ∧ f263 30 31 = nI m2 ∧ f263 30 36 = nI wq ∧ f263 30 45 = nI o ∧ zqLy f263 l0 lc2 (zMnN xl)) ∧ (∀ j, j < 8 → ∀ k, k < (if j < 6 then d else 8 * d) → f263 (200 + j + 10 * 2) k = fi (200 + j + 10 * g) k) ∧ ∀ a b, ¬ (a = 48 ∨ a = 49 ∨ (50 ≤ a ∧ a ≤ 64) ∨ (200 ≤ a ∧ a < 240) ∨ (a = 30 ∧ (b = 0 ∨ (21 ≤ b ∧ b ≤ 36) ∨ b = 45))) → f263 a b = fi a b) ∧ zH D A τ262 f263 g264 ol s _ ∧ va_S A s.heap _ _ ∧ lv_has _ 6 [(0, .ref (τ262.1 30)), (3, .int (nI (zCn (fun j => zPo cd pN n (lc2 j)) l0)))] from ⟨⟨hz7, hMq7, by omega, hMl, hMo, q267, q268, ⟨q269, q270, q271, q272, q273, q274, hLy⟩, hCo, fun a b h => by rw [hf7 a b (by omega)]; exact hfr6 a b (by omega)⟩, hH, hS, lv_sub hl [0, 1] rfl⟩)
          · skip
            refine lv_aload_n hx hb dX12_letter_198 rfl (lv_at hl 0 rfl) ?_
            refine va_callv (va_runV (As := []) (rest := []) ⟨hx, hb, hml, hown, hts⟩ (m_growN_2 l hl0 D A sad τ f6 fr ol hF ((by have h9 := hMq; rw [hg0, hL0, show d = 256 by omega] at h9; exact h9)) ((fun k9 h9 => by have h8 := hbl k9 (by omega); rw [← hfr6 (200 + 10 * g) k9 (by omega), hg0] at h8; exact h8))) (cwV 0 hts gX12_letter_X12_grow rfl rfl rfl (by decide +kernel) ⟨Nat.le_of_ble_eq_true rfl, Nat.le_of_ble_eq_true rfl⟩) ⟨zQc_bl, zRecv hH (zk_30 hF) rfl, zQc_at hz hS hA hH⟩ rfl rfl hl.1 rfl (lv_room (Nat.le_of_ble_eq_true rfl)) dX12_letter_199 ⟨Nat.le_of_ble_eq_true rfl, Nat.le_of_ble_eq_true rfl⟩) hS (fun q _ h => h) (fun q h => h) (fun u9 t9 H1 locs ht9 hvm9 hw hB hz1 hk1 hS => ?_)
            obtain ⟨τ276, f277, g278⟩ := u9
            have hH := zMv ht9 hvm9 hB
            clear hB
            simp only at hw hH
            generalize H1 = H at hH hS ⊢
            refine W.widen (k := 8) (n := 11264) (by decide) (by decide) ?_
            obtain ⟨⟨hq7, hz7, hf7⟩, hcp7⟩ := hw
            have ha7 : ∀ i, ¬ (200 ≤ i ∧ i < 240) → τ276.1 i = τ.1 i := fun i h => (hz7.1 i h).1
            rw [show τ.1 30 = τ276.1 30 from (ha7 30 (by omega)).symm] at hl
            have q279 : f277 30 26 = nI l0 := by rw [hf7 30 26 (by omega)]; exact p26
            have q280 : f277 30 35 = nI d := by rw [hf7 30 35 (by omega)]; exact p35
            have q281 : f277 30 21 = nI 0 := by rw [hf7 30 21 (by omega)]; exact q21
            have q282 : f277 30 24 = (zFv (zLet (fi 47) L (zS (fi 47) L 0))) := by rw [hf7 30 24 (by omega)]; exact q24
            have q283 : f277 30 0 = nI 0 := by rw [hf7 30 0 (by omega)]; exact q0
            have q284 : f277 30 29 = nI ((zN xl.2.2.2.1)) := by rw [hf7 30 29 (by omega)]; exact q29
            have q285 : f277 30 30 = xl.2.2.2.2 := by rw [hf7 30 30 (by omega)]; exact q30
            have q286 : f277 30 31 = nI m2 := by rw [hf7 30 31 (by omega)]; exact q31
            have q287 : f277 30 36 = nI wq := by rw [hf7 30 36 (by omega)]; exact q36
            have q288 : f277 30 45 = nI o := by rw [hf7 30 45 (by omega)]; exact q45
            have hMl := zMl.ci (fi' := f277) hMl (fun i9 k9 h9 => hf7 i9 k9 (by omega))
            have hMo := zMo.ci (fi' := f277) hMo (fun i9 k9 h9 => hf7 i9 k9 (by omega))
            have hLy := zqLy.cg (fi' := f277) hLy (fun i9 k9 h9 => hf7 i9 k9 (by omega))
            have hMq7 : zMq τ276 f277 g278 3 512 d := by have h9 := hq7; rw [show (256 : Nat) = d by omega] at h9; exact h9
            have hCo : ∀ j, j < 8 → ∀ k9, k9 < (if j < 6 then d else 8 * d) → f277 (200 + j + 10 * 3) k9 = fi (200 + j + 10 * g) k9 := fun j hj k9 hk9 => by rw [hcp7 j hj k9 (by rw [show (256 : Nat) = d by omega]; exact hk9), ← hg0]; exact hfr6 _ _ (by omega)
            refine W.widen (k := 8) (n := 11264) (by decide) (by decide) ?_
            exact hJ130 (τ276, f277, g278, 3, 512) _ _ _ (show (zGz τ fr τ276 g278 ∧ zMq τ276 f277 g278 3 512 d ∧ d < 512 ∧ zMl f277 l0 ∧ zMo f277 n o ∧ f277 30 21 = nI 0 ∧ f277 30 24 = (zFv (zLet (fi 47) L (zS (fi 47) L 0))) ∧ (f277 30 0 = nI 0 ∧ f277 30 29 = nI (zN xl.2.2.2.1) ∧ f277 30 30 = xl.2.2.2.2 ∧ f277 30 31 = nI m2 ∧ f277 30 36 = nI wq ∧ f277 30 45 = nI o ∧ zqLy f277 l0 lc2 (zMnN xl)) ∧ (∀ j, j < 8 → ∀ k, k < (if j < 6 then d else 8 * d) → f277 (200 + j + 10 * 3) k = fi (200 + j + 10 * g) k) ∧ ∀ a b, ¬ (a = 48 ∨ a = 49 ∨ (50 ≤ a ∧ a ≤ 64) ∨ (200 ≤ a ∧ a < 240) ∨ (a = 30 ∧ (b = 0 ∨ (21 ≤ b ∧ b ≤ 36) ∨ b = 45))) → f277 a b = fi a b) ∧ zH D A τ276 f277 g278 ol s _ ∧ va_S A s.heap _ _ ∧ lv_has _ 6 [(0, .ref (τ276.1 30)), (3, .int (nI (zCn (fun j => zPo cd pN n (lc2 j)) l0)))] from ⟨⟨hz7, hMq7, by omega, hMl, hMo, q281, q282, ⟨q283, q284, q285, q286, q287, q288, hLy⟩, hCo, fun a b h => by rw [hf7 a b (by omega)]; exact hfr6 a b (by omega)⟩, hH, hS, lv_sub hl [0, 1] rfl⟩)
          · exact absurd hd5 (by omega)
    · skip
      refine lv_aload_n hx hb dX12_letter_23 rfl (lv_at hl 0 rfl) ?_
      refine lv_iconst (v := (-1)) hx hb dX12_letter_24 (by decide) ?_
      refine lv_iconst (v := nI 0) hx hb dX12_letter_25 (by decide) ?_
      refine va_calli (va_runV (As := [.int ((-1)), .int (nI 0)]) (rest := []) ⟨hx, hb, hml, hown, hts⟩ (m_totalN l hl0 D A sad τ f118 fr ol ((-1)) 0 ((by omega)) hF n hMt td cd pN hPb l0 ((zLcN xl)) ((zMnN xl)) hLy) (cwV 2 hts gX12_letter_X12_total rfl rfl rfl (by decide +kernel) ⟨Nat.le_of_ble_eq_true rfl, Nat.le_of_ble_eq_true rfl⟩) ⟨zQc_bl, zRecv hH (zk_30 hF) rfl, zQc_at hz hS hA hH⟩ rfl rfl hl.1 rfl (lv_room (Nat.le_of_ble_eq_true rfl)) dX12_letter_26 ⟨Nat.le_of_ble_eq_true rfl, Nat.le_of_ble_eq_true rfl⟩) hS (fun q _ h => h) (fun q h => h) (fun r289 u9 t9 H1 locs ht9 hvm9 hw hB hz1 hk1 hS => ?_)
      have hH := zMv ht9 hvm9 hB
      generalize H1 = H at hH hS ⊢
      rw [show zSm (fun j => zPo cd pN n (zIf (-1) 0 (zLcN xl) j) * zMnN xl j) l0 = zSm (fun j => zPo cd pN n (zLcN xl j) * zMnN xl j) l0 from zSm_cg (fun j q9 => by rw [zIf_m1 (by omega)])] at hw
      have htb : zSm (fun j => zPo cd pN n (zLcN xl j) * zMnN xl j) l0 ≤ 7920000 := hLy.bd (P := fun j => zPo cd pN n (zLcN xl j)) (fun j => hPb.le) (Nat.le_refl l0)
      rcases hw with ⟨rfl, htj⟩ | ⟨htj, rfl⟩
      · skip
        have hpl : ¬ zPl cd pN n (zLcN xl) (zMnN xl) l0 (zN xl.2.2.2.1) := fun h9 => by obtain ⟨j9, q9, z9⟩ := htj; rw [zIf_m1 (by omega)] at z9; have h8 := h9.1 j9 q9; omega
        refine lv_aload_n hx hb dX12_letter_29 rfl (lv_at hl 0 rfl) ?_
        refine zGetI (D := D) (ci := 12) (C := RX12) (T := TX12) (N := 71) hx hb hts hiX12 hown hH (zk_30 hF) rfl 29 (by decide) rfl hw10 (fun _ h9 => h9) dX12_letter_30 k29 ?_
        refine lv_icmp_ne (tgt := 40) hx hb dX12_letter_33 (by decide) (fun c290 => ?_) (fun c290 => False.elim (by have zc290 := zc_eq ((by decide : ((-1) : Int32).toInt = (-1))) (nI_toInt (by omega)) c290; omega))
        refine lv_iconst (v := nI 0) hx hb dX12_letter_40 (by decide) ?_
        refine lv_istore_n (lv' := [(1, .int (nI 0)), (0, .ref (τ.1 30))]) hx hb dX12_letter_41 rfl hl (by decide) rfl (fun ls hl => ?_)
        refine lv_aload_n hx hb dX12_letter_42 rfl (lv_at hl 1 rfl) ?_
        refine lv_iconst (v := nI 0) hx hb dX12_letter_43 (by decide) ?_
        refine zPutI (D := D) (ci := 12) (ty := .int) (C := RX12) (T := TX12) (N := 71) hx hb hts hiX12 tyX12 tyX12_ok nmX12 hown hH hS (zk_30 hF) rfl 31 (by decide) rfl hw5 (fun _ h9 => h9) rfl (by decide +kernel) rfl rfl dX12_letter_44 (fun H locs hH hS => ?_)
        obtain ⟨f291, ef291⟩ : ∃ f9 : zFi, f9 = zu f118 30 31 (nI 0) := ⟨_, rfl⟩
        rw [← ef291] at hH
        have q292 : f291 30 45 = nI o := by rw [ef291, zu_n (fun h9 => absurd h9.2 (by decide))]; exact q121
        have q293 : f291 30 35 = nI d := by rw [ef291, zu_n (fun h9 => absurd h9.2 (by decide))]; exact q122
        have q294 : f291 30 36 = nI wq := by rw [ef291, zu_n (fun h9 => absurd h9.2 (by decide))]; exact q123
        have q295 : f291 30 2 = nI n := by rw [ef291, zu_n (fun h9 => absurd h9.2 (by decide))]; exact q124
        have q296 : f291 30 21 = nI 0 := by rw [ef291, zu_n (fun h9 => absurd h9.2 (by decide))]; exact q125
        have q297 : f291 30 22 = nI L := by rw [ef291, zu_n (fun h9 => absurd h9.2 (by decide))]; exact q126
        have q298 : f291 30 0 = nI 0 := by rw [ef291, zu_n (fun h9 => absurd h9.2 (by decide))]; exact q127
        have q299 : f291 30 26 = nI l0 := by rw [ef291, zu_n (fun h9 => absurd h9.2 (by decide))]; exact hMl.2.1
        have q300 : f291 30 24 = (zFv (zLet (fi 47) L (zS (fi 47) L 0))) := by rw [ef291, zu_n (fun h9 => absurd h9.2 (by decide))]; exact k24
        have q301 : f291 30 29 = nI ((zN xl.2.2.2.1)) := by rw [ef291, zu_n (fun h9 => absurd h9.2 (by decide))]; exact k29
        have q302 : f291 30 30 = xl.2.2.2.2 := by rw [ef291, zu_n (fun h9 => absurd h9.2 (by decide))]; exact h30
        have q303 : f291 30 31 = nI 0 := by rw [ef291]; exact zu_s
        have hMt := zMt.ci (fi' := f291) hMt (fun i9 k9 h9 => by rw [ef291]; exact zu_n (by omega))
        have hMo := zMo.ci (fi' := f291) hMo (fun i9 k9 h9 => by rw [ef291]; exact zu_n (by omega))
        have hMq := zMq.ci (fi' := f291) hMq (fun i9 k9 h9 => by rw [ef291]; exact zu_n (by omega))
        have hPb := zqPb.cg (fi' := f291) hPb (fun i9 k9 h9 => by rw [ef291]; exact zu_n (by omega))
        have hMl := zMl.ci (fi' := f291) hMl (fun i9 k9 h9 => by rw [ef291]; exact zu_n (by omega))
        have hLy := zqLy.cg (fi' := f291) hLy (fun i9 k9 h9 => by rw [ef291]; exact zu_n (by omega))
        refine lv_iload_n hx hb dX12_letter_47 rfl (lv_at hl 0 rfl) ?_
        refine lv_if_ne (tgt := 55) hx hb dX12_letter_48 (by decide) (fun c304 => absurd (by decide) c304) (fun c304 => ?_)
        refine lv_aload_n hx hb dX12_letter_51 rfl (lv_at hl 1 rfl) ?_
        refine va_callv (va_runV (As := []) (rest := []) ⟨hx, hb, hml, hown, hts⟩ (m_findMN l hl0 D A sad τ f291 fr ol hF n hMt td cd pN hPb l0 ((zLcN xl)) ((zMnN xl)) hLy ((zOk cd pN n (zLcN xl) (zMnN xl) l0 (zN xl.2.2.2.1))) ((zN xl.2.2.2.1)) q301 hs9 ((fun k t hk ht => zOk_m hl8 hk ht (hPb.2.2 t ht).2.2.2.2))) (cwV 0 hts gX12_letter_X12_findMendings rfl rfl rfl (by decide +kernel) ⟨Nat.le_of_ble_eq_true rfl, Nat.le_of_ble_eq_true rfl⟩) ⟨zQc_bl, zRecv hH (zk_30 hF) rfl, zQc_at hz hS hA hH⟩ rfl rfl hl.1 rfl (lv_room (Nat.le_of_ble_eq_true rfl)) dX12_letter_52 ⟨Nat.le_of_ble_eq_true rfl, Nat.le_of_ble_eq_true rfl⟩) hS (fun q _ h => h) (fun q h => h) (fun u9 t9 H1 locs ht9 hvm9 hw hB hz1 hk1 hS => ?_)
        have hH := zMv ht9 hvm9 hB
        clear hB
        generalize u9 = f306 at hw hH
        generalize H1 = H at hH hS ⊢
        obtain ⟨hfi, hf307⟩ := hw
        have hzn : (zFM (zOk cd pN n (zLcN xl) (zMnN xl) l0 (zN xl.2.2.2.1)) n cd l0).1 ≤ 8 * 30 := Nat.le_trans zFM_le (Nat.mul_le_mul hl8 hm30)
        have hz5 := hfi.1
        have q308 : f306 30 45 = nI o := by rw [hf307 30 45 (by omega)]; exact q292
        have q309 : f306 30 35 = nI d := by rw [hf307 30 35 (by omega)]; exact q293
        have q310 : f306 30 36 = nI wq := by rw [hf307 30 36 (by omega)]; exact q294
        have q311 : f306 30 2 = nI n := by rw [hf307 30 2 (by omega)]; exact q295
        have q312 : f306 30 21 = nI 0 := by rw [hf307 30 21 (by omega)]; exact q296
        have q313 : f306 30 22 = nI L := by rw [hf307 30 22 (by omega)]; exact q297
        have q314 : f306 30 0 = nI 0 := by rw [hf307 30 0 (by omega)]; exact q298
        have q315 : f306 30 26 = nI l0 := by rw [hf307 30 26 (by omega)]; exact q299
        have q316 : f306 30 24 = (zFv (zLet (fi 47) L (zS (fi 47) L 0))) := by rw [hf307 30 24 (by omega)]; exact q300
        have q317 : f306 30 29 = nI ((zN xl.2.2.2.1)) := by rw [hf307 30 29 (by omega)]; exact q301
        have q318 : f306 30 30 = xl.2.2.2.2 := by rw [hf307 30 30 (by omega)]; exact q302
        have hMt := zMt.ci (fi' := f306) hMt (fun i9 k9 h9 => hf307 i9 k9 (by omega))
        have hMo := zMo.ci (fi' := f306) hMo (fun i9 k9 h9 => hf307 i9 k9 (by omega))
        have hMq := zMq.ci (fi' := f306) hMq (fun i9 k9 h9 => hf307 i9 k9 (by omega))
        have hPb := zqPb.cg (fi' := f306) hPb (fun i9 k9 h9 => hf307 i9 k9 (by omega))
        have hMl := zMl.ci (fi' := f306) hMl (fun i9 k9 h9 => hf307 i9 k9 (by omega))
        have hLy := zqLy.cg (fi' := f306) hLy (fun i9 k9 h9 => hf307 i9 k9 (by omega))
        refine lv_iload_n hx hb dX12_letter_55 rfl (lv_at hl 0 rfl) ?_
        refine lv_if_ne (tgt := 71) hx hb dX12_letter_56 (by decide) (fun c319 => absurd (by decide) c319) (fun c319 => ?_)
        refine lv_aload_n hx hb dX12_letter_59 rfl (lv_at hl 1 rfl) ?_
        refine zGetI (D := D) (ci := 12) (C := RX12) (T := TX12) (N := 71) hx hb hts hiX12 hown hH (zk_30 hF) rfl 31 (by decide) rfl hw5 (fun _ h9 => h9) dX12_letter_60 hz5 ?_
        refine lv_iconst (v := nI 1) hx hb dX12_letter_63 (by decide) ?_
        refine lv_icmp_ne (tgt := 71) hx hb dX12_letter_64 (by decide) (fun c320 => ?_) (fun c320 => ?_)
        · have zc320 := c320
          replace zc320 := zc_neq (nI_toInt (by omega)) (nI_toInt (by omega)) zc320
          refine lv_iconst (v := nI 0) hx hb dX12_letter_71 (by decide) ?_
          refine lv_istore_n (lv' := [(2, .int (nI 0)), (1, .int (nI 0)), (0, .ref (τ.1 30))]) hx hb dX12_letter_72 rfl hl (by decide) rfl (fun ls hl => ?_)
          refine lv_iload_n hx hb dX12_letter_73 rfl (lv_at hl 0 rfl) ?_
          refine lv_if_eq (tgt := 90) hx hb dX12_letter_74 (by decide) (fun c321 => ?_) (fun c321 => absurd (by decide) c321)
          have hme : zMe (zPl cd pN n (zLcN xl) (zMnN xl) l0 (zN xl.2.2.2.1)) (zFM (zOk cd pN n (zLcN xl) (zMnN xl) l0 (zN xl.2.2.2.1)) n cd l0) (zLcN xl) (zLcN xl) (zFM (zOk cd pN n (zLcN xl) (zMnN xl) l0 (zN xl.2.2.2.1)) n cd l0).1 0 := Or.inr (Or.inr ⟨hpl, by omega, rfl, rfl, rfl⟩)
          refine lv_aload_n hx hb dX12_letter_90 rfl (lv_at hl 2 rfl) ?_
          refine va_calli (va_runV (As := []) (rest := []) ⟨hx, hb, hml, hown, hts⟩ (m_knownN l hl0 D A sad τ f306 fr ol hF n hMt td cd pN hPb l0 ((zLcN xl)) ((zMnN xl)) hLy) (cwV 0 hts gX12_letter_X12_known rfl rfl rfl (by decide +kernel) ⟨Nat.le_of_ble_eq_true rfl, Nat.le_of_ble_eq_true rfl⟩) ⟨zQc_bl, zRecv hH (zk_30 hF) rfl, zQc_at hz hS hA hH⟩ rfl rfl hl.1 rfl (lv_room (Nat.le_of_ble_eq_true rfl)) dX12_letter_91 ⟨Nat.le_of_ble_eq_true rfl, Nat.le_of_ble_eq_true rfl⟩) hS (fun q _ h => h) (fun q h => h) (fun r322 u9 t9 H1 locs ht9 hvm9 hw hB hz1 hk1 hS => ?_)
          have hH := zMv ht9 hvm9 hB
          generalize H1 = H at hH hS ⊢
          obtain rfl := hw
          refine lv_istore_n (lv' := [(3, .int (nI (zCn (fun j => zPo cd pN n ((zLcN xl) j)) l0))), (2, .int (nI 0)), (1, .int (nI 0)), (0, .ref (τ.1 30))]) hx hb dX12_letter_94 rfl hl (by decide) rfl (fun ls hl => ?_)
          refine lv_iload_n hx hb dX12_letter_95 rfl (lv_at hl 2 rfl) ?_
          refine lv_if_ne (tgt := 103) hx hb dX12_letter_96 (by decide) (fun c323 => absurd (by decide) c323) (fun c323 => ?_)
          refine lv_iload_n hx hb dX12_letter_99 rfl (lv_at hl 1 rfl) ?_
          refine lv_if_eq (tgt := 122) hx hb dX12_letter_100 (by decide) (fun c324 => ?_) (fun c324 => absurd (by decide) c324)
          have hnp : ¬ (0 = 1 ∧ (zDue (fi 44) (nI (zN xl.2.2.2.1))).toInt ≤ xl.2.2.2.2.toInt) := fun h9 => absurd h9.1 (by decide)
          refine lv_iconst (v := nI 0) hx hb dX12_letter_122 (by decide) ?_
          refine lv_istore (lv' := [(4, .int (nI 0)), (3, .int (nI (zCn (fun j => zPo cd pN n ((zLcN xl) j)) l0))), (2, .int (nI 0)), (1, .int (nI 0)), (0, .ref (τ.1 30))]) hx hb dX12_letter_123 hl (by decide) rfl (fun ls hl => ?_)
          refine lv_iload hx hb dX12_letter_125 (lv_at hl 0 rfl) ?_
          refine lv_if_eq (tgt := 142) hx hb dX12_letter_127 (by decide) (fun c325 => ?_) (fun c325 => absurd (by decide) c325)
          refine lv_aload_n hx hb dX12_letter_142 rfl (lv_at hl 4 rfl) ?_
          refine zGetI (D := D) (ci := 12) (C := RX12) (T := TX12) (N := 71) hx hb hts hiX12 hown hH (zk_30 hF) rfl 36 (by decide) rfl hw13 (fun _ h9 => h9) dX12_letter_143 q310 ?_
          refine lv_bipush (v := nI 20) hx hb dX12_letter_146 (by decide) ?_
          refine lv_icmp_ne (tgt := 158) hx hb dX12_letter_148 (by decide) (fun c326 => ?_) (fun c326 => ?_)
          · have zc326 := c326
            replace zc326 := zc_neq (nI_toInt (by omega)) (nI_toInt (by omega)) zc326
            refine lv_iload hx hb dX12_letter_158 (lv_at hl 0 rfl) ?_
            refine lv_if_eq (tgt := 186) hx hb dX12_letter_160 (by decide) (fun c327 => ?_) (fun c327 => absurd (by decide) c327)
            exact hJ129 (f306, (zLcN xl), (zFM (zOk cd pN n (zLcN xl) (zMnN xl) l0 (zN xl.2.2.2.1)) n cd l0).1, 0) _ _ _ (show (zMl f306 l0 ∧ f306 30 21 = nI 0 ∧ f306 30 24 = (zFv (zLet (fi 47) L (zS (fi 47) L 0))) ∧ zMo f306 n o ∧ zMq τ f306 fr g Ln d ∧ (f306 30 0 = nI 0 ∧ f306 30 29 = nI (zN xl.2.2.2.1) ∧ f306 30 30 = xl.2.2.2.2 ∧ f306 30 31 = nI ((zFM (zOk cd pN n (zLcN xl) (zMnN xl) l0 (zN xl.2.2.2.1)) n cd l0).1) ∧ f306 30 36 = nI wq ∧ f306 30 45 = nI o ∧ zqLy f306 l0 ((zLcN xl)) (zMnN xl)) ∧ zMe (zPl cd pN n (zLcN xl) (zMnN xl) l0 (zN xl.2.2.2.1)) (zFM (zOk cd pN n (zLcN xl) (zMnN xl) l0 (zN xl.2.2.2.1)) n cd l0) (zLcN xl) ((zLcN xl)) ((zFM (zOk cd pN n (zLcN xl) (zMnN xl) l0 (zN xl.2.2.2.1)) n cd l0).1) 0 ∧ ¬ (0 = 1 ∧ (zDue (fi 44) (nI (zN xl.2.2.2.1))).toInt ≤ xl.2.2.2.2.toInt) ∧ ¬ wq = 20 ∧ ∀ a b, ¬ (a = 48 ∨ a = 49 ∨ (a = 30 ∧ (b = 0 ∨ (21 ≤ b ∧ b ≤ 34)))) → f306 a b = fi a b) ∧ zH D A τ f306 fr ol s _ ∧ va_S A s.heap _ _ ∧ lv_has _ 6 [(0, .ref (τ.1 30)), (3, .int (nI (zCn (fun j => zPo cd pN n (((zLcN xl)) j)) l0)))] from ⟨⟨hMl, q312, q316, hMo, hMq, ⟨q314, q317, q318, hz5, q310, q308, hLy⟩, hme, hnp, by omega, fun a b h => by rw [hf307 a b (by omega), ef291, zu_n (by omega), hf120 a b (by omega), ef107, zu_n (by omega), hf21 a b (by omega)]⟩, hH, hS, lv_sub hl [4, 1] rfl⟩)
          · have zc326 := c326
            replace zc326 := zc_eq (nI_toInt (by omega)) (nI_toInt (by omega)) zc326
            refine lv_aload_n hx hb dX12_letter_151 rfl (lv_at hl 4 rfl) ?_
            refine lv_iconst (v := nI 2) hx hb dX12_letter_152 (by decide) ?_
            refine zPutI (D := D) (ci := 12) (ty := .int) (C := RX12) (T := TX12) (N := 71) hx hb hts hiX12 tyX12 tyX12_ok nmX12 hown hH hS (zk_30 hF) rfl 0 (by decide) rfl hw0 (fun _ h9 => h9) rfl (by decide +kernel) rfl rfl dX12_letter_153 (fun H locs hH hS => ?_)
            obtain ⟨f328, ef328⟩ : ∃ f9 : zFi, f9 = zu f306 30 0 (nI 2) := ⟨_, rfl⟩
            rw [← ef328] at hH
            have q329 : f328 30 45 = nI o := by rw [ef328, zu_n (fun h9 => absurd h9.2 (by decide))]; exact q308
            have q330 : f328 30 35 = nI d := by rw [ef328, zu_n (fun h9 => absurd h9.2 (by decide))]; exact q309
            have q331 : f328 30 36 = nI wq := by rw [ef328, zu_n (fun h9 => absurd h9.2 (by decide))]; exact q310
            have q332 : f328 30 2 = nI n := by rw [ef328, zu_n (fun h9 => absurd h9.2 (by decide))]; exact q311
            have q333 : f328 30 21 = nI 0 := by rw [ef328, zu_n (fun h9 => absurd h9.2 (by decide))]; exact q312
            have q334 : f328 30 22 = nI L := by rw [ef328, zu_n (fun h9 => absurd h9.2 (by decide))]; exact q313
            have q335 : f328 30 26 = nI l0 := by rw [ef328, zu_n (fun h9 => absurd h9.2 (by decide))]; exact q315
            have q336 : f328 30 24 = (zFv (zLet (fi 47) L (zS (fi 47) L 0))) := by rw [ef328, zu_n (fun h9 => absurd h9.2 (by decide))]; exact q316
            have q337 : f328 30 29 = nI ((zN xl.2.2.2.1)) := by rw [ef328, zu_n (fun h9 => absurd h9.2 (by decide))]; exact q317
            have q338 : f328 30 30 = xl.2.2.2.2 := by rw [ef328, zu_n (fun h9 => absurd h9.2 (by decide))]; exact q318
            have q339 : f328 30 31 = nI ((zFM (zOk cd pN n (zLcN xl) (zMnN xl) l0 (zN xl.2.2.2.1)) n cd l0).1) := by rw [ef328, zu_n (fun h9 => absurd h9.2 (by decide))]; exact hz5
            have q340 : f328 30 0 = nI 2 := by rw [ef328]; exact zu_s
            have hMt := zMt.ci (fi' := f328) hMt (fun i9 k9 h9 => by rw [ef328]; exact zu_n (by omega))
            have hMo := zMo.ci (fi' := f328) hMo (fun i9 k9 h9 => by rw [ef328]; exact zu_n (by omega))
            have hMq := zMq.ci (fi' := f328) hMq (fun i9 k9 h9 => by rw [ef328]; exact zu_n (by omega))
            have hPb := zqPb.cg (fi' := f328) hPb (fun i9 k9 h9 => by rw [ef328]; exact zu_n (by omega))
            have hMl := zMl.ci (fi' := f328) hMl (fun i9 k9 h9 => by rw [ef328]; exact zu_n (by omega))
            have hLy := zqLy.cg (fi' := f328) hLy (fun i9 k9 h9 => by rw [ef328]; exact zu_n (by omega))
            refine lv_iconst (v := nI 0) hx hb dX12_letter_156 (by decide) ?_
            refine W.widen (k := 8) (n := 11264) (by decide) (by decide) ?_
            exact W.iret (v := nI 0) hx hb hr (fun t9 ht9 hW9 => ⟨⟨nI 0, (τ, f328, fr), rfl, (show ((∃ o2, o ≤ o2 ∧ o2 ≤ o + 1 ∧ zMo f328 n o2) ∧ (∃ g2 L2 d2, d2 ≤ d + 1 ∧ zMq τ f328 fr g2 L2 d2) ∧ f328 30 21 = nI 0 ∧ zGz τ fr τ fr ∧ ∀ a b, ¬ (a = 48 ∨ a = 49 ∨ (50 ≤ a ∧ a ≤ 64) ∨ (200 ≤ a ∧ a < 240) ∨ (a = 30 ∧ (b = 0 ∨ (21 ≤ b ∧ b ≤ 36) ∨ b = 45))) → f328 a b = fi a b) ∧ f328 30 24 = (zFv (zLet (fi 47) L (zS (fi 47) L 0))) ∧ (((∃ p, zLet (fi 47) L (zS (fi 47) L 0) = .error p) ∧ f328 30 0 = nI 1 ∧ f328 30 45 = nI o ∧ τ = τ ∧ fr = fr ∧ f328 30 35 = nI d ∧ f328 30 36 = nI wq ∧ ∀ a b, 200 ≤ a → a < 240 → f328 a b = fi a b) ∨ ((∃ xl lc2 m2 b2, zLet (fi 47) L (zS (fi 47) L 0) = .ok xl ∧ zLm2 cd pN n xl lc2 m2 b2 ∧ (((b2 = 1 ∧ (zDue (fi 44) (nI (zN xl.2.2.2.1))).toInt ≤ xl.2.2.2.2.toInt) ∧ o = 60) ∨ (¬ (b2 = 1 ∧ (zDue (fi 44) (nI (zN xl.2.2.2.1))).toInt ≤ xl.2.2.2.2.toInt) ∧ wq = 20))) ∧ f328 30 0 = nI 2 ∧ f328 30 45 = nI o ∧ τ = τ ∧ fr = fr ∧ f328 30 35 = nI d ∧ f328 30 36 = nI wq ∧ ∀ a b, 200 ≤ a → a < 240 → f328 a b = fi a b) ∨ ((∃ xl lc2 m2 b2, zLet (fi 47) L (zS (fi 47) L 0) = .ok xl ∧ zLm2 cd pN n xl lc2 m2 b2 ∧ b2 = 1 ∧ (zDue (fi 44) (nI (zN xl.2.2.2.1))).toInt ≤ xl.2.2.2.2.toInt) ∧ o < 60 ∧ (nI 0) = nI o ∧ f328 30 0 = nI 0 ∧ f328 30 45 = nI (o + 1) ∧ τ = τ ∧ fr = fr ∧ f328 30 35 = nI d ∧ f328 30 36 = nI wq ∧ ∀ a b, 200 ≤ a → a < 240 → f328 a b = fi a b) ∨ ((∃ xl lc2 m2 b2, zLet (fi 47) L (zS (fi 47) L 0) = .ok xl ∧ zLm2 cd pN n xl lc2 m2 b2 ∧ ¬ (b2 = 1 ∧ (zDue (fi 44) (nI (zN xl.2.2.2.1))).toInt ≤ xl.2.2.2.2.toInt) ∧ ∃ g2 L2, zMq τ f328 fr g2 L2 (d + 1) ∧ (∀ j, j < 8 → ∀ k, k < (if j < 6 then d else 8 * d) → f328 (200 + j + 10 * g2) k = fi (200 + j + 10 * g) k) ∧ f328 30 36 = nI (wq + 1) ∧ f328 (200 + 10 * g2) d = nI 1 ∧ f328 (201 + 10 * g2) d = nI m2 ∧ f328 (202 + 10 * g2) d = nI xl.1 ∧ f328 (203 + 10 * g2) d = nI (zCn (fun j => zPo cd pN n (lc2 j)) xl.1) ∧ f328 (204 + 10 * g2) d = nI (zN xl.2.2.2.1) ∧ f328 (205 + 10 * g2) d = xl.2.2.2.2 ∧ ∀ j, j < xl.1 → f328 (206 + 10 * g2) (8 * d + j) = nI (lc2 j) ∧ f328 (207 + 10 * g2) (8 * d + j) = nI (zMnN xl j)) ∧ ¬ wq = 20 ∧ (nI 0) = -1 - nI (d + 1) ∧ f328 30 0 = nI 0 ∧ f328 30 45 = nI o)) from ⟨⟨⟨o, by omega, by omega, hMo⟩, ⟨g, Ln, d, by omega, hMq⟩, q333, zGz.rf hF, fun a b h => by rw [ef328, zu_n (by omega), hf307 a b (by omega), ef291, zu_n (by omega), hf120 a b (by omega), ef107, zu_n (by omega), hf21 a b (by omega)]⟩, q336, Or.inr (Or.inl ⟨⟨xl, (zLcN xl), (zFM (zOk cd pN n (zLcN xl) (zMnN xl) l0 (zN xl.2.2.2.1)) n cd l0).1, 0, hle, by unfold zLm2; rw [← hl0e]; exact hme, Or.inr ⟨hnp, by omega⟩⟩, q340, hMo.2.1, ⟨rfl, rfl, q330, q331, fun a b h1 h2 => by rw [ef328, zu_n (by omega), hf307 a b (by omega), ef291, zu_n (by omega), hf120 a b (by omega), ef107, zu_n (by omega), hf21 a b (by omega)]⟩⟩)⟩), zEnd1 hH ht9 hW9⟩, hS.F ht9⟩) hS.2.2 dX12_letter_157
        · have zc320 := c320
          replace zc320 := zc_eq (nI_toInt (by omega)) (nI_toInt (by omega)) zc320
          obtain ⟨hz6, hz7⟩ := hfi.2 (by omega)
          have hi8 := zFM_in (ok := (zOk cd pN n (zLcN xl) (zMnN xl) l0 (zN xl.2.2.2.1))) (n := n) (cd := cd) 8 hl8 (by omega)
          have hc4 := zFM_cb (ok := (zOk cd pN n (zLcN xl) (zMnN xl) l0 (zN xl.2.2.2.1))) (n := n) (cd := cd) 10000 (fun j q9 => (hPb.2.2 j q9).2.1) (k := l0) (by omega)
          refine lv_iconst (v := nI 1) hx hb dX12_letter_67 (by decide) ?_
          refine lv_goto (tgt := 72) hx hb dX12_letter_68 (by decide) ?_
          refine lv_istore_n (lv' := [(2, .int (nI 1)), (1, .int (nI 0)), (0, .ref (τ.1 30))]) hx hb dX12_letter_72 rfl hl (by decide) rfl (fun ls hl => ?_)
          refine lv_iload_n hx hb dX12_letter_73 rfl (lv_at hl 0 rfl) ?_
          refine lv_if_eq (tgt := 90) hx hb dX12_letter_74 (by decide) (fun c341 => absurd c341 (by decide)) (fun c341 => ?_)
          refine lv_aload_n hx hb dX12_letter_77 rfl (lv_at hl 2 rfl) ?_
          refine zGetR (D := D) (ci := 12) (C := RX12) (T := TX12) (N := 71) hx hb hts hiX12 hown hH (zk_30 hF) rfl 27 (by decide) rfl hw15 (fun _ h9 => h9) dX12_letter_78 (zr_30_27 hF) ?_
          refine lv_aload_n hx hb dX12_letter_81 rfl (lv_at hl 2 rfl) ?_
          refine zGetI (D := D) (ci := 12) (C := RX12) (T := TX12) (N := 71) hx hb hts hiX12 hown hH (zk_30 hF) rfl 32 (by decide) rfl hw18 (fun _ h9 => h9) dX12_letter_82 hz6 ?_
          refine lv_aload_n hx hb dX12_letter_85 rfl (lv_at hl 2 rfl) ?_
          refine zGetI (D := D) (ci := 12) (C := RX12) (T := TX12) (N := 71) hx hb hts hiX12 hown hH (zk_30 hF) rfl 33 (by decide) rfl hw19 (fun _ h9 => h9) dX12_letter_86 hz7 ?_
          refine zIastN (D := D) hx hb hH hS (zk_48 hF) (zn_48 hF) (by omega) (by omega) dX12_letter_89 (fun H locs hH hS => ?_)
          obtain ⟨f342, ef342⟩ : ∃ f9 : zFi, f9 = zu f306 48 ((zFM (zOk cd pN n (zLcN xl) (zMnN xl) l0 (zN xl.2.2.2.1)) n cd l0).2.1) (nI ((zFM (zOk cd pN n (zLcN xl) (zMnN xl) l0 (zN xl.2.2.2.1)) n cd l0).2.2)) := ⟨_, rfl⟩
          rw [← ef342] at hH
          have q343 : f342 30 45 = nI o := by rw [ef342, zu_n (fun h9 => absurd h9.1 (by decide))]; exact q308
          have q344 : f342 30 35 = nI d := by rw [ef342, zu_n (fun h9 => absurd h9.1 (by decide))]; exact q309
          have q345 : f342 30 36 = nI wq := by rw [ef342, zu_n (fun h9 => absurd h9.1 (by decide))]; exact q310
          have q346 : f342 30 2 = nI n := by rw [ef342, zu_n (fun h9 => absurd h9.1 (by decide))]; exact q311
          have q347 : f342 30 21 = nI 0 := by rw [ef342, zu_n (fun h9 => absurd h9.1 (by decide))]; exact q312
          have q348 : f342 30 22 = nI L := by rw [ef342, zu_n (fun h9 => absurd h9.1 (by decide))]; exact q313
          have q349 : f342 30 0 = nI 0 := by rw [ef342, zu_n (fun h9 => absurd h9.1 (by decide))]; exact q314
          have q350 : f342 30 26 = nI l0 := by rw [ef342, zu_n (fun h9 => absurd h9.1 (by decide))]; exact q315
          have q351 : f342 30 24 = (zFv (zLet (fi 47) L (zS (fi 47) L 0))) := by rw [ef342, zu_n (fun h9 => absurd h9.1 (by decide))]; exact q316
          have q352 : f342 30 29 = nI ((zN xl.2.2.2.1)) := by rw [ef342, zu_n (fun h9 => absurd h9.1 (by decide))]; exact q317
          have q353 : f342 30 30 = xl.2.2.2.2 := by rw [ef342, zu_n (fun h9 => absurd h9.1 (by decide))]; exact q318
          have q354 : f342 30 31 = nI ((zFM (zOk cd pN n (zLcN xl) (zMnN xl) l0 (zN xl.2.2.2.1)) n cd l0).1) := by rw [ef342, zu_n (fun h9 => absurd h9.1 (by decide))]; exact hz5
          have q355 : f342 30 32 = nI ((zFM (zOk cd pN n (zLcN xl) (zMnN xl) l0 (zN xl.2.2.2.1)) n cd l0).2.1) := by rw [ef342, zu_n (fun h9 => absurd h9.1 (by decide))]; exact hz6
          have q356 : f342 30 33 = nI ((zFM (zOk cd pN n (zLcN xl) (zMnN xl) l0 (zN xl.2.2.2.1)) n cd l0).2.2) := by rw [ef342, zu_n (fun h9 => absurd h9.1 (by decide))]; exact hz7
          have q357 : f342 48 ((zFM (zOk cd pN n (zLcN xl) (zMnN xl) l0 (zN xl.2.2.2.1)) n cd l0).2.1) = nI ((zFM (zOk cd pN n (zLcN xl) (zMnN xl) l0 (zN xl.2.2.2.1)) n cd l0).2.2) := by rw [ef342]; exact zu_s
          have hMt := zMt.ci (fi' := f342) hMt (fun i9 k9 h9 => by rw [ef342]; exact zu_n (by omega))
          have hMo := zMo.ci (fi' := f342) hMo (fun i9 k9 h9 => by rw [ef342]; exact zu_n (by omega))
          have hMq := zMq.ci (fi' := f342) hMq (fun i9 k9 h9 => by rw [ef342]; exact zu_n (by omega))
          have hPb := zqPb.cg (fi' := f342) hPb (fun i9 k9 h9 => by rw [ef342]; exact zu_n (by omega))
          have hMl := zMl.ci (fi' := f342) hMl (fun i9 k9 h9 => by rw [ef342]; exact zu_n (by omega))
          have hLy := hLy.up hc4 ef342
          have hme : zMe (zPl cd pN n (zLcN xl) (zMnN xl) l0 (zN xl.2.2.2.1)) (zFM (zOk cd pN n (zLcN xl) (zMnN xl) l0 (zN xl.2.2.2.1)) n cd l0) (zLcN xl) (zUp (zLcN xl) (zFM (zOk cd pN n (zLcN xl) (zMnN xl) l0 (zN xl.2.2.2.1)) n cd l0).2.1 (zFM (zOk cd pN n (zLcN xl) (zMnN xl) l0 (zN xl.2.2.2.1)) n cd l0).2.2) 1 1 := Or.inr (Or.inl ⟨hpl, by omega, rfl, rfl, rfl⟩)
          have hm31 : f342 30 31 = nI 1 := by rw [q354, show (zFM (zOk cd pN n (zLcN xl) (zMnN xl) l0 (zN xl.2.2.2.1)) n cd l0).1 = 1 by omega]
          refine lv_aload_n hx hb dX12_letter_90 rfl (lv_at hl 2 rfl) ?_
          refine va_calli (va_runV (As := []) (rest := []) ⟨hx, hb, hml, hown, hts⟩ (m_knownN l hl0 D A sad τ f342 fr ol hF n hMt td cd pN hPb l0 ((zUp (zLcN xl) (zFM (zOk cd pN n (zLcN xl) (zMnN xl) l0 (zN xl.2.2.2.1)) n cd l0).2.1 (zFM (zOk cd pN n (zLcN xl) (zMnN xl) l0 (zN xl.2.2.2.1)) n cd l0).2.2)) ((zMnN xl)) hLy) (cwV 0 hts gX12_letter_X12_known rfl rfl rfl (by decide +kernel) ⟨Nat.le_of_ble_eq_true rfl, Nat.le_of_ble_eq_true rfl⟩) ⟨zQc_bl, zRecv hH (zk_30 hF) rfl, zQc_at hz hS hA hH⟩ rfl rfl hl.1 rfl (lv_room (Nat.le_of_ble_eq_true rfl)) dX12_letter_91 ⟨Nat.le_of_ble_eq_true rfl, Nat.le_of_ble_eq_true rfl⟩) hS (fun q _ h => h) (fun q h => h) (fun r358 u9 t9 H1 locs ht9 hvm9 hw hB hz1 hk1 hS => ?_)
          have hH := zMv ht9 hvm9 hB
          generalize H1 = H at hH hS ⊢
          obtain rfl := hw
          refine lv_istore_n (lv' := [(3, .int (nI (zCn (fun j => zPo cd pN n ((zUp (zLcN xl) (zFM (zOk cd pN n (zLcN xl) (zMnN xl) l0 (zN xl.2.2.2.1)) n cd l0).2.1 (zFM (zOk cd pN n (zLcN xl) (zMnN xl) l0 (zN xl.2.2.2.1)) n cd l0).2.2) j)) l0))), (2, .int (nI 1)), (1, .int (nI 0)), (0, .ref (τ.1 30))]) hx hb dX12_letter_94 rfl hl (by decide) rfl (fun ls hl => ?_)
          refine lv_iload_n hx hb dX12_letter_95 rfl (lv_at hl 2 rfl) ?_
          refine lv_if_ne (tgt := 103) hx hb dX12_letter_96 (by decide) (fun c359 => absurd (by decide) c359) (fun c359 => ?_)
          refine lv_iload_n hx hb dX12_letter_99 rfl (lv_at hl 1 rfl) ?_
          refine lv_if_eq (tgt := 122) hx hb dX12_letter_100 (by decide) (fun c360 => absurd c360 (by decide)) (fun c360 => ?_)
          refine lv_aload_n hx hb dX12_letter_103 rfl (lv_at hl 3 rfl) ?_
          refine zGetI (D := D) (ci := 12) (C := RX12) (T := TX12) (N := 71) hx hb hts hiX12 hown hH (zk_30 hF) rfl 30 (by decide) rfl hw12 (fun _ h9 => h9) dX12_letter_104 q353 ?_
          refine lv_aload_n hx hb dX12_letter_107 rfl (lv_at hl 3 rfl) ?_
          refine lv_aload_n hx hb dX12_letter_108 rfl (lv_at hl 3 rfl) ?_
          refine zGetI (D := D) (ci := 12) (C := RX12) (T := TX12) (N := 71) hx hb hts hiX12 hown hH (zk_30 hF) rfl 29 (by decide) rfl hw10 (fun _ h9 => h9) dX12_letter_109 q352 ?_
          refine va_calli (va_runV (As := [.int (nI ((zN xl.2.2.2.1)))]) (rest := [.int xl.2.2.2.2]) ⟨hx, hb, hml, hown, hts⟩ (m_dueN l hl0 D A sad τ f342 fr ol (nI ((zN xl.2.2.2.1))) hF) (cwV 1 hts gX12_letter_X12_due rfl rfl rfl (by decide +kernel) ⟨Nat.le_of_ble_eq_true rfl, Nat.le_of_ble_eq_true rfl⟩) ⟨zQc_bl, zRecv hH (zk_30 hF) rfl, zQc_at hz hS hA hH⟩ rfl rfl hl.1 rfl (lv_room (Nat.le_of_ble_eq_true rfl)) dX12_letter_112 ⟨Nat.le_of_ble_eq_true rfl, Nat.le_of_ble_eq_true rfl⟩) hS (fun q _ h => h) (fun q h => h) (fun r361 u9 t9 H1 locs ht9 hvm9 hw hB hz1 hk1 hS => ?_)
          have hH := zMv ht9 hvm9 hB
          generalize H1 = H at hH hS ⊢
          rw [show f342 44 = fi 44 from funext (fun k9 => by rw [ef342, zu_n (by omega), hf307 44 k9 (by omega), ef291, zu_n (by omega), hf120 44 k9 (by omega), ef107, zu_n (by omega), hf21 44 k9 (by omega)])] at hw
          obtain rfl := hw
          refine lv_icmp_lt (tgt := 122) hx hb dX12_letter_115 (by decide) (fun c362 => ?_) (fun c362 => ?_)
          · have zc362 := c362
            replace zc362 := zc_lt (rfl) (rfl) zc362
            have hnp : ¬ (1 = 1 ∧ (zDue (fi 44) (nI (zN xl.2.2.2.1))).toInt ≤ xl.2.2.2.2.toInt) := fun h9 => by have h8 := h9.2; omega
            refine lv_iconst (v := nI 0) hx hb dX12_letter_122 (by decide) ?_
            refine lv_istore (lv' := [(4, .int (nI 0)), (3, .int (nI (zCn (fun j => zPo cd pN n ((zUp (zLcN xl) (zFM (zOk cd pN n (zLcN xl) (zMnN xl) l0 (zN xl.2.2.2.1)) n cd l0).2.1 (zFM (zOk cd pN n (zLcN xl) (zMnN xl) l0 (zN xl.2.2.2.1)) n cd l0).2.2) j)) l0))), (2, .int (nI 1)), (1, .int (nI 0)), (0, .ref (τ.1 30))]) hx hb dX12_letter_123 hl (by decide) rfl (fun ls hl => ?_)
            refine lv_iload hx hb dX12_letter_125 (lv_at hl 0 rfl) ?_
            refine lv_if_eq (tgt := 142) hx hb dX12_letter_127 (by decide) (fun c363 => ?_) (fun c363 => absurd (by decide) c363)
            refine lv_aload_n hx hb dX12_letter_142 rfl (lv_at hl 4 rfl) ?_
            refine zGetI (D := D) (ci := 12) (C := RX12) (T := TX12) (N := 71) hx hb hts hiX12 hown hH (zk_30 hF) rfl 36 (by decide) rfl hw13 (fun _ h9 => h9) dX12_letter_143 q345 ?_
            refine lv_bipush (v := nI 20) hx hb dX12_letter_146 (by decide) ?_
            refine lv_icmp_ne (tgt := 158) hx hb dX12_letter_148 (by decide) (fun c364 => ?_) (fun c364 => ?_)
            · have zc364 := c364
              replace zc364 := zc_neq (nI_toInt (by omega)) (nI_toInt (by omega)) zc364
              refine lv_iload hx hb dX12_letter_158 (lv_at hl 0 rfl) ?_
              refine lv_if_eq (tgt := 186) hx hb dX12_letter_160 (by decide) (fun c365 => ?_) (fun c365 => absurd (by decide) c365)
              exact hJ129 (f342, (zUp (zLcN xl) (zFM (zOk cd pN n (zLcN xl) (zMnN xl) l0 (zN xl.2.2.2.1)) n cd l0).2.1 (zFM (zOk cd pN n (zLcN xl) (zMnN xl) l0 (zN xl.2.2.2.1)) n cd l0).2.2), 1, 1) _ _ _ (show (zMl f342 l0 ∧ f342 30 21 = nI 0 ∧ f342 30 24 = (zFv (zLet (fi 47) L (zS (fi 47) L 0))) ∧ zMo f342 n o ∧ zMq τ f342 fr g Ln d ∧ (f342 30 0 = nI 0 ∧ f342 30 29 = nI (zN xl.2.2.2.1) ∧ f342 30 30 = xl.2.2.2.2 ∧ f342 30 31 = nI 1 ∧ f342 30 36 = nI wq ∧ f342 30 45 = nI o ∧ zqLy f342 l0 ((zUp (zLcN xl) (zFM (zOk cd pN n (zLcN xl) (zMnN xl) l0 (zN xl.2.2.2.1)) n cd l0).2.1 (zFM (zOk cd pN n (zLcN xl) (zMnN xl) l0 (zN xl.2.2.2.1)) n cd l0).2.2)) (zMnN xl)) ∧ zMe (zPl cd pN n (zLcN xl) (zMnN xl) l0 (zN xl.2.2.2.1)) (zFM (zOk cd pN n (zLcN xl) (zMnN xl) l0 (zN xl.2.2.2.1)) n cd l0) (zLcN xl) ((zUp (zLcN xl) (zFM (zOk cd pN n (zLcN xl) (zMnN xl) l0 (zN xl.2.2.2.1)) n cd l0).2.1 (zFM (zOk cd pN n (zLcN xl) (zMnN xl) l0 (zN xl.2.2.2.1)) n cd l0).2.2)) 1 1 ∧ ¬ (1 = 1 ∧ (zDue (fi 44) (nI (zN xl.2.2.2.1))).toInt ≤ xl.2.2.2.2.toInt) ∧ ¬ wq = 20 ∧ ∀ a b, ¬ (a = 48 ∨ a = 49 ∨ (a = 30 ∧ (b = 0 ∨ (21 ≤ b ∧ b ≤ 34)))) → f342 a b = fi a b) ∧ zH D A τ f342 fr ol s _ ∧ va_S A s.heap _ _ ∧ lv_has _ 6 [(0, .ref (τ.1 30)), (3, .int (nI (zCn (fun j => zPo cd pN n (((zUp (zLcN xl) (zFM (zOk cd pN n (zLcN xl) (zMnN xl) l0 (zN xl.2.2.2.1)) n cd l0).2.1 (zFM (zOk cd pN n (zLcN xl) (zMnN xl) l0 (zN xl.2.2.2.1)) n cd l0).2.2)) j)) l0)))] from ⟨⟨hMl, q347, q351, hMo, hMq, ⟨q349, q352, q353, hm31, q345, q343, hLy⟩, hme, hnp, by omega, fun a b h => by rw [ef342, zu_n (by omega), hf307 a b (by omega), ef291, zu_n (by omega), hf120 a b (by omega), ef107, zu_n (by omega), hf21 a b (by omega)]⟩, hH, hS, lv_sub hl [4, 1] rfl⟩)
            · have zc364 := c364
              replace zc364 := zc_eq (nI_toInt (by omega)) (nI_toInt (by omega)) zc364
              refine lv_aload_n hx hb dX12_letter_151 rfl (lv_at hl 4 rfl) ?_
              refine lv_iconst (v := nI 2) hx hb dX12_letter_152 (by decide) ?_
              refine zPutI (D := D) (ci := 12) (ty := .int) (C := RX12) (T := TX12) (N := 71) hx hb hts hiX12 tyX12 tyX12_ok nmX12 hown hH hS (zk_30 hF) rfl 0 (by decide) rfl hw0 (fun _ h9 => h9) rfl (by decide +kernel) rfl rfl dX12_letter_153 (fun H locs hH hS => ?_)
              obtain ⟨f366, ef366⟩ : ∃ f9 : zFi, f9 = zu f342 30 0 (nI 2) := ⟨_, rfl⟩
              rw [← ef366] at hH
              have q367 : f366 30 45 = nI o := by rw [ef366, zu_n (fun h9 => absurd h9.2 (by decide))]; exact q343
              have q368 : f366 30 35 = nI d := by rw [ef366, zu_n (fun h9 => absurd h9.2 (by decide))]; exact q344
              have q369 : f366 30 36 = nI wq := by rw [ef366, zu_n (fun h9 => absurd h9.2 (by decide))]; exact q345
              have q370 : f366 30 2 = nI n := by rw [ef366, zu_n (fun h9 => absurd h9.2 (by decide))]; exact q346
              have q371 : f366 30 21 = nI 0 := by rw [ef366, zu_n (fun h9 => absurd h9.2 (by decide))]; exact q347
              have q372 : f366 30 22 = nI L := by rw [ef366, zu_n (fun h9 => absurd h9.2 (by decide))]; exact q348
              have q373 : f366 30 26 = nI l0 := by rw [ef366, zu_n (fun h9 => absurd h9.2 (by decide))]; exact q350
              have q374 : f366 30 24 = (zFv (zLet (fi 47) L (zS (fi 47) L 0))) := by rw [ef366, zu_n (fun h9 => absurd h9.2 (by decide))]; exact q351
              have q375 : f366 30 29 = nI ((zN xl.2.2.2.1)) := by rw [ef366, zu_n (fun h9 => absurd h9.2 (by decide))]; exact q352
              have q376 : f366 30 30 = xl.2.2.2.2 := by rw [ef366, zu_n (fun h9 => absurd h9.2 (by decide))]; exact q353
              have q377 : f366 30 31 = nI 1 := by rw [ef366, zu_n (fun h9 => absurd h9.2 (by decide))]; exact hm31
              have q378 : f366 30 32 = nI ((zFM (zOk cd pN n (zLcN xl) (zMnN xl) l0 (zN xl.2.2.2.1)) n cd l0).2.1) := by rw [ef366, zu_n (fun h9 => absurd h9.2 (by decide))]; exact q355
              have q379 : f366 30 33 = nI ((zFM (zOk cd pN n (zLcN xl) (zMnN xl) l0 (zN xl.2.2.2.1)) n cd l0).2.2) := by rw [ef366, zu_n (fun h9 => absurd h9.2 (by decide))]; exact q356
              have q380 : f366 48 ((zFM (zOk cd pN n (zLcN xl) (zMnN xl) l0 (zN xl.2.2.2.1)) n cd l0).2.1) = nI ((zFM (zOk cd pN n (zLcN xl) (zMnN xl) l0 (zN xl.2.2.2.1)) n cd l0).2.2) := by rw [ef366, zu_n (fun h9 => absurd h9.1 (by decide))]; exact q357
              have q381 : f366 30 0 = nI 2 := by rw [ef366]; exact zu_s
              have hMt := zMt.ci (fi' := f366) hMt (fun i9 k9 h9 => by rw [ef366]; exact zu_n (by omega))
              have hMo := zMo.ci (fi' := f366) hMo (fun i9 k9 h9 => by rw [ef366]; exact zu_n (by omega))
              have hMq := zMq.ci (fi' := f366) hMq (fun i9 k9 h9 => by rw [ef366]; exact zu_n (by omega))
              have hPb := zqPb.cg (fi' := f366) hPb (fun i9 k9 h9 => by rw [ef366]; exact zu_n (by omega))
              have hMl := zMl.ci (fi' := f366) hMl (fun i9 k9 h9 => by rw [ef366]; exact zu_n (by omega))
              have hLy := zqLy.cg (fi' := f366) hLy (fun i9 k9 h9 => by rw [ef366]; exact zu_n (by omega))
              refine lv_iconst (v := nI 0) hx hb dX12_letter_156 (by decide) ?_
              refine W.widen (k := 8) (n := 11264) (by decide) (by decide) ?_
              exact W.iret (v := nI 0) hx hb hr (fun t9 ht9 hW9 => ⟨⟨nI 0, (τ, f366, fr), rfl, (show ((∃ o2, o ≤ o2 ∧ o2 ≤ o + 1 ∧ zMo f366 n o2) ∧ (∃ g2 L2 d2, d2 ≤ d + 1 ∧ zMq τ f366 fr g2 L2 d2) ∧ f366 30 21 = nI 0 ∧ zGz τ fr τ fr ∧ ∀ a b, ¬ (a = 48 ∨ a = 49 ∨ (50 ≤ a ∧ a ≤ 64) ∨ (200 ≤ a ∧ a < 240) ∨ (a = 30 ∧ (b = 0 ∨ (21 ≤ b ∧ b ≤ 36) ∨ b = 45))) → f366 a b = fi a b) ∧ f366 30 24 = (zFv (zLet (fi 47) L (zS (fi 47) L 0))) ∧ (((∃ p, zLet (fi 47) L (zS (fi 47) L 0) = .error p) ∧ f366 30 0 = nI 1 ∧ f366 30 45 = nI o ∧ τ = τ ∧ fr = fr ∧ f366 30 35 = nI d ∧ f366 30 36 = nI wq ∧ ∀ a b, 200 ≤ a → a < 240 → f366 a b = fi a b) ∨ ((∃ xl lc2 m2 b2, zLet (fi 47) L (zS (fi 47) L 0) = .ok xl ∧ zLm2 cd pN n xl lc2 m2 b2 ∧ (((b2 = 1 ∧ (zDue (fi 44) (nI (zN xl.2.2.2.1))).toInt ≤ xl.2.2.2.2.toInt) ∧ o = 60) ∨ (¬ (b2 = 1 ∧ (zDue (fi 44) (nI (zN xl.2.2.2.1))).toInt ≤ xl.2.2.2.2.toInt) ∧ wq = 20))) ∧ f366 30 0 = nI 2 ∧ f366 30 45 = nI o ∧ τ = τ ∧ fr = fr ∧ f366 30 35 = nI d ∧ f366 30 36 = nI wq ∧ ∀ a b, 200 ≤ a → a < 240 → f366 a b = fi a b) ∨ ((∃ xl lc2 m2 b2, zLet (fi 47) L (zS (fi 47) L 0) = .ok xl ∧ zLm2 cd pN n xl lc2 m2 b2 ∧ b2 = 1 ∧ (zDue (fi 44) (nI (zN xl.2.2.2.1))).toInt ≤ xl.2.2.2.2.toInt) ∧ o < 60 ∧ (nI 0) = nI o ∧ f366 30 0 = nI 0 ∧ f366 30 45 = nI (o + 1) ∧ τ = τ ∧ fr = fr ∧ f366 30 35 = nI d ∧ f366 30 36 = nI wq ∧ ∀ a b, 200 ≤ a → a < 240 → f366 a b = fi a b) ∨ ((∃ xl lc2 m2 b2, zLet (fi 47) L (zS (fi 47) L 0) = .ok xl ∧ zLm2 cd pN n xl lc2 m2 b2 ∧ ¬ (b2 = 1 ∧ (zDue (fi 44) (nI (zN xl.2.2.2.1))).toInt ≤ xl.2.2.2.2.toInt) ∧ ∃ g2 L2, zMq τ f366 fr g2 L2 (d + 1) ∧ (∀ j, j < 8 → ∀ k, k < (if j < 6 then d else 8 * d) → f366 (200 + j + 10 * g2) k = fi (200 + j + 10 * g) k) ∧ f366 30 36 = nI (wq + 1) ∧ f366 (200 + 10 * g2) d = nI 1 ∧ f366 (201 + 10 * g2) d = nI m2 ∧ f366 (202 + 10 * g2) d = nI xl.1 ∧ f366 (203 + 10 * g2) d = nI (zCn (fun j => zPo cd pN n (lc2 j)) xl.1) ∧ f366 (204 + 10 * g2) d = nI (zN xl.2.2.2.1) ∧ f366 (205 + 10 * g2) d = xl.2.2.2.2 ∧ ∀ j, j < xl.1 → f366 (206 + 10 * g2) (8 * d + j) = nI (lc2 j) ∧ f366 (207 + 10 * g2) (8 * d + j) = nI (zMnN xl j)) ∧ ¬ wq = 20 ∧ (nI 0) = -1 - nI (d + 1) ∧ f366 30 0 = nI 0 ∧ f366 30 45 = nI o)) from ⟨⟨⟨o, by omega, by omega, hMo⟩, ⟨g, Ln, d, by omega, hMq⟩, q371, zGz.rf hF, fun a b h => by rw [ef366, zu_n (by omega), ef342, zu_n (by omega), hf307 a b (by omega), ef291, zu_n (by omega), hf120 a b (by omega), ef107, zu_n (by omega), hf21 a b (by omega)]⟩, q374, Or.inr (Or.inl ⟨⟨xl, (zUp (zLcN xl) (zFM (zOk cd pN n (zLcN xl) (zMnN xl) l0 (zN xl.2.2.2.1)) n cd l0).2.1 (zFM (zOk cd pN n (zLcN xl) (zMnN xl) l0 (zN xl.2.2.2.1)) n cd l0).2.2), 1, 1, hle, by unfold zLm2; rw [← hl0e]; exact hme, Or.inr ⟨hnp, by omega⟩⟩, q381, hMo.2.1, ⟨rfl, rfl, q368, q369, fun a b h1 h2 => by rw [ef366, zu_n (by omega), ef342, zu_n (by omega), hf307 a b (by omega), ef291, zu_n (by omega), hf120 a b (by omega), ef107, zu_n (by omega), hf21 a b (by omega)]⟩⟩)⟩), zEnd1 hH ht9 hW9⟩, hS.F ht9⟩) hS.2.2 dX12_letter_157
          · have zc362 := c362
            replace zc362 := zc_nlt (rfl) (rfl) zc362
            have hpd : 1 = 1 ∧ (zDue (fi 44) (nI (zN xl.2.2.2.1))).toInt ≤ xl.2.2.2.2.toInt := ⟨rfl, by omega⟩
            refine lv_iconst (v := nI 1) hx hb dX12_letter_118 (by decide) ?_
            refine lv_goto (tgt := 123) hx hb dX12_letter_119 (by decide) ?_
            refine lv_istore (lv' := [(4, .int (nI 1)), (3, .int (nI (zCn (fun j => zPo cd pN n ((zUp (zLcN xl) (zFM (zOk cd pN n (zLcN xl) (zMnN xl) l0 (zN xl.2.2.2.1)) n cd l0).2.1 (zFM (zOk cd pN n (zLcN xl) (zMnN xl) l0 (zN xl.2.2.2.1)) n cd l0).2.2) j)) l0))), (2, .int (nI 1)), (1, .int (nI 0)), (0, .ref (τ.1 30))]) hx hb dX12_letter_123 hl (by decide) rfl (fun ls hl => ?_)
            refine lv_iload hx hb dX12_letter_125 (lv_at hl 0 rfl) ?_
            refine lv_if_eq (tgt := 142) hx hb dX12_letter_127 (by decide) (fun c382 => absurd c382 (by decide)) (fun c382 => ?_)
            refine lv_aload_n hx hb dX12_letter_130 rfl (lv_at hl 4 rfl) ?_
            refine zGetI (D := D) (ci := 12) (C := RX12) (T := TX12) (N := 71) hx hb hts hiX12 hown hH (zk_30 hF) rfl 45 (by decide) rfl hw20 (fun _ h9 => h9) dX12_letter_131 q343 ?_
            refine lv_bipush (v := nI 60) hx hb dX12_letter_134 (by decide) ?_
            refine lv_icmp_ne (tgt := 158) hx hb dX12_letter_136 (by decide) (fun c383 => ?_) (fun c383 => ?_)
            · have zc383 := c383
              replace zc383 := zc_neq (nI_toInt (by omega)) (nI_toInt (by omega)) zc383
              refine lv_iload hx hb dX12_letter_158 (lv_at hl 0 rfl) ?_
              refine lv_if_eq (tgt := 186) hx hb dX12_letter_160 (by decide) (fun c384 => absurd c384 (by decide)) (fun c384 => ?_)
              refine lv_aload_n hx hb dX12_letter_163 rfl (lv_at hl 4 rfl) ?_
              refine lv_dup hx hb dX12_letter_164 rfl ?_
              refine zGetI (D := D) (ci := 12) (C := RX12) (T := TX12) (N := 71) hx hb hts hiX12 hown hH (zk_30 hF) rfl 34 (by decide) rfl hw21 (fun _ h9 => h9) dX12_letter_165 rfl ?_
              refine lv_iload_n hx hb dX12_letter_168 rfl (lv_at hl 2 rfl) ?_
              refine lv_if_eq (tgt := 176) hx hb dX12_letter_169 (by decide) (fun c385 => absurd c385 (by decide)) (fun c385 => ?_)
              refine lv_iconst (v := nI 1) hx hb dX12_letter_172 (by decide) ?_
              refine lv_goto (tgt := 177) hx hb dX12_letter_173 (by decide) ?_
              refine lv_iadd hx hb dX12_letter_177 ?_
              refine lv_topi (fun v386 ev386 => ?_)
              refine zPutI (D := D) (ci := 12) (ty := .int) (C := RX12) (T := TX12) (N := 71) hx hb hts hiX12 tyX12 tyX12_ok nmX12 hown hH hS (zk_30 hF) rfl 34 (by decide) rfl hw21 (fun _ h9 => h9) rfl (by decide +kernel) rfl rfl dX12_letter_178 (fun H locs hH hS => ?_)
              obtain ⟨f387, ef387⟩ : ∃ f9 : zFi, f9 = zu f342 30 34 v386 := ⟨_, rfl⟩
              rw [← ef387] at hH
              have q388 : f387 30 45 = nI o := by rw [ef387, zu_n (fun h9 => absurd h9.2 (by decide))]; exact q343
              have q389 : f387 30 35 = nI d := by rw [ef387, zu_n (fun h9 => absurd h9.2 (by decide))]; exact q344
              have q390 : f387 30 36 = nI wq := by rw [ef387, zu_n (fun h9 => absurd h9.2 (by decide))]; exact q345
              have q391 : f387 30 2 = nI n := by rw [ef387, zu_n (fun h9 => absurd h9.2 (by decide))]; exact q346
              have q392 : f387 30 21 = nI 0 := by rw [ef387, zu_n (fun h9 => absurd h9.2 (by decide))]; exact q347
              have q393 : f387 30 22 = nI L := by rw [ef387, zu_n (fun h9 => absurd h9.2 (by decide))]; exact q348
              have q394 : f387 30 0 = nI 0 := by rw [ef387, zu_n (fun h9 => absurd h9.2 (by decide))]; exact q349
              have q395 : f387 30 26 = nI l0 := by rw [ef387, zu_n (fun h9 => absurd h9.2 (by decide))]; exact q350
              have q396 : f387 30 24 = (zFv (zLet (fi 47) L (zS (fi 47) L 0))) := by rw [ef387, zu_n (fun h9 => absurd h9.2 (by decide))]; exact q351
              have q397 : f387 30 29 = nI ((zN xl.2.2.2.1)) := by rw [ef387, zu_n (fun h9 => absurd h9.2 (by decide))]; exact q352
              have q398 : f387 30 30 = xl.2.2.2.2 := by rw [ef387, zu_n (fun h9 => absurd h9.2 (by decide))]; exact q353
              have q399 : f387 30 31 = nI 1 := by rw [ef387, zu_n (fun h9 => absurd h9.2 (by decide))]; exact hm31
              have q400 : f387 30 32 = nI ((zFM (zOk cd pN n (zLcN xl) (zMnN xl) l0 (zN xl.2.2.2.1)) n cd l0).2.1) := by rw [ef387, zu_n (fun h9 => absurd h9.2 (by decide))]; exact q355
              have q401 : f387 30 33 = nI ((zFM (zOk cd pN n (zLcN xl) (zMnN xl) l0 (zN xl.2.2.2.1)) n cd l0).2.2) := by rw [ef387, zu_n (fun h9 => absurd h9.2 (by decide))]; exact q356
              have q402 : f387 48 ((zFM (zOk cd pN n (zLcN xl) (zMnN xl) l0 (zN xl.2.2.2.1)) n cd l0).2.1) = nI ((zFM (zOk cd pN n (zLcN xl) (zMnN xl) l0 (zN xl.2.2.2.1)) n cd l0).2.2) := by rw [ef387, zu_n (fun h9 => absurd h9.1 (by decide))]; exact q357
              have q403 : f387 30 34 = v386 := by rw [ef387]; exact zu_s
              have hMt := zMt.ci (fi' := f387) hMt (fun i9 k9 h9 => by rw [ef387]; exact zu_n (by omega))
              have hMo := zMo.ci (fi' := f387) hMo (fun i9 k9 h9 => by rw [ef387]; exact zu_n (by omega))
              have hMq := zMq.ci (fi' := f387) hMq (fun i9 k9 h9 => by rw [ef387]; exact zu_n (by omega))
              have hPb := zqPb.cg (fi' := f387) hPb (fun i9 k9 h9 => by rw [ef387]; exact zu_n (by omega))
              have hMl := zMl.ci (fi' := f387) hMl (fun i9 k9 h9 => by rw [ef387]; exact zu_n (by omega))
              have hLy := zqLy.cg (fi' := f387) hLy (fun i9 k9 h9 => by rw [ef387]; exact zu_n (by omega))
              refine lv_aload_n hx hb dX12_letter_181 rfl (lv_at hl 4 rfl) ?_
              refine va_calli (va_runV (As := []) (rest := []) ⟨hx, hb, hml, hown, hts⟩ (m_makeOrder l hl0 D A sad τ f387 fr ol hF n hMt l0 hMl o hMo (by omega)) (cwV 0 hts gX12_letter_X12_makeOrder rfl rfl rfl (by decide +kernel) ⟨Nat.le_of_ble_eq_true rfl, Nat.le_of_ble_eq_true rfl⟩) ⟨zQc_bl, zRecv hH (zk_30 hF) rfl, zQc_at hz hS hA hH⟩ rfl rfl hl.1 rfl (lv_room (Nat.le_of_ble_eq_true rfl)) dX12_letter_182 ⟨Nat.le_of_ble_eq_true rfl, Nat.le_of_ble_eq_true rfl⟩) hS (fun q _ h => h) (fun q h => h) (fun r404 u9 t9 H1 locs ht9 hvm9 hw hB hz1 hk1 hS => ?_)
              have hH := zMv ht9 hvm9 hB
              clear hB
              generalize u9 = f405 at hw hH
              generalize H1 = H at hH hS ⊢
              obtain ⟨rfl, hMo, hf406⟩ := hw
              have q407 : f405 30 35 = nI d := by rw [hf406 30 35 (by omega)]; exact q389
              have q408 : f405 30 36 = nI wq := by rw [hf406 30 36 (by omega)]; exact q390
              have q409 : f405 30 2 = nI n := by rw [hf406 30 2 (by omega)]; exact q391
              have q410 : f405 30 21 = nI 0 := by rw [hf406 30 21 (by omega)]; exact q392
              have q411 : f405 30 22 = nI L := by rw [hf406 30 22 (by omega)]; exact q393
              have q412 : f405 30 0 = nI 0 := by rw [hf406 30 0 (by omega)]; exact q394
              have q413 : f405 30 26 = nI l0 := by rw [hf406 30 26 (by omega)]; exact q395
              have q414 : f405 30 24 = (zFv (zLet (fi 47) L (zS (fi 47) L 0))) := by rw [hf406 30 24 (by omega)]; exact q396
              have q415 : f405 30 29 = nI ((zN xl.2.2.2.1)) := by rw [hf406 30 29 (by omega)]; exact q397
              have q416 : f405 30 30 = xl.2.2.2.2 := by rw [hf406 30 30 (by omega)]; exact q398
              have q417 : f405 30 31 = nI 1 := by rw [hf406 30 31 (by omega)]; exact q399
              have q418 : f405 30 32 = nI ((zFM (zOk cd pN n (zLcN xl) (zMnN xl) l0 (zN xl.2.2.2.1)) n cd l0).2.1) := by rw [hf406 30 32 (by omega)]; exact q400
              have q419 : f405 30 33 = nI ((zFM (zOk cd pN n (zLcN xl) (zMnN xl) l0 (zN xl.2.2.2.1)) n cd l0).2.2) := by rw [hf406 30 33 (by omega)]; exact q401
              have q420 : f405 48 ((zFM (zOk cd pN n (zLcN xl) (zMnN xl) l0 (zN xl.2.2.2.1)) n cd l0).2.1) = nI ((zFM (zOk cd pN n (zLcN xl) (zMnN xl) l0 (zN xl.2.2.2.1)) n cd l0).2.2) := by rw [hf406 48 ((zFM (zOk cd pN n (zLcN xl) (zMnN xl) l0 (zN xl.2.2.2.1)) n cd l0).2.1) (by omega)]; exact q402
              have q421 : f405 30 34 = v386 := by rw [hf406 30 34 (by omega)]; exact q403
              have hMt := zMt.ci (fi' := f405) hMt (fun i9 k9 h9 => hf406 i9 k9 (by omega))
              have hMq := zMq.ci (fi' := f405) hMq (fun i9 k9 h9 => hf406 i9 k9 (by omega))
              have hPb := zqPb.cg (fi' := f405) hPb (fun i9 k9 h9 => hf406 i9 k9 (by omega))
              have hMl := zMl.ci (fi' := f405) hMl (fun i9 k9 h9 => hf406 i9 k9 (by omega))
              have hLy := zqLy.cg (fi' := f405) hLy (fun i9 k9 h9 => hf406 i9 k9 (by omega))
              refine W.widen (k := 8) (n := 11264) (by decide) (by decide) ?_
              exact W.iret (v := nI o) hx hb hr (fun t9 ht9 hW9 => ⟨⟨nI o, (τ, f405, fr), rfl, (show ((∃ o2, o ≤ o2 ∧ o2 ≤ o + 1 ∧ zMo f405 n o2) ∧ (∃ g2 L2 d2, d2 ≤ d + 1 ∧ zMq τ f405 fr g2 L2 d2) ∧ f405 30 21 = nI 0 ∧ zGz τ fr τ fr ∧ ∀ a b, ¬ (a = 48 ∨ a = 49 ∨ (50 ≤ a ∧ a ≤ 64) ∨ (200 ≤ a ∧ a < 240) ∨ (a = 30 ∧ (b = 0 ∨ (21 ≤ b ∧ b ≤ 36) ∨ b = 45))) → f405 a b = fi a b) ∧ f405 30 24 = (zFv (zLet (fi 47) L (zS (fi 47) L 0))) ∧ (((∃ p, zLet (fi 47) L (zS (fi 47) L 0) = .error p) ∧ f405 30 0 = nI 1 ∧ f405 30 45 = nI o ∧ τ = τ ∧ fr = fr ∧ f405 30 35 = nI d ∧ f405 30 36 = nI wq ∧ ∀ a b, 200 ≤ a → a < 240 → f405 a b = fi a b) ∨ ((∃ xl lc2 m2 b2, zLet (fi 47) L (zS (fi 47) L 0) = .ok xl ∧ zLm2 cd pN n xl lc2 m2 b2 ∧ (((b2 = 1 ∧ (zDue (fi 44) (nI (zN xl.2.2.2.1))).toInt ≤ xl.2.2.2.2.toInt) ∧ o = 60) ∨ (¬ (b2 = 1 ∧ (zDue (fi 44) (nI (zN xl.2.2.2.1))).toInt ≤ xl.2.2.2.2.toInt) ∧ wq = 20))) ∧ f405 30 0 = nI 2 ∧ f405 30 45 = nI o ∧ τ = τ ∧ fr = fr ∧ f405 30 35 = nI d ∧ f405 30 36 = nI wq ∧ ∀ a b, 200 ≤ a → a < 240 → f405 a b = fi a b) ∨ ((∃ xl lc2 m2 b2, zLet (fi 47) L (zS (fi 47) L 0) = .ok xl ∧ zLm2 cd pN n xl lc2 m2 b2 ∧ b2 = 1 ∧ (zDue (fi 44) (nI (zN xl.2.2.2.1))).toInt ≤ xl.2.2.2.2.toInt) ∧ o < 60 ∧ (nI o) = nI o ∧ f405 30 0 = nI 0 ∧ f405 30 45 = nI (o + 1) ∧ τ = τ ∧ fr = fr ∧ f405 30 35 = nI d ∧ f405 30 36 = nI wq ∧ ∀ a b, 200 ≤ a → a < 240 → f405 a b = fi a b) ∨ ((∃ xl lc2 m2 b2, zLet (fi 47) L (zS (fi 47) L 0) = .ok xl ∧ zLm2 cd pN n xl lc2 m2 b2 ∧ ¬ (b2 = 1 ∧ (zDue (fi 44) (nI (zN xl.2.2.2.1))).toInt ≤ xl.2.2.2.2.toInt) ∧ ∃ g2 L2, zMq τ f405 fr g2 L2 (d + 1) ∧ (∀ j, j < 8 → ∀ k, k < (if j < 6 then d else 8 * d) → f405 (200 + j + 10 * g2) k = fi (200 + j + 10 * g) k) ∧ f405 30 36 = nI (wq + 1) ∧ f405 (200 + 10 * g2) d = nI 1 ∧ f405 (201 + 10 * g2) d = nI m2 ∧ f405 (202 + 10 * g2) d = nI xl.1 ∧ f405 (203 + 10 * g2) d = nI (zCn (fun j => zPo cd pN n (lc2 j)) xl.1) ∧ f405 (204 + 10 * g2) d = nI (zN xl.2.2.2.1) ∧ f405 (205 + 10 * g2) d = xl.2.2.2.2 ∧ ∀ j, j < xl.1 → f405 (206 + 10 * g2) (8 * d + j) = nI (lc2 j) ∧ f405 (207 + 10 * g2) (8 * d + j) = nI (zMnN xl j)) ∧ ¬ wq = 20 ∧ (nI o) = -1 - nI (d + 1) ∧ f405 30 0 = nI 0 ∧ f405 30 45 = nI o)) from ⟨⟨⟨o + 1, by omega, by omega, hMo⟩, ⟨g, Ln, d, by omega, hMq⟩, q410, zGz.rf hF, fun a b h => by rw [hf406 a b (by omega), ef387, zu_n (by omega), ef342, zu_n (by omega), hf307 a b (by omega), ef291, zu_n (by omega), hf120 a b (by omega), ef107, zu_n (by omega), hf21 a b (by omega)]⟩, q414, Or.inr (Or.inr (Or.inl ⟨⟨xl, (zUp (zLcN xl) (zFM (zOk cd pN n (zLcN xl) (zMnN xl) l0 (zN xl.2.2.2.1)) n cd l0).2.1 (zFM (zOk cd pN n (zLcN xl) (zMnN xl) l0 (zN xl.2.2.2.1)) n cd l0).2.2), 1, 1, hle, by unfold zLm2; rw [← hl0e]; exact hme, hpd⟩, by omega, rfl, q412, hMo.2.1, ⟨rfl, rfl, q407, q408, fun a b h1 h2 => by rw [hf406 a b (by omega), ef387, zu_n (by omega), ef342, zu_n (by omega), hf307 a b (by omega), ef291, zu_n (by omega), hf120 a b (by omega), ef107, zu_n (by omega), hf21 a b (by omega)]⟩⟩))⟩), zEnd1 hH ht9 hW9⟩, hS.F ht9⟩) hS.2.2 dX12_letter_185
            · have zc383 := c383
              replace zc383 := zc_eq (nI_toInt (by omega)) (nI_toInt (by omega)) zc383
              refine lv_goto (tgt := 151) hx hb dX12_letter_139 (by decide) ?_
              refine lv_aload_n hx hb dX12_letter_151 rfl (lv_at hl 4 rfl) ?_
              refine lv_iconst (v := nI 2) hx hb dX12_letter_152 (by decide) ?_
              refine zPutI (D := D) (ci := 12) (ty := .int) (C := RX12) (T := TX12) (N := 71) hx hb hts hiX12 tyX12 tyX12_ok nmX12 hown hH hS (zk_30 hF) rfl 0 (by decide) rfl hw0 (fun _ h9 => h9) rfl (by decide +kernel) rfl rfl dX12_letter_153 (fun H locs hH hS => ?_)
              obtain ⟨f422, ef422⟩ : ∃ f9 : zFi, f9 = zu f342 30 0 (nI 2) := ⟨_, rfl⟩
              rw [← ef422] at hH
              have q423 : f422 30 45 = nI o := by rw [ef422, zu_n (fun h9 => absurd h9.2 (by decide))]; exact q343
              have q424 : f422 30 35 = nI d := by rw [ef422, zu_n (fun h9 => absurd h9.2 (by decide))]; exact q344
              have q425 : f422 30 36 = nI wq := by rw [ef422, zu_n (fun h9 => absurd h9.2 (by decide))]; exact q345
              have q426 : f422 30 2 = nI n := by rw [ef422, zu_n (fun h9 => absurd h9.2 (by decide))]; exact q346
              have q427 : f422 30 21 = nI 0 := by rw [ef422, zu_n (fun h9 => absurd h9.2 (by decide))]; exact q347
              have q428 : f422 30 22 = nI L := by rw [ef422, zu_n (fun h9 => absurd h9.2 (by decide))]; exact q348
              have q429 : f422 30 26 = nI l0 := by rw [ef422, zu_n (fun h9 => absurd h9.2 (by decide))]; exact q350
              have q430 : f422 30 24 = (zFv (zLet (fi 47) L (zS (fi 47) L 0))) := by rw [ef422, zu_n (fun h9 => absurd h9.2 (by decide))]; exact q351
              have q431 : f422 30 29 = nI ((zN xl.2.2.2.1)) := by rw [ef422, zu_n (fun h9 => absurd h9.2 (by decide))]; exact q352
              have q432 : f422 30 30 = xl.2.2.2.2 := by rw [ef422, zu_n (fun h9 => absurd h9.2 (by decide))]; exact q353
              have q433 : f422 30 31 = nI 1 := by rw [ef422, zu_n (fun h9 => absurd h9.2 (by decide))]; exact hm31
              have q434 : f422 30 32 = nI ((zFM (zOk cd pN n (zLcN xl) (zMnN xl) l0 (zN xl.2.2.2.1)) n cd l0).2.1) := by rw [ef422, zu_n (fun h9 => absurd h9.2 (by decide))]; exact q355
              have q435 : f422 30 33 = nI ((zFM (zOk cd pN n (zLcN xl) (zMnN xl) l0 (zN xl.2.2.2.1)) n cd l0).2.2) := by rw [ef422, zu_n (fun h9 => absurd h9.2 (by decide))]; exact q356
              have q436 : f422 48 ((zFM (zOk cd pN n (zLcN xl) (zMnN xl) l0 (zN xl.2.2.2.1)) n cd l0).2.1) = nI ((zFM (zOk cd pN n (zLcN xl) (zMnN xl) l0 (zN xl.2.2.2.1)) n cd l0).2.2) := by rw [ef422, zu_n (fun h9 => absurd h9.1 (by decide))]; exact q357
              have q437 : f422 30 0 = nI 2 := by rw [ef422]; exact zu_s
              have hMt := zMt.ci (fi' := f422) hMt (fun i9 k9 h9 => by rw [ef422]; exact zu_n (by omega))
              have hMo := zMo.ci (fi' := f422) hMo (fun i9 k9 h9 => by rw [ef422]; exact zu_n (by omega))
              have hMq := zMq.ci (fi' := f422) hMq (fun i9 k9 h9 => by rw [ef422]; exact zu_n (by omega))
              have hPb := zqPb.cg (fi' := f422) hPb (fun i9 k9 h9 => by rw [ef422]; exact zu_n (by omega))
              have hMl := zMl.ci (fi' := f422) hMl (fun i9 k9 h9 => by rw [ef422]; exact zu_n (by omega))
              have hLy := zqLy.cg (fi' := f422) hLy (fun i9 k9 h9 => by rw [ef422]; exact zu_n (by omega))
              refine lv_iconst (v := nI 0) hx hb dX12_letter_156 (by decide) ?_
              refine W.widen (k := 8) (n := 11264) (by decide) (by decide) ?_
              exact W.iret (v := nI 0) hx hb hr (fun t9 ht9 hW9 => ⟨⟨nI 0, (τ, f422, fr), rfl, (show ((∃ o2, o ≤ o2 ∧ o2 ≤ o + 1 ∧ zMo f422 n o2) ∧ (∃ g2 L2 d2, d2 ≤ d + 1 ∧ zMq τ f422 fr g2 L2 d2) ∧ f422 30 21 = nI 0 ∧ zGz τ fr τ fr ∧ ∀ a b, ¬ (a = 48 ∨ a = 49 ∨ (50 ≤ a ∧ a ≤ 64) ∨ (200 ≤ a ∧ a < 240) ∨ (a = 30 ∧ (b = 0 ∨ (21 ≤ b ∧ b ≤ 36) ∨ b = 45))) → f422 a b = fi a b) ∧ f422 30 24 = (zFv (zLet (fi 47) L (zS (fi 47) L 0))) ∧ (((∃ p, zLet (fi 47) L (zS (fi 47) L 0) = .error p) ∧ f422 30 0 = nI 1 ∧ f422 30 45 = nI o ∧ τ = τ ∧ fr = fr ∧ f422 30 35 = nI d ∧ f422 30 36 = nI wq ∧ ∀ a b, 200 ≤ a → a < 240 → f422 a b = fi a b) ∨ ((∃ xl lc2 m2 b2, zLet (fi 47) L (zS (fi 47) L 0) = .ok xl ∧ zLm2 cd pN n xl lc2 m2 b2 ∧ (((b2 = 1 ∧ (zDue (fi 44) (nI (zN xl.2.2.2.1))).toInt ≤ xl.2.2.2.2.toInt) ∧ o = 60) ∨ (¬ (b2 = 1 ∧ (zDue (fi 44) (nI (zN xl.2.2.2.1))).toInt ≤ xl.2.2.2.2.toInt) ∧ wq = 20))) ∧ f422 30 0 = nI 2 ∧ f422 30 45 = nI o ∧ τ = τ ∧ fr = fr ∧ f422 30 35 = nI d ∧ f422 30 36 = nI wq ∧ ∀ a b, 200 ≤ a → a < 240 → f422 a b = fi a b) ∨ ((∃ xl lc2 m2 b2, zLet (fi 47) L (zS (fi 47) L 0) = .ok xl ∧ zLm2 cd pN n xl lc2 m2 b2 ∧ b2 = 1 ∧ (zDue (fi 44) (nI (zN xl.2.2.2.1))).toInt ≤ xl.2.2.2.2.toInt) ∧ o < 60 ∧ (nI 0) = nI o ∧ f422 30 0 = nI 0 ∧ f422 30 45 = nI (o + 1) ∧ τ = τ ∧ fr = fr ∧ f422 30 35 = nI d ∧ f422 30 36 = nI wq ∧ ∀ a b, 200 ≤ a → a < 240 → f422 a b = fi a b) ∨ ((∃ xl lc2 m2 b2, zLet (fi 47) L (zS (fi 47) L 0) = .ok xl ∧ zLm2 cd pN n xl lc2 m2 b2 ∧ ¬ (b2 = 1 ∧ (zDue (fi 44) (nI (zN xl.2.2.2.1))).toInt ≤ xl.2.2.2.2.toInt) ∧ ∃ g2 L2, zMq τ f422 fr g2 L2 (d + 1) ∧ (∀ j, j < 8 → ∀ k, k < (if j < 6 then d else 8 * d) → f422 (200 + j + 10 * g2) k = fi (200 + j + 10 * g) k) ∧ f422 30 36 = nI (wq + 1) ∧ f422 (200 + 10 * g2) d = nI 1 ∧ f422 (201 + 10 * g2) d = nI m2 ∧ f422 (202 + 10 * g2) d = nI xl.1 ∧ f422 (203 + 10 * g2) d = nI (zCn (fun j => zPo cd pN n (lc2 j)) xl.1) ∧ f422 (204 + 10 * g2) d = nI (zN xl.2.2.2.1) ∧ f422 (205 + 10 * g2) d = xl.2.2.2.2 ∧ ∀ j, j < xl.1 → f422 (206 + 10 * g2) (8 * d + j) = nI (lc2 j) ∧ f422 (207 + 10 * g2) (8 * d + j) = nI (zMnN xl j)) ∧ ¬ wq = 20 ∧ (nI 0) = -1 - nI (d + 1) ∧ f422 30 0 = nI 0 ∧ f422 30 45 = nI o)) from ⟨⟨⟨o, by omega, by omega, hMo⟩, ⟨g, Ln, d, by omega, hMq⟩, q427, zGz.rf hF, fun a b h => by rw [ef422, zu_n (by omega), ef342, zu_n (by omega), hf307 a b (by omega), ef291, zu_n (by omega), hf120 a b (by omega), ef107, zu_n (by omega), hf21 a b (by omega)]⟩, q430, Or.inr (Or.inl ⟨⟨xl, (zUp (zLcN xl) (zFM (zOk cd pN n (zLcN xl) (zMnN xl) l0 (zN xl.2.2.2.1)) n cd l0).2.1 (zFM (zOk cd pN n (zLcN xl) (zMnN xl) l0 (zN xl.2.2.2.1)) n cd l0).2.2), 1, 1, hle, by unfold zLm2; rw [← hl0e]; exact hme, Or.inl ⟨hpd, by omega⟩⟩, q437, hMo.2.1, ⟨rfl, rfl, q424, q425, fun a b h1 h2 => by rw [ef422, zu_n (by omega), ef342, zu_n (by omega), hf307 a b (by omega), ef291, zu_n (by omega), hf120 a b (by omega), ef107, zu_n (by omega), hf21 a b (by omega)]⟩⟩)⟩), zEnd1 hH ht9 hW9⟩, hS.F ht9⟩) hS.2.2 dX12_letter_157
      · skip
        refine lv_aload_n hx hb dX12_letter_29 rfl (lv_at hl 0 rfl) ?_
        refine zGetI (D := D) (ci := 12) (C := RX12) (T := TX12) (N := 71) hx hb hts hiX12 hown hH (zk_30 hF) rfl 29 (by decide) rfl hw10 (fun _ h9 => h9) dX12_letter_30 k29 ?_
        refine lv_icmp_ne (tgt := 40) hx hb dX12_letter_33 (by decide) (fun c438 => ?_) (fun c438 => ?_)
        · have zc438 := c438
          replace zc438 := zc_neq (nI_toInt (by omega)) (nI_toInt (by omega)) zc438
          have hpl : ¬ zPl cd pN n (zLcN xl) (zMnN xl) l0 (zN xl.2.2.2.1) := fun h9 => by have h8 := h9.2; omega
          refine lv_iconst (v := nI 0) hx hb dX12_letter_40 (by decide) ?_
          refine lv_istore_n (lv' := [(1, .int (nI 0)), (0, .ref (τ.1 30))]) hx hb dX12_letter_41 rfl hl (by decide) rfl (fun ls hl => ?_)
          refine lv_aload_n hx hb dX12_letter_42 rfl (lv_at hl 1 rfl) ?_
          refine lv_iconst (v := nI 0) hx hb dX12_letter_43 (by decide) ?_
          refine zPutI (D := D) (ci := 12) (ty := .int) (C := RX12) (T := TX12) (N := 71) hx hb hts hiX12 tyX12 tyX12_ok nmX12 hown hH hS (zk_30 hF) rfl 31 (by decide) rfl hw5 (fun _ h9 => h9) rfl (by decide +kernel) rfl rfl dX12_letter_44 (fun H locs hH hS => ?_)
          obtain ⟨f439, ef439⟩ : ∃ f9 : zFi, f9 = zu f118 30 31 (nI 0) := ⟨_, rfl⟩
          rw [← ef439] at hH
          have q440 : f439 30 45 = nI o := by rw [ef439, zu_n (fun h9 => absurd h9.2 (by decide))]; exact q121
          have q441 : f439 30 35 = nI d := by rw [ef439, zu_n (fun h9 => absurd h9.2 (by decide))]; exact q122
          have q442 : f439 30 36 = nI wq := by rw [ef439, zu_n (fun h9 => absurd h9.2 (by decide))]; exact q123
          have q443 : f439 30 2 = nI n := by rw [ef439, zu_n (fun h9 => absurd h9.2 (by decide))]; exact q124
          have q444 : f439 30 21 = nI 0 := by rw [ef439, zu_n (fun h9 => absurd h9.2 (by decide))]; exact q125
          have q445 : f439 30 22 = nI L := by rw [ef439, zu_n (fun h9 => absurd h9.2 (by decide))]; exact q126
          have q446 : f439 30 0 = nI 0 := by rw [ef439, zu_n (fun h9 => absurd h9.2 (by decide))]; exact q127
          have q447 : f439 30 26 = nI l0 := by rw [ef439, zu_n (fun h9 => absurd h9.2 (by decide))]; exact hMl.2.1
          have q448 : f439 30 24 = (zFv (zLet (fi 47) L (zS (fi 47) L 0))) := by rw [ef439, zu_n (fun h9 => absurd h9.2 (by decide))]; exact k24
          have q449 : f439 30 29 = nI ((zN xl.2.2.2.1)) := by rw [ef439, zu_n (fun h9 => absurd h9.2 (by decide))]; exact k29
          have q450 : f439 30 30 = xl.2.2.2.2 := by rw [ef439, zu_n (fun h9 => absurd h9.2 (by decide))]; exact h30
          have q451 : f439 30 31 = nI 0 := by rw [ef439]; exact zu_s
          have hMt := zMt.ci (fi' := f439) hMt (fun i9 k9 h9 => by rw [ef439]; exact zu_n (by omega))
          have hMo := zMo.ci (fi' := f439) hMo (fun i9 k9 h9 => by rw [ef439]; exact zu_n (by omega))
          have hMq := zMq.ci (fi' := f439) hMq (fun i9 k9 h9 => by rw [ef439]; exact zu_n (by omega))
          have hPb := zqPb.cg (fi' := f439) hPb (fun i9 k9 h9 => by rw [ef439]; exact zu_n (by omega))
          have hMl := zMl.ci (fi' := f439) hMl (fun i9 k9 h9 => by rw [ef439]; exact zu_n (by omega))
          have hLy := zqLy.cg (fi' := f439) hLy (fun i9 k9 h9 => by rw [ef439]; exact zu_n (by omega))
          refine lv_iload_n hx hb dX12_letter_47 rfl (lv_at hl 0 rfl) ?_
          refine lv_if_ne (tgt := 55) hx hb dX12_letter_48 (by decide) (fun c452 => absurd (by decide) c452) (fun c452 => ?_)
          refine lv_aload_n hx hb dX12_letter_51 rfl (lv_at hl 1 rfl) ?_
          refine va_callv (va_runV (As := []) (rest := []) ⟨hx, hb, hml, hown, hts⟩ (m_findMN l hl0 D A sad τ f439 fr ol hF n hMt td cd pN hPb l0 ((zLcN xl)) ((zMnN xl)) hLy ((zOk cd pN n (zLcN xl) (zMnN xl) l0 (zN xl.2.2.2.1))) ((zN xl.2.2.2.1)) q449 hs9 ((fun k t hk ht => zOk_m hl8 hk ht (hPb.2.2 t ht).2.2.2.2))) (cwV 0 hts gX12_letter_X12_findMendings rfl rfl rfl (by decide +kernel) ⟨Nat.le_of_ble_eq_true rfl, Nat.le_of_ble_eq_true rfl⟩) ⟨zQc_bl, zRecv hH (zk_30 hF) rfl, zQc_at hz hS hA hH⟩ rfl rfl hl.1 rfl (lv_room (Nat.le_of_ble_eq_true rfl)) dX12_letter_52 ⟨Nat.le_of_ble_eq_true rfl, Nat.le_of_ble_eq_true rfl⟩) hS (fun q _ h => h) (fun q h => h) (fun u9 t9 H1 locs ht9 hvm9 hw hB hz1 hk1 hS => ?_)
          have hH := zMv ht9 hvm9 hB
          clear hB
          generalize u9 = f454 at hw hH
          generalize H1 = H at hH hS ⊢
          obtain ⟨hfi, hf455⟩ := hw
          have hzn : (zFM (zOk cd pN n (zLcN xl) (zMnN xl) l0 (zN xl.2.2.2.1)) n cd l0).1 ≤ 8 * 30 := Nat.le_trans zFM_le (Nat.mul_le_mul hl8 hm30)
          have hz5 := hfi.1
          have q456 : f454 30 45 = nI o := by rw [hf455 30 45 (by omega)]; exact q440
          have q457 : f454 30 35 = nI d := by rw [hf455 30 35 (by omega)]; exact q441
          have q458 : f454 30 36 = nI wq := by rw [hf455 30 36 (by omega)]; exact q442
          have q459 : f454 30 2 = nI n := by rw [hf455 30 2 (by omega)]; exact q443
          have q460 : f454 30 21 = nI 0 := by rw [hf455 30 21 (by omega)]; exact q444
          have q461 : f454 30 22 = nI L := by rw [hf455 30 22 (by omega)]; exact q445
          have q462 : f454 30 0 = nI 0 := by rw [hf455 30 0 (by omega)]; exact q446
          have q463 : f454 30 26 = nI l0 := by rw [hf455 30 26 (by omega)]; exact q447
          have q464 : f454 30 24 = (zFv (zLet (fi 47) L (zS (fi 47) L 0))) := by rw [hf455 30 24 (by omega)]; exact q448
          have q465 : f454 30 29 = nI ((zN xl.2.2.2.1)) := by rw [hf455 30 29 (by omega)]; exact q449
          have q466 : f454 30 30 = xl.2.2.2.2 := by rw [hf455 30 30 (by omega)]; exact q450
          have hMt := zMt.ci (fi' := f454) hMt (fun i9 k9 h9 => hf455 i9 k9 (by omega))
          have hMo := zMo.ci (fi' := f454) hMo (fun i9 k9 h9 => hf455 i9 k9 (by omega))
          have hMq := zMq.ci (fi' := f454) hMq (fun i9 k9 h9 => hf455 i9 k9 (by omega))
          have hPb := zqPb.cg (fi' := f454) hPb (fun i9 k9 h9 => hf455 i9 k9 (by omega))
          have hMl := zMl.ci (fi' := f454) hMl (fun i9 k9 h9 => hf455 i9 k9 (by omega))
          have hLy := zqLy.cg (fi' := f454) hLy (fun i9 k9 h9 => hf455 i9 k9 (by omega))
          refine lv_iload_n hx hb dX12_letter_55 rfl (lv_at hl 0 rfl) ?_
          refine lv_if_ne (tgt := 71) hx hb dX12_letter_56 (by decide) (fun c467 => absurd (by decide) c467) (fun c467 => ?_)
          refine lv_aload_n hx hb dX12_letter_59 rfl (lv_at hl 1 rfl) ?_
          refine zGetI (D := D) (ci := 12) (C := RX12) (T := TX12) (N := 71) hx hb hts hiX12 hown hH (zk_30 hF) rfl 31 (by decide) rfl hw5 (fun _ h9 => h9) dX12_letter_60 hz5 ?_
          refine lv_iconst (v := nI 1) hx hb dX12_letter_63 (by decide) ?_
          refine lv_icmp_ne (tgt := 71) hx hb dX12_letter_64 (by decide) (fun c468 => ?_) (fun c468 => ?_)
          · have zc468 := c468
            replace zc468 := zc_neq (nI_toInt (by omega)) (nI_toInt (by omega)) zc468
            refine lv_iconst (v := nI 0) hx hb dX12_letter_71 (by decide) ?_
            refine lv_istore_n (lv' := [(2, .int (nI 0)), (1, .int (nI 0)), (0, .ref (τ.1 30))]) hx hb dX12_letter_72 rfl hl (by decide) rfl (fun ls hl => ?_)
            refine lv_iload_n hx hb dX12_letter_73 rfl (lv_at hl 0 rfl) ?_
            refine lv_if_eq (tgt := 90) hx hb dX12_letter_74 (by decide) (fun c469 => ?_) (fun c469 => absurd (by decide) c469)
            have hme : zMe (zPl cd pN n (zLcN xl) (zMnN xl) l0 (zN xl.2.2.2.1)) (zFM (zOk cd pN n (zLcN xl) (zMnN xl) l0 (zN xl.2.2.2.1)) n cd l0) (zLcN xl) (zLcN xl) (zFM (zOk cd pN n (zLcN xl) (zMnN xl) l0 (zN xl.2.2.2.1)) n cd l0).1 0 := Or.inr (Or.inr ⟨hpl, by omega, rfl, rfl, rfl⟩)
            refine lv_aload_n hx hb dX12_letter_90 rfl (lv_at hl 2 rfl) ?_
            refine va_calli (va_runV (As := []) (rest := []) ⟨hx, hb, hml, hown, hts⟩ (m_knownN l hl0 D A sad τ f454 fr ol hF n hMt td cd pN hPb l0 ((zLcN xl)) ((zMnN xl)) hLy) (cwV 0 hts gX12_letter_X12_known rfl rfl rfl (by decide +kernel) ⟨Nat.le_of_ble_eq_true rfl, Nat.le_of_ble_eq_true rfl⟩) ⟨zQc_bl, zRecv hH (zk_30 hF) rfl, zQc_at hz hS hA hH⟩ rfl rfl hl.1 rfl (lv_room (Nat.le_of_ble_eq_true rfl)) dX12_letter_91 ⟨Nat.le_of_ble_eq_true rfl, Nat.le_of_ble_eq_true rfl⟩) hS (fun q _ h => h) (fun q h => h) (fun r470 u9 t9 H1 locs ht9 hvm9 hw hB hz1 hk1 hS => ?_)
            have hH := zMv ht9 hvm9 hB
            generalize H1 = H at hH hS ⊢
            obtain rfl := hw
            refine lv_istore_n (lv' := [(3, .int (nI (zCn (fun j => zPo cd pN n ((zLcN xl) j)) l0))), (2, .int (nI 0)), (1, .int (nI 0)), (0, .ref (τ.1 30))]) hx hb dX12_letter_94 rfl hl (by decide) rfl (fun ls hl => ?_)
            refine lv_iload_n hx hb dX12_letter_95 rfl (lv_at hl 2 rfl) ?_
            refine lv_if_ne (tgt := 103) hx hb dX12_letter_96 (by decide) (fun c471 => absurd (by decide) c471) (fun c471 => ?_)
            refine lv_iload_n hx hb dX12_letter_99 rfl (lv_at hl 1 rfl) ?_
            refine lv_if_eq (tgt := 122) hx hb dX12_letter_100 (by decide) (fun c472 => ?_) (fun c472 => absurd (by decide) c472)
            have hnp : ¬ (0 = 1 ∧ (zDue (fi 44) (nI (zN xl.2.2.2.1))).toInt ≤ xl.2.2.2.2.toInt) := fun h9 => absurd h9.1 (by decide)
            refine lv_iconst (v := nI 0) hx hb dX12_letter_122 (by decide) ?_
            refine lv_istore (lv' := [(4, .int (nI 0)), (3, .int (nI (zCn (fun j => zPo cd pN n ((zLcN xl) j)) l0))), (2, .int (nI 0)), (1, .int (nI 0)), (0, .ref (τ.1 30))]) hx hb dX12_letter_123 hl (by decide) rfl (fun ls hl => ?_)
            refine lv_iload hx hb dX12_letter_125 (lv_at hl 0 rfl) ?_
            refine lv_if_eq (tgt := 142) hx hb dX12_letter_127 (by decide) (fun c473 => ?_) (fun c473 => absurd (by decide) c473)
            refine lv_aload_n hx hb dX12_letter_142 rfl (lv_at hl 4 rfl) ?_
            refine zGetI (D := D) (ci := 12) (C := RX12) (T := TX12) (N := 71) hx hb hts hiX12 hown hH (zk_30 hF) rfl 36 (by decide) rfl hw13 (fun _ h9 => h9) dX12_letter_143 q458 ?_
            refine lv_bipush (v := nI 20) hx hb dX12_letter_146 (by decide) ?_
            refine lv_icmp_ne (tgt := 158) hx hb dX12_letter_148 (by decide) (fun c474 => ?_) (fun c474 => ?_)
            · have zc474 := c474
              replace zc474 := zc_neq (nI_toInt (by omega)) (nI_toInt (by omega)) zc474
              refine lv_iload hx hb dX12_letter_158 (lv_at hl 0 rfl) ?_
              refine lv_if_eq (tgt := 186) hx hb dX12_letter_160 (by decide) (fun c475 => ?_) (fun c475 => absurd (by decide) c475)
              exact hJ129 (f454, (zLcN xl), (zFM (zOk cd pN n (zLcN xl) (zMnN xl) l0 (zN xl.2.2.2.1)) n cd l0).1, 0) _ _ _ (show (zMl f454 l0 ∧ f454 30 21 = nI 0 ∧ f454 30 24 = (zFv (zLet (fi 47) L (zS (fi 47) L 0))) ∧ zMo f454 n o ∧ zMq τ f454 fr g Ln d ∧ (f454 30 0 = nI 0 ∧ f454 30 29 = nI (zN xl.2.2.2.1) ∧ f454 30 30 = xl.2.2.2.2 ∧ f454 30 31 = nI ((zFM (zOk cd pN n (zLcN xl) (zMnN xl) l0 (zN xl.2.2.2.1)) n cd l0).1) ∧ f454 30 36 = nI wq ∧ f454 30 45 = nI o ∧ zqLy f454 l0 ((zLcN xl)) (zMnN xl)) ∧ zMe (zPl cd pN n (zLcN xl) (zMnN xl) l0 (zN xl.2.2.2.1)) (zFM (zOk cd pN n (zLcN xl) (zMnN xl) l0 (zN xl.2.2.2.1)) n cd l0) (zLcN xl) ((zLcN xl)) ((zFM (zOk cd pN n (zLcN xl) (zMnN xl) l0 (zN xl.2.2.2.1)) n cd l0).1) 0 ∧ ¬ (0 = 1 ∧ (zDue (fi 44) (nI (zN xl.2.2.2.1))).toInt ≤ xl.2.2.2.2.toInt) ∧ ¬ wq = 20 ∧ ∀ a b, ¬ (a = 48 ∨ a = 49 ∨ (a = 30 ∧ (b = 0 ∨ (21 ≤ b ∧ b ≤ 34)))) → f454 a b = fi a b) ∧ zH D A τ f454 fr ol s _ ∧ va_S A s.heap _ _ ∧ lv_has _ 6 [(0, .ref (τ.1 30)), (3, .int (nI (zCn (fun j => zPo cd pN n (((zLcN xl)) j)) l0)))] from ⟨⟨hMl, q460, q464, hMo, hMq, ⟨q462, q465, q466, hz5, q458, q456, hLy⟩, hme, hnp, by omega, fun a b h => by rw [hf455 a b (by omega), ef439, zu_n (by omega), hf120 a b (by omega), ef107, zu_n (by omega), hf21 a b (by omega)]⟩, hH, hS, lv_sub hl [4, 1] rfl⟩)
            · have zc474 := c474
              replace zc474 := zc_eq (nI_toInt (by omega)) (nI_toInt (by omega)) zc474
              refine lv_aload_n hx hb dX12_letter_151 rfl (lv_at hl 4 rfl) ?_
              refine lv_iconst (v := nI 2) hx hb dX12_letter_152 (by decide) ?_
              refine zPutI (D := D) (ci := 12) (ty := .int) (C := RX12) (T := TX12) (N := 71) hx hb hts hiX12 tyX12 tyX12_ok nmX12 hown hH hS (zk_30 hF) rfl 0 (by decide) rfl hw0 (fun _ h9 => h9) rfl (by decide +kernel) rfl rfl dX12_letter_153 (fun H locs hH hS => ?_)
              obtain ⟨f476, ef476⟩ : ∃ f9 : zFi, f9 = zu f454 30 0 (nI 2) := ⟨_, rfl⟩
              rw [← ef476] at hH
              have q477 : f476 30 45 = nI o := by rw [ef476, zu_n (fun h9 => absurd h9.2 (by decide))]; exact q456
              have q478 : f476 30 35 = nI d := by rw [ef476, zu_n (fun h9 => absurd h9.2 (by decide))]; exact q457
              have q479 : f476 30 36 = nI wq := by rw [ef476, zu_n (fun h9 => absurd h9.2 (by decide))]; exact q458
              have q480 : f476 30 2 = nI n := by rw [ef476, zu_n (fun h9 => absurd h9.2 (by decide))]; exact q459
              have q481 : f476 30 21 = nI 0 := by rw [ef476, zu_n (fun h9 => absurd h9.2 (by decide))]; exact q460
              have q482 : f476 30 22 = nI L := by rw [ef476, zu_n (fun h9 => absurd h9.2 (by decide))]; exact q461
              have q483 : f476 30 26 = nI l0 := by rw [ef476, zu_n (fun h9 => absurd h9.2 (by decide))]; exact q463
              have q484 : f476 30 24 = (zFv (zLet (fi 47) L (zS (fi 47) L 0))) := by rw [ef476, zu_n (fun h9 => absurd h9.2 (by decide))]; exact q464
              have q485 : f476 30 29 = nI ((zN xl.2.2.2.1)) := by rw [ef476, zu_n (fun h9 => absurd h9.2 (by decide))]; exact q465
              have q486 : f476 30 30 = xl.2.2.2.2 := by rw [ef476, zu_n (fun h9 => absurd h9.2 (by decide))]; exact q466
              have q487 : f476 30 31 = nI ((zFM (zOk cd pN n (zLcN xl) (zMnN xl) l0 (zN xl.2.2.2.1)) n cd l0).1) := by rw [ef476, zu_n (fun h9 => absurd h9.2 (by decide))]; exact hz5
              have q488 : f476 30 0 = nI 2 := by rw [ef476]; exact zu_s
              have hMt := zMt.ci (fi' := f476) hMt (fun i9 k9 h9 => by rw [ef476]; exact zu_n (by omega))
              have hMo := zMo.ci (fi' := f476) hMo (fun i9 k9 h9 => by rw [ef476]; exact zu_n (by omega))
              have hMq := zMq.ci (fi' := f476) hMq (fun i9 k9 h9 => by rw [ef476]; exact zu_n (by omega))
              have hPb := zqPb.cg (fi' := f476) hPb (fun i9 k9 h9 => by rw [ef476]; exact zu_n (by omega))
              have hMl := zMl.ci (fi' := f476) hMl (fun i9 k9 h9 => by rw [ef476]; exact zu_n (by omega))
              have hLy := zqLy.cg (fi' := f476) hLy (fun i9 k9 h9 => by rw [ef476]; exact zu_n (by omega))
              refine lv_iconst (v := nI 0) hx hb dX12_letter_156 (by decide) ?_
              refine W.widen (k := 8) (n := 11264) (by decide) (by decide) ?_
              exact W.iret (v := nI 0) hx hb hr (fun t9 ht9 hW9 => ⟨⟨nI 0, (τ, f476, fr), rfl, (show ((∃ o2, o ≤ o2 ∧ o2 ≤ o + 1 ∧ zMo f476 n o2) ∧ (∃ g2 L2 d2, d2 ≤ d + 1 ∧ zMq τ f476 fr g2 L2 d2) ∧ f476 30 21 = nI 0 ∧ zGz τ fr τ fr ∧ ∀ a b, ¬ (a = 48 ∨ a = 49 ∨ (50 ≤ a ∧ a ≤ 64) ∨ (200 ≤ a ∧ a < 240) ∨ (a = 30 ∧ (b = 0 ∨ (21 ≤ b ∧ b ≤ 36) ∨ b = 45))) → f476 a b = fi a b) ∧ f476 30 24 = (zFv (zLet (fi 47) L (zS (fi 47) L 0))) ∧ (((∃ p, zLet (fi 47) L (zS (fi 47) L 0) = .error p) ∧ f476 30 0 = nI 1 ∧ f476 30 45 = nI o ∧ τ = τ ∧ fr = fr ∧ f476 30 35 = nI d ∧ f476 30 36 = nI wq ∧ ∀ a b, 200 ≤ a → a < 240 → f476 a b = fi a b) ∨ ((∃ xl lc2 m2 b2, zLet (fi 47) L (zS (fi 47) L 0) = .ok xl ∧ zLm2 cd pN n xl lc2 m2 b2 ∧ (((b2 = 1 ∧ (zDue (fi 44) (nI (zN xl.2.2.2.1))).toInt ≤ xl.2.2.2.2.toInt) ∧ o = 60) ∨ (¬ (b2 = 1 ∧ (zDue (fi 44) (nI (zN xl.2.2.2.1))).toInt ≤ xl.2.2.2.2.toInt) ∧ wq = 20))) ∧ f476 30 0 = nI 2 ∧ f476 30 45 = nI o ∧ τ = τ ∧ fr = fr ∧ f476 30 35 = nI d ∧ f476 30 36 = nI wq ∧ ∀ a b, 200 ≤ a → a < 240 → f476 a b = fi a b) ∨ ((∃ xl lc2 m2 b2, zLet (fi 47) L (zS (fi 47) L 0) = .ok xl ∧ zLm2 cd pN n xl lc2 m2 b2 ∧ b2 = 1 ∧ (zDue (fi 44) (nI (zN xl.2.2.2.1))).toInt ≤ xl.2.2.2.2.toInt) ∧ o < 60 ∧ (nI 0) = nI o ∧ f476 30 0 = nI 0 ∧ f476 30 45 = nI (o + 1) ∧ τ = τ ∧ fr = fr ∧ f476 30 35 = nI d ∧ f476 30 36 = nI wq ∧ ∀ a b, 200 ≤ a → a < 240 → f476 a b = fi a b) ∨ ((∃ xl lc2 m2 b2, zLet (fi 47) L (zS (fi 47) L 0) = .ok xl ∧ zLm2 cd pN n xl lc2 m2 b2 ∧ ¬ (b2 = 1 ∧ (zDue (fi 44) (nI (zN xl.2.2.2.1))).toInt ≤ xl.2.2.2.2.toInt) ∧ ∃ g2 L2, zMq τ f476 fr g2 L2 (d + 1) ∧ (∀ j, j < 8 → ∀ k, k < (if j < 6 then d else 8 * d) → f476 (200 + j + 10 * g2) k = fi (200 + j + 10 * g) k) ∧ f476 30 36 = nI (wq + 1) ∧ f476 (200 + 10 * g2) d = nI 1 ∧ f476 (201 + 10 * g2) d = nI m2 ∧ f476 (202 + 10 * g2) d = nI xl.1 ∧ f476 (203 + 10 * g2) d = nI (zCn (fun j => zPo cd pN n (lc2 j)) xl.1) ∧ f476 (204 + 10 * g2) d = nI (zN xl.2.2.2.1) ∧ f476 (205 + 10 * g2) d = xl.2.2.2.2 ∧ ∀ j, j < xl.1 → f476 (206 + 10 * g2) (8 * d + j) = nI (lc2 j) ∧ f476 (207 + 10 * g2) (8 * d + j) = nI (zMnN xl j)) ∧ ¬ wq = 20 ∧ (nI 0) = -1 - nI (d + 1) ∧ f476 30 0 = nI 0 ∧ f476 30 45 = nI o)) from ⟨⟨⟨o, by omega, by omega, hMo⟩, ⟨g, Ln, d, by omega, hMq⟩, q481, zGz.rf hF, fun a b h => by rw [ef476, zu_n (by omega), hf455 a b (by omega), ef439, zu_n (by omega), hf120 a b (by omega), ef107, zu_n (by omega), hf21 a b (by omega)]⟩, q484, Or.inr (Or.inl ⟨⟨xl, (zLcN xl), (zFM (zOk cd pN n (zLcN xl) (zMnN xl) l0 (zN xl.2.2.2.1)) n cd l0).1, 0, hle, by unfold zLm2; rw [← hl0e]; exact hme, Or.inr ⟨hnp, by omega⟩⟩, q488, hMo.2.1, ⟨rfl, rfl, q478, q479, fun a b h1 h2 => by rw [ef476, zu_n (by omega), hf455 a b (by omega), ef439, zu_n (by omega), hf120 a b (by omega), ef107, zu_n (by omega), hf21 a b (by omega)]⟩⟩)⟩), zEnd1 hH ht9 hW9⟩, hS.F ht9⟩) hS.2.2 dX12_letter_157
          · have zc468 := c468
            replace zc468 := zc_eq (nI_toInt (by omega)) (nI_toInt (by omega)) zc468
            obtain ⟨hz6, hz7⟩ := hfi.2 (by omega)
            have hi8 := zFM_in (ok := (zOk cd pN n (zLcN xl) (zMnN xl) l0 (zN xl.2.2.2.1))) (n := n) (cd := cd) 8 hl8 (by omega)
            have hc4 := zFM_cb (ok := (zOk cd pN n (zLcN xl) (zMnN xl) l0 (zN xl.2.2.2.1))) (n := n) (cd := cd) 10000 (fun j q9 => (hPb.2.2 j q9).2.1) (k := l0) (by omega)
            refine lv_iconst (v := nI 1) hx hb dX12_letter_67 (by decide) ?_
            refine lv_goto (tgt := 72) hx hb dX12_letter_68 (by decide) ?_
            refine lv_istore_n (lv' := [(2, .int (nI 1)), (1, .int (nI 0)), (0, .ref (τ.1 30))]) hx hb dX12_letter_72 rfl hl (by decide) rfl (fun ls hl => ?_)
            refine lv_iload_n hx hb dX12_letter_73 rfl (lv_at hl 0 rfl) ?_
            refine lv_if_eq (tgt := 90) hx hb dX12_letter_74 (by decide) (fun c489 => absurd c489 (by decide)) (fun c489 => ?_)
            refine lv_aload_n hx hb dX12_letter_77 rfl (lv_at hl 2 rfl) ?_
            refine zGetR (D := D) (ci := 12) (C := RX12) (T := TX12) (N := 71) hx hb hts hiX12 hown hH (zk_30 hF) rfl 27 (by decide) rfl hw15 (fun _ h9 => h9) dX12_letter_78 (zr_30_27 hF) ?_
            refine lv_aload_n hx hb dX12_letter_81 rfl (lv_at hl 2 rfl) ?_
            refine zGetI (D := D) (ci := 12) (C := RX12) (T := TX12) (N := 71) hx hb hts hiX12 hown hH (zk_30 hF) rfl 32 (by decide) rfl hw18 (fun _ h9 => h9) dX12_letter_82 hz6 ?_
            refine lv_aload_n hx hb dX12_letter_85 rfl (lv_at hl 2 rfl) ?_
            refine zGetI (D := D) (ci := 12) (C := RX12) (T := TX12) (N := 71) hx hb hts hiX12 hown hH (zk_30 hF) rfl 33 (by decide) rfl hw19 (fun _ h9 => h9) dX12_letter_86 hz7 ?_
            refine zIastN (D := D) hx hb hH hS (zk_48 hF) (zn_48 hF) (by omega) (by omega) dX12_letter_89 (fun H locs hH hS => ?_)
            obtain ⟨f490, ef490⟩ : ∃ f9 : zFi, f9 = zu f454 48 ((zFM (zOk cd pN n (zLcN xl) (zMnN xl) l0 (zN xl.2.2.2.1)) n cd l0).2.1) (nI ((zFM (zOk cd pN n (zLcN xl) (zMnN xl) l0 (zN xl.2.2.2.1)) n cd l0).2.2)) := ⟨_, rfl⟩
            rw [← ef490] at hH
            have q491 : f490 30 45 = nI o := by rw [ef490, zu_n (fun h9 => absurd h9.1 (by decide))]; exact q456
            have q492 : f490 30 35 = nI d := by rw [ef490, zu_n (fun h9 => absurd h9.1 (by decide))]; exact q457
            have q493 : f490 30 36 = nI wq := by rw [ef490, zu_n (fun h9 => absurd h9.1 (by decide))]; exact q458
            have q494 : f490 30 2 = nI n := by rw [ef490, zu_n (fun h9 => absurd h9.1 (by decide))]; exact q459
            have q495 : f490 30 21 = nI 0 := by rw [ef490, zu_n (fun h9 => absurd h9.1 (by decide))]; exact q460
            have q496 : f490 30 22 = nI L := by rw [ef490, zu_n (fun h9 => absurd h9.1 (by decide))]; exact q461
            have q497 : f490 30 0 = nI 0 := by rw [ef490, zu_n (fun h9 => absurd h9.1 (by decide))]; exact q462
            have q498 : f490 30 26 = nI l0 := by rw [ef490, zu_n (fun h9 => absurd h9.1 (by decide))]; exact q463
            have q499 : f490 30 24 = (zFv (zLet (fi 47) L (zS (fi 47) L 0))) := by rw [ef490, zu_n (fun h9 => absurd h9.1 (by decide))]; exact q464
            have q500 : f490 30 29 = nI ((zN xl.2.2.2.1)) := by rw [ef490, zu_n (fun h9 => absurd h9.1 (by decide))]; exact q465
            have q501 : f490 30 30 = xl.2.2.2.2 := by rw [ef490, zu_n (fun h9 => absurd h9.1 (by decide))]; exact q466
            have q502 : f490 30 31 = nI ((zFM (zOk cd pN n (zLcN xl) (zMnN xl) l0 (zN xl.2.2.2.1)) n cd l0).1) := by rw [ef490, zu_n (fun h9 => absurd h9.1 (by decide))]; exact hz5
            have q503 : f490 30 32 = nI ((zFM (zOk cd pN n (zLcN xl) (zMnN xl) l0 (zN xl.2.2.2.1)) n cd l0).2.1) := by rw [ef490, zu_n (fun h9 => absurd h9.1 (by decide))]; exact hz6
            have q504 : f490 30 33 = nI ((zFM (zOk cd pN n (zLcN xl) (zMnN xl) l0 (zN xl.2.2.2.1)) n cd l0).2.2) := by rw [ef490, zu_n (fun h9 => absurd h9.1 (by decide))]; exact hz7
            have q505 : f490 48 ((zFM (zOk cd pN n (zLcN xl) (zMnN xl) l0 (zN xl.2.2.2.1)) n cd l0).2.1) = nI ((zFM (zOk cd pN n (zLcN xl) (zMnN xl) l0 (zN xl.2.2.2.1)) n cd l0).2.2) := by rw [ef490]; exact zu_s
            have hMt := zMt.ci (fi' := f490) hMt (fun i9 k9 h9 => by rw [ef490]; exact zu_n (by omega))
            have hMo := zMo.ci (fi' := f490) hMo (fun i9 k9 h9 => by rw [ef490]; exact zu_n (by omega))
            have hMq := zMq.ci (fi' := f490) hMq (fun i9 k9 h9 => by rw [ef490]; exact zu_n (by omega))
            have hPb := zqPb.cg (fi' := f490) hPb (fun i9 k9 h9 => by rw [ef490]; exact zu_n (by omega))
            have hMl := zMl.ci (fi' := f490) hMl (fun i9 k9 h9 => by rw [ef490]; exact zu_n (by omega))
            have hLy := hLy.up hc4 ef490
            have hme : zMe (zPl cd pN n (zLcN xl) (zMnN xl) l0 (zN xl.2.2.2.1)) (zFM (zOk cd pN n (zLcN xl) (zMnN xl) l0 (zN xl.2.2.2.1)) n cd l0) (zLcN xl) (zUp (zLcN xl) (zFM (zOk cd pN n (zLcN xl) (zMnN xl) l0 (zN xl.2.2.2.1)) n cd l0).2.1 (zFM (zOk cd pN n (zLcN xl) (zMnN xl) l0 (zN xl.2.2.2.1)) n cd l0).2.2) 1 1 := Or.inr (Or.inl ⟨hpl, by omega, rfl, rfl, rfl⟩)
            have hm31 : f490 30 31 = nI 1 := by rw [q502, show (zFM (zOk cd pN n (zLcN xl) (zMnN xl) l0 (zN xl.2.2.2.1)) n cd l0).1 = 1 by omega]
            refine lv_aload_n hx hb dX12_letter_90 rfl (lv_at hl 2 rfl) ?_
            refine va_calli (va_runV (As := []) (rest := []) ⟨hx, hb, hml, hown, hts⟩ (m_knownN l hl0 D A sad τ f490 fr ol hF n hMt td cd pN hPb l0 ((zUp (zLcN xl) (zFM (zOk cd pN n (zLcN xl) (zMnN xl) l0 (zN xl.2.2.2.1)) n cd l0).2.1 (zFM (zOk cd pN n (zLcN xl) (zMnN xl) l0 (zN xl.2.2.2.1)) n cd l0).2.2)) ((zMnN xl)) hLy) (cwV 0 hts gX12_letter_X12_known rfl rfl rfl (by decide +kernel) ⟨Nat.le_of_ble_eq_true rfl, Nat.le_of_ble_eq_true rfl⟩) ⟨zQc_bl, zRecv hH (zk_30 hF) rfl, zQc_at hz hS hA hH⟩ rfl rfl hl.1 rfl (lv_room (Nat.le_of_ble_eq_true rfl)) dX12_letter_91 ⟨Nat.le_of_ble_eq_true rfl, Nat.le_of_ble_eq_true rfl⟩) hS (fun q _ h => h) (fun q h => h) (fun r506 u9 t9 H1 locs ht9 hvm9 hw hB hz1 hk1 hS => ?_)
            have hH := zMv ht9 hvm9 hB
            generalize H1 = H at hH hS ⊢
            obtain rfl := hw
            refine lv_istore_n (lv' := [(3, .int (nI (zCn (fun j => zPo cd pN n ((zUp (zLcN xl) (zFM (zOk cd pN n (zLcN xl) (zMnN xl) l0 (zN xl.2.2.2.1)) n cd l0).2.1 (zFM (zOk cd pN n (zLcN xl) (zMnN xl) l0 (zN xl.2.2.2.1)) n cd l0).2.2) j)) l0))), (2, .int (nI 1)), (1, .int (nI 0)), (0, .ref (τ.1 30))]) hx hb dX12_letter_94 rfl hl (by decide) rfl (fun ls hl => ?_)
            refine lv_iload_n hx hb dX12_letter_95 rfl (lv_at hl 2 rfl) ?_
            refine lv_if_ne (tgt := 103) hx hb dX12_letter_96 (by decide) (fun c507 => absurd (by decide) c507) (fun c507 => ?_)
            refine lv_iload_n hx hb dX12_letter_99 rfl (lv_at hl 1 rfl) ?_
            refine lv_if_eq (tgt := 122) hx hb dX12_letter_100 (by decide) (fun c508 => absurd c508 (by decide)) (fun c508 => ?_)
            refine lv_aload_n hx hb dX12_letter_103 rfl (lv_at hl 3 rfl) ?_
            refine zGetI (D := D) (ci := 12) (C := RX12) (T := TX12) (N := 71) hx hb hts hiX12 hown hH (zk_30 hF) rfl 30 (by decide) rfl hw12 (fun _ h9 => h9) dX12_letter_104 q501 ?_
            refine lv_aload_n hx hb dX12_letter_107 rfl (lv_at hl 3 rfl) ?_
            refine lv_aload_n hx hb dX12_letter_108 rfl (lv_at hl 3 rfl) ?_
            refine zGetI (D := D) (ci := 12) (C := RX12) (T := TX12) (N := 71) hx hb hts hiX12 hown hH (zk_30 hF) rfl 29 (by decide) rfl hw10 (fun _ h9 => h9) dX12_letter_109 q500 ?_
            refine va_calli (va_runV (As := [.int (nI ((zN xl.2.2.2.1)))]) (rest := [.int xl.2.2.2.2]) ⟨hx, hb, hml, hown, hts⟩ (m_dueN l hl0 D A sad τ f490 fr ol (nI ((zN xl.2.2.2.1))) hF) (cwV 1 hts gX12_letter_X12_due rfl rfl rfl (by decide +kernel) ⟨Nat.le_of_ble_eq_true rfl, Nat.le_of_ble_eq_true rfl⟩) ⟨zQc_bl, zRecv hH (zk_30 hF) rfl, zQc_at hz hS hA hH⟩ rfl rfl hl.1 rfl (lv_room (Nat.le_of_ble_eq_true rfl)) dX12_letter_112 ⟨Nat.le_of_ble_eq_true rfl, Nat.le_of_ble_eq_true rfl⟩) hS (fun q _ h => h) (fun q h => h) (fun r509 u9 t9 H1 locs ht9 hvm9 hw hB hz1 hk1 hS => ?_)
            have hH := zMv ht9 hvm9 hB
            generalize H1 = H at hH hS ⊢
            rw [show f490 44 = fi 44 from funext (fun k9 => by rw [ef490, zu_n (by omega), hf455 44 k9 (by omega), ef439, zu_n (by omega), hf120 44 k9 (by omega), ef107, zu_n (by omega), hf21 44 k9 (by omega)])] at hw
            obtain rfl := hw
            refine lv_icmp_lt (tgt := 122) hx hb dX12_letter_115 (by decide) (fun c510 => ?_) (fun c510 => ?_)
            · have zc510 := c510
              replace zc510 := zc_lt (rfl) (rfl) zc510
              have hnp : ¬ (1 = 1 ∧ (zDue (fi 44) (nI (zN xl.2.2.2.1))).toInt ≤ xl.2.2.2.2.toInt) := fun h9 => by have h8 := h9.2; omega
              refine lv_iconst (v := nI 0) hx hb dX12_letter_122 (by decide) ?_
              refine lv_istore (lv' := [(4, .int (nI 0)), (3, .int (nI (zCn (fun j => zPo cd pN n ((zUp (zLcN xl) (zFM (zOk cd pN n (zLcN xl) (zMnN xl) l0 (zN xl.2.2.2.1)) n cd l0).2.1 (zFM (zOk cd pN n (zLcN xl) (zMnN xl) l0 (zN xl.2.2.2.1)) n cd l0).2.2) j)) l0))), (2, .int (nI 1)), (1, .int (nI 0)), (0, .ref (τ.1 30))]) hx hb dX12_letter_123 hl (by decide) rfl (fun ls hl => ?_)
              refine lv_iload hx hb dX12_letter_125 (lv_at hl 0 rfl) ?_
              refine lv_if_eq (tgt := 142) hx hb dX12_letter_127 (by decide) (fun c511 => ?_) (fun c511 => absurd (by decide) c511)
              refine lv_aload_n hx hb dX12_letter_142 rfl (lv_at hl 4 rfl) ?_
              refine zGetI (D := D) (ci := 12) (C := RX12) (T := TX12) (N := 71) hx hb hts hiX12 hown hH (zk_30 hF) rfl 36 (by decide) rfl hw13 (fun _ h9 => h9) dX12_letter_143 q493 ?_
              refine lv_bipush (v := nI 20) hx hb dX12_letter_146 (by decide) ?_
              refine lv_icmp_ne (tgt := 158) hx hb dX12_letter_148 (by decide) (fun c512 => ?_) (fun c512 => ?_)
              · have zc512 := c512
                replace zc512 := zc_neq (nI_toInt (by omega)) (nI_toInt (by omega)) zc512
                refine lv_iload hx hb dX12_letter_158 (lv_at hl 0 rfl) ?_
                refine lv_if_eq (tgt := 186) hx hb dX12_letter_160 (by decide) (fun c513 => ?_) (fun c513 => absurd (by decide) c513)
                exact hJ129 (f490, (zUp (zLcN xl) (zFM (zOk cd pN n (zLcN xl) (zMnN xl) l0 (zN xl.2.2.2.1)) n cd l0).2.1 (zFM (zOk cd pN n (zLcN xl) (zMnN xl) l0 (zN xl.2.2.2.1)) n cd l0).2.2), 1, 1) _ _ _ (show (zMl f490 l0 ∧ f490 30 21 = nI 0 ∧ f490 30 24 = (zFv (zLet (fi 47) L (zS (fi 47) L 0))) ∧ zMo f490 n o ∧ zMq τ f490 fr g Ln d ∧ (f490 30 0 = nI 0 ∧ f490 30 29 = nI (zN xl.2.2.2.1) ∧ f490 30 30 = xl.2.2.2.2 ∧ f490 30 31 = nI 1 ∧ f490 30 36 = nI wq ∧ f490 30 45 = nI o ∧ zqLy f490 l0 ((zUp (zLcN xl) (zFM (zOk cd pN n (zLcN xl) (zMnN xl) l0 (zN xl.2.2.2.1)) n cd l0).2.1 (zFM (zOk cd pN n (zLcN xl) (zMnN xl) l0 (zN xl.2.2.2.1)) n cd l0).2.2)) (zMnN xl)) ∧ zMe (zPl cd pN n (zLcN xl) (zMnN xl) l0 (zN xl.2.2.2.1)) (zFM (zOk cd pN n (zLcN xl) (zMnN xl) l0 (zN xl.2.2.2.1)) n cd l0) (zLcN xl) ((zUp (zLcN xl) (zFM (zOk cd pN n (zLcN xl) (zMnN xl) l0 (zN xl.2.2.2.1)) n cd l0).2.1 (zFM (zOk cd pN n (zLcN xl) (zMnN xl) l0 (zN xl.2.2.2.1)) n cd l0).2.2)) 1 1 ∧ ¬ (1 = 1 ∧ (zDue (fi 44) (nI (zN xl.2.2.2.1))).toInt ≤ xl.2.2.2.2.toInt) ∧ ¬ wq = 20 ∧ ∀ a b, ¬ (a = 48 ∨ a = 49 ∨ (a = 30 ∧ (b = 0 ∨ (21 ≤ b ∧ b ≤ 34)))) → f490 a b = fi a b) ∧ zH D A τ f490 fr ol s _ ∧ va_S A s.heap _ _ ∧ lv_has _ 6 [(0, .ref (τ.1 30)), (3, .int (nI (zCn (fun j => zPo cd pN n (((zUp (zLcN xl) (zFM (zOk cd pN n (zLcN xl) (zMnN xl) l0 (zN xl.2.2.2.1)) n cd l0).2.1 (zFM (zOk cd pN n (zLcN xl) (zMnN xl) l0 (zN xl.2.2.2.1)) n cd l0).2.2)) j)) l0)))] from ⟨⟨hMl, q495, q499, hMo, hMq, ⟨q497, q500, q501, hm31, q493, q491, hLy⟩, hme, hnp, by omega, fun a b h => by rw [ef490, zu_n (by omega), hf455 a b (by omega), ef439, zu_n (by omega), hf120 a b (by omega), ef107, zu_n (by omega), hf21 a b (by omega)]⟩, hH, hS, lv_sub hl [4, 1] rfl⟩)
              · have zc512 := c512
                replace zc512 := zc_eq (nI_toInt (by omega)) (nI_toInt (by omega)) zc512
                refine lv_aload_n hx hb dX12_letter_151 rfl (lv_at hl 4 rfl) ?_
                refine lv_iconst (v := nI 2) hx hb dX12_letter_152 (by decide) ?_
                refine zPutI (D := D) (ci := 12) (ty := .int) (C := RX12) (T := TX12) (N := 71) hx hb hts hiX12 tyX12 tyX12_ok nmX12 hown hH hS (zk_30 hF) rfl 0 (by decide) rfl hw0 (fun _ h9 => h9) rfl (by decide +kernel) rfl rfl dX12_letter_153 (fun H locs hH hS => ?_)
                obtain ⟨f514, ef514⟩ : ∃ f9 : zFi, f9 = zu f490 30 0 (nI 2) := ⟨_, rfl⟩
                rw [← ef514] at hH
                have q515 : f514 30 45 = nI o := by rw [ef514, zu_n (fun h9 => absurd h9.2 (by decide))]; exact q491
                have q516 : f514 30 35 = nI d := by rw [ef514, zu_n (fun h9 => absurd h9.2 (by decide))]; exact q492
                have q517 : f514 30 36 = nI wq := by rw [ef514, zu_n (fun h9 => absurd h9.2 (by decide))]; exact q493
                have q518 : f514 30 2 = nI n := by rw [ef514, zu_n (fun h9 => absurd h9.2 (by decide))]; exact q494
                have q519 : f514 30 21 = nI 0 := by rw [ef514, zu_n (fun h9 => absurd h9.2 (by decide))]; exact q495
                have q520 : f514 30 22 = nI L := by rw [ef514, zu_n (fun h9 => absurd h9.2 (by decide))]; exact q496
                have q521 : f514 30 26 = nI l0 := by rw [ef514, zu_n (fun h9 => absurd h9.2 (by decide))]; exact q498
                have q522 : f514 30 24 = (zFv (zLet (fi 47) L (zS (fi 47) L 0))) := by rw [ef514, zu_n (fun h9 => absurd h9.2 (by decide))]; exact q499
                have q523 : f514 30 29 = nI ((zN xl.2.2.2.1)) := by rw [ef514, zu_n (fun h9 => absurd h9.2 (by decide))]; exact q500
                have q524 : f514 30 30 = xl.2.2.2.2 := by rw [ef514, zu_n (fun h9 => absurd h9.2 (by decide))]; exact q501
                have q525 : f514 30 31 = nI 1 := by rw [ef514, zu_n (fun h9 => absurd h9.2 (by decide))]; exact hm31
                have q526 : f514 30 32 = nI ((zFM (zOk cd pN n (zLcN xl) (zMnN xl) l0 (zN xl.2.2.2.1)) n cd l0).2.1) := by rw [ef514, zu_n (fun h9 => absurd h9.2 (by decide))]; exact q503
                have q527 : f514 30 33 = nI ((zFM (zOk cd pN n (zLcN xl) (zMnN xl) l0 (zN xl.2.2.2.1)) n cd l0).2.2) := by rw [ef514, zu_n (fun h9 => absurd h9.2 (by decide))]; exact q504
                have q528 : f514 48 ((zFM (zOk cd pN n (zLcN xl) (zMnN xl) l0 (zN xl.2.2.2.1)) n cd l0).2.1) = nI ((zFM (zOk cd pN n (zLcN xl) (zMnN xl) l0 (zN xl.2.2.2.1)) n cd l0).2.2) := by rw [ef514, zu_n (fun h9 => absurd h9.1 (by decide))]; exact q505
                have q529 : f514 30 0 = nI 2 := by rw [ef514]; exact zu_s
                have hMt := zMt.ci (fi' := f514) hMt (fun i9 k9 h9 => by rw [ef514]; exact zu_n (by omega))
                have hMo := zMo.ci (fi' := f514) hMo (fun i9 k9 h9 => by rw [ef514]; exact zu_n (by omega))
                have hMq := zMq.ci (fi' := f514) hMq (fun i9 k9 h9 => by rw [ef514]; exact zu_n (by omega))
                have hPb := zqPb.cg (fi' := f514) hPb (fun i9 k9 h9 => by rw [ef514]; exact zu_n (by omega))
                have hMl := zMl.ci (fi' := f514) hMl (fun i9 k9 h9 => by rw [ef514]; exact zu_n (by omega))
                have hLy := zqLy.cg (fi' := f514) hLy (fun i9 k9 h9 => by rw [ef514]; exact zu_n (by omega))
                refine lv_iconst (v := nI 0) hx hb dX12_letter_156 (by decide) ?_
                refine W.widen (k := 8) (n := 11264) (by decide) (by decide) ?_
                exact W.iret (v := nI 0) hx hb hr (fun t9 ht9 hW9 => ⟨⟨nI 0, (τ, f514, fr), rfl, (show ((∃ o2, o ≤ o2 ∧ o2 ≤ o + 1 ∧ zMo f514 n o2) ∧ (∃ g2 L2 d2, d2 ≤ d + 1 ∧ zMq τ f514 fr g2 L2 d2) ∧ f514 30 21 = nI 0 ∧ zGz τ fr τ fr ∧ ∀ a b, ¬ (a = 48 ∨ a = 49 ∨ (50 ≤ a ∧ a ≤ 64) ∨ (200 ≤ a ∧ a < 240) ∨ (a = 30 ∧ (b = 0 ∨ (21 ≤ b ∧ b ≤ 36) ∨ b = 45))) → f514 a b = fi a b) ∧ f514 30 24 = (zFv (zLet (fi 47) L (zS (fi 47) L 0))) ∧ (((∃ p, zLet (fi 47) L (zS (fi 47) L 0) = .error p) ∧ f514 30 0 = nI 1 ∧ f514 30 45 = nI o ∧ τ = τ ∧ fr = fr ∧ f514 30 35 = nI d ∧ f514 30 36 = nI wq ∧ ∀ a b, 200 ≤ a → a < 240 → f514 a b = fi a b) ∨ ((∃ xl lc2 m2 b2, zLet (fi 47) L (zS (fi 47) L 0) = .ok xl ∧ zLm2 cd pN n xl lc2 m2 b2 ∧ (((b2 = 1 ∧ (zDue (fi 44) (nI (zN xl.2.2.2.1))).toInt ≤ xl.2.2.2.2.toInt) ∧ o = 60) ∨ (¬ (b2 = 1 ∧ (zDue (fi 44) (nI (zN xl.2.2.2.1))).toInt ≤ xl.2.2.2.2.toInt) ∧ wq = 20))) ∧ f514 30 0 = nI 2 ∧ f514 30 45 = nI o ∧ τ = τ ∧ fr = fr ∧ f514 30 35 = nI d ∧ f514 30 36 = nI wq ∧ ∀ a b, 200 ≤ a → a < 240 → f514 a b = fi a b) ∨ ((∃ xl lc2 m2 b2, zLet (fi 47) L (zS (fi 47) L 0) = .ok xl ∧ zLm2 cd pN n xl lc2 m2 b2 ∧ b2 = 1 ∧ (zDue (fi 44) (nI (zN xl.2.2.2.1))).toInt ≤ xl.2.2.2.2.toInt) ∧ o < 60 ∧ (nI 0) = nI o ∧ f514 30 0 = nI 0 ∧ f514 30 45 = nI (o + 1) ∧ τ = τ ∧ fr = fr ∧ f514 30 35 = nI d ∧ f514 30 36 = nI wq ∧ ∀ a b, 200 ≤ a → a < 240 → f514 a b = fi a b) ∨ ((∃ xl lc2 m2 b2, zLet (fi 47) L (zS (fi 47) L 0) = .ok xl ∧ zLm2 cd pN n xl lc2 m2 b2 ∧ ¬ (b2 = 1 ∧ (zDue (fi 44) (nI (zN xl.2.2.2.1))).toInt ≤ xl.2.2.2.2.toInt) ∧ ∃ g2 L2, zMq τ f514 fr g2 L2 (d + 1) ∧ (∀ j, j < 8 → ∀ k, k < (if j < 6 then d else 8 * d) → f514 (200 + j + 10 * g2) k = fi (200 + j + 10 * g) k) ∧ f514 30 36 = nI (wq + 1) ∧ f514 (200 + 10 * g2) d = nI 1 ∧ f514 (201 + 10 * g2) d = nI m2 ∧ f514 (202 + 10 * g2) d = nI xl.1 ∧ f514 (203 + 10 * g2) d = nI (zCn (fun j => zPo cd pN n (lc2 j)) xl.1) ∧ f514 (204 + 10 * g2) d = nI (zN xl.2.2.2.1) ∧ f514 (205 + 10 * g2) d = xl.2.2.2.2 ∧ ∀ j, j < xl.1 → f514 (206 + 10 * g2) (8 * d + j) = nI (lc2 j) ∧ f514 (207 + 10 * g2) (8 * d + j) = nI (zMnN xl j)) ∧ ¬ wq = 20 ∧ (nI 0) = -1 - nI (d + 1) ∧ f514 30 0 = nI 0 ∧ f514 30 45 = nI o)) from ⟨⟨⟨o, by omega, by omega, hMo⟩, ⟨g, Ln, d, by omega, hMq⟩, q519, zGz.rf hF, fun a b h => by rw [ef514, zu_n (by omega), ef490, zu_n (by omega), hf455 a b (by omega), ef439, zu_n (by omega), hf120 a b (by omega), ef107, zu_n (by omega), hf21 a b (by omega)]⟩, q522, Or.inr (Or.inl ⟨⟨xl, (zUp (zLcN xl) (zFM (zOk cd pN n (zLcN xl) (zMnN xl) l0 (zN xl.2.2.2.1)) n cd l0).2.1 (zFM (zOk cd pN n (zLcN xl) (zMnN xl) l0 (zN xl.2.2.2.1)) n cd l0).2.2), 1, 1, hle, by unfold zLm2; rw [← hl0e]; exact hme, Or.inr ⟨hnp, by omega⟩⟩, q529, hMo.2.1, ⟨rfl, rfl, q516, q517, fun a b h1 h2 => by rw [ef514, zu_n (by omega), ef490, zu_n (by omega), hf455 a b (by omega), ef439, zu_n (by omega), hf120 a b (by omega), ef107, zu_n (by omega), hf21 a b (by omega)]⟩⟩)⟩), zEnd1 hH ht9 hW9⟩, hS.F ht9⟩) hS.2.2 dX12_letter_157
            · have zc510 := c510
              replace zc510 := zc_nlt (rfl) (rfl) zc510
              have hpd : 1 = 1 ∧ (zDue (fi 44) (nI (zN xl.2.2.2.1))).toInt ≤ xl.2.2.2.2.toInt := ⟨rfl, by omega⟩
              refine lv_iconst (v := nI 1) hx hb dX12_letter_118 (by decide) ?_
              refine lv_goto (tgt := 123) hx hb dX12_letter_119 (by decide) ?_
              refine lv_istore (lv' := [(4, .int (nI 1)), (3, .int (nI (zCn (fun j => zPo cd pN n ((zUp (zLcN xl) (zFM (zOk cd pN n (zLcN xl) (zMnN xl) l0 (zN xl.2.2.2.1)) n cd l0).2.1 (zFM (zOk cd pN n (zLcN xl) (zMnN xl) l0 (zN xl.2.2.2.1)) n cd l0).2.2) j)) l0))), (2, .int (nI 1)), (1, .int (nI 0)), (0, .ref (τ.1 30))]) hx hb dX12_letter_123 hl (by decide) rfl (fun ls hl => ?_)
              refine lv_iload hx hb dX12_letter_125 (lv_at hl 0 rfl) ?_
              refine lv_if_eq (tgt := 142) hx hb dX12_letter_127 (by decide) (fun c530 => absurd c530 (by decide)) (fun c530 => ?_)
              refine lv_aload_n hx hb dX12_letter_130 rfl (lv_at hl 4 rfl) ?_
              refine zGetI (D := D) (ci := 12) (C := RX12) (T := TX12) (N := 71) hx hb hts hiX12 hown hH (zk_30 hF) rfl 45 (by decide) rfl hw20 (fun _ h9 => h9) dX12_letter_131 q491 ?_
              refine lv_bipush (v := nI 60) hx hb dX12_letter_134 (by decide) ?_
              refine lv_icmp_ne (tgt := 158) hx hb dX12_letter_136 (by decide) (fun c531 => ?_) (fun c531 => ?_)
              · have zc531 := c531
                replace zc531 := zc_neq (nI_toInt (by omega)) (nI_toInt (by omega)) zc531
                refine lv_iload hx hb dX12_letter_158 (lv_at hl 0 rfl) ?_
                refine lv_if_eq (tgt := 186) hx hb dX12_letter_160 (by decide) (fun c532 => absurd c532 (by decide)) (fun c532 => ?_)
                refine lv_aload_n hx hb dX12_letter_163 rfl (lv_at hl 4 rfl) ?_
                refine lv_dup hx hb dX12_letter_164 rfl ?_
                refine zGetI (D := D) (ci := 12) (C := RX12) (T := TX12) (N := 71) hx hb hts hiX12 hown hH (zk_30 hF) rfl 34 (by decide) rfl hw21 (fun _ h9 => h9) dX12_letter_165 rfl ?_
                refine lv_iload_n hx hb dX12_letter_168 rfl (lv_at hl 2 rfl) ?_
                refine lv_if_eq (tgt := 176) hx hb dX12_letter_169 (by decide) (fun c533 => absurd c533 (by decide)) (fun c533 => ?_)
                refine lv_iconst (v := nI 1) hx hb dX12_letter_172 (by decide) ?_
                refine lv_goto (tgt := 177) hx hb dX12_letter_173 (by decide) ?_
                refine lv_iadd hx hb dX12_letter_177 ?_
                refine lv_topi (fun v534 ev534 => ?_)
                refine zPutI (D := D) (ci := 12) (ty := .int) (C := RX12) (T := TX12) (N := 71) hx hb hts hiX12 tyX12 tyX12_ok nmX12 hown hH hS (zk_30 hF) rfl 34 (by decide) rfl hw21 (fun _ h9 => h9) rfl (by decide +kernel) rfl rfl dX12_letter_178 (fun H locs hH hS => ?_)
                obtain ⟨f535, ef535⟩ : ∃ f9 : zFi, f9 = zu f490 30 34 v534 := ⟨_, rfl⟩
                rw [← ef535] at hH
                have q536 : f535 30 45 = nI o := by rw [ef535, zu_n (fun h9 => absurd h9.2 (by decide))]; exact q491
                have q537 : f535 30 35 = nI d := by rw [ef535, zu_n (fun h9 => absurd h9.2 (by decide))]; exact q492
                have q538 : f535 30 36 = nI wq := by rw [ef535, zu_n (fun h9 => absurd h9.2 (by decide))]; exact q493
                have q539 : f535 30 2 = nI n := by rw [ef535, zu_n (fun h9 => absurd h9.2 (by decide))]; exact q494
                have q540 : f535 30 21 = nI 0 := by rw [ef535, zu_n (fun h9 => absurd h9.2 (by decide))]; exact q495
                have q541 : f535 30 22 = nI L := by rw [ef535, zu_n (fun h9 => absurd h9.2 (by decide))]; exact q496
                have q542 : f535 30 0 = nI 0 := by rw [ef535, zu_n (fun h9 => absurd h9.2 (by decide))]; exact q497
                have q543 : f535 30 26 = nI l0 := by rw [ef535, zu_n (fun h9 => absurd h9.2 (by decide))]; exact q498
                have q544 : f535 30 24 = (zFv (zLet (fi 47) L (zS (fi 47) L 0))) := by rw [ef535, zu_n (fun h9 => absurd h9.2 (by decide))]; exact q499
                have q545 : f535 30 29 = nI ((zN xl.2.2.2.1)) := by rw [ef535, zu_n (fun h9 => absurd h9.2 (by decide))]; exact q500
                have q546 : f535 30 30 = xl.2.2.2.2 := by rw [ef535, zu_n (fun h9 => absurd h9.2 (by decide))]; exact q501
                have q547 : f535 30 31 = nI 1 := by rw [ef535, zu_n (fun h9 => absurd h9.2 (by decide))]; exact hm31
                have q548 : f535 30 32 = nI ((zFM (zOk cd pN n (zLcN xl) (zMnN xl) l0 (zN xl.2.2.2.1)) n cd l0).2.1) := by rw [ef535, zu_n (fun h9 => absurd h9.2 (by decide))]; exact q503
                have q549 : f535 30 33 = nI ((zFM (zOk cd pN n (zLcN xl) (zMnN xl) l0 (zN xl.2.2.2.1)) n cd l0).2.2) := by rw [ef535, zu_n (fun h9 => absurd h9.2 (by decide))]; exact q504
                have q550 : f535 48 ((zFM (zOk cd pN n (zLcN xl) (zMnN xl) l0 (zN xl.2.2.2.1)) n cd l0).2.1) = nI ((zFM (zOk cd pN n (zLcN xl) (zMnN xl) l0 (zN xl.2.2.2.1)) n cd l0).2.2) := by rw [ef535, zu_n (fun h9 => absurd h9.1 (by decide))]; exact q505
                have q551 : f535 30 34 = v534 := by rw [ef535]; exact zu_s
                have hMt := zMt.ci (fi' := f535) hMt (fun i9 k9 h9 => by rw [ef535]; exact zu_n (by omega))
                have hMo := zMo.ci (fi' := f535) hMo (fun i9 k9 h9 => by rw [ef535]; exact zu_n (by omega))
                have hMq := zMq.ci (fi' := f535) hMq (fun i9 k9 h9 => by rw [ef535]; exact zu_n (by omega))
                have hPb := zqPb.cg (fi' := f535) hPb (fun i9 k9 h9 => by rw [ef535]; exact zu_n (by omega))
                have hMl := zMl.ci (fi' := f535) hMl (fun i9 k9 h9 => by rw [ef535]; exact zu_n (by omega))
                have hLy := zqLy.cg (fi' := f535) hLy (fun i9 k9 h9 => by rw [ef535]; exact zu_n (by omega))
                refine lv_aload_n hx hb dX12_letter_181 rfl (lv_at hl 4 rfl) ?_
                refine va_calli (va_runV (As := []) (rest := []) ⟨hx, hb, hml, hown, hts⟩ (m_makeOrder l hl0 D A sad τ f535 fr ol hF n hMt l0 hMl o hMo (by omega)) (cwV 0 hts gX12_letter_X12_makeOrder rfl rfl rfl (by decide +kernel) ⟨Nat.le_of_ble_eq_true rfl, Nat.le_of_ble_eq_true rfl⟩) ⟨zQc_bl, zRecv hH (zk_30 hF) rfl, zQc_at hz hS hA hH⟩ rfl rfl hl.1 rfl (lv_room (Nat.le_of_ble_eq_true rfl)) dX12_letter_182 ⟨Nat.le_of_ble_eq_true rfl, Nat.le_of_ble_eq_true rfl⟩) hS (fun q _ h => h) (fun q h => h) (fun r552 u9 t9 H1 locs ht9 hvm9 hw hB hz1 hk1 hS => ?_)
                have hH := zMv ht9 hvm9 hB
                clear hB
                generalize u9 = f553 at hw hH
                generalize H1 = H at hH hS ⊢
                obtain ⟨rfl, hMo, hf554⟩ := hw
                have q555 : f553 30 35 = nI d := by rw [hf554 30 35 (by omega)]; exact q537
                have q556 : f553 30 36 = nI wq := by rw [hf554 30 36 (by omega)]; exact q538
                have q557 : f553 30 2 = nI n := by rw [hf554 30 2 (by omega)]; exact q539
                have q558 : f553 30 21 = nI 0 := by rw [hf554 30 21 (by omega)]; exact q540
                have q559 : f553 30 22 = nI L := by rw [hf554 30 22 (by omega)]; exact q541
                have q560 : f553 30 0 = nI 0 := by rw [hf554 30 0 (by omega)]; exact q542
                have q561 : f553 30 26 = nI l0 := by rw [hf554 30 26 (by omega)]; exact q543
                have q562 : f553 30 24 = (zFv (zLet (fi 47) L (zS (fi 47) L 0))) := by rw [hf554 30 24 (by omega)]; exact q544
                have q563 : f553 30 29 = nI ((zN xl.2.2.2.1)) := by rw [hf554 30 29 (by omega)]; exact q545
                have q564 : f553 30 30 = xl.2.2.2.2 := by rw [hf554 30 30 (by omega)]; exact q546
                have q565 : f553 30 31 = nI 1 := by rw [hf554 30 31 (by omega)]; exact q547
                have q566 : f553 30 32 = nI ((zFM (zOk cd pN n (zLcN xl) (zMnN xl) l0 (zN xl.2.2.2.1)) n cd l0).2.1) := by rw [hf554 30 32 (by omega)]; exact q548
                have q567 : f553 30 33 = nI ((zFM (zOk cd pN n (zLcN xl) (zMnN xl) l0 (zN xl.2.2.2.1)) n cd l0).2.2) := by rw [hf554 30 33 (by omega)]; exact q549
                have q568 : f553 48 ((zFM (zOk cd pN n (zLcN xl) (zMnN xl) l0 (zN xl.2.2.2.1)) n cd l0).2.1) = nI ((zFM (zOk cd pN n (zLcN xl) (zMnN xl) l0 (zN xl.2.2.2.1)) n cd l0).2.2) := by rw [hf554 48 ((zFM (zOk cd pN n (zLcN xl) (zMnN xl) l0 (zN xl.2.2.2.1)) n cd l0).2.1) (by omega)]; exact q550
                have q569 : f553 30 34 = v534 := by rw [hf554 30 34 (by omega)]; exact q551
                have hMt := zMt.ci (fi' := f553) hMt (fun i9 k9 h9 => hf554 i9 k9 (by omega))
                have hMq := zMq.ci (fi' := f553) hMq (fun i9 k9 h9 => hf554 i9 k9 (by omega))
                have hPb := zqPb.cg (fi' := f553) hPb (fun i9 k9 h9 => hf554 i9 k9 (by omega))
                have hMl := zMl.ci (fi' := f553) hMl (fun i9 k9 h9 => hf554 i9 k9 (by omega))
                have hLy := zqLy.cg (fi' := f553) hLy (fun i9 k9 h9 => hf554 i9 k9 (by omega))
                refine W.widen (k := 8) (n := 11264) (by decide) (by decide) ?_
                exact W.iret (v := nI o) hx hb hr (fun t9 ht9 hW9 => ⟨⟨nI o, (τ, f553, fr), rfl, (show ((∃ o2, o ≤ o2 ∧ o2 ≤ o + 1 ∧ zMo f553 n o2) ∧ (∃ g2 L2 d2, d2 ≤ d + 1 ∧ zMq τ f553 fr g2 L2 d2) ∧ f553 30 21 = nI 0 ∧ zGz τ fr τ fr ∧ ∀ a b, ¬ (a = 48 ∨ a = 49 ∨ (50 ≤ a ∧ a ≤ 64) ∨ (200 ≤ a ∧ a < 240) ∨ (a = 30 ∧ (b = 0 ∨ (21 ≤ b ∧ b ≤ 36) ∨ b = 45))) → f553 a b = fi a b) ∧ f553 30 24 = (zFv (zLet (fi 47) L (zS (fi 47) L 0))) ∧ (((∃ p, zLet (fi 47) L (zS (fi 47) L 0) = .error p) ∧ f553 30 0 = nI 1 ∧ f553 30 45 = nI o ∧ τ = τ ∧ fr = fr ∧ f553 30 35 = nI d ∧ f553 30 36 = nI wq ∧ ∀ a b, 200 ≤ a → a < 240 → f553 a b = fi a b) ∨ ((∃ xl lc2 m2 b2, zLet (fi 47) L (zS (fi 47) L 0) = .ok xl ∧ zLm2 cd pN n xl lc2 m2 b2 ∧ (((b2 = 1 ∧ (zDue (fi 44) (nI (zN xl.2.2.2.1))).toInt ≤ xl.2.2.2.2.toInt) ∧ o = 60) ∨ (¬ (b2 = 1 ∧ (zDue (fi 44) (nI (zN xl.2.2.2.1))).toInt ≤ xl.2.2.2.2.toInt) ∧ wq = 20))) ∧ f553 30 0 = nI 2 ∧ f553 30 45 = nI o ∧ τ = τ ∧ fr = fr ∧ f553 30 35 = nI d ∧ f553 30 36 = nI wq ∧ ∀ a b, 200 ≤ a → a < 240 → f553 a b = fi a b) ∨ ((∃ xl lc2 m2 b2, zLet (fi 47) L (zS (fi 47) L 0) = .ok xl ∧ zLm2 cd pN n xl lc2 m2 b2 ∧ b2 = 1 ∧ (zDue (fi 44) (nI (zN xl.2.2.2.1))).toInt ≤ xl.2.2.2.2.toInt) ∧ o < 60 ∧ (nI o) = nI o ∧ f553 30 0 = nI 0 ∧ f553 30 45 = nI (o + 1) ∧ τ = τ ∧ fr = fr ∧ f553 30 35 = nI d ∧ f553 30 36 = nI wq ∧ ∀ a b, 200 ≤ a → a < 240 → f553 a b = fi a b) ∨ ((∃ xl lc2 m2 b2, zLet (fi 47) L (zS (fi 47) L 0) = .ok xl ∧ zLm2 cd pN n xl lc2 m2 b2 ∧ ¬ (b2 = 1 ∧ (zDue (fi 44) (nI (zN xl.2.2.2.1))).toInt ≤ xl.2.2.2.2.toInt) ∧ ∃ g2 L2, zMq τ f553 fr g2 L2 (d + 1) ∧ (∀ j, j < 8 → ∀ k, k < (if j < 6 then d else 8 * d) → f553 (200 + j + 10 * g2) k = fi (200 + j + 10 * g) k) ∧ f553 30 36 = nI (wq + 1) ∧ f553 (200 + 10 * g2) d = nI 1 ∧ f553 (201 + 10 * g2) d = nI m2 ∧ f553 (202 + 10 * g2) d = nI xl.1 ∧ f553 (203 + 10 * g2) d = nI (zCn (fun j => zPo cd pN n (lc2 j)) xl.1) ∧ f553 (204 + 10 * g2) d = nI (zN xl.2.2.2.1) ∧ f553 (205 + 10 * g2) d = xl.2.2.2.2 ∧ ∀ j, j < xl.1 → f553 (206 + 10 * g2) (8 * d + j) = nI (lc2 j) ∧ f553 (207 + 10 * g2) (8 * d + j) = nI (zMnN xl j)) ∧ ¬ wq = 20 ∧ (nI o) = -1 - nI (d + 1) ∧ f553 30 0 = nI 0 ∧ f553 30 45 = nI o)) from ⟨⟨⟨o + 1, by omega, by omega, hMo⟩, ⟨g, Ln, d, by omega, hMq⟩, q558, zGz.rf hF, fun a b h => by rw [hf554 a b (by omega), ef535, zu_n (by omega), ef490, zu_n (by omega), hf455 a b (by omega), ef439, zu_n (by omega), hf120 a b (by omega), ef107, zu_n (by omega), hf21 a b (by omega)]⟩, q562, Or.inr (Or.inr (Or.inl ⟨⟨xl, (zUp (zLcN xl) (zFM (zOk cd pN n (zLcN xl) (zMnN xl) l0 (zN xl.2.2.2.1)) n cd l0).2.1 (zFM (zOk cd pN n (zLcN xl) (zMnN xl) l0 (zN xl.2.2.2.1)) n cd l0).2.2), 1, 1, hle, by unfold zLm2; rw [← hl0e]; exact hme, hpd⟩, by omega, rfl, q560, hMo.2.1, ⟨rfl, rfl, q555, q556, fun a b h1 h2 => by rw [hf554 a b (by omega), ef535, zu_n (by omega), ef490, zu_n (by omega), hf455 a b (by omega), ef439, zu_n (by omega), hf120 a b (by omega), ef107, zu_n (by omega), hf21 a b (by omega)]⟩⟩))⟩), zEnd1 hH ht9 hW9⟩, hS.F ht9⟩) hS.2.2 dX12_letter_185
              · have zc531 := c531
                replace zc531 := zc_eq (nI_toInt (by omega)) (nI_toInt (by omega)) zc531
                refine lv_goto (tgt := 151) hx hb dX12_letter_139 (by decide) ?_
                refine lv_aload_n hx hb dX12_letter_151 rfl (lv_at hl 4 rfl) ?_
                refine lv_iconst (v := nI 2) hx hb dX12_letter_152 (by decide) ?_
                refine zPutI (D := D) (ci := 12) (ty := .int) (C := RX12) (T := TX12) (N := 71) hx hb hts hiX12 tyX12 tyX12_ok nmX12 hown hH hS (zk_30 hF) rfl 0 (by decide) rfl hw0 (fun _ h9 => h9) rfl (by decide +kernel) rfl rfl dX12_letter_153 (fun H locs hH hS => ?_)
                obtain ⟨f570, ef570⟩ : ∃ f9 : zFi, f9 = zu f490 30 0 (nI 2) := ⟨_, rfl⟩
                rw [← ef570] at hH
                have q571 : f570 30 45 = nI o := by rw [ef570, zu_n (fun h9 => absurd h9.2 (by decide))]; exact q491
                have q572 : f570 30 35 = nI d := by rw [ef570, zu_n (fun h9 => absurd h9.2 (by decide))]; exact q492
                have q573 : f570 30 36 = nI wq := by rw [ef570, zu_n (fun h9 => absurd h9.2 (by decide))]; exact q493
                have q574 : f570 30 2 = nI n := by rw [ef570, zu_n (fun h9 => absurd h9.2 (by decide))]; exact q494
                have q575 : f570 30 21 = nI 0 := by rw [ef570, zu_n (fun h9 => absurd h9.2 (by decide))]; exact q495
                have q576 : f570 30 22 = nI L := by rw [ef570, zu_n (fun h9 => absurd h9.2 (by decide))]; exact q496
                have q577 : f570 30 26 = nI l0 := by rw [ef570, zu_n (fun h9 => absurd h9.2 (by decide))]; exact q498
                have q578 : f570 30 24 = (zFv (zLet (fi 47) L (zS (fi 47) L 0))) := by rw [ef570, zu_n (fun h9 => absurd h9.2 (by decide))]; exact q499
                have q579 : f570 30 29 = nI ((zN xl.2.2.2.1)) := by rw [ef570, zu_n (fun h9 => absurd h9.2 (by decide))]; exact q500
                have q580 : f570 30 30 = xl.2.2.2.2 := by rw [ef570, zu_n (fun h9 => absurd h9.2 (by decide))]; exact q501
                have q581 : f570 30 31 = nI 1 := by rw [ef570, zu_n (fun h9 => absurd h9.2 (by decide))]; exact hm31
                have q582 : f570 30 32 = nI ((zFM (zOk cd pN n (zLcN xl) (zMnN xl) l0 (zN xl.2.2.2.1)) n cd l0).2.1) := by rw [ef570, zu_n (fun h9 => absurd h9.2 (by decide))]; exact q503
                have q583 : f570 30 33 = nI ((zFM (zOk cd pN n (zLcN xl) (zMnN xl) l0 (zN xl.2.2.2.1)) n cd l0).2.2) := by rw [ef570, zu_n (fun h9 => absurd h9.2 (by decide))]; exact q504
                have q584 : f570 48 ((zFM (zOk cd pN n (zLcN xl) (zMnN xl) l0 (zN xl.2.2.2.1)) n cd l0).2.1) = nI ((zFM (zOk cd pN n (zLcN xl) (zMnN xl) l0 (zN xl.2.2.2.1)) n cd l0).2.2) := by rw [ef570, zu_n (fun h9 => absurd h9.1 (by decide))]; exact q505
                have q585 : f570 30 0 = nI 2 := by rw [ef570]; exact zu_s
                have hMt := zMt.ci (fi' := f570) hMt (fun i9 k9 h9 => by rw [ef570]; exact zu_n (by omega))
                have hMo := zMo.ci (fi' := f570) hMo (fun i9 k9 h9 => by rw [ef570]; exact zu_n (by omega))
                have hMq := zMq.ci (fi' := f570) hMq (fun i9 k9 h9 => by rw [ef570]; exact zu_n (by omega))
                have hPb := zqPb.cg (fi' := f570) hPb (fun i9 k9 h9 => by rw [ef570]; exact zu_n (by omega))
                have hMl := zMl.ci (fi' := f570) hMl (fun i9 k9 h9 => by rw [ef570]; exact zu_n (by omega))
                have hLy := zqLy.cg (fi' := f570) hLy (fun i9 k9 h9 => by rw [ef570]; exact zu_n (by omega))
                refine lv_iconst (v := nI 0) hx hb dX12_letter_156 (by decide) ?_
                refine W.widen (k := 8) (n := 11264) (by decide) (by decide) ?_
                exact W.iret (v := nI 0) hx hb hr (fun t9 ht9 hW9 => ⟨⟨nI 0, (τ, f570, fr), rfl, (show ((∃ o2, o ≤ o2 ∧ o2 ≤ o + 1 ∧ zMo f570 n o2) ∧ (∃ g2 L2 d2, d2 ≤ d + 1 ∧ zMq τ f570 fr g2 L2 d2) ∧ f570 30 21 = nI 0 ∧ zGz τ fr τ fr ∧ ∀ a b, ¬ (a = 48 ∨ a = 49 ∨ (50 ≤ a ∧ a ≤ 64) ∨ (200 ≤ a ∧ a < 240) ∨ (a = 30 ∧ (b = 0 ∨ (21 ≤ b ∧ b ≤ 36) ∨ b = 45))) → f570 a b = fi a b) ∧ f570 30 24 = (zFv (zLet (fi 47) L (zS (fi 47) L 0))) ∧ (((∃ p, zLet (fi 47) L (zS (fi 47) L 0) = .error p) ∧ f570 30 0 = nI 1 ∧ f570 30 45 = nI o ∧ τ = τ ∧ fr = fr ∧ f570 30 35 = nI d ∧ f570 30 36 = nI wq ∧ ∀ a b, 200 ≤ a → a < 240 → f570 a b = fi a b) ∨ ((∃ xl lc2 m2 b2, zLet (fi 47) L (zS (fi 47) L 0) = .ok xl ∧ zLm2 cd pN n xl lc2 m2 b2 ∧ (((b2 = 1 ∧ (zDue (fi 44) (nI (zN xl.2.2.2.1))).toInt ≤ xl.2.2.2.2.toInt) ∧ o = 60) ∨ (¬ (b2 = 1 ∧ (zDue (fi 44) (nI (zN xl.2.2.2.1))).toInt ≤ xl.2.2.2.2.toInt) ∧ wq = 20))) ∧ f570 30 0 = nI 2 ∧ f570 30 45 = nI o ∧ τ = τ ∧ fr = fr ∧ f570 30 35 = nI d ∧ f570 30 36 = nI wq ∧ ∀ a b, 200 ≤ a → a < 240 → f570 a b = fi a b) ∨ ((∃ xl lc2 m2 b2, zLet (fi 47) L (zS (fi 47) L 0) = .ok xl ∧ zLm2 cd pN n xl lc2 m2 b2 ∧ b2 = 1 ∧ (zDue (fi 44) (nI (zN xl.2.2.2.1))).toInt ≤ xl.2.2.2.2.toInt) ∧ o < 60 ∧ (nI 0) = nI o ∧ f570 30 0 = nI 0 ∧ f570 30 45 = nI (o + 1) ∧ τ = τ ∧ fr = fr ∧ f570 30 35 = nI d ∧ f570 30 36 = nI wq ∧ ∀ a b, 200 ≤ a → a < 240 → f570 a b = fi a b) ∨ ((∃ xl lc2 m2 b2, zLet (fi 47) L (zS (fi 47) L 0) = .ok xl ∧ zLm2 cd pN n xl lc2 m2 b2 ∧ ¬ (b2 = 1 ∧ (zDue (fi 44) (nI (zN xl.2.2.2.1))).toInt ≤ xl.2.2.2.2.toInt) ∧ ∃ g2 L2, zMq τ f570 fr g2 L2 (d + 1) ∧ (∀ j, j < 8 → ∀ k, k < (if j < 6 then d else 8 * d) → f570 (200 + j + 10 * g2) k = fi (200 + j + 10 * g) k) ∧ f570 30 36 = nI (wq + 1) ∧ f570 (200 + 10 * g2) d = nI 1 ∧ f570 (201 + 10 * g2) d = nI m2 ∧ f570 (202 + 10 * g2) d = nI xl.1 ∧ f570 (203 + 10 * g2) d = nI (zCn (fun j => zPo cd pN n (lc2 j)) xl.1) ∧ f570 (204 + 10 * g2) d = nI (zN xl.2.2.2.1) ∧ f570 (205 + 10 * g2) d = xl.2.2.2.2 ∧ ∀ j, j < xl.1 → f570 (206 + 10 * g2) (8 * d + j) = nI (lc2 j) ∧ f570 (207 + 10 * g2) (8 * d + j) = nI (zMnN xl j)) ∧ ¬ wq = 20 ∧ (nI 0) = -1 - nI (d + 1) ∧ f570 30 0 = nI 0 ∧ f570 30 45 = nI o)) from ⟨⟨⟨o, by omega, by omega, hMo⟩, ⟨g, Ln, d, by omega, hMq⟩, q575, zGz.rf hF, fun a b h => by rw [ef570, zu_n (by omega), ef490, zu_n (by omega), hf455 a b (by omega), ef439, zu_n (by omega), hf120 a b (by omega), ef107, zu_n (by omega), hf21 a b (by omega)]⟩, q578, Or.inr (Or.inl ⟨⟨xl, (zUp (zLcN xl) (zFM (zOk cd pN n (zLcN xl) (zMnN xl) l0 (zN xl.2.2.2.1)) n cd l0).2.1 (zFM (zOk cd pN n (zLcN xl) (zMnN xl) l0 (zN xl.2.2.2.1)) n cd l0).2.2), 1, 1, hle, by unfold zLm2; rw [← hl0e]; exact hme, Or.inl ⟨hpd, by omega⟩⟩, q585, hMo.2.1, ⟨rfl, rfl, q572, q573, fun a b h1 h2 => by rw [ef570, zu_n (by omega), ef490, zu_n (by omega), hf455 a b (by omega), ef439, zu_n (by omega), hf120 a b (by omega), ef107, zu_n (by omega), hf21 a b (by omega)]⟩⟩)⟩), zEnd1 hH ht9 hW9⟩, hS.F ht9⟩) hS.2.2 dX12_letter_157
        · have zc438 := c438
          replace zc438 := zc_eq (nI_toInt (by omega)) (nI_toInt (by omega)) zc438
          have hpl : zPl cd pN n (zLcN xl) (zMnN xl) l0 (zN xl.2.2.2.1) := ⟨fun j q9 => by have h9 := htj j q9; rw [zIf_m1 (by omega)] at h9; exact h9, by omega⟩
          refine lv_iconst (v := nI 1) hx hb dX12_letter_36 (by decide) ?_
          refine lv_goto (tgt := 41) hx hb dX12_letter_37 (by decide) ?_
          refine lv_istore_n (lv' := [(1, .int (nI 1)), (0, .ref (τ.1 30))]) hx hb dX12_letter_41 rfl hl (by decide) rfl (fun ls hl => ?_)
          refine lv_aload_n hx hb dX12_letter_42 rfl (lv_at hl 1 rfl) ?_
          refine lv_iconst (v := nI 0) hx hb dX12_letter_43 (by decide) ?_
          refine zPutI (D := D) (ci := 12) (ty := .int) (C := RX12) (T := TX12) (N := 71) hx hb hts hiX12 tyX12 tyX12_ok nmX12 hown hH hS (zk_30 hF) rfl 31 (by decide) rfl hw5 (fun _ h9 => h9) rfl (by decide +kernel) rfl rfl dX12_letter_44 (fun H locs hH hS => ?_)
          obtain ⟨f586, ef586⟩ : ∃ f9 : zFi, f9 = zu f118 30 31 (nI 0) := ⟨_, rfl⟩
          rw [← ef586] at hH
          have q587 : f586 30 45 = nI o := by rw [ef586, zu_n (fun h9 => absurd h9.2 (by decide))]; exact q121
          have q588 : f586 30 35 = nI d := by rw [ef586, zu_n (fun h9 => absurd h9.2 (by decide))]; exact q122
          have q589 : f586 30 36 = nI wq := by rw [ef586, zu_n (fun h9 => absurd h9.2 (by decide))]; exact q123
          have q590 : f586 30 2 = nI n := by rw [ef586, zu_n (fun h9 => absurd h9.2 (by decide))]; exact q124
          have q591 : f586 30 21 = nI 0 := by rw [ef586, zu_n (fun h9 => absurd h9.2 (by decide))]; exact q125
          have q592 : f586 30 22 = nI L := by rw [ef586, zu_n (fun h9 => absurd h9.2 (by decide))]; exact q126
          have q593 : f586 30 0 = nI 0 := by rw [ef586, zu_n (fun h9 => absurd h9.2 (by decide))]; exact q127
          have q594 : f586 30 26 = nI l0 := by rw [ef586, zu_n (fun h9 => absurd h9.2 (by decide))]; exact hMl.2.1
          have q595 : f586 30 24 = (zFv (zLet (fi 47) L (zS (fi 47) L 0))) := by rw [ef586, zu_n (fun h9 => absurd h9.2 (by decide))]; exact k24
          have q596 : f586 30 29 = nI ((zN xl.2.2.2.1)) := by rw [ef586, zu_n (fun h9 => absurd h9.2 (by decide))]; exact k29
          have q597 : f586 30 30 = xl.2.2.2.2 := by rw [ef586, zu_n (fun h9 => absurd h9.2 (by decide))]; exact h30
          have q598 : f586 30 31 = nI 0 := by rw [ef586]; exact zu_s
          have hMt := zMt.ci (fi' := f586) hMt (fun i9 k9 h9 => by rw [ef586]; exact zu_n (by omega))
          have hMo := zMo.ci (fi' := f586) hMo (fun i9 k9 h9 => by rw [ef586]; exact zu_n (by omega))
          have hMq := zMq.ci (fi' := f586) hMq (fun i9 k9 h9 => by rw [ef586]; exact zu_n (by omega))
          have hPb := zqPb.cg (fi' := f586) hPb (fun i9 k9 h9 => by rw [ef586]; exact zu_n (by omega))
          have hMl := zMl.ci (fi' := f586) hMl (fun i9 k9 h9 => by rw [ef586]; exact zu_n (by omega))
          have hLy := zqLy.cg (fi' := f586) hLy (fun i9 k9 h9 => by rw [ef586]; exact zu_n (by omega))
          refine lv_iload_n hx hb dX12_letter_47 rfl (lv_at hl 0 rfl) ?_
          refine lv_if_ne (tgt := 55) hx hb dX12_letter_48 (by decide) (fun c599 => ?_) (fun c599 => absurd c599 (by decide))
          refine lv_iload_n hx hb dX12_letter_55 rfl (lv_at hl 0 rfl) ?_
          refine lv_if_ne (tgt := 71) hx hb dX12_letter_56 (by decide) (fun c600 => ?_) (fun c600 => absurd c600 (by decide))
          refine lv_iconst (v := nI 0) hx hb dX12_letter_71 (by decide) ?_
          refine lv_istore_n (lv' := [(2, .int (nI 0)), (1, .int (nI 1)), (0, .ref (τ.1 30))]) hx hb dX12_letter_72 rfl hl (by decide) rfl (fun ls hl => ?_)
          refine lv_iload_n hx hb dX12_letter_73 rfl (lv_at hl 0 rfl) ?_
          refine lv_if_eq (tgt := 90) hx hb dX12_letter_74 (by decide) (fun c601 => ?_) (fun c601 => absurd (by decide) c601)
          have hme : zMe (zPl cd pN n (zLcN xl) (zMnN xl) l0 (zN xl.2.2.2.1)) (zFM (zOk cd pN n (zLcN xl) (zMnN xl) l0 (zN xl.2.2.2.1)) n cd l0) (zLcN xl) (zLcN xl) 0 1 := Or.inl ⟨hpl, rfl, rfl, rfl⟩
          refine lv_aload_n hx hb dX12_letter_90 rfl (lv_at hl 2 rfl) ?_
          refine va_calli (va_runV (As := []) (rest := []) ⟨hx, hb, hml, hown, hts⟩ (m_knownN l hl0 D A sad τ f586 fr ol hF n hMt td cd pN hPb l0 ((zLcN xl)) ((zMnN xl)) hLy) (cwV 0 hts gX12_letter_X12_known rfl rfl rfl (by decide +kernel) ⟨Nat.le_of_ble_eq_true rfl, Nat.le_of_ble_eq_true rfl⟩) ⟨zQc_bl, zRecv hH (zk_30 hF) rfl, zQc_at hz hS hA hH⟩ rfl rfl hl.1 rfl (lv_room (Nat.le_of_ble_eq_true rfl)) dX12_letter_91 ⟨Nat.le_of_ble_eq_true rfl, Nat.le_of_ble_eq_true rfl⟩) hS (fun q _ h => h) (fun q h => h) (fun r602 u9 t9 H1 locs ht9 hvm9 hw hB hz1 hk1 hS => ?_)
          have hH := zMv ht9 hvm9 hB
          generalize H1 = H at hH hS ⊢
          obtain rfl := hw
          refine lv_istore_n (lv' := [(3, .int (nI (zCn (fun j => zPo cd pN n ((zLcN xl) j)) l0))), (2, .int (nI 0)), (1, .int (nI 1)), (0, .ref (τ.1 30))]) hx hb dX12_letter_94 rfl hl (by decide) rfl (fun ls hl => ?_)
          refine lv_iload_n hx hb dX12_letter_95 rfl (lv_at hl 2 rfl) ?_
          refine lv_if_ne (tgt := 103) hx hb dX12_letter_96 (by decide) (fun c603 => ?_) (fun c603 => absurd c603 (by decide))
          refine lv_aload_n hx hb dX12_letter_103 rfl (lv_at hl 3 rfl) ?_
          refine zGetI (D := D) (ci := 12) (C := RX12) (T := TX12) (N := 71) hx hb hts hiX12 hown hH (zk_30 hF) rfl 30 (by decide) rfl hw12 (fun _ h9 => h9) dX12_letter_104 q597 ?_
          refine lv_aload_n hx hb dX12_letter_107 rfl (lv_at hl 3 rfl) ?_
          refine lv_aload_n hx hb dX12_letter_108 rfl (lv_at hl 3 rfl) ?_
          refine zGetI (D := D) (ci := 12) (C := RX12) (T := TX12) (N := 71) hx hb hts hiX12 hown hH (zk_30 hF) rfl 29 (by decide) rfl hw10 (fun _ h9 => h9) dX12_letter_109 q596 ?_
          refine va_calli (va_runV (As := [.int (nI ((zN xl.2.2.2.1)))]) (rest := [.int xl.2.2.2.2]) ⟨hx, hb, hml, hown, hts⟩ (m_dueN l hl0 D A sad τ f586 fr ol (nI ((zN xl.2.2.2.1))) hF) (cwV 1 hts gX12_letter_X12_due rfl rfl rfl (by decide +kernel) ⟨Nat.le_of_ble_eq_true rfl, Nat.le_of_ble_eq_true rfl⟩) ⟨zQc_bl, zRecv hH (zk_30 hF) rfl, zQc_at hz hS hA hH⟩ rfl rfl hl.1 rfl (lv_room (Nat.le_of_ble_eq_true rfl)) dX12_letter_112 ⟨Nat.le_of_ble_eq_true rfl, Nat.le_of_ble_eq_true rfl⟩) hS (fun q _ h => h) (fun q h => h) (fun r604 u9 t9 H1 locs ht9 hvm9 hw hB hz1 hk1 hS => ?_)
          have hH := zMv ht9 hvm9 hB
          generalize H1 = H at hH hS ⊢
          rw [show f586 44 = fi 44 from funext (fun k9 => by rw [ef586, zu_n (by omega), hf120 44 k9 (by omega), ef107, zu_n (by omega), hf21 44 k9 (by omega)])] at hw
          obtain rfl := hw
          refine lv_icmp_lt (tgt := 122) hx hb dX12_letter_115 (by decide) (fun c605 => ?_) (fun c605 => ?_)
          · have zc605 := c605
            replace zc605 := zc_lt (rfl) (rfl) zc605
            have hnp : ¬ (1 = 1 ∧ (zDue (fi 44) (nI (zN xl.2.2.2.1))).toInt ≤ xl.2.2.2.2.toInt) := fun h9 => by have h8 := h9.2; omega
            refine lv_iconst (v := nI 0) hx hb dX12_letter_122 (by decide) ?_
            refine lv_istore (lv' := [(4, .int (nI 0)), (3, .int (nI (zCn (fun j => zPo cd pN n ((zLcN xl) j)) l0))), (2, .int (nI 0)), (1, .int (nI 1)), (0, .ref (τ.1 30))]) hx hb dX12_letter_123 hl (by decide) rfl (fun ls hl => ?_)
            refine lv_iload hx hb dX12_letter_125 (lv_at hl 0 rfl) ?_
            refine lv_if_eq (tgt := 142) hx hb dX12_letter_127 (by decide) (fun c606 => ?_) (fun c606 => absurd (by decide) c606)
            refine lv_aload_n hx hb dX12_letter_142 rfl (lv_at hl 4 rfl) ?_
            refine zGetI (D := D) (ci := 12) (C := RX12) (T := TX12) (N := 71) hx hb hts hiX12 hown hH (zk_30 hF) rfl 36 (by decide) rfl hw13 (fun _ h9 => h9) dX12_letter_143 q589 ?_
            refine lv_bipush (v := nI 20) hx hb dX12_letter_146 (by decide) ?_
            refine lv_icmp_ne (tgt := 158) hx hb dX12_letter_148 (by decide) (fun c607 => ?_) (fun c607 => ?_)
            · have zc607 := c607
              replace zc607 := zc_neq (nI_toInt (by omega)) (nI_toInt (by omega)) zc607
              refine lv_iload hx hb dX12_letter_158 (lv_at hl 0 rfl) ?_
              refine lv_if_eq (tgt := 186) hx hb dX12_letter_160 (by decide) (fun c608 => ?_) (fun c608 => absurd (by decide) c608)
              exact hJ129 (f586, (zLcN xl), 0, 1) _ _ _ (show (zMl f586 l0 ∧ f586 30 21 = nI 0 ∧ f586 30 24 = (zFv (zLet (fi 47) L (zS (fi 47) L 0))) ∧ zMo f586 n o ∧ zMq τ f586 fr g Ln d ∧ (f586 30 0 = nI 0 ∧ f586 30 29 = nI (zN xl.2.2.2.1) ∧ f586 30 30 = xl.2.2.2.2 ∧ f586 30 31 = nI 0 ∧ f586 30 36 = nI wq ∧ f586 30 45 = nI o ∧ zqLy f586 l0 ((zLcN xl)) (zMnN xl)) ∧ zMe (zPl cd pN n (zLcN xl) (zMnN xl) l0 (zN xl.2.2.2.1)) (zFM (zOk cd pN n (zLcN xl) (zMnN xl) l0 (zN xl.2.2.2.1)) n cd l0) (zLcN xl) ((zLcN xl)) 0 1 ∧ ¬ (1 = 1 ∧ (zDue (fi 44) (nI (zN xl.2.2.2.1))).toInt ≤ xl.2.2.2.2.toInt) ∧ ¬ wq = 20 ∧ ∀ a b, ¬ (a = 48 ∨ a = 49 ∨ (a = 30 ∧ (b = 0 ∨ (21 ≤ b ∧ b ≤ 34)))) → f586 a b = fi a b) ∧ zH D A τ f586 fr ol s _ ∧ va_S A s.heap _ _ ∧ lv_has _ 6 [(0, .ref (τ.1 30)), (3, .int (nI (zCn (fun j => zPo cd pN n (((zLcN xl)) j)) l0)))] from ⟨⟨hMl, q591, q595, hMo, hMq, ⟨q593, q596, q597, q598, q589, q587, hLy⟩, hme, hnp, by omega, fun a b h => by rw [ef586, zu_n (by omega), hf120 a b (by omega), ef107, zu_n (by omega), hf21 a b (by omega)]⟩, hH, hS, lv_sub hl [4, 1] rfl⟩)
            · have zc607 := c607
              replace zc607 := zc_eq (nI_toInt (by omega)) (nI_toInt (by omega)) zc607
              refine lv_aload_n hx hb dX12_letter_151 rfl (lv_at hl 4 rfl) ?_
              refine lv_iconst (v := nI 2) hx hb dX12_letter_152 (by decide) ?_
              refine zPutI (D := D) (ci := 12) (ty := .int) (C := RX12) (T := TX12) (N := 71) hx hb hts hiX12 tyX12 tyX12_ok nmX12 hown hH hS (zk_30 hF) rfl 0 (by decide) rfl hw0 (fun _ h9 => h9) rfl (by decide +kernel) rfl rfl dX12_letter_153 (fun H locs hH hS => ?_)
              obtain ⟨f609, ef609⟩ : ∃ f9 : zFi, f9 = zu f586 30 0 (nI 2) := ⟨_, rfl⟩
              rw [← ef609] at hH
              have q610 : f609 30 45 = nI o := by rw [ef609, zu_n (fun h9 => absurd h9.2 (by decide))]; exact q587
              have q611 : f609 30 35 = nI d := by rw [ef609, zu_n (fun h9 => absurd h9.2 (by decide))]; exact q588
              have q612 : f609 30 36 = nI wq := by rw [ef609, zu_n (fun h9 => absurd h9.2 (by decide))]; exact q589
              have q613 : f609 30 2 = nI n := by rw [ef609, zu_n (fun h9 => absurd h9.2 (by decide))]; exact q590
              have q614 : f609 30 21 = nI 0 := by rw [ef609, zu_n (fun h9 => absurd h9.2 (by decide))]; exact q591
              have q615 : f609 30 22 = nI L := by rw [ef609, zu_n (fun h9 => absurd h9.2 (by decide))]; exact q592
              have q616 : f609 30 26 = nI l0 := by rw [ef609, zu_n (fun h9 => absurd h9.2 (by decide))]; exact q594
              have q617 : f609 30 24 = (zFv (zLet (fi 47) L (zS (fi 47) L 0))) := by rw [ef609, zu_n (fun h9 => absurd h9.2 (by decide))]; exact q595
              have q618 : f609 30 29 = nI ((zN xl.2.2.2.1)) := by rw [ef609, zu_n (fun h9 => absurd h9.2 (by decide))]; exact q596
              have q619 : f609 30 30 = xl.2.2.2.2 := by rw [ef609, zu_n (fun h9 => absurd h9.2 (by decide))]; exact q597
              have q620 : f609 30 31 = nI 0 := by rw [ef609, zu_n (fun h9 => absurd h9.2 (by decide))]; exact q598
              have q621 : f609 30 0 = nI 2 := by rw [ef609]; exact zu_s
              have hMt := zMt.ci (fi' := f609) hMt (fun i9 k9 h9 => by rw [ef609]; exact zu_n (by omega))
              have hMo := zMo.ci (fi' := f609) hMo (fun i9 k9 h9 => by rw [ef609]; exact zu_n (by omega))
              have hMq := zMq.ci (fi' := f609) hMq (fun i9 k9 h9 => by rw [ef609]; exact zu_n (by omega))
              have hPb := zqPb.cg (fi' := f609) hPb (fun i9 k9 h9 => by rw [ef609]; exact zu_n (by omega))
              have hMl := zMl.ci (fi' := f609) hMl (fun i9 k9 h9 => by rw [ef609]; exact zu_n (by omega))
              have hLy := zqLy.cg (fi' := f609) hLy (fun i9 k9 h9 => by rw [ef609]; exact zu_n (by omega))
              refine lv_iconst (v := nI 0) hx hb dX12_letter_156 (by decide) ?_
              refine W.widen (k := 8) (n := 11264) (by decide) (by decide) ?_
              exact W.iret (v := nI 0) hx hb hr (fun t9 ht9 hW9 => ⟨⟨nI 0, (τ, f609, fr), rfl, (show ((∃ o2, o ≤ o2 ∧ o2 ≤ o + 1 ∧ zMo f609 n o2) ∧ (∃ g2 L2 d2, d2 ≤ d + 1 ∧ zMq τ f609 fr g2 L2 d2) ∧ f609 30 21 = nI 0 ∧ zGz τ fr τ fr ∧ ∀ a b, ¬ (a = 48 ∨ a = 49 ∨ (50 ≤ a ∧ a ≤ 64) ∨ (200 ≤ a ∧ a < 240) ∨ (a = 30 ∧ (b = 0 ∨ (21 ≤ b ∧ b ≤ 36) ∨ b = 45))) → f609 a b = fi a b) ∧ f609 30 24 = (zFv (zLet (fi 47) L (zS (fi 47) L 0))) ∧ (((∃ p, zLet (fi 47) L (zS (fi 47) L 0) = .error p) ∧ f609 30 0 = nI 1 ∧ f609 30 45 = nI o ∧ τ = τ ∧ fr = fr ∧ f609 30 35 = nI d ∧ f609 30 36 = nI wq ∧ ∀ a b, 200 ≤ a → a < 240 → f609 a b = fi a b) ∨ ((∃ xl lc2 m2 b2, zLet (fi 47) L (zS (fi 47) L 0) = .ok xl ∧ zLm2 cd pN n xl lc2 m2 b2 ∧ (((b2 = 1 ∧ (zDue (fi 44) (nI (zN xl.2.2.2.1))).toInt ≤ xl.2.2.2.2.toInt) ∧ o = 60) ∨ (¬ (b2 = 1 ∧ (zDue (fi 44) (nI (zN xl.2.2.2.1))).toInt ≤ xl.2.2.2.2.toInt) ∧ wq = 20))) ∧ f609 30 0 = nI 2 ∧ f609 30 45 = nI o ∧ τ = τ ∧ fr = fr ∧ f609 30 35 = nI d ∧ f609 30 36 = nI wq ∧ ∀ a b, 200 ≤ a → a < 240 → f609 a b = fi a b) ∨ ((∃ xl lc2 m2 b2, zLet (fi 47) L (zS (fi 47) L 0) = .ok xl ∧ zLm2 cd pN n xl lc2 m2 b2 ∧ b2 = 1 ∧ (zDue (fi 44) (nI (zN xl.2.2.2.1))).toInt ≤ xl.2.2.2.2.toInt) ∧ o < 60 ∧ (nI 0) = nI o ∧ f609 30 0 = nI 0 ∧ f609 30 45 = nI (o + 1) ∧ τ = τ ∧ fr = fr ∧ f609 30 35 = nI d ∧ f609 30 36 = nI wq ∧ ∀ a b, 200 ≤ a → a < 240 → f609 a b = fi a b) ∨ ((∃ xl lc2 m2 b2, zLet (fi 47) L (zS (fi 47) L 0) = .ok xl ∧ zLm2 cd pN n xl lc2 m2 b2 ∧ ¬ (b2 = 1 ∧ (zDue (fi 44) (nI (zN xl.2.2.2.1))).toInt ≤ xl.2.2.2.2.toInt) ∧ ∃ g2 L2, zMq τ f609 fr g2 L2 (d + 1) ∧ (∀ j, j < 8 → ∀ k, k < (if j < 6 then d else 8 * d) → f609 (200 + j + 10 * g2) k = fi (200 + j + 10 * g) k) ∧ f609 30 36 = nI (wq + 1) ∧ f609 (200 + 10 * g2) d = nI 1 ∧ f609 (201 + 10 * g2) d = nI m2 ∧ f609 (202 + 10 * g2) d = nI xl.1 ∧ f609 (203 + 10 * g2) d = nI (zCn (fun j => zPo cd pN n (lc2 j)) xl.1) ∧ f609 (204 + 10 * g2) d = nI (zN xl.2.2.2.1) ∧ f609 (205 + 10 * g2) d = xl.2.2.2.2 ∧ ∀ j, j < xl.1 → f609 (206 + 10 * g2) (8 * d + j) = nI (lc2 j) ∧ f609 (207 + 10 * g2) (8 * d + j) = nI (zMnN xl j)) ∧ ¬ wq = 20 ∧ (nI 0) = -1 - nI (d + 1) ∧ f609 30 0 = nI 0 ∧ f609 30 45 = nI o)) from ⟨⟨⟨o, by omega, by omega, hMo⟩, ⟨g, Ln, d, by omega, hMq⟩, q614, zGz.rf hF, fun a b h => by rw [ef609, zu_n (by omega), ef586, zu_n (by omega), hf120 a b (by omega), ef107, zu_n (by omega), hf21 a b (by omega)]⟩, q617, Or.inr (Or.inl ⟨⟨xl, (zLcN xl), 0, 1, hle, by unfold zLm2; rw [← hl0e]; exact hme, Or.inr ⟨hnp, by omega⟩⟩, q621, hMo.2.1, ⟨rfl, rfl, q611, q612, fun a b h1 h2 => by rw [ef609, zu_n (by omega), ef586, zu_n (by omega), hf120 a b (by omega), ef107, zu_n (by omega), hf21 a b (by omega)]⟩⟩)⟩), zEnd1 hH ht9 hW9⟩, hS.F ht9⟩) hS.2.2 dX12_letter_157
          · have zc605 := c605
            replace zc605 := zc_nlt (rfl) (rfl) zc605
            have hpd : 1 = 1 ∧ (zDue (fi 44) (nI (zN xl.2.2.2.1))).toInt ≤ xl.2.2.2.2.toInt := ⟨rfl, by omega⟩
            refine lv_iconst (v := nI 1) hx hb dX12_letter_118 (by decide) ?_
            refine lv_goto (tgt := 123) hx hb dX12_letter_119 (by decide) ?_
            refine lv_istore (lv' := [(4, .int (nI 1)), (3, .int (nI (zCn (fun j => zPo cd pN n ((zLcN xl) j)) l0))), (2, .int (nI 0)), (1, .int (nI 1)), (0, .ref (τ.1 30))]) hx hb dX12_letter_123 hl (by decide) rfl (fun ls hl => ?_)
            refine lv_iload hx hb dX12_letter_125 (lv_at hl 0 rfl) ?_
            refine lv_if_eq (tgt := 142) hx hb dX12_letter_127 (by decide) (fun c622 => absurd c622 (by decide)) (fun c622 => ?_)
            refine lv_aload_n hx hb dX12_letter_130 rfl (lv_at hl 4 rfl) ?_
            refine zGetI (D := D) (ci := 12) (C := RX12) (T := TX12) (N := 71) hx hb hts hiX12 hown hH (zk_30 hF) rfl 45 (by decide) rfl hw20 (fun _ h9 => h9) dX12_letter_131 q587 ?_
            refine lv_bipush (v := nI 60) hx hb dX12_letter_134 (by decide) ?_
            refine lv_icmp_ne (tgt := 158) hx hb dX12_letter_136 (by decide) (fun c623 => ?_) (fun c623 => ?_)
            · have zc623 := c623
              replace zc623 := zc_neq (nI_toInt (by omega)) (nI_toInt (by omega)) zc623
              refine lv_iload hx hb dX12_letter_158 (lv_at hl 0 rfl) ?_
              refine lv_if_eq (tgt := 186) hx hb dX12_letter_160 (by decide) (fun c624 => absurd c624 (by decide)) (fun c624 => ?_)
              refine lv_aload_n hx hb dX12_letter_163 rfl (lv_at hl 4 rfl) ?_
              refine lv_dup hx hb dX12_letter_164 rfl ?_
              refine zGetI (D := D) (ci := 12) (C := RX12) (T := TX12) (N := 71) hx hb hts hiX12 hown hH (zk_30 hF) rfl 34 (by decide) rfl hw21 (fun _ h9 => h9) dX12_letter_165 rfl ?_
              refine lv_iload_n hx hb dX12_letter_168 rfl (lv_at hl 2 rfl) ?_
              refine lv_if_eq (tgt := 176) hx hb dX12_letter_169 (by decide) (fun c625 => ?_) (fun c625 => absurd (by decide) c625)
              refine lv_iconst (v := nI 0) hx hb dX12_letter_176 (by decide) ?_
              refine lv_iadd hx hb dX12_letter_177 ?_
              refine lv_topi (fun v626 ev626 => ?_)
              refine zPutI (D := D) (ci := 12) (ty := .int) (C := RX12) (T := TX12) (N := 71) hx hb hts hiX12 tyX12 tyX12_ok nmX12 hown hH hS (zk_30 hF) rfl 34 (by decide) rfl hw21 (fun _ h9 => h9) rfl (by decide +kernel) rfl rfl dX12_letter_178 (fun H locs hH hS => ?_)
              obtain ⟨f627, ef627⟩ : ∃ f9 : zFi, f9 = zu f586 30 34 v626 := ⟨_, rfl⟩
              rw [← ef627] at hH
              have q628 : f627 30 45 = nI o := by rw [ef627, zu_n (fun h9 => absurd h9.2 (by decide))]; exact q587
              have q629 : f627 30 35 = nI d := by rw [ef627, zu_n (fun h9 => absurd h9.2 (by decide))]; exact q588
              have q630 : f627 30 36 = nI wq := by rw [ef627, zu_n (fun h9 => absurd h9.2 (by decide))]; exact q589
              have q631 : f627 30 2 = nI n := by rw [ef627, zu_n (fun h9 => absurd h9.2 (by decide))]; exact q590
              have q632 : f627 30 21 = nI 0 := by rw [ef627, zu_n (fun h9 => absurd h9.2 (by decide))]; exact q591
              have q633 : f627 30 22 = nI L := by rw [ef627, zu_n (fun h9 => absurd h9.2 (by decide))]; exact q592
              have q634 : f627 30 0 = nI 0 := by rw [ef627, zu_n (fun h9 => absurd h9.2 (by decide))]; exact q593
              have q635 : f627 30 26 = nI l0 := by rw [ef627, zu_n (fun h9 => absurd h9.2 (by decide))]; exact q594
              have q636 : f627 30 24 = (zFv (zLet (fi 47) L (zS (fi 47) L 0))) := by rw [ef627, zu_n (fun h9 => absurd h9.2 (by decide))]; exact q595
              have q637 : f627 30 29 = nI ((zN xl.2.2.2.1)) := by rw [ef627, zu_n (fun h9 => absurd h9.2 (by decide))]; exact q596
              have q638 : f627 30 30 = xl.2.2.2.2 := by rw [ef627, zu_n (fun h9 => absurd h9.2 (by decide))]; exact q597
              have q639 : f627 30 31 = nI 0 := by rw [ef627, zu_n (fun h9 => absurd h9.2 (by decide))]; exact q598
              have q640 : f627 30 34 = v626 := by rw [ef627]; exact zu_s
              have hMt := zMt.ci (fi' := f627) hMt (fun i9 k9 h9 => by rw [ef627]; exact zu_n (by omega))
              have hMo := zMo.ci (fi' := f627) hMo (fun i9 k9 h9 => by rw [ef627]; exact zu_n (by omega))
              have hMq := zMq.ci (fi' := f627) hMq (fun i9 k9 h9 => by rw [ef627]; exact zu_n (by omega))
              have hPb := zqPb.cg (fi' := f627) hPb (fun i9 k9 h9 => by rw [ef627]; exact zu_n (by omega))
              have hMl := zMl.ci (fi' := f627) hMl (fun i9 k9 h9 => by rw [ef627]; exact zu_n (by omega))
              have hLy := zqLy.cg (fi' := f627) hLy (fun i9 k9 h9 => by rw [ef627]; exact zu_n (by omega))
              refine lv_aload_n hx hb dX12_letter_181 rfl (lv_at hl 4 rfl) ?_
              refine va_calli (va_runV (As := []) (rest := []) ⟨hx, hb, hml, hown, hts⟩ (m_makeOrder l hl0 D A sad τ f627 fr ol hF n hMt l0 hMl o hMo (by omega)) (cwV 0 hts gX12_letter_X12_makeOrder rfl rfl rfl (by decide +kernel) ⟨Nat.le_of_ble_eq_true rfl, Nat.le_of_ble_eq_true rfl⟩) ⟨zQc_bl, zRecv hH (zk_30 hF) rfl, zQc_at hz hS hA hH⟩ rfl rfl hl.1 rfl (lv_room (Nat.le_of_ble_eq_true rfl)) dX12_letter_182 ⟨Nat.le_of_ble_eq_true rfl, Nat.le_of_ble_eq_true rfl⟩) hS (fun q _ h => h) (fun q h => h) (fun r641 u9 t9 H1 locs ht9 hvm9 hw hB hz1 hk1 hS => ?_)
              have hH := zMv ht9 hvm9 hB
              clear hB
              generalize u9 = f642 at hw hH
              generalize H1 = H at hH hS ⊢
              obtain ⟨rfl, hMo, hf643⟩ := hw
              have q644 : f642 30 35 = nI d := by rw [hf643 30 35 (by omega)]; exact q629
              have q645 : f642 30 36 = nI wq := by rw [hf643 30 36 (by omega)]; exact q630
              have q646 : f642 30 2 = nI n := by rw [hf643 30 2 (by omega)]; exact q631
              have q647 : f642 30 21 = nI 0 := by rw [hf643 30 21 (by omega)]; exact q632
              have q648 : f642 30 22 = nI L := by rw [hf643 30 22 (by omega)]; exact q633
              have q649 : f642 30 0 = nI 0 := by rw [hf643 30 0 (by omega)]; exact q634
              have q650 : f642 30 26 = nI l0 := by rw [hf643 30 26 (by omega)]; exact q635
              have q651 : f642 30 24 = (zFv (zLet (fi 47) L (zS (fi 47) L 0))) := by rw [hf643 30 24 (by omega)]; exact q636
              have q652 : f642 30 29 = nI ((zN xl.2.2.2.1)) := by rw [hf643 30 29 (by omega)]; exact q637
              have q653 : f642 30 30 = xl.2.2.2.2 := by rw [hf643 30 30 (by omega)]; exact q638
              have q654 : f642 30 31 = nI 0 := by rw [hf643 30 31 (by omega)]; exact q639
              have q655 : f642 30 34 = v626 := by rw [hf643 30 34 (by omega)]; exact q640
              have hMt := zMt.ci (fi' := f642) hMt (fun i9 k9 h9 => hf643 i9 k9 (by omega))
              have hMq := zMq.ci (fi' := f642) hMq (fun i9 k9 h9 => hf643 i9 k9 (by omega))
              have hPb := zqPb.cg (fi' := f642) hPb (fun i9 k9 h9 => hf643 i9 k9 (by omega))
              have hMl := zMl.ci (fi' := f642) hMl (fun i9 k9 h9 => hf643 i9 k9 (by omega))
              have hLy := zqLy.cg (fi' := f642) hLy (fun i9 k9 h9 => hf643 i9 k9 (by omega))
              refine W.widen (k := 8) (n := 11264) (by decide) (by decide) ?_
              exact W.iret (v := nI o) hx hb hr (fun t9 ht9 hW9 => ⟨⟨nI o, (τ, f642, fr), rfl, (show ((∃ o2, o ≤ o2 ∧ o2 ≤ o + 1 ∧ zMo f642 n o2) ∧ (∃ g2 L2 d2, d2 ≤ d + 1 ∧ zMq τ f642 fr g2 L2 d2) ∧ f642 30 21 = nI 0 ∧ zGz τ fr τ fr ∧ ∀ a b, ¬ (a = 48 ∨ a = 49 ∨ (50 ≤ a ∧ a ≤ 64) ∨ (200 ≤ a ∧ a < 240) ∨ (a = 30 ∧ (b = 0 ∨ (21 ≤ b ∧ b ≤ 36) ∨ b = 45))) → f642 a b = fi a b) ∧ f642 30 24 = (zFv (zLet (fi 47) L (zS (fi 47) L 0))) ∧ (((∃ p, zLet (fi 47) L (zS (fi 47) L 0) = .error p) ∧ f642 30 0 = nI 1 ∧ f642 30 45 = nI o ∧ τ = τ ∧ fr = fr ∧ f642 30 35 = nI d ∧ f642 30 36 = nI wq ∧ ∀ a b, 200 ≤ a → a < 240 → f642 a b = fi a b) ∨ ((∃ xl lc2 m2 b2, zLet (fi 47) L (zS (fi 47) L 0) = .ok xl ∧ zLm2 cd pN n xl lc2 m2 b2 ∧ (((b2 = 1 ∧ (zDue (fi 44) (nI (zN xl.2.2.2.1))).toInt ≤ xl.2.2.2.2.toInt) ∧ o = 60) ∨ (¬ (b2 = 1 ∧ (zDue (fi 44) (nI (zN xl.2.2.2.1))).toInt ≤ xl.2.2.2.2.toInt) ∧ wq = 20))) ∧ f642 30 0 = nI 2 ∧ f642 30 45 = nI o ∧ τ = τ ∧ fr = fr ∧ f642 30 35 = nI d ∧ f642 30 36 = nI wq ∧ ∀ a b, 200 ≤ a → a < 240 → f642 a b = fi a b) ∨ ((∃ xl lc2 m2 b2, zLet (fi 47) L (zS (fi 47) L 0) = .ok xl ∧ zLm2 cd pN n xl lc2 m2 b2 ∧ b2 = 1 ∧ (zDue (fi 44) (nI (zN xl.2.2.2.1))).toInt ≤ xl.2.2.2.2.toInt) ∧ o < 60 ∧ (nI o) = nI o ∧ f642 30 0 = nI 0 ∧ f642 30 45 = nI (o + 1) ∧ τ = τ ∧ fr = fr ∧ f642 30 35 = nI d ∧ f642 30 36 = nI wq ∧ ∀ a b, 200 ≤ a → a < 240 → f642 a b = fi a b) ∨ ((∃ xl lc2 m2 b2, zLet (fi 47) L (zS (fi 47) L 0) = .ok xl ∧ zLm2 cd pN n xl lc2 m2 b2 ∧ ¬ (b2 = 1 ∧ (zDue (fi 44) (nI (zN xl.2.2.2.1))).toInt ≤ xl.2.2.2.2.toInt) ∧ ∃ g2 L2, zMq τ f642 fr g2 L2 (d + 1) ∧ (∀ j, j < 8 → ∀ k, k < (if j < 6 then d else 8 * d) → f642 (200 + j + 10 * g2) k = fi (200 + j + 10 * g) k) ∧ f642 30 36 = nI (wq + 1) ∧ f642 (200 + 10 * g2) d = nI 1 ∧ f642 (201 + 10 * g2) d = nI m2 ∧ f642 (202 + 10 * g2) d = nI xl.1 ∧ f642 (203 + 10 * g2) d = nI (zCn (fun j => zPo cd pN n (lc2 j)) xl.1) ∧ f642 (204 + 10 * g2) d = nI (zN xl.2.2.2.1) ∧ f642 (205 + 10 * g2) d = xl.2.2.2.2 ∧ ∀ j, j < xl.1 → f642 (206 + 10 * g2) (8 * d + j) = nI (lc2 j) ∧ f642 (207 + 10 * g2) (8 * d + j) = nI (zMnN xl j)) ∧ ¬ wq = 20 ∧ (nI o) = -1 - nI (d + 1) ∧ f642 30 0 = nI 0 ∧ f642 30 45 = nI o)) from ⟨⟨⟨o + 1, by omega, by omega, hMo⟩, ⟨g, Ln, d, by omega, hMq⟩, q647, zGz.rf hF, fun a b h => by rw [hf643 a b (by omega), ef627, zu_n (by omega), ef586, zu_n (by omega), hf120 a b (by omega), ef107, zu_n (by omega), hf21 a b (by omega)]⟩, q651, Or.inr (Or.inr (Or.inl ⟨⟨xl, (zLcN xl), 0, 1, hle, by unfold zLm2; rw [← hl0e]; exact hme, hpd⟩, by omega, rfl, q649, hMo.2.1, ⟨rfl, rfl, q644, q645, fun a b h1 h2 => by rw [hf643 a b (by omega), ef627, zu_n (by omega), ef586, zu_n (by omega), hf120 a b (by omega), ef107, zu_n (by omega), hf21 a b (by omega)]⟩⟩))⟩), zEnd1 hH ht9 hW9⟩, hS.F ht9⟩) hS.2.2 dX12_letter_185
            · have zc623 := c623
              replace zc623 := zc_eq (nI_toInt (by omega)) (nI_toInt (by omega)) zc623
              refine lv_goto (tgt := 151) hx hb dX12_letter_139 (by decide) ?_
              refine lv_aload_n hx hb dX12_letter_151 rfl (lv_at hl 4 rfl) ?_
              refine lv_iconst (v := nI 2) hx hb dX12_letter_152 (by decide) ?_
              refine zPutI (D := D) (ci := 12) (ty := .int) (C := RX12) (T := TX12) (N := 71) hx hb hts hiX12 tyX12 tyX12_ok nmX12 hown hH hS (zk_30 hF) rfl 0 (by decide) rfl hw0 (fun _ h9 => h9) rfl (by decide +kernel) rfl rfl dX12_letter_153 (fun H locs hH hS => ?_)
              obtain ⟨f656, ef656⟩ : ∃ f9 : zFi, f9 = zu f586 30 0 (nI 2) := ⟨_, rfl⟩
              rw [← ef656] at hH
              have q657 : f656 30 45 = nI o := by rw [ef656, zu_n (fun h9 => absurd h9.2 (by decide))]; exact q587
              have q658 : f656 30 35 = nI d := by rw [ef656, zu_n (fun h9 => absurd h9.2 (by decide))]; exact q588
              have q659 : f656 30 36 = nI wq := by rw [ef656, zu_n (fun h9 => absurd h9.2 (by decide))]; exact q589
              have q660 : f656 30 2 = nI n := by rw [ef656, zu_n (fun h9 => absurd h9.2 (by decide))]; exact q590
              have q661 : f656 30 21 = nI 0 := by rw [ef656, zu_n (fun h9 => absurd h9.2 (by decide))]; exact q591
              have q662 : f656 30 22 = nI L := by rw [ef656, zu_n (fun h9 => absurd h9.2 (by decide))]; exact q592
              have q663 : f656 30 26 = nI l0 := by rw [ef656, zu_n (fun h9 => absurd h9.2 (by decide))]; exact q594
              have q664 : f656 30 24 = (zFv (zLet (fi 47) L (zS (fi 47) L 0))) := by rw [ef656, zu_n (fun h9 => absurd h9.2 (by decide))]; exact q595
              have q665 : f656 30 29 = nI ((zN xl.2.2.2.1)) := by rw [ef656, zu_n (fun h9 => absurd h9.2 (by decide))]; exact q596
              have q666 : f656 30 30 = xl.2.2.2.2 := by rw [ef656, zu_n (fun h9 => absurd h9.2 (by decide))]; exact q597
              have q667 : f656 30 31 = nI 0 := by rw [ef656, zu_n (fun h9 => absurd h9.2 (by decide))]; exact q598
              have q668 : f656 30 0 = nI 2 := by rw [ef656]; exact zu_s
              have hMt := zMt.ci (fi' := f656) hMt (fun i9 k9 h9 => by rw [ef656]; exact zu_n (by omega))
              have hMo := zMo.ci (fi' := f656) hMo (fun i9 k9 h9 => by rw [ef656]; exact zu_n (by omega))
              have hMq := zMq.ci (fi' := f656) hMq (fun i9 k9 h9 => by rw [ef656]; exact zu_n (by omega))
              have hPb := zqPb.cg (fi' := f656) hPb (fun i9 k9 h9 => by rw [ef656]; exact zu_n (by omega))
              have hMl := zMl.ci (fi' := f656) hMl (fun i9 k9 h9 => by rw [ef656]; exact zu_n (by omega))
              have hLy := zqLy.cg (fi' := f656) hLy (fun i9 k9 h9 => by rw [ef656]; exact zu_n (by omega))
              refine lv_iconst (v := nI 0) hx hb dX12_letter_156 (by decide) ?_
              refine W.widen (k := 8) (n := 11264) (by decide) (by decide) ?_
              exact W.iret (v := nI 0) hx hb hr (fun t9 ht9 hW9 => ⟨⟨nI 0, (τ, f656, fr), rfl, (show ((∃ o2, o ≤ o2 ∧ o2 ≤ o + 1 ∧ zMo f656 n o2) ∧ (∃ g2 L2 d2, d2 ≤ d + 1 ∧ zMq τ f656 fr g2 L2 d2) ∧ f656 30 21 = nI 0 ∧ zGz τ fr τ fr ∧ ∀ a b, ¬ (a = 48 ∨ a = 49 ∨ (50 ≤ a ∧ a ≤ 64) ∨ (200 ≤ a ∧ a < 240) ∨ (a = 30 ∧ (b = 0 ∨ (21 ≤ b ∧ b ≤ 36) ∨ b = 45))) → f656 a b = fi a b) ∧ f656 30 24 = (zFv (zLet (fi 47) L (zS (fi 47) L 0))) ∧ (((∃ p, zLet (fi 47) L (zS (fi 47) L 0) = .error p) ∧ f656 30 0 = nI 1 ∧ f656 30 45 = nI o ∧ τ = τ ∧ fr = fr ∧ f656 30 35 = nI d ∧ f656 30 36 = nI wq ∧ ∀ a b, 200 ≤ a → a < 240 → f656 a b = fi a b) ∨ ((∃ xl lc2 m2 b2, zLet (fi 47) L (zS (fi 47) L 0) = .ok xl ∧ zLm2 cd pN n xl lc2 m2 b2 ∧ (((b2 = 1 ∧ (zDue (fi 44) (nI (zN xl.2.2.2.1))).toInt ≤ xl.2.2.2.2.toInt) ∧ o = 60) ∨ (¬ (b2 = 1 ∧ (zDue (fi 44) (nI (zN xl.2.2.2.1))).toInt ≤ xl.2.2.2.2.toInt) ∧ wq = 20))) ∧ f656 30 0 = nI 2 ∧ f656 30 45 = nI o ∧ τ = τ ∧ fr = fr ∧ f656 30 35 = nI d ∧ f656 30 36 = nI wq ∧ ∀ a b, 200 ≤ a → a < 240 → f656 a b = fi a b) ∨ ((∃ xl lc2 m2 b2, zLet (fi 47) L (zS (fi 47) L 0) = .ok xl ∧ zLm2 cd pN n xl lc2 m2 b2 ∧ b2 = 1 ∧ (zDue (fi 44) (nI (zN xl.2.2.2.1))).toInt ≤ xl.2.2.2.2.toInt) ∧ o < 60 ∧ (nI 0) = nI o ∧ f656 30 0 = nI 0 ∧ f656 30 45 = nI (o + 1) ∧ τ = τ ∧ fr = fr ∧ f656 30 35 = nI d ∧ f656 30 36 = nI wq ∧ ∀ a b, 200 ≤ a → a < 240 → f656 a b = fi a b) ∨ ((∃ xl lc2 m2 b2, zLet (fi 47) L (zS (fi 47) L 0) = .ok xl ∧ zLm2 cd pN n xl lc2 m2 b2 ∧ ¬ (b2 = 1 ∧ (zDue (fi 44) (nI (zN xl.2.2.2.1))).toInt ≤ xl.2.2.2.2.toInt) ∧ ∃ g2 L2, zMq τ f656 fr g2 L2 (d + 1) ∧ (∀ j, j < 8 → ∀ k, k < (if j < 6 then d else 8 * d) → f656 (200 + j + 10 * g2) k = fi (200 + j + 10 * g) k) ∧ f656 30 36 = nI (wq + 1) ∧ f656 (200 + 10 * g2) d = nI 1 ∧ f656 (201 + 10 * g2) d = nI m2 ∧ f656 (202 + 10 * g2) d = nI xl.1 ∧ f656 (203 + 10 * g2) d = nI (zCn (fun j => zPo cd pN n (lc2 j)) xl.1) ∧ f656 (204 + 10 * g2) d = nI (zN xl.2.2.2.1) ∧ f656 (205 + 10 * g2) d = xl.2.2.2.2 ∧ ∀ j, j < xl.1 → f656 (206 + 10 * g2) (8 * d + j) = nI (lc2 j) ∧ f656 (207 + 10 * g2) (8 * d + j) = nI (zMnN xl j)) ∧ ¬ wq = 20 ∧ (nI 0) = -1 - nI (d + 1) ∧ f656 30 0 = nI 0 ∧ f656 30 45 = nI o)) from ⟨⟨⟨o, by omega, by omega, hMo⟩, ⟨g, Ln, d, by omega, hMq⟩, q661, zGz.rf hF, fun a b h => by rw [ef656, zu_n (by omega), ef586, zu_n (by omega), hf120 a b (by omega), ef107, zu_n (by omega), hf21 a b (by omega)]⟩, q664, Or.inr (Or.inl ⟨⟨xl, (zLcN xl), 0, 1, hle, by unfold zLm2; rw [← hl0e]; exact hme, Or.inl ⟨hpd, by omega⟩⟩, q668, hMo.2.1, ⟨rfl, rfl, q658, q659, fun a b h1 h2 => by rw [ef656, zu_n (by omega), ef586, zu_n (by omega), hf120 a b (by omega), ef107, zu_n (by omega), hf21 a b (by omega)]⟩⟩)⟩), zEnd1 hH ht9 hW9⟩, hS.F ht9⟩) hS.2.2 dX12_letter_157
  · skip
    have k24 : f118 30 24 = (zFv (zLet (fi 47) L (zS (fi 47) L 0))) := h24.trans (by rw [hle]; rfl)
    refine lv_if_ne (tgt := 23) hx hb dX12_letter_13 (by decide) (fun c669 => absurd (by decide) c669) (fun c669 => ?_)
    refine lv_aload_n hx hb dX12_letter_16 rfl (lv_at hl 0 rfl) ?_
    refine lv_iconst (v := nI 1) hx hb dX12_letter_17 (by decide) ?_
    refine zPutI (D := D) (ci := 12) (ty := .int) (C := RX12) (T := TX12) (N := 71) hx hb hts hiX12 tyX12 tyX12_ok nmX12 hown hH hS (zk_30 hF) rfl 0 (by decide) rfl hw0 (fun _ h9 => h9) rfl (by decide +kernel) rfl rfl dX12_letter_18 (fun H locs hH hS => ?_)
    obtain ⟨f670, ef670⟩ : ∃ f9 : zFi, f9 = zu f118 30 0 (nI 1) := ⟨_, rfl⟩
    rw [← ef670] at hH
    have q671 : f670 30 45 = nI o := by rw [ef670, zu_n (fun h9 => absurd h9.2 (by decide))]; exact q121
    have q672 : f670 30 35 = nI d := by rw [ef670, zu_n (fun h9 => absurd h9.2 (by decide))]; exact q122
    have q673 : f670 30 36 = nI wq := by rw [ef670, zu_n (fun h9 => absurd h9.2 (by decide))]; exact q123
    have q674 : f670 30 2 = nI n := by rw [ef670, zu_n (fun h9 => absurd h9.2 (by decide))]; exact q124
    have q675 : f670 30 21 = nI 0 := by rw [ef670, zu_n (fun h9 => absurd h9.2 (by decide))]; exact q125
    have q676 : f670 30 22 = nI L := by rw [ef670, zu_n (fun h9 => absurd h9.2 (by decide))]; exact q126
    have q677 : f670 30 24 = (zFv (zLet (fi 47) L (zS (fi 47) L 0))) := by rw [ef670, zu_n (fun h9 => absurd h9.2 (by decide))]; exact k24
    have q678 : f670 30 0 = nI 1 := by rw [ef670]; exact zu_s
    have hMt := zMt.ci (fi' := f670) hMt (fun i9 k9 h9 => by rw [ef670]; exact zu_n (by omega))
    have hMo := zMo.ci (fi' := f670) hMo (fun i9 k9 h9 => by rw [ef670]; exact zu_n (by omega))
    have hMq := zMq.ci (fi' := f670) hMq (fun i9 k9 h9 => by rw [ef670]; exact zu_n (by omega))
    have hPb := zqPb.cg (fi' := f670) hPb (fun i9 k9 h9 => by rw [ef670]; exact zu_n (by omega))
    refine lv_iconst (v := nI 0) hx hb dX12_letter_21 (by decide) ?_
    refine W.widen (k := 8) (n := 11264) (by decide) (by decide) ?_
    exact W.iret (v := nI 0) hx hb hr (fun t9 ht9 hW9 => ⟨⟨nI 0, (τ, f670, fr), rfl, (show ((∃ o2, o ≤ o2 ∧ o2 ≤ o + 1 ∧ zMo f670 n o2) ∧ (∃ g2 L2 d2, d2 ≤ d + 1 ∧ zMq τ f670 fr g2 L2 d2) ∧ f670 30 21 = nI 0 ∧ zGz τ fr τ fr ∧ ∀ a b, ¬ (a = 48 ∨ a = 49 ∨ (50 ≤ a ∧ a ≤ 64) ∨ (200 ≤ a ∧ a < 240) ∨ (a = 30 ∧ (b = 0 ∨ (21 ≤ b ∧ b ≤ 36) ∨ b = 45))) → f670 a b = fi a b) ∧ f670 30 24 = (zFv (zLet (fi 47) L (zS (fi 47) L 0))) ∧ (((∃ p, zLet (fi 47) L (zS (fi 47) L 0) = .error p) ∧ f670 30 0 = nI 1 ∧ f670 30 45 = nI o ∧ τ = τ ∧ fr = fr ∧ f670 30 35 = nI d ∧ f670 30 36 = nI wq ∧ ∀ a b, 200 ≤ a → a < 240 → f670 a b = fi a b) ∨ ((∃ xl lc2 m2 b2, zLet (fi 47) L (zS (fi 47) L 0) = .ok xl ∧ zLm2 cd pN n xl lc2 m2 b2 ∧ (((b2 = 1 ∧ (zDue (fi 44) (nI (zN xl.2.2.2.1))).toInt ≤ xl.2.2.2.2.toInt) ∧ o = 60) ∨ (¬ (b2 = 1 ∧ (zDue (fi 44) (nI (zN xl.2.2.2.1))).toInt ≤ xl.2.2.2.2.toInt) ∧ wq = 20))) ∧ f670 30 0 = nI 2 ∧ f670 30 45 = nI o ∧ τ = τ ∧ fr = fr ∧ f670 30 35 = nI d ∧ f670 30 36 = nI wq ∧ ∀ a b, 200 ≤ a → a < 240 → f670 a b = fi a b) ∨ ((∃ xl lc2 m2 b2, zLet (fi 47) L (zS (fi 47) L 0) = .ok xl ∧ zLm2 cd pN n xl lc2 m2 b2 ∧ b2 = 1 ∧ (zDue (fi 44) (nI (zN xl.2.2.2.1))).toInt ≤ xl.2.2.2.2.toInt) ∧ o < 60 ∧ (nI 0) = nI o ∧ f670 30 0 = nI 0 ∧ f670 30 45 = nI (o + 1) ∧ τ = τ ∧ fr = fr ∧ f670 30 35 = nI d ∧ f670 30 36 = nI wq ∧ ∀ a b, 200 ≤ a → a < 240 → f670 a b = fi a b) ∨ ((∃ xl lc2 m2 b2, zLet (fi 47) L (zS (fi 47) L 0) = .ok xl ∧ zLm2 cd pN n xl lc2 m2 b2 ∧ ¬ (b2 = 1 ∧ (zDue (fi 44) (nI (zN xl.2.2.2.1))).toInt ≤ xl.2.2.2.2.toInt) ∧ ∃ g2 L2, zMq τ f670 fr g2 L2 (d + 1) ∧ (∀ j, j < 8 → ∀ k, k < (if j < 6 then d else 8 * d) → f670 (200 + j + 10 * g2) k = fi (200 + j + 10 * g) k) ∧ f670 30 36 = nI (wq + 1) ∧ f670 (200 + 10 * g2) d = nI 1 ∧ f670 (201 + 10 * g2) d = nI m2 ∧ f670 (202 + 10 * g2) d = nI xl.1 ∧ f670 (203 + 10 * g2) d = nI (zCn (fun j => zPo cd pN n (lc2 j)) xl.1) ∧ f670 (204 + 10 * g2) d = nI (zN xl.2.2.2.1) ∧ f670 (205 + 10 * g2) d = xl.2.2.2.2 ∧ ∀ j, j < xl.1 → f670 (206 + 10 * g2) (8 * d + j) = nI (lc2 j) ∧ f670 (207 + 10 * g2) (8 * d + j) = nI (zMnN xl j)) ∧ ¬ wq = 20 ∧ (nI 0) = -1 - nI (d + 1) ∧ f670 30 0 = nI 0 ∧ f670 30 45 = nI o)) from ⟨⟨⟨o, by omega, by omega, hMo⟩, ⟨g, Ln, d, by omega, hMq⟩, q675, zGz.rf hF, fun a b h => by rw [ef670, zu_n (by omega), hf120 a b (by omega), ef107, zu_n (by omega), hf21 a b (by omega)]⟩, q677, Or.inl ⟨⟨px, hle⟩, q678, hMo.2.1, ⟨rfl, rfl, q672, q673, fun a b h1 h2 => by rw [ef670, zu_n (by omega), hf120 a b (by omega), ef107, zu_n (by omega), hf21 a b (by omega)]⟩⟩⟩), zEnd1 hH ht9 hW9⟩, hS.F ht9⟩) hS.2.2 dX12_letter_22
set_option maxHeartbeats 4000000 in
set_option maxRecDepth 100000 in
/-- doubt -/
theorem m_doubtN (l : Launch) (hl0 : l.stackTraces = false) (D : va_G) (A : Nat → Prop) (sad : Nat → Nat) (τ : zTy) (fi : zFi) (fr : zFr) (ol : Int64) (x y : Int32) (hF : zFix τ fr) (g Ln d : Nat) (hMq : zMq τ fi fr g Ln d) : Met l yX12_doubt wsX12_doubt ({ frames := 1, cells := 0, slots := 0, locals := 22 }) (va_Pc [.ref (τ.1 30), .int x, .int y] (zQc D A sad τ fi fr ol)) (va_Qi (fun (r : Int32) (u : zFi) => (¬ (0 ≤ x.toInt ∧ x.toInt < (d : Int)) ∧ r = nI 0 ∧ u = zu fi 30 0 (nI 1)) ∨ (∃ b, b < d ∧ x = nI b ∧ ¬ (0 ≤ y.toInt ∧ y.toInt ≤ 5) ∧ r = nI 0 ∧ u = zu fi 30 0 (nI 2)) ∨ (∃ b, b < d ∧ x = nI b ∧ (0 ≤ y.toInt ∧ y.toInt ≤ 5) ∧ u = zu fi 30 0 (nI 0) ∧ ((y = nI 0 ∧ ((r = 1 ∧ ¬ fi (200 + 10 * g) b = 0) ∨ (r = 0 ∧ fi (200 + 10 * g) b = 0))) ∨ (∃ k, 1 ≤ k ∧ k ≤ 5 ∧ y = nI k ∧ r = fi (200 + k + 10 * g) b)))) (fun (u : zFi) (t : State) => zH D A τ u fr ol t t.heap) A) 0 0 A := by
  refine Met.ofW (cc := cX12_doubt) (maxL := 3) (ret := (some .int)) (by decide) rfl ?_
  intro p9 e9 s m args below meth c9 s₁ B hml hv
  obtain ⟨rfl, hz, hH, hA⟩ := hv
  have hx := B.exec
  have hb := B.bytes
  have hr := B.returns
  have hts := atoms_spec (ws := wsX12_doubt) B.pre
  have hown : s.vm.findClass RX12 = some m.cls := findClass_of_methodNamed B.named
  have hlocks := B.notSynchronized
  have hS : va_S A s.heap s.heap [] := va_S.rf
  have hl := lv_entry ([.ref (τ.1 30), .int x, .int y]) (n := 3) (Nat.le_of_ble_eq_true rfl)
  rw [lg_entry_eq]
  generalize (lg_sl ([.ref (τ.1 30), .int x, .int y]) ++ List.replicate (3 - (lg_sl ([.ref (τ.1 30), .int x, .int y])).length) Slot.unset).toArray = ls at hl ⊢
  have hl : lv_has ls 3 [(0, .ref (τ.1 30)), (1, .int x), (2, .int y)] := hl
  have hLn : g ≤ 3 ∧ Ln ≤ 512 := by have := hMq.1; omega
  have hdL := hMq.2.1
  have hw0 := hts (.fieldLink RX12 165 "PostHouseModel" "thrown" "I") (by decide +kernel)
  have hiX12 : ∀ w ∈ u_ws RX12 TX12 71, w ∈ wsX12_doubt := fun _ h => List.mem_cons_of_mem _ (List.mem_append_right _ h)
  have hw2 := hts (.fieldLink RX12 71 "PostHouseModel" "doubtWaits" "[Z") (by decide +kernel)
  have hw3 := hts (.fieldLink RX12 75 "PostHouseModel" "doubtMendings" "[I") (by decide +kernel)
  have hw4 := hts (.fieldLink RX12 78 "PostHouseModel" "doubtLines" "[I") (by decide +kernel)
  have hw5 := hts (.fieldLink RX12 81 "PostHouseModel" "doubtKnown" "[I") (by decide +kernel)
  have hw6 := hts (.fieldLink RX12 84 "PostHouseModel" "doubtSum" "[I") (by decide +kernel)
  have hw7 := hts (.fieldLink RX12 87 "PostHouseModel" "doubtMoney" "[I") (by decide +kernel)
  refine lv_aload_n hx hb dX12_doubt_0 rfl (lv_at hl 0 rfl) ?_
  refine lv_aload_n hx hb dX12_doubt_1 rfl (lv_at hl 0 rfl) ?_
  refine lv_iload_n hx hb dX12_doubt_2 rfl (lv_at hl 1 rfl) ?_
  refine va_calli (va_runV (As := [.int x]) (rest := [.ref (τ.1 30)]) ⟨hx, hb, hml, hown, hts⟩ (m_isDoubt l hl0 D A sad τ fi fr ol x d hF hMq.2.2.1 (by omega)) (cwV 1 hts gX12_doubt_X12_isDoubt rfl rfl rfl (by decide +kernel) ⟨Nat.le_of_ble_eq_true rfl, Nat.le_of_ble_eq_true rfl⟩) ⟨zQc_bl, zRecv hH (zk_30 hF) rfl, zQc_at hz hS hA hH⟩ rfl rfl hl.1 rfl (lv_room (Nat.le_of_ble_eq_true rfl)) dX12_doubt_3 ⟨Nat.le_of_ble_eq_true rfl, Nat.le_of_ble_eq_true rfl⟩) hS (fun q _ h => h) (fun q h => h) (fun r101 u9 t9 H1 locs ht9 hvm9 hw hB hz1 hk1 hS => ?_)
  have hH := zMv ht9 hvm9 hB
  generalize H1 = H at hH hS ⊢
  rcases hw with ⟨d1, hd1, rfl, rfl⟩ | ⟨hno, rfl⟩
  · skip
    refine lv_if_ne (tgt := 13) hx hb dX12_doubt_6 (by decide) (fun c102 => ?_) (fun c102 => absurd c102 (by decide))
    refine lv_iload_n hx hb dX12_doubt_13 rfl (lv_at hl 2 rfl) ?_
    refine lv_iconst (v := nI 0) hx hb dX12_doubt_14 (by decide) ?_
    refine lv_iconst (v := nI 5) hx hb dX12_doubt_15 (by decide) ?_
    refine va_calli (va_runS (As := [.int y, .int (nI 0), .int (nI 5)]) (rest := [.ref (τ.1 30)]) ⟨hx, hb, hml, hown, hts⟩ (m_isIn l hl0 D A sad τ fi fr ol y (nI 0) (nI 5)) (cwS 3 hts gX12_doubt_X12_isIn rfl rfl rfl (by decide +kernel) ⟨Nat.le_of_ble_eq_true rfl, Nat.le_of_ble_eq_true rfl⟩) ⟨zQc_bl, zQc_at hz hS hA hH⟩ rfl rfl hl.1 rfl (lv_room (Nat.le_of_ble_eq_true rfl)) dX12_doubt_16 ⟨Nat.le_of_ble_eq_true rfl, Nat.le_of_ble_eq_true rfl⟩) hS (fun q _ h => h) (fun q h => h) (fun r103 u9 t9 H1 locs ht9 hvm9 hw hB hz1 hk1 hS => ?_)
    have hH := zMv ht9 hvm9 hB
    generalize H1 = H at hH hS ⊢
    rcases hw with ⟨rfl, hy104⟩ | ⟨rfl, hn105⟩
    · skip
      replace hy104 := zWi1 (rfl) (nI_toInt (by omega)) (nI_toInt (by omega)) hy104
      refine lv_if_ne (tgt := 26) hx hb dX12_doubt_19 (by decide) (fun c106 => ?_) (fun c106 => absurd c106 (by decide))
      refine lv_iconst (v := nI 0) hx hb dX12_doubt_26 (by decide) ?_
      refine zPutI (D := D) (ci := 12) (ty := .int) (C := RX12) (T := TX12) (N := 71) hx hb hts hiX12 tyX12 tyX12_ok nmX12 hown hH hS (zk_30 hF) rfl 0 (by decide) rfl hw0 (fun _ h9 => h9) rfl (by decide +kernel) rfl rfl dX12_doubt_27 (fun H locs hH hS => ?_)
      obtain ⟨f107, ef107⟩ : ∃ f9 : zFi, f9 = zu fi 30 0 (nI 0) := ⟨_, rfl⟩
      rw [← ef107] at hH
      have q108 : f107 30 35 = nI d := by rw [ef107, zu_n (fun h9 => absurd h9.2 (by decide))]; exact hMq.2.2.1
      have q109 : f107 30 0 = nI 0 := by rw [ef107]; exact zu_s
      have hMq := zMq.ci (fi' := f107) hMq (fun i9 k9 h9 => by rw [ef107]; exact zu_n (by omega))
      refine lv_aload_n hx hb dX12_doubt_30 rfl (lv_at hl 0 rfl) ?_
      refine zGetI (D := D) (ci := 12) (C := RX12) (T := TX12) (N := 71) hx hb hts hiX12 hown hH (zk_30 hF) rfl 0 (by decide) rfl hw0 (fun _ h9 => h9) dX12_doubt_31 q109 ?_
      refine lv_if_le (tgt := 39) hx hb dX12_doubt_34 (by decide) (fun c110 => ?_) (fun c110 => absurd (by decide) c110)
      refine lv_iload_n hx hb dX12_doubt_39 rfl (lv_at hl 2 rfl) ?_
      rcases zCase4 y with c111 | c111 | c111 | c111 | c111 | c111
      · subst c111
        refine lv_tableIn (tgt := 76) (off := 36) hx hb dX12_doubt_40 (by decide) (by decide) rfl (by decide) ?_
        refine lv_aload_n hx hb dX12_doubt_76 rfl (lv_at hl 0 rfl) ?_
        refine zGetR (D := D) (ci := 12) (C := RX12) (T := TX12) (N := 71) hx hb hts hiX12 hown hH (zk_30 hF) rfl 37 (by decide) rfl hw2 (fun _ h9 => h9) dX12_doubt_77 hMq.2.2.2.2.1.1 ?_
        refine lv_iload_n hx hb dX12_doubt_80 rfl (lv_at hl 1 rfl) ?_
        refine zZaldN (D := D) hx hb hH hMq.2.2.2.1.1.1 hMq.2.2.2.1.1.2 (by omega) (by omega) rfl dX12_doubt_81 ?_
        refine lv_if_eq (tgt := 89) hx hb dX12_doubt_82 (by decide) (fun c112 => ?_) (fun c112 => ?_)
        · have zc112 := c112
          replace zc112 := zc_eq (rfl) ((by decide : (0 : Int32).toInt = 0)) zc112
          refine lv_iconst (v := nI 0) hx hb dX12_doubt_89 (by decide) ?_
          refine W.widen (k := 0) (n := 0) (by decide) (by decide) ?_
          exact W.iret (v := nI 0) hx hb hr (fun t9 ht9 hW9 => ⟨⟨nI 0, f107, rfl, Or.inr (Or.inr ⟨d1, hd1, rfl, by decide, ef107, Or.inl ⟨rfl, Or.inr ⟨rfl, by have h9 := c112; rw [ef107, zu_n (by omega)] at h9; exact h9⟩⟩⟩), zEnd1 hH ht9 hW9⟩, hS.F ht9⟩) hS.2.2 dX12_doubt_90
        · have zc112 := c112
          replace zc112 := zc_neq (rfl) ((by decide : (0 : Int32).toInt = 0)) zc112
          refine lv_iconst (v := nI 1) hx hb dX12_doubt_85 (by decide) ?_
          refine lv_goto (tgt := 90) hx hb dX12_doubt_86 (by decide) ?_
          refine W.widen (k := 0) (n := 0) (by decide) (by decide) ?_
          exact W.iret (v := nI 1) hx hb hr (fun t9 ht9 hW9 => ⟨⟨nI 1, f107, rfl, Or.inr (Or.inr ⟨d1, hd1, rfl, by decide, ef107, Or.inl ⟨rfl, Or.inl ⟨rfl, by have h9 := c112; rw [ef107, zu_n (by omega)] at h9; exact h9⟩⟩⟩), zEnd1 hH ht9 hW9⟩, hS.F ht9⟩) hS.2.2 dX12_doubt_90
      · subst c111
        refine lv_tableIn (tgt := 91) (off := 51) hx hb dX12_doubt_40 (by decide) (by decide) rfl (by decide) ?_
        refine lv_aload_n hx hb dX12_doubt_91 rfl (lv_at hl 0 rfl) ?_
        refine zGetR (D := D) (ci := 12) (C := RX12) (T := TX12) (N := 71) hx hb hts hiX12 hown hH (zk_30 hF) rfl 38 (by decide) rfl hw3 (fun _ h9 => h9) dX12_doubt_92 hMq.2.2.2.2.1.2.1 ?_
        refine lv_iload_n hx hb dX12_doubt_95 rfl (lv_at hl 1 rfl) ?_
        refine zIaldN (D := D) hx hb hH hMq.2.2.2.1.2.1.1 hMq.2.2.2.1.2.1.2 (by omega) (by omega) rfl dX12_doubt_96 ?_
        refine W.widen (k := 0) (n := 0) (by decide) (by decide) ?_
        exact W.iret (v := f107 (201 + 10 * g) d1) hx hb hr (fun t9 ht9 hW9 => ⟨⟨f107 (201 + 10 * g) d1, f107, rfl, Or.inr (Or.inr ⟨d1, hd1, rfl, by decide, ef107, Or.inr ⟨1, by omega, by omega, rfl, by rw [ef107, zu_n (by omega)]⟩⟩), zEnd1 hH ht9 hW9⟩, hS.F ht9⟩) hS.2.2 dX12_doubt_97
      · subst c111
        refine lv_tableIn (tgt := 98) (off := 58) hx hb dX12_doubt_40 (by decide) (by decide) rfl (by decide) ?_
        refine lv_aload_n hx hb dX12_doubt_98 rfl (lv_at hl 0 rfl) ?_
        refine zGetR (D := D) (ci := 12) (C := RX12) (T := TX12) (N := 71) hx hb hts hiX12 hown hH (zk_30 hF) rfl 39 (by decide) rfl hw4 (fun _ h9 => h9) dX12_doubt_99 hMq.2.2.2.2.1.2.2.1 ?_
        refine lv_iload_n hx hb dX12_doubt_102 rfl (lv_at hl 1 rfl) ?_
        refine zIaldN (D := D) hx hb hH hMq.2.2.2.1.2.2.1.1 hMq.2.2.2.1.2.2.1.2 (by omega) (by omega) rfl dX12_doubt_103 ?_
        refine W.widen (k := 0) (n := 0) (by decide) (by decide) ?_
        exact W.iret (v := f107 (202 + 10 * g) d1) hx hb hr (fun t9 ht9 hW9 => ⟨⟨f107 (202 + 10 * g) d1, f107, rfl, Or.inr (Or.inr ⟨d1, hd1, rfl, by decide, ef107, Or.inr ⟨2, by omega, by omega, rfl, by rw [ef107, zu_n (by omega)]⟩⟩), zEnd1 hH ht9 hW9⟩, hS.F ht9⟩) hS.2.2 dX12_doubt_104
      · subst c111
        refine lv_tableIn (tgt := 105) (off := 65) hx hb dX12_doubt_40 (by decide) (by decide) rfl (by decide) ?_
        refine lv_aload_n hx hb dX12_doubt_105 rfl (lv_at hl 0 rfl) ?_
        refine zGetR (D := D) (ci := 12) (C := RX12) (T := TX12) (N := 71) hx hb hts hiX12 hown hH (zk_30 hF) rfl 40 (by decide) rfl hw5 (fun _ h9 => h9) dX12_doubt_106 hMq.2.2.2.2.1.2.2.2.1 ?_
        refine lv_iload_n hx hb dX12_doubt_109 rfl (lv_at hl 1 rfl) ?_
        refine zIaldN (D := D) hx hb hH hMq.2.2.2.1.2.2.2.1.1 hMq.2.2.2.1.2.2.2.1.2 (by omega) (by omega) rfl dX12_doubt_110 ?_
        refine W.widen (k := 0) (n := 0) (by decide) (by decide) ?_
        exact W.iret (v := f107 (203 + 10 * g) d1) hx hb hr (fun t9 ht9 hW9 => ⟨⟨f107 (203 + 10 * g) d1, f107, rfl, Or.inr (Or.inr ⟨d1, hd1, rfl, by decide, ef107, Or.inr ⟨3, by omega, by omega, rfl, by rw [ef107, zu_n (by omega)]⟩⟩), zEnd1 hH ht9 hW9⟩, hS.F ht9⟩) hS.2.2 dX12_doubt_111
      · subst c111
        refine lv_tableIn (tgt := 112) (off := 72) hx hb dX12_doubt_40 (by decide) (by decide) rfl (by decide) ?_
        refine lv_aload_n hx hb dX12_doubt_112 rfl (lv_at hl 0 rfl) ?_
        refine zGetR (D := D) (ci := 12) (C := RX12) (T := TX12) (N := 71) hx hb hts hiX12 hown hH (zk_30 hF) rfl 41 (by decide) rfl hw6 (fun _ h9 => h9) dX12_doubt_113 hMq.2.2.2.2.1.2.2.2.2.1 ?_
        refine lv_iload_n hx hb dX12_doubt_116 rfl (lv_at hl 1 rfl) ?_
        refine zIaldN (D := D) hx hb hH hMq.2.2.2.1.2.2.2.2.1.1 hMq.2.2.2.1.2.2.2.2.1.2 (by omega) (by omega) rfl dX12_doubt_117 ?_
        refine W.widen (k := 0) (n := 0) (by decide) (by decide) ?_
        exact W.iret (v := f107 (204 + 10 * g) d1) hx hb hr (fun t9 ht9 hW9 => ⟨⟨f107 (204 + 10 * g) d1, f107, rfl, Or.inr (Or.inr ⟨d1, hd1, rfl, by decide, ef107, Or.inr ⟨4, by omega, by omega, rfl, by rw [ef107, zu_n (by omega)]⟩⟩), zEnd1 hH ht9 hW9⟩, hS.F ht9⟩) hS.2.2 dX12_doubt_118
      · refine lv_tableOut (tgt := 119) hx hb dX12_doubt_40 c111 (by decide) ?_
        refine lv_aload_n hx hb dX12_doubt_119 rfl (lv_at hl 0 rfl) ?_
        refine zGetR (D := D) (ci := 12) (C := RX12) (T := TX12) (N := 71) hx hb hts hiX12 hown hH (zk_30 hF) rfl 42 (by decide) rfl hw7 (fun _ h9 => h9) dX12_doubt_120 hMq.2.2.2.2.1.2.2.2.2.2.1 ?_
        refine lv_iload_n hx hb dX12_doubt_123 rfl (lv_at hl 1 rfl) ?_
        refine zIaldN (D := D) hx hb hH hMq.2.2.2.1.2.2.2.2.2.1.1 hMq.2.2.2.1.2.2.2.2.2.1.2 (by omega) (by omega) rfl dX12_doubt_124 ?_
        refine W.widen (k := 0) (n := 0) (by decide) (by decide) ?_
        exact W.iret (v := f107 (205 + 10 * g) d1) hx hb hr (fun t9 ht9 hW9 => ⟨⟨f107 (205 + 10 * g) d1, f107, rfl, Or.inr (Or.inr ⟨d1, hd1, rfl, by have h8 := hy104; omega, ef107, Or.inr ⟨5, by omega, by omega, (Int32.toInt_inj.mp (by have h8 := hy104; have h7 := c111; rw [show (nI 5).toInt = 5 by decide]; omega)), by rw [ef107, zu_n (by omega)]⟩⟩), zEnd1 hH ht9 hW9⟩, hS.F ht9⟩) hS.2.2 dX12_doubt_125
    · skip
      replace hn105 := zWi0 (rfl) (nI_toInt (by omega)) (nI_toInt (by omega)) hn105
      refine lv_if_ne (tgt := 26) hx hb dX12_doubt_19 (by decide) (fun c113 => absurd (by decide) c113) (fun c113 => ?_)
      refine lv_iconst (v := nI 2) hx hb dX12_doubt_22 (by decide) ?_
      refine lv_goto (tgt := 27) hx hb dX12_doubt_23 (by decide) ?_
      refine zPutI (D := D) (ci := 12) (ty := .int) (C := RX12) (T := TX12) (N := 71) hx hb hts hiX12 tyX12 tyX12_ok nmX12 hown hH hS (zk_30 hF) rfl 0 (by decide) rfl hw0 (fun _ h9 => h9) rfl (by decide +kernel) rfl rfl dX12_doubt_27 (fun H locs hH hS => ?_)
      obtain ⟨f114, ef114⟩ : ∃ f9 : zFi, f9 = zu fi 30 0 (nI 2) := ⟨_, rfl⟩
      rw [← ef114] at hH
      have q115 : f114 30 35 = nI d := by rw [ef114, zu_n (fun h9 => absurd h9.2 (by decide))]; exact hMq.2.2.1
      have q116 : f114 30 0 = nI 2 := by rw [ef114]; exact zu_s
      have hMq := zMq.ci (fi' := f114) hMq (fun i9 k9 h9 => by rw [ef114]; exact zu_n (by omega))
      refine lv_aload_n hx hb dX12_doubt_30 rfl (lv_at hl 0 rfl) ?_
      refine zGetI (D := D) (ci := 12) (C := RX12) (T := TX12) (N := 71) hx hb hts hiX12 hown hH (zk_30 hF) rfl 0 (by decide) rfl hw0 (fun _ h9 => h9) dX12_doubt_31 q116 ?_
      refine lv_if_le (tgt := 39) hx hb dX12_doubt_34 (by decide) (fun c117 => absurd c117 (by decide)) (fun c117 => ?_)
      refine lv_iconst (v := nI 0) hx hb dX12_doubt_37 (by decide) ?_
      refine W.widen (k := 0) (n := 0) (by decide) (by decide) ?_
      exact W.iret (v := nI 0) hx hb hr (fun t9 ht9 hW9 => ⟨⟨nI 0, f114, rfl, Or.inr (Or.inl ⟨d1, hd1, rfl, fun h9 => by have h8 := hn105; omega, rfl, ef114⟩), zEnd1 hH ht9 hW9⟩, hS.F ht9⟩) hS.2.2 dX12_doubt_38
  · skip
    refine lv_if_ne (tgt := 13) hx hb dX12_doubt_6 (by decide) (fun c118 => absurd (by decide) c118) (fun c118 => ?_)
    refine lv_iconst (v := nI 1) hx hb dX12_doubt_9 (by decide) ?_
    refine lv_goto (tgt := 27) hx hb dX12_doubt_10 (by decide) ?_
    refine zPutI (D := D) (ci := 12) (ty := .int) (C := RX12) (T := TX12) (N := 71) hx hb hts hiX12 tyX12 tyX12_ok nmX12 hown hH hS (zk_30 hF) rfl 0 (by decide) rfl hw0 (fun _ h9 => h9) rfl (by decide +kernel) rfl rfl dX12_doubt_27 (fun H locs hH hS => ?_)
    obtain ⟨f119, ef119⟩ : ∃ f9 : zFi, f9 = zu fi 30 0 (nI 1) := ⟨_, rfl⟩
    rw [← ef119] at hH
    have q120 : f119 30 35 = nI d := by rw [ef119, zu_n (fun h9 => absurd h9.2 (by decide))]; exact hMq.2.2.1
    have q121 : f119 30 0 = nI 1 := by rw [ef119]; exact zu_s
    have hMq := zMq.ci (fi' := f119) hMq (fun i9 k9 h9 => by rw [ef119]; exact zu_n (by omega))
    refine lv_aload_n hx hb dX12_doubt_30 rfl (lv_at hl 0 rfl) ?_
    refine zGetI (D := D) (ci := 12) (C := RX12) (T := TX12) (N := 71) hx hb hts hiX12 hown hH (zk_30 hF) rfl 0 (by decide) rfl hw0 (fun _ h9 => h9) dX12_doubt_31 q121 ?_
    refine lv_if_le (tgt := 39) hx hb dX12_doubt_34 (by decide) (fun c122 => absurd c122 (by decide)) (fun c122 => ?_)
    refine lv_iconst (v := nI 0) hx hb dX12_doubt_37 (by decide) ?_
    refine W.widen (k := 0) (n := 0) (by decide) (by decide) ?_
    exact W.iret (v := nI 0) hx hb hr (fun t9 ht9 hW9 => ⟨⟨nI 0, f119, rfl, Or.inl ⟨hno, rfl, ef119⟩, zEnd1 hH ht9 hW9⟩, hS.F ht9⟩) hS.2.2 dX12_doubt_38
set_option maxHeartbeats 4000000 in
set_option maxRecDepth 100000 in
/-- settle -/
theorem m_settleN (l : Launch) (hl0 : l.stackTraces = false) (D : va_G) (A : Nat → Prop) (sad : Nat → Nat) (τ : zTy) (fi : zFi) (fr : zFr) (ol : Int64) (x tk : Int32) (hF : zFix τ fr) (n : Nat) (hMt : zMt fi n) (o : Nat) (hMo : zMo fi n o) (g Ln d : Nat) (hMq : zMq τ fi fr g Ln d) (td : Nat) (cd pN : Nat → Nat) (hPb : zqPb fi n td cd pN) (LL : Nat → Nat) (LC MN : Nat → Nat → Nat) (hDm : ∀ k, k < d → fi (202 + 10 * g) k = nI (LL k) ∧ LL k ≤ 8 ∧ ∀ j, j < LL k → fi (206 + 10 * g) (8 * k + j) = nI (LC k j) ∧ LC k j < 10000 ∧ fi (207 + 10 * g) (8 * k + j) = nI (MN k j) ∧ 1 ≤ MN k j ∧ MN k j ≤ 99) (wq : Nat) (hwq : fi 30 36 = nI wq) (hw9 : wq ≤ 20) (hwp : ∀ b, b < d → ¬ fi (200 + 10 * g) b = 0 → 1 ≤ wq) : Met l yX12_settle wsX12_settle ({ frames := 3, cells := 0, slots := 0, locals := 71 }) (va_Pc [.ref (τ.1 30), .int x, .int tk] (zQc D A sad τ fi fr ol)) (va_Qi (fun (r : Int32) (u : zFi) => ((∃ o2, o ≤ o2 ∧ o2 ≤ o + 1 ∧ zMo u n o2) ∧ zMq τ u fr g Ln d ∧ ∀ a b, ¬ (a = 48 ∨ a = 49 ∨ (50 ≤ a ∧ a ≤ 64) ∨ (200 ≤ a ∧ a < 240) ∨ (a = 30 ∧ (b = 0 ∨ b = 26 ∨ b = 30 ∨ b = 36 ∨ b = 45))) → u a b = fi a b) ∧ ((¬ (0 ≤ x.toInt ∧ x.toInt < (d : Int)) ∧ u 30 0 = nI 1 ∧ u 30 45 = nI o ∧ u 30 36 = nI wq ∧ ∀ a c, 200 ≤ a → a < 240 → u a c = fi a c) ∨ (∃ b, b < d ∧ x = nI b ∧ fi (200 + 10 * g) b = 0 ∧ u 30 0 = nI 2 ∧ u 30 45 = nI o ∧ u 30 36 = nI wq ∧ ∀ a c, 200 ≤ a → a < 240 → u a c = fi a c) ∨ (∃ b, b < d ∧ x = nI b ∧ ¬ fi (200 + 10 * g) b = 0 ∧ ((tk.toInt = 0 ∧ r = -1 ∧ u 30 0 = nI 0 ∧ u 30 45 = nI o ∧ u 30 36 = nI (wq - 1) ∧ u (200 + 10 * g) b = 0 ∧ ∀ a c, 200 ≤ a → a < 240 → ¬ (a = 200 + 10 * g ∧ c = b) → u a c = fi a c) ∨ (¬ tk.toInt = 0 ∧ ¬ (0 < zCn (fun j => zPo cd pN n (LC b j)) (LL b) ∧ (zDue (fi 44) (nI (zSm (fun j => zPo cd pN n (LC b j) * MN b j) (LL b)))).toInt ≤ (fi (205 + 10 * g) b).toInt) ∧ r = -1 ∧ u 30 0 = nI 0 ∧ u 30 45 = nI o ∧ u 30 36 = nI wq ∧ ∀ a c, 200 ≤ a → a < 240 → u a c = fi a c) ∨ (¬ tk.toInt = 0 ∧ (0 < zCn (fun j => zPo cd pN n (LC b j)) (LL b) ∧ (zDue (fi 44) (nI (zSm (fun j => zPo cd pN n (LC b j) * MN b j) (LL b)))).toInt ≤ (fi (205 + 10 * g) b).toInt) ∧ o = 60 ∧ u 30 0 = nI 3 ∧ u 30 45 = nI o ∧ u 30 36 = nI wq ∧ ∀ a c, 200 ≤ a → a < 240 → u a c = fi a c) ∨ (¬ tk.toInt = 0 ∧ (0 < zCn (fun j => zPo cd pN n (LC b j)) (LL b) ∧ (zDue (fi 44) (nI (zSm (fun j => zPo cd pN n (LC b j) * MN b j) (LL b)))).toInt ≤ (fi (205 + 10 * g) b).toInt) ∧ o < 60 ∧ r = nI o ∧ u 30 0 = nI 0 ∧ u 30 45 = nI (o + 1) ∧ u 30 36 = nI (wq - 1) ∧ u (200 + 10 * g) b = 0 ∧ ∀ a c, 200 ≤ a → a < 240 → ¬ (a = 200 + 10 * g ∧ c = b) → u a c = fi a c))))) (fun (u : zFi) (t : State) => zH D A τ u fr ol t t.heap) A) 0 0 A := by
  refine Met.ofW (cc := cX12_settle) (maxL := 7) (ret := (some .int)) (by decide) rfl ?_
  intro p9 e9 s m args below meth c9 s₁ B hml hv
  obtain ⟨rfl, hz, hH, hA⟩ := hv
  have hx := B.exec
  have hb := B.bytes
  have hr := B.returns
  have hts := atoms_spec (ws := wsX12_settle) B.pre
  have hown : s.vm.findClass RX12 = some m.cls := findClass_of_methodNamed B.named
  have hlocks := B.notSynchronized
  have hS : va_S A s.heap s.heap [] := va_S.rf
  have hl := lv_entry ([.ref (τ.1 30), .int x, .int tk]) (n := 7) (Nat.le_of_ble_eq_true rfl)
  rw [lg_entry_eq]
  generalize (lg_sl ([.ref (τ.1 30), .int x, .int tk]) ++ List.replicate (7 - (lg_sl ([.ref (τ.1 30), .int x, .int tk])).length) Slot.unset).toArray = ls at hl ⊢
  have hl : lv_has ls 7 [(0, .ref (τ.1 30)), (1, .int x), (2, .int tk)] := hl
  have hm30 := hMt.1
  have hLn : g ≤ 3 ∧ Ln ≤ 512 := by have := hMq.1; omega
  have hdL := hMq.2.1
  have ho60 := hMo.1
  have hMt0 := hMt
  have hMo0 := hMo
  have hMq0 := hMq
  have hPb0 := hPb
  have hiX12 : ∀ w ∈ u_ws RX12 TX12 71, w ∈ wsX12_settle := fun _ h => List.mem_cons_of_mem _ (List.mem_append_right _ h)
  have hw1 := hts (.fieldLink RX12 71 "PostHouseModel" "doubtWaits" "[Z") (by decide +kernel)
  have hw2 := hts (.fieldLink RX12 165 "PostHouseModel" "thrown" "I") (by decide +kernel)
  have hw3 := hts (.fieldLink RX12 311 "PostHouseModel" "waiting" "I") (by decide +kernel)
  have hw4 := hts (.fieldLink RX12 78 "PostHouseModel" "doubtLines" "[I") (by decide +kernel)
  have hw5 := hts (.fieldLink RX12 262 "PostHouseModel" "lines" "I") (by decide +kernel)
  have hw6 := hts (.fieldLink RX12 87 "PostHouseModel" "doubtMoney" "[I") (by decide +kernel)
  have hw7 := hts (.fieldLink RX12 275 "PostHouseModel" "money" "I") (by decide +kernel)
  have hw8 := hts (.fieldLink RX12 171 "PostHouseModel" "orders" "I") (by decide +kernel)
  have hw9 := hts (.fieldLink RX12 65 "PostHouseModel" "lineCode" "[I") (by decide +kernel)
  have hw10 := hts (.fieldLink RX12 90 "PostHouseModel" "doubtCode" "[I") (by decide +kernel)
  have hw11 := hts (.fieldLink RX12 68 "PostHouseModel" "lineMany" "[I") (by decide +kernel)
  have hw12 := hts (.fieldLink RX12 93 "PostHouseModel" "doubtMany" "[I") (by decide +kernel)
  refine lv_aload_n hx hb dX12_settle_0 rfl (lv_at hl 0 rfl) ?_
  refine lv_aload_n hx hb dX12_settle_1 rfl (lv_at hl 0 rfl) ?_
  refine lv_iload_n hx hb dX12_settle_2 rfl (lv_at hl 1 rfl) ?_
  refine va_calli (va_runV (As := [.int x]) (rest := [.ref (τ.1 30)]) ⟨hx, hb, hml, hown, hts⟩ (m_isDoubt l hl0 D A sad τ fi fr ol x d hF hMq.2.2.1 (by omega)) (cwV 1 hts gX12_settle_X12_isDoubt rfl rfl rfl (by decide +kernel) ⟨Nat.le_of_ble_eq_true rfl, Nat.le_of_ble_eq_true rfl⟩) ⟨zQc_bl, zRecv hH (zk_30 hF) rfl, zQc_at hz hS hA hH⟩ rfl rfl hl.1 rfl (lv_room (Nat.le_of_ble_eq_true rfl)) dX12_settle_3 ⟨Nat.le_of_ble_eq_true rfl, Nat.le_of_ble_eq_true rfl⟩) hS (fun q _ h => h) (fun q h => h) (fun r101 u9 t9 H1 locs ht9 hvm9 hw hB hz1 hk1 hS => ?_)
  have hH := zMv ht9 hvm9 hB
  generalize H1 = H at hH hS ⊢
  rcases hw with ⟨d1, hd1, rfl, rfl⟩ | ⟨hno, rfl⟩
  · skip
    refine lv_if_ne (tgt := 13) hx hb dX12_settle_6 (by decide) (fun c102 => ?_) (fun c102 => absurd c102 (by decide))
    refine lv_aload_n hx hb dX12_settle_13 rfl (lv_at hl 0 rfl) ?_
    refine zGetR (D := D) (ci := 12) (C := RX12) (T := TX12) (N := 71) hx hb hts hiX12 hown hH (zk_30 hF) rfl 37 (by decide) rfl hw1 (fun _ h9 => h9) dX12_settle_14 hMq.2.2.2.2.1.1 ?_
    refine lv_iload_n hx hb dX12_settle_17 rfl (lv_at hl 1 rfl) ?_
    refine zZaldN (D := D) hx hb hH hMq.2.2.2.1.1.1 hMq.2.2.2.1.1.2 (by omega) (by omega) rfl dX12_settle_18 ?_
    refine lv_if_ne (tgt := 26) hx hb dX12_settle_19 (by decide) (fun c103 => ?_) (fun c103 => ?_)
    · have zc103 := c103
      replace zc103 := zc_neq (rfl) ((by decide : (0 : Int32).toInt = 0)) zc103
      have hwt : ¬ fi (200 + 10 * g) d1 = 0 := fun h9 => zc103 (by rw [h9]; decide)
      have hw1q := hwp d1 hd1 hwt
      refine lv_iconst (v := nI 0) hx hb dX12_settle_26 (by decide) ?_
      refine zPutI (D := D) (ci := 12) (ty := .int) (C := RX12) (T := TX12) (N := 71) hx hb hts hiX12 tyX12 tyX12_ok nmX12 hown hH hS (zk_30 hF) rfl 0 (by decide) rfl hw2 (fun _ h9 => h9) rfl (by decide +kernel) rfl rfl dX12_settle_27 (fun H locs hH hS => ?_)
      obtain ⟨f104, ef104⟩ : ∃ f9 : zFi, f9 = zu fi 30 0 (nI 0) := ⟨_, rfl⟩
      rw [← ef104] at hH
      have q105 : f104 30 45 = nI o := by rw [ef104, zu_n (fun h9 => absurd h9.2 (by decide))]; exact hMo.2.1
      have q106 : f104 30 35 = nI d := by rw [ef104, zu_n (fun h9 => absurd h9.2 (by decide))]; exact hMq.2.2.1
      have q107 : f104 30 36 = nI wq := by rw [ef104, zu_n (fun h9 => absurd h9.2 (by decide))]; exact hwq
      have q108 : f104 30 2 = nI n := by rw [ef104, zu_n (fun h9 => absurd h9.2 (by decide))]; exact hMt.2.1
      have q109 : f104 30 1 = nI td := by rw [ef104, zu_n (fun h9 => absurd h9.2 (by decide))]; exact hPb.1
      have q110 : f104 30 0 = nI 0 := by rw [ef104]; exact zu_s
      have hMt := zMt.ci (fi' := f104) hMt (fun i9 k9 h9 => by rw [ef104]; exact zu_n (by omega))
      have hMo := zMo.ci (fi' := f104) hMo (fun i9 k9 h9 => by rw [ef104]; exact zu_n (by omega))
      have hMq := zMq.ci (fi' := f104) hMq (fun i9 k9 h9 => by rw [ef104]; exact zu_n (by omega))
      have hPb := zqPb.cg (fi' := f104) hPb (fun i9 k9 h9 => by rw [ef104]; exact zu_n (by omega))
      refine lv_aload_n hx hb dX12_settle_30 rfl (lv_at hl 0 rfl) ?_
      refine zGetI (D := D) (ci := 12) (C := RX12) (T := TX12) (N := 71) hx hb hts hiX12 hown hH (zk_30 hF) rfl 0 (by decide) rfl hw2 (fun _ h9 => h9) dX12_settle_31 q110 ?_
      refine lv_if_le (tgt := 39) hx hb dX12_settle_34 (by decide) (fun c111 => ?_) (fun c111 => absurd (by decide) c111)
      refine lv_iconst (v := (-1)) hx hb dX12_settle_39 (by decide) ?_
      refine lv_istore_n (lv' := [(3, .int ((-1))), (0, .ref (τ.1 30)), (1, .int (nI d1)), (2, .int tk)]) hx hb dX12_settle_40 rfl hl (by decide) rfl (fun ls hl => ?_)
      refine lv_iload_n hx hb dX12_settle_41 rfl (lv_at hl 3 rfl) ?_
      refine lv_if_eq (tgt := 216) hx hb dX12_settle_42 (by decide) (fun c112 => ?_) (fun c112 => ?_)
      · have zc112 := c112
        replace zc112 := zc_eq (rfl) ((by decide : (0 : Int32).toInt = 0)) zc112
        have hyt := zc112
        refine lv_aload_n hx hb dX12_settle_216 rfl (lv_at hl 1 rfl) ?_
        refine zGetR (D := D) (ci := 12) (C := RX12) (T := TX12) (N := 71) hx hb hts hiX12 hown hH (zk_30 hF) rfl 37 (by decide) rfl hw1 (fun _ h9 => h9) dX12_settle_217 hMq.2.2.2.2.1.1 ?_
        refine lv_iload_n hx hb dX12_settle_220 rfl (lv_at hl 2 rfl) ?_
        refine lv_iconst (v := nI 0) hx hb dX12_settle_221 (by decide) ?_
        refine zZastN (D := D) hx hb hH hS hMq.2.2.2.1.1.1 hMq.2.2.2.1.1.2 (by omega) (by omega) dX12_settle_222 (fun H locs hH hS => ?_)
        obtain ⟨f113, ef113⟩ : ∃ f9 : zFi, f9 = zu f104 (200 + 10 * g) d1 (vp_nar .boolean (nI 0)) := ⟨_, rfl⟩
        rw [← ef113] at hH
        have q114 : f113 30 45 = nI o := by rw [ef113, zu_n (fun h9 => by omega)]; exact q105
        have q115 : f113 30 35 = nI d := by rw [ef113, zu_n (fun h9 => by omega)]; exact q106
        have q116 : f113 30 36 = nI wq := by rw [ef113, zu_n (fun h9 => by omega)]; exact q107
        have q117 : f113 30 2 = nI n := by rw [ef113, zu_n (fun h9 => by omega)]; exact q108
        have q118 : f113 30 1 = nI td := by rw [ef113, zu_n (fun h9 => by omega)]; exact q109
        have q119 : f113 30 0 = nI 0 := by rw [ef113, zu_n (fun h9 => by omega)]; exact q110
        have q120 : f113 (200 + 10 * g) d1 = (vp_nar .boolean (nI 0)) := by rw [ef113]; exact zu_s
        have hMt := zMt.ci (fi' := f113) hMt (fun i9 k9 h9 => by rw [ef113]; exact zu_n (by omega))
        have hMo := zMo.ci (fi' := f113) hMo (fun i9 k9 h9 => by rw [ef113]; exact zu_n (by omega))
        have hMq := zMq.ci (fi' := f113) hMq (fun i9 k9 h9 => by rw [ef113]; exact zu_n (by omega))
        have hPb := zqPb.cg (fi' := f113) hPb (fun i9 k9 h9 => by rw [ef113]; exact zu_n (by omega))
        refine lv_aload_n hx hb dX12_settle_223 rfl (lv_at hl 1 rfl) ?_
        refine lv_dup hx hb dX12_settle_224 rfl ?_
        refine zGetI (D := D) (ci := 12) (C := RX12) (T := TX12) (N := 71) hx hb hts hiX12 hown hH (zk_30 hF) rfl 36 (by decide) rfl hw3 (fun _ h9 => h9) dX12_settle_225 q116 ?_
        refine lv_iconst (v := nI 1) hx hb dX12_settle_228 (by decide) ?_
        refine lv_isub hx hb dX12_settle_229 ?_
        refine lv_topi (fun v121 ev121 => ?_)
        obtain rfl : v121 = nI (wq - 1) := ev121.trans (pk_sub (by omega))
        refine zPutI (D := D) (ci := 12) (ty := .int) (C := RX12) (T := TX12) (N := 71) hx hb hts hiX12 tyX12 tyX12_ok nmX12 hown hH hS (zk_30 hF) rfl 36 (by decide) rfl hw3 (fun _ h9 => h9) rfl (by decide +kernel) rfl rfl dX12_settle_230 (fun H locs hH hS => ?_)
        obtain ⟨f122, ef122⟩ : ∃ f9 : zFi, f9 = zu f113 30 36 (nI (wq - 1)) := ⟨_, rfl⟩
        rw [← ef122] at hH
        have q123 : f122 30 45 = nI o := by rw [ef122, zu_n (fun h9 => absurd h9.2 (by decide))]; exact q114
        have q124 : f122 30 35 = nI d := by rw [ef122, zu_n (fun h9 => absurd h9.2 (by decide))]; exact q115
        have q125 : f122 30 2 = nI n := by rw [ef122, zu_n (fun h9 => absurd h9.2 (by decide))]; exact q117
        have q126 : f122 30 1 = nI td := by rw [ef122, zu_n (fun h9 => absurd h9.2 (by decide))]; exact q118
        have q127 : f122 30 0 = nI 0 := by rw [ef122, zu_n (fun h9 => absurd h9.2 (by decide))]; exact q119
        have q128 : f122 (200 + 10 * g) d1 = (vp_nar .boolean (nI 0)) := by rw [ef122, zu_n (fun h9 => by omega)]; exact q120
        have q129 : f122 30 36 = nI (wq - 1) := by rw [ef122]; exact zu_s
        have hMt := zMt.ci (fi' := f122) hMt (fun i9 k9 h9 => by rw [ef122]; exact zu_n (by omega))
        have hMo := zMo.ci (fi' := f122) hMo (fun i9 k9 h9 => by rw [ef122]; exact zu_n (by omega))
        have hMq := zMq.ci (fi' := f122) hMq (fun i9 k9 h9 => by rw [ef122]; exact zu_n (by omega))
        have hPb := zqPb.cg (fi' := f122) hPb (fun i9 k9 h9 => by rw [ef122]; exact zu_n (by omega))
        refine lv_iload_n hx hb dX12_settle_233 rfl (lv_at hl 0 rfl) ?_
        refine W.widen (k := 0) (n := 0) (by decide) (by decide) ?_
        exact W.iret (v := (-1)) hx hb hr (fun t9 ht9 hW9 => ⟨⟨(-1), f122, rfl, ⟨⟨⟨o, by omega, by omega, hMo⟩, hMq, fun a b h => by rw [ef122, zu_n (by omega), ef113, zu_n (by omega), ef104, zu_n (by omega)]⟩, Or.inr (Or.inr ⟨d1, hd1, rfl, hwt, Or.inl ⟨hyt, rfl, q127, hMo.2.1, ⟨q129, by rw [q128]; decide, fun a c h1 h2 h3 => by rw [ef122, zu_n (by omega), ef113, zu_n (by omega), ef104, zu_n (by omega)]⟩⟩⟩)⟩, zEnd1 hH ht9 hW9⟩, hS.F ht9⟩) hS.2.2 dX12_settle_234
      · have zc112 := c112
        replace zc112 := zc_neq (rfl) ((by decide : (0 : Int32).toInt = 0)) zc112
        have hyt := zc112
        obtain ⟨hc2, hc8, hcl⟩ := hDm d1 hd1
        have hcq1 : f104 (202 + 10 * g) d1 = nI (LL d1) := by rw [ef104, zu_n (by omega)]; exact hc2
        have hmq1 : f104 (205 + 10 * g) d1 = fi (205 + 10 * g) d1 := by rw [ef104, zu_n (by omega)]
        refine lv_aload_n hx hb dX12_settle_45 rfl (lv_at hl 1 rfl) ?_
        refine lv_aload_n hx hb dX12_settle_46 rfl (lv_at hl 1 rfl) ?_
        refine zGetR (D := D) (ci := 12) (C := RX12) (T := TX12) (N := 71) hx hb hts hiX12 hown hH (zk_30 hF) rfl 39 (by decide) rfl hw4 (fun _ h9 => h9) dX12_settle_47 hMq.2.2.2.2.1.2.2.1 ?_
        refine lv_iload_n hx hb dX12_settle_50 rfl (lv_at hl 2 rfl) ?_
        refine zIaldN (D := D) hx hb hH hMq.2.2.2.1.2.2.1.1 hMq.2.2.2.1.2.2.1.2 (by omega) (by omega) hcq1 dX12_settle_51 ?_
        refine zPutI (D := D) (ci := 12) (ty := .int) (C := RX12) (T := TX12) (N := 71) hx hb hts hiX12 tyX12 tyX12_ok nmX12 hown hH hS (zk_30 hF) rfl 26 (by decide) rfl hw5 (fun _ h9 => h9) rfl (by decide +kernel) rfl rfl dX12_settle_52 (fun H locs hH hS => ?_)
        obtain ⟨f130, ef130⟩ : ∃ f9 : zFi, f9 = zu f104 30 26 (nI (LL d1)) := ⟨_, rfl⟩
        rw [← ef130] at hH
        have q131 : f130 30 45 = nI o := by rw [ef130, zu_n (fun h9 => absurd h9.2 (by decide))]; exact q105
        have q132 : f130 30 35 = nI d := by rw [ef130, zu_n (fun h9 => absurd h9.2 (by decide))]; exact q106
        have q133 : f130 30 36 = nI wq := by rw [ef130, zu_n (fun h9 => absurd h9.2 (by decide))]; exact q107
        have q134 : f130 30 2 = nI n := by rw [ef130, zu_n (fun h9 => absurd h9.2 (by decide))]; exact q108
        have q135 : f130 30 1 = nI td := by rw [ef130, zu_n (fun h9 => absurd h9.2 (by decide))]; exact q109
        have q136 : f130 30 0 = nI 0 := by rw [ef130, zu_n (fun h9 => absurd h9.2 (by decide))]; exact q110
        have q137 : f130 (202 + 10 * g) d1 = nI (LL d1) := by rw [ef130, zu_n (fun h9 => by omega)]; exact hcq1
        have q138 : f130 (205 + 10 * g) d1 = (fi (205 + 10 * g) d1) := by rw [ef130, zu_n (fun h9 => by omega)]; exact hmq1
        have q139 : f130 30 26 = nI (LL d1) := by rw [ef130]; exact zu_s
        have hMt := zMt.ci (fi' := f130) hMt (fun i9 k9 h9 => by rw [ef130]; exact zu_n (by omega))
        have hMo := zMo.ci (fi' := f130) hMo (fun i9 k9 h9 => by rw [ef130]; exact zu_n (by omega))
        have hMq := zMq.ci (fi' := f130) hMq (fun i9 k9 h9 => by rw [ef130]; exact zu_n (by omega))
        have hPb := zqPb.cg (fi' := f130) hPb (fun i9 k9 h9 => by rw [ef130]; exact zu_n (by omega))
        refine lv_aload_n hx hb dX12_settle_55 rfl (lv_at hl 1 rfl) ?_
        refine lv_aload_n hx hb dX12_settle_56 rfl (lv_at hl 1 rfl) ?_
        refine zGetR (D := D) (ci := 12) (C := RX12) (T := TX12) (N := 71) hx hb hts hiX12 hown hH (zk_30 hF) rfl 42 (by decide) rfl hw6 (fun _ h9 => h9) dX12_settle_57 hMq.2.2.2.2.1.2.2.2.2.2.1 ?_
        refine lv_iload_n hx hb dX12_settle_60 rfl (lv_at hl 2 rfl) ?_
        refine zIaldN (D := D) hx hb hH hMq.2.2.2.1.2.2.2.2.2.1.1 hMq.2.2.2.1.2.2.2.2.2.1.2 (by omega) (by omega) q138 dX12_settle_61 ?_
        refine zPutI (D := D) (ci := 12) (ty := .int) (C := RX12) (T := TX12) (N := 71) hx hb hts hiX12 tyX12 tyX12_ok nmX12 hown hH hS (zk_30 hF) rfl 30 (by decide) rfl hw7 (fun _ h9 => h9) rfl (by decide +kernel) rfl rfl dX12_settle_62 (fun H locs hH hS => ?_)
        obtain ⟨f140, ef140⟩ : ∃ f9 : zFi, f9 = zu f130 30 30 ((fi (205 + 10 * g) d1)) := ⟨_, rfl⟩
        rw [← ef140] at hH
        have q141 : f140 30 45 = nI o := by rw [ef140, zu_n (fun h9 => absurd h9.2 (by decide))]; exact q131
        have q142 : f140 30 35 = nI d := by rw [ef140, zu_n (fun h9 => absurd h9.2 (by decide))]; exact q132
        have q143 : f140 30 36 = nI wq := by rw [ef140, zu_n (fun h9 => absurd h9.2 (by decide))]; exact q133
        have q144 : f140 30 2 = nI n := by rw [ef140, zu_n (fun h9 => absurd h9.2 (by decide))]; exact q134
        have q145 : f140 30 1 = nI td := by rw [ef140, zu_n (fun h9 => absurd h9.2 (by decide))]; exact q135
        have q146 : f140 30 0 = nI 0 := by rw [ef140, zu_n (fun h9 => absurd h9.2 (by decide))]; exact q136
        have q147 : f140 (202 + 10 * g) d1 = nI (LL d1) := by rw [ef140, zu_n (fun h9 => by omega)]; exact q137
        have q148 : f140 (205 + 10 * g) d1 = (fi (205 + 10 * g) d1) := by rw [ef140, zu_n (fun h9 => by omega)]; exact q138
        have q149 : f140 30 26 = nI (LL d1) := by rw [ef140, zu_n (fun h9 => absurd h9.2 (by decide))]; exact q139
        have q150 : f140 30 30 = (fi (205 + 10 * g) d1) := by rw [ef140]; exact zu_s
        have hMt := zMt.ci (fi' := f140) hMt (fun i9 k9 h9 => by rw [ef140]; exact zu_n (by omega))
        have hMo := zMo.ci (fi' := f140) hMo (fun i9 k9 h9 => by rw [ef140]; exact zu_n (by omega))
        have hMq := zMq.ci (fi' := f140) hMq (fun i9 k9 h9 => by rw [ef140]; exact zu_n (by omega))
        have hPb := zqPb.cg (fi' := f140) hPb (fun i9 k9 h9 => by rw [ef140]; exact zu_n (by omega))
        refine lv_iconst (v := nI 0) hx hb dX12_settle_65 (by decide) ?_
        refine lv_istore (lv' := [(4, .int (nI 0)), (3, .int ((-1))), (0, .ref (τ.1 30)), (1, .int (nI d1)), (2, .int tk)]) hx hb dX12_settle_66 hl (by decide) rfl (fun ls hl => ?_)
        refine lv_iconst (v := nI 0) hx hb dX12_settle_68 (by decide) ?_
        refine lv_istore (lv' := [(5, .int (nI 0)), (4, .int (nI 0)), (3, .int ((-1))), (0, .ref (τ.1 30)), (1, .int (nI d1)), (2, .int tk)]) hx hb dX12_settle_69 hl (by decide) rfl (fun ls hl => ?_)
        refine zLp (σ := Nat × Nat × zFi) (fun x9 k9 H locs ls => (fun (i : Nat) (sm : Nat) (f : zFi) => k9 = LL d1 - i ∧ (i ≤ LL d1 ∧ f 30 26 = nI (LL d1) ∧ f 30 30 = fi (205 + 10 * g) d1 ∧ f 30 0 = nI 0 ∧ sm = zSm (fun j => zPo cd pN n (LC d1 j) * MN d1 j) i ∧ (∀ j, j < i → f 48 j = nI (LC d1 j) ∧ f 49 j = nI (MN d1 j)) ∧ ∀ a b, ¬ (a = 48 ∨ a = 49 ∨ (a = 30 ∧ (b = 0 ∨ b = 26 ∨ b = 30))) → f a b = fi a b) ∧ zH D A τ f fr ol s H ∧ va_S A s.heap H locs ∧ lv_has ls 7 [(0, .ref (τ.1 30)), (1, .int (nI d1)), (3, .int ((-1))), (4, .int (nI sm)), (5, .int (nI i))]) x9.1 x9.2.1 x9.2.2) (0, 0, f140) (LL d1 - 0) (show LL d1 - 0 = LL d1 - 0 ∧ (0 ≤ LL d1 ∧ f140 30 26 = nI (LL d1) ∧ f140 30 30 = fi (205 + 10 * g) d1 ∧ f140 30 0 = nI 0 ∧ 0 = zSm (fun j => zPo cd pN n (LC d1 j) * MN d1 j) 0 ∧ (∀ j, j < 0 → f140 48 j = nI (LC d1 j) ∧ f140 49 j = nI (MN d1 j)) ∧ ∀ a b, ¬ (a = 48 ∨ a = 49 ∨ (a = 30 ∧ (b = 0 ∨ b = 26 ∨ b = 30))) → f140 a b = fi a b) ∧ zH D A τ f140 fr ol s _ ∧ va_S A s.heap _ _ ∧ lv_has _ 7 [(0, .ref (τ.1 30)), (1, .int (nI d1)), (3, .int ((-1))), (4, .int (nI 0)), (5, .int (nI 0))] from ⟨rfl, ⟨Nat.zero_le _, q149, q150, q146, rfl, fun j h => absurd h (by omega), fun a b h => by rw [ef140, zu_n (by omega), ef130, zu_n (by omega), ef104, zu_n (by omega)]⟩, hH, hS, lv_sub hl [3, 4, 2, 1, 0] rfl⟩) (fun k9 ih x9 H locs ls hv9 => ?_)
        obtain ⟨i, sm, f⟩ := x9
        have hv9 : k9 = LL d1 - i ∧ (i ≤ LL d1 ∧ f 30 26 = nI (LL d1) ∧ f 30 30 = fi (205 + 10 * g) d1 ∧ f 30 0 = nI 0 ∧ sm = zSm (fun j => zPo cd pN n (LC d1 j) * MN d1 j) i ∧ (∀ j, j < i → f 48 j = nI (LC d1 j) ∧ f 49 j = nI (MN d1 j)) ∧ ∀ a b, ¬ (a = 48 ∨ a = 49 ∨ (a = 30 ∧ (b = 0 ∨ b = 26 ∨ b = 30))) → f a b = fi a b) ∧ zH D A τ f fr ol s H ∧ va_S A s.heap H locs ∧ lv_has ls 7 [(0, .ref (τ.1 30)), (1, .int (nI d1)), (3, .int ((-1))), (4, .int (nI sm)), (5, .int (nI i))] := hv9
        obtain ⟨hkih151, hv9, hH, hS, hl⟩ := hv9
        obtain ⟨h1, p26, p30, p0, hsm, hli, hfr⟩ := hv9
        have ih151 := ih
        clear ih
        have hMt := zMt.ci (fi' := f) hMt0 (fun i9 k9 h9 => hfr i9 k9 (by omega))
        have hMo := zMo.ci (fi' := f) hMo0 (fun i9 k9 h9 => hfr i9 k9 (by omega))
        have hMq := zMq.ci (fi' := f) hMq0 (fun i9 k9 h9 => hfr i9 k9 (by omega))
        have hPb := zqPb.cg (fi' := f) hPb0 (fun i9 k9 h9 => hfr i9 k9 (by omega))
        have p2 := hMt.2.1
        have p45 := hMo.2.1
        have p1 := hPb.1
        have p36 : f 30 36 = nI wq := by rw [hfr _ _ (by omega)]; exact hwq
        refine lv_iload hx hb dX12_settle_71 (lv_at hl 4 rfl) ?_
        refine lv_aload_n hx hb dX12_settle_73 rfl (lv_at hl 0 rfl) ?_
        refine zGetI (D := D) (ci := 12) (C := RX12) (T := TX12) (N := 71) hx hb hts hiX12 hown hH (zk_30 hF) rfl 26 (by decide) rfl hw5 (fun _ h9 => h9) dX12_settle_74 p26 ?_
        refine lv_icmp_ge (tgt := 162) hx hb dX12_settle_77 (by decide) (fun c152 => ?_) (fun c152 => ?_)
        · have zc152 := c152
          replace zc152 := zc_le (nI_toInt (by omega)) (nI_toInt (by omega)) zc152
          have hLy : zqLy f (LL d1) (LC d1) (MN d1) := ⟨hc8, p26, fun j h => ⟨(hli j (by omega)).1, (hcl j h).2.1, (hli j (by omega)).2, (hcl j h).2.2.2⟩⟩
          have hMl : zMl f (LL d1) := ⟨hc8, p26, fun j h => by rw [(hli j (by omega)).2, nI_toInt (by have h9 := (hcl j h).2.2.2.2; omega)]; have h8 := (hcl j h).2.2.2; omega⟩
          have hsm2 : sm = zSm (fun j => zPo cd pN n (LC d1 j) * MN d1 j) (LL d1) := by rw [hsm, show LL d1 = i by omega]
          refine lv_aload_n hx hb dX12_settle_162 rfl (lv_at hl 0 rfl) ?_
          refine va_calli (va_runV (As := []) (rest := []) ⟨hx, hb, hml, hown, hts⟩ (m_knownN l hl0 D A sad τ f fr ol hF n hMt td cd pN hPb ((LL d1)) ((LC d1)) ((MN d1)) hLy) (cwV 0 hts gX12_settle_X12_known rfl rfl rfl (by decide +kernel) ⟨Nat.le_of_ble_eq_true rfl, Nat.le_of_ble_eq_true rfl⟩) ⟨zQc_bl, zRecv hH (zk_30 hF) rfl, zQc_at hz hS hA hH⟩ rfl rfl hl.1 rfl (lv_room (Nat.le_of_ble_eq_true rfl)) dX12_settle_163 ⟨Nat.le_of_ble_eq_true rfl, Nat.le_of_ble_eq_true rfl⟩) hS (fun q _ h => h) (fun q h => h) (fun r153 u9 t9 H1 locs ht9 hvm9 hw hB hz1 hk1 hS => ?_)
          have hH := zMv ht9 hvm9 hB
          generalize H1 = H at hH hS ⊢
          obtain rfl := hw
          have hcn := zCn_le (g := fun j => zPo cd pN n (LC d1 j)) (k := LL d1)
          refine lv_if_eq (tgt := 182) hx hb dX12_settle_166 (by decide) (fun c154 => ?_) (fun c154 => ?_)
          · have zc154 := c154
            replace zc154 := zc_eq (nI_toInt (by omega)) ((by decide : (0 : Int32).toInt = 0)) zc154
            have hnp : ¬ (0 < zCn (fun j => zPo cd pN n (LC d1 j)) (LL d1) ∧ (zDue (fi 44) (nI (zSm (fun j => zPo cd pN n (LC d1 j) * MN d1 j) (LL d1)))).toInt ≤ (fi (205 + 10 * g) d1).toInt) := fun h9 => by have h8 := h9.1; omega
            refine lv_iconst (v := (-1)) hx hb dX12_settle_182 (by decide) ?_
            refine W.widen (k := 0) (n := 0) (by decide) (by decide) ?_
            exact W.iret (v := (-1)) hx hb hr (fun t9 ht9 hW9 => ⟨⟨(-1), f, rfl, ⟨⟨⟨o, by omega, by omega, hMo⟩, hMq, fun a b h => hfr a b (by omega)⟩, Or.inr (Or.inr ⟨d1, hd1, rfl, hwt, Or.inr (Or.inl ⟨hyt, hnp, rfl, p0, ⟨hMo.2.1, p36, fun a c h1 h2 => hfr a c (by omega)⟩⟩)⟩)⟩, zEnd1 hH ht9 hW9⟩, hS.F ht9⟩) hS.2.2 dX12_settle_183
          · have zc154 := c154
            replace zc154 := zc_neq (nI_toInt (by omega)) ((by decide : (0 : Int32).toInt = 0)) zc154
            refine lv_aload_n hx hb dX12_settle_169 rfl (lv_at hl 0 rfl) ?_
            refine zGetI (D := D) (ci := 12) (C := RX12) (T := TX12) (N := 71) hx hb hts hiX12 hown hH (zk_30 hF) rfl 30 (by decide) rfl hw7 (fun _ h9 => h9) dX12_settle_170 p30 ?_
            refine lv_aload_n hx hb dX12_settle_173 rfl (lv_at hl 0 rfl) ?_
            refine lv_iload hx hb dX12_settle_174 (lv_at hl 3 rfl) ?_
            refine va_calli (va_runV (As := [.int (nI sm)]) (rest := [.int ((fi (205 + 10 * g) d1))]) ⟨hx, hb, hml, hown, hts⟩ (m_dueN l hl0 D A sad τ f fr ol (nI sm) hF) (cwV 1 hts gX12_settle_X12_due rfl rfl rfl (by decide +kernel) ⟨Nat.le_of_ble_eq_true rfl, Nat.le_of_ble_eq_true rfl⟩) ⟨zQc_bl, zRecv hH (zk_30 hF) rfl, zQc_at hz hS hA hH⟩ rfl rfl hl.1 rfl (lv_room (Nat.le_of_ble_eq_true rfl)) dX12_settle_176 ⟨Nat.le_of_ble_eq_true rfl, Nat.le_of_ble_eq_true rfl⟩) hS (fun q _ h => h) (fun q h => h) (fun r155 u9 t9 H1 locs ht9 hvm9 hw hB hz1 hk1 hS => ?_)
            have hH := zMv ht9 hvm9 hB
            generalize H1 = H at hH hS ⊢
            rw [show f 44 = fi 44 from funext (fun k9 => hfr 44 k9 (by omega)), hsm2] at hw
            obtain rfl := hw
            refine lv_icmp_ge (tgt := 184) hx hb dX12_settle_179 (by decide) (fun c156 => ?_) (fun c156 => ?_)
            · have zc156 := c156
              replace zc156 := zc_le (rfl) (rfl) zc156
              have hpd : (0 < zCn (fun j => zPo cd pN n (LC d1 j)) (LL d1) ∧ (zDue (fi 44) (nI (zSm (fun j => zPo cd pN n (LC d1 j) * MN d1 j) (LL d1)))).toInt ≤ (fi (205 + 10 * g) d1).toInt) := ⟨by omega, by omega⟩
              refine lv_aload_n hx hb dX12_settle_184 rfl (lv_at hl 0 rfl) ?_
              refine lv_aload_n hx hb dX12_settle_185 rfl (lv_at hl 0 rfl) ?_
              refine zGetI (D := D) (ci := 12) (C := RX12) (T := TX12) (N := 71) hx hb hts hiX12 hown hH (zk_30 hF) rfl 45 (by decide) rfl hw8 (fun _ h9 => h9) dX12_settle_186 p45 ?_
              refine lv_bipush (v := nI 60) hx hb dX12_settle_189 (by decide) ?_
              refine lv_icmp_ne (tgt := 198) hx hb dX12_settle_191 (by decide) (fun c157 => ?_) (fun c157 => ?_)
              · have zc157 := c157
                replace zc157 := zc_neq (nI_toInt (by omega)) (nI_toInt (by omega)) zc157
                refine lv_iconst (v := nI 0) hx hb dX12_settle_198 (by decide) ?_
                refine zPutI (D := D) (ci := 12) (ty := .int) (C := RX12) (T := TX12) (N := 71) hx hb hts hiX12 tyX12 tyX12_ok nmX12 hown hH hS (zk_30 hF) rfl 0 (by decide) rfl hw2 (fun _ h9 => h9) rfl (by decide +kernel) rfl rfl dX12_settle_199 (fun H locs hH hS => ?_)
                obtain ⟨f158, ef158⟩ : ∃ f9 : zFi, f9 = zu f 30 0 (nI 0) := ⟨_, rfl⟩
                rw [← ef158] at hH
                have q159 : f158 30 26 = nI (LL d1) := by rw [ef158, zu_n (fun h9 => absurd h9.2 (by decide))]; exact p26
                have q160 : f158 30 2 = nI n := by rw [ef158, zu_n (fun h9 => absurd h9.2 (by decide))]; exact p2
                have q161 : f158 30 45 = nI o := by rw [ef158, zu_n (fun h9 => absurd h9.2 (by decide))]; exact p45
                have q162 : f158 30 1 = nI td := by rw [ef158, zu_n (fun h9 => absurd h9.2 (by decide))]; exact p1
                have q163 : f158 30 30 = (fi (205 + 10 * g) d1) := by rw [ef158, zu_n (fun h9 => absurd h9.2 (by decide))]; exact p30
                have q164 : f158 30 36 = nI wq := by rw [ef158, zu_n (fun h9 => absurd h9.2 (by decide))]; exact p36
                have q165 : f158 30 0 = nI 0 := by rw [ef158]; exact zu_s
                have hMt := zMt.ci (fi' := f158) hMt (fun i9 k9 h9 => by rw [ef158]; exact zu_n (by omega))
                have hMo := zMo.ci (fi' := f158) hMo (fun i9 k9 h9 => by rw [ef158]; exact zu_n (by omega))
                have hMq := zMq.ci (fi' := f158) hMq (fun i9 k9 h9 => by rw [ef158]; exact zu_n (by omega))
                have hPb := zqPb.cg (fi' := f158) hPb (fun i9 k9 h9 => by rw [ef158]; exact zu_n (by omega))
                have hMl := zMl.ci (fi' := f158) hMl (fun i9 k9 h9 => by rw [ef158]; exact zu_n (by omega))
                have hLy := zqLy.cg (fi' := f158) hLy (fun i9 k9 h9 => by rw [ef158]; exact zu_n (by omega))
                refine lv_aload_n hx hb dX12_settle_202 rfl (lv_at hl 0 rfl) ?_
                refine zGetI (D := D) (ci := 12) (C := RX12) (T := TX12) (N := 71) hx hb hts hiX12 hown hH (zk_30 hF) rfl 0 (by decide) rfl hw2 (fun _ h9 => h9) dX12_settle_203 q165 ?_
                refine lv_if_le (tgt := 211) hx hb dX12_settle_206 (by decide) (fun c166 => ?_) (fun c166 => absurd (by decide) c166)
                refine lv_aload_n hx hb dX12_settle_211 rfl (lv_at hl 0 rfl) ?_
                refine va_calli (va_runV (As := []) (rest := []) ⟨hx, hb, hml, hown, hts⟩ (m_makeOrder l hl0 D A sad τ f158 fr ol hF n hMt ((LL d1)) hMl o hMo (by omega)) (cwV 0 hts gX12_settle_X12_makeOrder rfl rfl rfl (by decide +kernel) ⟨Nat.le_of_ble_eq_true rfl, Nat.le_of_ble_eq_true rfl⟩) ⟨zQc_bl, zRecv hH (zk_30 hF) rfl, zQc_at hz hS hA hH⟩ rfl rfl hl.1 rfl (lv_room (Nat.le_of_ble_eq_true rfl)) dX12_settle_212 ⟨Nat.le_of_ble_eq_true rfl, Nat.le_of_ble_eq_true rfl⟩) hS (fun q _ h => h) (fun q h => h) (fun r167 u9 t9 H1 locs ht9 hvm9 hw hB hz1 hk1 hS => ?_)
                have hH := zMv ht9 hvm9 hB
                clear hB
                generalize u9 = f168 at hw hH
                generalize H1 = H at hH hS ⊢
                obtain ⟨rfl, hMo, hf169⟩ := hw
                have q170 : f168 30 26 = nI (LL d1) := by rw [hf169 30 26 (by omega)]; exact q159
                have q171 : f168 30 2 = nI n := by rw [hf169 30 2 (by omega)]; exact q160
                have q172 : f168 30 1 = nI td := by rw [hf169 30 1 (by omega)]; exact q162
                have q173 : f168 30 30 = (fi (205 + 10 * g) d1) := by rw [hf169 30 30 (by omega)]; exact q163
                have q174 : f168 30 36 = nI wq := by rw [hf169 30 36 (by omega)]; exact q164
                have q175 : f168 30 0 = nI 0 := by rw [hf169 30 0 (by omega)]; exact q165
                have hMt := zMt.ci (fi' := f168) hMt (fun i9 k9 h9 => hf169 i9 k9 (by omega))
                have hMq := zMq.ci (fi' := f168) hMq (fun i9 k9 h9 => hf169 i9 k9 (by omega))
                have hPb := zqPb.cg (fi' := f168) hPb (fun i9 k9 h9 => hf169 i9 k9 (by omega))
                have hMl := zMl.ci (fi' := f168) hMl (fun i9 k9 h9 => hf169 i9 k9 (by omega))
                have hLy := zqLy.cg (fi' := f168) hLy (fun i9 k9 h9 => hf169 i9 k9 (by omega))
                refine lv_istore_n (lv' := [(3, .int (nI o)), (0, .ref (τ.1 30)), (1, .int (nI d1)), (4, .int (nI sm)), (5, .int (nI i))]) hx hb dX12_settle_215 rfl hl (by decide) rfl (fun ls hl => ?_)
                refine lv_aload_n hx hb dX12_settle_216 rfl (lv_at hl 1 rfl) ?_
                refine zGetR (D := D) (ci := 12) (C := RX12) (T := TX12) (N := 71) hx hb hts hiX12 hown hH (zk_30 hF) rfl 37 (by decide) rfl hw1 (fun _ h9 => h9) dX12_settle_217 hMq.2.2.2.2.1.1 ?_
                refine lv_iload_n hx hb dX12_settle_220 rfl (lv_at hl 2 rfl) ?_
                refine lv_iconst (v := nI 0) hx hb dX12_settle_221 (by decide) ?_
                refine zZastN (D := D) hx hb hH hS hMq.2.2.2.1.1.1 hMq.2.2.2.1.1.2 (by omega) (by omega) dX12_settle_222 (fun H locs hH hS => ?_)
                obtain ⟨f176, ef176⟩ : ∃ f9 : zFi, f9 = zu f168 (200 + 10 * g) d1 (vp_nar .boolean (nI 0)) := ⟨_, rfl⟩
                rw [← ef176] at hH
                have q177 : f176 30 26 = nI (LL d1) := by rw [ef176, zu_n (fun h9 => by omega)]; exact q170
                have q178 : f176 30 2 = nI n := by rw [ef176, zu_n (fun h9 => by omega)]; exact q171
                have q179 : f176 30 1 = nI td := by rw [ef176, zu_n (fun h9 => by omega)]; exact q172
                have q180 : f176 30 30 = (fi (205 + 10 * g) d1) := by rw [ef176, zu_n (fun h9 => by omega)]; exact q173
                have q181 : f176 30 36 = nI wq := by rw [ef176, zu_n (fun h9 => by omega)]; exact q174
                have q182 : f176 30 0 = nI 0 := by rw [ef176, zu_n (fun h9 => by omega)]; exact q175
                have q183 : f176 (200 + 10 * g) d1 = (vp_nar .boolean (nI 0)) := by rw [ef176]; exact zu_s
                have hMt := zMt.ci (fi' := f176) hMt (fun i9 k9 h9 => by rw [ef176]; exact zu_n (by omega))
                have hMq := zMq.ci (fi' := f176) hMq (fun i9 k9 h9 => by rw [ef176]; exact zu_n (by omega))
                have hPb := zqPb.cg (fi' := f176) hPb (fun i9 k9 h9 => by rw [ef176]; exact zu_n (by omega))
                have hMl := zMl.ci (fi' := f176) hMl (fun i9 k9 h9 => by rw [ef176]; exact zu_n (by omega))
                have hLy := zqLy.cg (fi' := f176) hLy (fun i9 k9 h9 => by rw [ef176]; exact zu_n (by omega))
                have hMo := zMo.ci (fi' := f176) hMo (fun i9 k9 h9 => by rw [ef176]; exact zu_n (by omega))
                refine lv_aload_n hx hb dX12_settle_223 rfl (lv_at hl 1 rfl) ?_
                refine lv_dup hx hb dX12_settle_224 rfl ?_
                refine zGetI (D := D) (ci := 12) (C := RX12) (T := TX12) (N := 71) hx hb hts hiX12 hown hH (zk_30 hF) rfl 36 (by decide) rfl hw3 (fun _ h9 => h9) dX12_settle_225 q181 ?_
                refine lv_iconst (v := nI 1) hx hb dX12_settle_228 (by decide) ?_
                refine lv_isub hx hb dX12_settle_229 ?_
                refine lv_topi (fun v184 ev184 => ?_)
                obtain rfl : v184 = nI (wq - 1) := ev184.trans (pk_sub (by omega))
                refine zPutI (D := D) (ci := 12) (ty := .int) (C := RX12) (T := TX12) (N := 71) hx hb hts hiX12 tyX12 tyX12_ok nmX12 hown hH hS (zk_30 hF) rfl 36 (by decide) rfl hw3 (fun _ h9 => h9) rfl (by decide +kernel) rfl rfl dX12_settle_230 (fun H locs hH hS => ?_)
                obtain ⟨f185, ef185⟩ : ∃ f9 : zFi, f9 = zu f176 30 36 (nI (wq - 1)) := ⟨_, rfl⟩
                rw [← ef185] at hH
                have q186 : f185 30 26 = nI (LL d1) := by rw [ef185, zu_n (fun h9 => absurd h9.2 (by decide))]; exact q177
                have q187 : f185 30 2 = nI n := by rw [ef185, zu_n (fun h9 => absurd h9.2 (by decide))]; exact q178
                have q188 : f185 30 1 = nI td := by rw [ef185, zu_n (fun h9 => absurd h9.2 (by decide))]; exact q179
                have q189 : f185 30 30 = (fi (205 + 10 * g) d1) := by rw [ef185, zu_n (fun h9 => absurd h9.2 (by decide))]; exact q180
                have q190 : f185 30 0 = nI 0 := by rw [ef185, zu_n (fun h9 => absurd h9.2 (by decide))]; exact q182
                have q191 : f185 (200 + 10 * g) d1 = (vp_nar .boolean (nI 0)) := by rw [ef185, zu_n (fun h9 => by omega)]; exact q183
                have q192 : f185 30 36 = nI (wq - 1) := by rw [ef185]; exact zu_s
                have hMt := zMt.ci (fi' := f185) hMt (fun i9 k9 h9 => by rw [ef185]; exact zu_n (by omega))
                have hMq := zMq.ci (fi' := f185) hMq (fun i9 k9 h9 => by rw [ef185]; exact zu_n (by omega))
                have hPb := zqPb.cg (fi' := f185) hPb (fun i9 k9 h9 => by rw [ef185]; exact zu_n (by omega))
                have hMl := zMl.ci (fi' := f185) hMl (fun i9 k9 h9 => by rw [ef185]; exact zu_n (by omega))
                have hLy := zqLy.cg (fi' := f185) hLy (fun i9 k9 h9 => by rw [ef185]; exact zu_n (by omega))
                have hMo := zMo.ci (fi' := f185) hMo (fun i9 k9 h9 => by rw [ef185]; exact zu_n (by omega))
                refine lv_iload_n hx hb dX12_settle_233 rfl (lv_at hl 0 rfl) ?_
                refine W.widen (k := 0) (n := 0) (by decide) (by decide) ?_
                exact W.iret (v := nI o) hx hb hr (fun t9 ht9 hW9 => ⟨⟨nI o, f185, rfl, ⟨⟨⟨o + 1, by omega, by omega, hMo⟩, hMq, fun a b h => by rw [ef185, zu_n (by omega), ef176, zu_n (by omega), hf169 a b (by omega), ef158, zu_n (by omega)]; exact hfr a b (by omega)⟩, Or.inr (Or.inr ⟨d1, hd1, rfl, hwt, Or.inr (Or.inr (Or.inr ⟨hyt, hpd, by omega, rfl, q190, hMo.2.1, ⟨q192, by rw [q191]; decide, fun a c h1 h2 h3 => by rw [ef185, zu_n (by omega), ef176, zu_n (by omega), hf169 a c (by omega), ef158, zu_n (by omega)]; exact hfr a c (by omega)⟩⟩))⟩)⟩, zEnd1 hH ht9 hW9⟩, hS.F ht9⟩) hS.2.2 dX12_settle_234
              · have zc157 := c157
                replace zc157 := zc_eq (nI_toInt (by omega)) (nI_toInt (by omega)) zc157
                refine lv_iconst (v := nI 3) hx hb dX12_settle_194 (by decide) ?_
                refine lv_goto (tgt := 199) hx hb dX12_settle_195 (by decide) ?_
                refine zPutI (D := D) (ci := 12) (ty := .int) (C := RX12) (T := TX12) (N := 71) hx hb hts hiX12 tyX12 tyX12_ok nmX12 hown hH hS (zk_30 hF) rfl 0 (by decide) rfl hw2 (fun _ h9 => h9) rfl (by decide +kernel) rfl rfl dX12_settle_199 (fun H locs hH hS => ?_)
                obtain ⟨f193, ef193⟩ : ∃ f9 : zFi, f9 = zu f 30 0 (nI 3) := ⟨_, rfl⟩
                rw [← ef193] at hH
                have q194 : f193 30 26 = nI (LL d1) := by rw [ef193, zu_n (fun h9 => absurd h9.2 (by decide))]; exact p26
                have q195 : f193 30 2 = nI n := by rw [ef193, zu_n (fun h9 => absurd h9.2 (by decide))]; exact p2
                have q196 : f193 30 45 = nI o := by rw [ef193, zu_n (fun h9 => absurd h9.2 (by decide))]; exact p45
                have q197 : f193 30 1 = nI td := by rw [ef193, zu_n (fun h9 => absurd h9.2 (by decide))]; exact p1
                have q198 : f193 30 30 = (fi (205 + 10 * g) d1) := by rw [ef193, zu_n (fun h9 => absurd h9.2 (by decide))]; exact p30
                have q199 : f193 30 36 = nI wq := by rw [ef193, zu_n (fun h9 => absurd h9.2 (by decide))]; exact p36
                have q200 : f193 30 0 = nI 3 := by rw [ef193]; exact zu_s
                have hMt := zMt.ci (fi' := f193) hMt (fun i9 k9 h9 => by rw [ef193]; exact zu_n (by omega))
                have hMo := zMo.ci (fi' := f193) hMo (fun i9 k9 h9 => by rw [ef193]; exact zu_n (by omega))
                have hMq := zMq.ci (fi' := f193) hMq (fun i9 k9 h9 => by rw [ef193]; exact zu_n (by omega))
                have hPb := zqPb.cg (fi' := f193) hPb (fun i9 k9 h9 => by rw [ef193]; exact zu_n (by omega))
                have hMl := zMl.ci (fi' := f193) hMl (fun i9 k9 h9 => by rw [ef193]; exact zu_n (by omega))
                have hLy := zqLy.cg (fi' := f193) hLy (fun i9 k9 h9 => by rw [ef193]; exact zu_n (by omega))
                refine lv_aload_n hx hb dX12_settle_202 rfl (lv_at hl 0 rfl) ?_
                refine zGetI (D := D) (ci := 12) (C := RX12) (T := TX12) (N := 71) hx hb hts hiX12 hown hH (zk_30 hF) rfl 0 (by decide) rfl hw2 (fun _ h9 => h9) dX12_settle_203 q200 ?_
                refine lv_if_le (tgt := 211) hx hb dX12_settle_206 (by decide) (fun c201 => absurd c201 (by decide)) (fun c201 => ?_)
                refine lv_iconst (v := nI 0) hx hb dX12_settle_209 (by decide) ?_
                refine W.widen (k := 0) (n := 0) (by decide) (by decide) ?_
                exact W.iret (v := nI 0) hx hb hr (fun t9 ht9 hW9 => ⟨⟨nI 0, f193, rfl, ⟨⟨⟨o, by omega, by omega, hMo⟩, hMq, fun a b h => by rw [ef193, zu_n (by omega)]; exact hfr a b (by omega)⟩, Or.inr (Or.inr ⟨d1, hd1, rfl, hwt, Or.inr (Or.inr (Or.inl ⟨hyt, hpd, by omega, q200, ⟨hMo.2.1, q199, fun a c h1 h2 => by rw [ef193, zu_n (by omega)]; exact hfr a c (by omega)⟩⟩))⟩)⟩, zEnd1 hH ht9 hW9⟩, hS.F ht9⟩) hS.2.2 dX12_settle_210
            · have zc156 := c156
              replace zc156 := zc_nle (rfl) (rfl) zc156
              have hnp : ¬ (0 < zCn (fun j => zPo cd pN n (LC d1 j)) (LL d1) ∧ (zDue (fi 44) (nI (zSm (fun j => zPo cd pN n (LC d1 j) * MN d1 j) (LL d1)))).toInt ≤ (fi (205 + 10 * g) d1).toInt) := fun h9 => by have h8 := h9.2; omega
              refine lv_iconst (v := (-1)) hx hb dX12_settle_182 (by decide) ?_
              refine W.widen (k := 0) (n := 0) (by decide) (by decide) ?_
              exact W.iret (v := (-1)) hx hb hr (fun t9 ht9 hW9 => ⟨⟨(-1), f, rfl, ⟨⟨⟨o, by omega, by omega, hMo⟩, hMq, fun a b h => hfr a b (by omega)⟩, Or.inr (Or.inr ⟨d1, hd1, rfl, hwt, Or.inr (Or.inl ⟨hyt, hnp, rfl, p0, ⟨hMo.2.1, p36, fun a c h1 h2 => hfr a c (by omega)⟩⟩)⟩)⟩, zEnd1 hH ht9 hW9⟩, hS.F ht9⟩) hS.2.2 dX12_settle_183
        · have zc152 := c152
          replace zc152 := zc_nle (nI_toInt (by omega)) (nI_toInt (by omega)) zc152
          refine lv_aload_n hx hb dX12_settle_80 rfl (lv_at hl 0 rfl) ?_
          refine zGetR (D := D) (ci := 12) (C := RX12) (T := TX12) (N := 71) hx hb hts hiX12 hown hH (zk_30 hF) rfl 27 (by decide) rfl hw9 (fun _ h9 => h9) dX12_settle_81 (zr_30_27 hF) ?_
          refine lv_iload hx hb dX12_settle_84 (lv_at hl 4 rfl) ?_
          refine lv_aload_n hx hb dX12_settle_86 rfl (lv_at hl 0 rfl) ?_
          refine zGetR (D := D) (ci := 12) (C := RX12) (T := TX12) (N := 71) hx hb hts hiX12 hown hH (zk_30 hF) rfl 43 (by decide) rfl hw10 (fun _ h9 => h9) dX12_settle_87 hMq.2.2.2.2.1.2.2.2.2.2.2.1 ?_
          refine lv_bipush (v := nI 8) hx hb dX12_settle_90 (by decide) ?_
          refine lv_iload_n hx hb dX12_settle_92 rfl (lv_at hl 1 rfl) ?_
          refine lv_imul hx hb dX12_settle_93 ?_
          refine lv_topi (fun v202 ev202 => ?_)
          obtain rfl : v202 = nI (8 * d1) := ev202.trans (pk_mul _ _)
          refine lv_iload hx hb dX12_settle_94 (lv_at hl 4 rfl) ?_
          refine lv_iadd hx hb dX12_settle_96 ?_
          refine lv_topi (fun v203 ev203 => ?_)
          obtain rfl : v203 = nI (8 * d1 + i) := ev203.trans (nI_add _ _)
          refine zIaldN (D := D) hx hb hH hMq.2.2.2.1.2.2.2.2.2.2.1.1 hMq.2.2.2.1.2.2.2.2.2.2.1.2 (by omega) (by omega) (show f (206 + 10 * g) (8 * d1 + i) = nI (LC d1 i) from by rw [hfr _ _ (by omega)]; exact (hcl i (by omega)).1) dX12_settle_97 ?_
          refine zIastN (D := D) hx hb hH hS (zk_48 hF) (zn_48 hF) (by omega) (by omega) dX12_settle_98 (fun H locs hH hS => ?_)
          obtain ⟨f204, ef204⟩ : ∃ f9 : zFi, f9 = zu f 48 i (nI (LC d1 i)) := ⟨_, rfl⟩
          rw [← ef204] at hH
          have q205 : f204 30 26 = nI (LL d1) := by rw [ef204, zu_n (fun h9 => absurd h9.1 (by decide))]; exact p26
          have q206 : f204 30 2 = nI n := by rw [ef204, zu_n (fun h9 => absurd h9.1 (by decide))]; exact p2
          have q207 : f204 30 45 = nI o := by rw [ef204, zu_n (fun h9 => absurd h9.1 (by decide))]; exact p45
          have q208 : f204 30 1 = nI td := by rw [ef204, zu_n (fun h9 => absurd h9.1 (by decide))]; exact p1
          have q209 : f204 30 30 = (fi (205 + 10 * g) d1) := by rw [ef204, zu_n (fun h9 => absurd h9.1 (by decide))]; exact p30
          have q210 : f204 30 0 = nI 0 := by rw [ef204, zu_n (fun h9 => absurd h9.1 (by decide))]; exact p0
          have q211 : f204 30 36 = nI wq := by rw [ef204, zu_n (fun h9 => absurd h9.1 (by decide))]; exact p36
          have q212 : f204 48 i = nI (LC d1 i) := by rw [ef204]; exact zu_s
          have hMt := zMt.ci (fi' := f204) hMt (fun i9 k9 h9 => by rw [ef204]; exact zu_n (by omega))
          have hMo := zMo.ci (fi' := f204) hMo (fun i9 k9 h9 => by rw [ef204]; exact zu_n (by omega))
          have hMq := zMq.ci (fi' := f204) hMq (fun i9 k9 h9 => by rw [ef204]; exact zu_n (by omega))
          have hPb := zqPb.cg (fi' := f204) hPb (fun i9 k9 h9 => by rw [ef204]; exact zu_n (by omega))
          refine lv_aload_n hx hb dX12_settle_99 rfl (lv_at hl 0 rfl) ?_
          refine zGetR (D := D) (ci := 12) (C := RX12) (T := TX12) (N := 71) hx hb hts hiX12 hown hH (zk_30 hF) rfl 28 (by decide) rfl hw11 (fun _ h9 => h9) dX12_settle_100 (zr_30_28 hF) ?_
          refine lv_iload hx hb dX12_settle_103 (lv_at hl 4 rfl) ?_
          refine lv_aload_n hx hb dX12_settle_105 rfl (lv_at hl 0 rfl) ?_
          refine zGetR (D := D) (ci := 12) (C := RX12) (T := TX12) (N := 71) hx hb hts hiX12 hown hH (zk_30 hF) rfl 44 (by decide) rfl hw12 (fun _ h9 => h9) dX12_settle_106 hMq.2.2.2.2.1.2.2.2.2.2.2.2 ?_
          refine lv_bipush (v := nI 8) hx hb dX12_settle_109 (by decide) ?_
          refine lv_iload_n hx hb dX12_settle_111 rfl (lv_at hl 1 rfl) ?_
          refine lv_imul hx hb dX12_settle_112 ?_
          refine lv_topi (fun v213 ev213 => ?_)
          obtain rfl : v213 = nI (8 * d1) := ev213.trans (pk_mul _ _)
          refine lv_iload hx hb dX12_settle_113 (lv_at hl 4 rfl) ?_
          refine lv_iadd hx hb dX12_settle_115 ?_
          refine lv_topi (fun v214 ev214 => ?_)
          obtain rfl : v214 = nI (8 * d1 + i) := ev214.trans (nI_add _ _)
          refine zIaldN (D := D) hx hb hH hMq.2.2.2.1.2.2.2.2.2.2.2.1 hMq.2.2.2.1.2.2.2.2.2.2.2.2 (by omega) (by omega) (show f204 (207 + 10 * g) (8 * d1 + i) = nI (MN d1 i) from by rw [ef204, zu_n (by omega), hfr _ _ (by omega)]; exact (hcl i (by omega)).2.2.1) dX12_settle_116 ?_
          refine zIastN (D := D) hx hb hH hS (zk_49 hF) (zn_49 hF) (by omega) (by omega) dX12_settle_117 (fun H locs hH hS => ?_)
          obtain ⟨f215, ef215⟩ : ∃ f9 : zFi, f9 = zu f204 49 i (nI (MN d1 i)) := ⟨_, rfl⟩
          rw [← ef215] at hH
          have q216 : f215 30 26 = nI (LL d1) := by rw [ef215, zu_n (fun h9 => absurd h9.1 (by decide))]; exact q205
          have q217 : f215 30 2 = nI n := by rw [ef215, zu_n (fun h9 => absurd h9.1 (by decide))]; exact q206
          have q218 : f215 30 45 = nI o := by rw [ef215, zu_n (fun h9 => absurd h9.1 (by decide))]; exact q207
          have q219 : f215 30 1 = nI td := by rw [ef215, zu_n (fun h9 => absurd h9.1 (by decide))]; exact q208
          have q220 : f215 30 30 = (fi (205 + 10 * g) d1) := by rw [ef215, zu_n (fun h9 => absurd h9.1 (by decide))]; exact q209
          have q221 : f215 30 0 = nI 0 := by rw [ef215, zu_n (fun h9 => absurd h9.1 (by decide))]; exact q210
          have q222 : f215 30 36 = nI wq := by rw [ef215, zu_n (fun h9 => absurd h9.1 (by decide))]; exact q211
          have q223 : f215 48 i = nI (LC d1 i) := by rw [ef215, zu_n (fun h9 => absurd h9.1 (by decide))]; exact q212
          have q224 : f215 49 i = nI (MN d1 i) := by rw [ef215]; exact zu_s
          have hMt := zMt.ci (fi' := f215) hMt (fun i9 k9 h9 => by rw [ef215]; exact zu_n (by omega))
          have hMo := zMo.ci (fi' := f215) hMo (fun i9 k9 h9 => by rw [ef215]; exact zu_n (by omega))
          have hMq := zMq.ci (fi' := f215) hMq (fun i9 k9 h9 => by rw [ef215]; exact zu_n (by omega))
          have hPb := zqPb.cg (fi' := f215) hPb (fun i9 k9 h9 => by rw [ef215]; exact zu_n (by omega))
          refine lv_aload_n hx hb dX12_settle_118 rfl (lv_at hl 0 rfl) ?_
          refine lv_aload_n hx hb dX12_settle_119 rfl (lv_at hl 0 rfl) ?_
          refine zGetR (D := D) (ci := 12) (C := RX12) (T := TX12) (N := 71) hx hb hts hiX12 hown hH (zk_30 hF) rfl 27 (by decide) rfl hw9 (fun _ h9 => h9) dX12_settle_120 (zr_30_27 hF) ?_
          refine lv_iload hx hb dX12_settle_123 (lv_at hl 4 rfl) ?_
          refine zIaldN (D := D) hx hb hH (zk_48 hF) (zn_48 hF) (by omega) (by omega) q223 dX12_settle_125 ?_
          refine va_calli (va_runV (As := [.int (nI (LC d1 i))]) (rest := []) ⟨hx, hb, hml, hown, hts⟩ (m_priceOfN l hl0 D A sad τ f215 fr ol (LC d1 i) hF n hMt td cd pN hPb ((hcl i (by omega)).2.1)) (cwV 1 hts gX12_settle_X12_priceOf rfl rfl rfl (by decide +kernel) ⟨Nat.le_of_ble_eq_true rfl, Nat.le_of_ble_eq_true rfl⟩) ⟨zQc_bl, zRecv hH (zk_30 hF) rfl, zQc_at hz hS hA hH⟩ rfl rfl hl.1 rfl (lv_room (Nat.le_of_ble_eq_true rfl)) dX12_settle_126 ⟨Nat.le_of_ble_eq_true rfl, Nat.le_of_ble_eq_true rfl⟩) hS (fun q _ h => h) (fun q h => h) (fun r225 u9 t9 H1 locs ht9 hvm9 hw hB hz1 hk1 hS => ?_)
          have hH := zMv ht9 hvm9 hB
          generalize H1 = H at hH hS ⊢
          have hpl := hPb.le (c := LC d1 i)
          rcases hw with ⟨hpz, rfl⟩ | ⟨hpz, rfl⟩
          · skip
            refine lv_istore (lv' := [(6, .int ((-1))), (0, .ref (τ.1 30)), (1, .int (nI d1)), (3, .int ((-1))), (4, .int (nI sm)), (5, .int (nI i))]) hx hb dX12_settle_129 hl (by decide) rfl (fun ls hl => ?_)
            refine lv_iload hx hb dX12_settle_131 (lv_at hl 4 rfl) ?_
            refine lv_iload hx hb dX12_settle_133 (lv_at hl 0 rfl) ?_
            refine lv_iconst (v := (-1)) hx hb dX12_settle_135 (by decide) ?_
            refine lv_icmp_ne (tgt := 143) hx hb dX12_settle_136 (by decide) (fun c226 => absurd (by decide) c226) (fun c226 => ?_)
            refine lv_iconst (v := nI 0) hx hb dX12_settle_139 (by decide) ?_
            refine lv_goto (tgt := 153) hx hb dX12_settle_140 (by decide) ?_
            refine lv_iadd hx hb dX12_settle_153 ?_
            refine lv_topi (fun v227 ev227 => ?_)
            obtain rfl : v227 = nI (sm + 0) := ev227.trans (nI_add _ _)
            refine lv_istore (lv' := [(4, .int (nI (sm + 0))), (6, .int ((-1))), (0, .ref (τ.1 30)), (1, .int (nI d1)), (3, .int ((-1))), (5, .int (nI i))]) hx hb dX12_settle_154 hl (by decide) rfl (fun ls hl => ?_)
            refine lv_iinc (v := nI (i + 1)) (lv' := [(5, .int (nI (i + 1))), (4, .int (nI (sm + 0))), (6, .int ((-1))), (0, .ref (τ.1 30)), (1, .int (nI d1)), (3, .int ((-1)))]) hx hb dX12_settle_156 hl (k := 5) rfl (by rw [show (Int32.ofInt 1 : Int32) = nI 1 from by decide, nI_add]) (by decide) rfl (fun ls hl => ?_)
            refine lv_goto (tgt := 71) hx hb dX12_settle_159 (by decide) ?_
            exact ih151 (LL d1 - (i + 1)) (by omega) (i + 1, sm + 0, f215) _ _ _ (show LL d1 - (i + 1) = LL d1 - (i + 1) ∧ ((i + 1) ≤ LL d1 ∧ f215 30 26 = nI (LL d1) ∧ f215 30 30 = fi (205 + 10 * g) d1 ∧ f215 30 0 = nI 0 ∧ (sm + 0) = zSm (fun j => zPo cd pN n (LC d1 j) * MN d1 j) (i + 1) ∧ (∀ j, j < (i + 1) → f215 48 j = nI (LC d1 j) ∧ f215 49 j = nI (MN d1 j)) ∧ ∀ a b, ¬ (a = 48 ∨ a = 49 ∨ (a = 30 ∧ (b = 0 ∨ b = 26 ∨ b = 30))) → f215 a b = fi a b) ∧ zH D A τ f215 fr ol s _ ∧ va_S A s.heap _ _ ∧ lv_has _ 7 [(0, .ref (τ.1 30)), (1, .int (nI d1)), (3, .int ((-1))), (4, .int (nI (sm + 0))), (5, .int (nI (i + 1)))] from ⟨rfl, ⟨by omega, q216, q220, q221, by simp only [zSm]; rw [← hsm, hpz, Nat.zero_mul], fun j h => by by_cases h7 : j = i; (subst h7; exact ⟨by rw [ef215, zu_n (by omega), ef204, zu_s], by rw [ef215, zu_s]⟩); (exact ⟨by rw [ef215, zu_n (by omega), ef204, zu_n (by omega)]; exact (hli j (by omega)).1, by rw [ef215, zu_n (by omega), ef204, zu_n (by omega)]; exact (hli j (by omega)).2⟩), fun a b h => by rw [ef215, zu_n (by omega), ef204, zu_n (by omega)]; exact hfr a b h⟩, hH, hS, lv_sub hl [3, 4, 5, 1, 0] rfl⟩)
          · skip
            refine lv_istore (lv' := [(6, .int (nI (zPo cd pN n (LC d1 i)))), (0, .ref (τ.1 30)), (1, .int (nI d1)), (3, .int ((-1))), (4, .int (nI sm)), (5, .int (nI i))]) hx hb dX12_settle_129 hl (by decide) rfl (fun ls hl => ?_)
            refine lv_iload hx hb dX12_settle_131 (lv_at hl 4 rfl) ?_
            refine lv_iload hx hb dX12_settle_133 (lv_at hl 0 rfl) ?_
            refine lv_iconst (v := (-1)) hx hb dX12_settle_135 (by decide) ?_
            refine lv_icmp_ne (tgt := 143) hx hb dX12_settle_136 (by decide) (fun c228 => ?_) (fun c228 => False.elim (by have zc228 := zc_eq (nI_toInt (by omega)) ((by decide : ((-1) : Int32).toInt = (-1))) c228; omega))
            refine lv_iload hx hb dX12_settle_143 (lv_at hl 0 rfl) ?_
            refine lv_aload_n hx hb dX12_settle_145 rfl (lv_at hl 1 rfl) ?_
            refine zGetR (D := D) (ci := 12) (C := RX12) (T := TX12) (N := 71) hx hb hts hiX12 hown hH (zk_30 hF) rfl 28 (by decide) rfl hw11 (fun _ h9 => h9) dX12_settle_146 (zr_30_28 hF) ?_
            refine lv_iload hx hb dX12_settle_149 (lv_at hl 5 rfl) ?_
            refine zIaldN (D := D) hx hb hH (zk_49 hF) (zn_49 hF) (by omega) (by omega) q224 dX12_settle_151 ?_
            refine lv_imul hx hb dX12_settle_152 ?_
            refine lv_topi (fun v229 ev229 => ?_)
            obtain rfl : v229 = nI ((zPo cd pN n (LC d1 i)) * (MN d1 i)) := ev229.trans (pk_mul _ _)
            refine lv_iadd hx hb dX12_settle_153 ?_
            refine lv_topi (fun v230 ev230 => ?_)
            obtain rfl : v230 = nI (sm + (zPo cd pN n (LC d1 i)) * (MN d1 i)) := ev230.trans (nI_add _ _)
            refine lv_istore (lv' := [(4, .int (nI (sm + (zPo cd pN n (LC d1 i)) * (MN d1 i)))), (6, .int (nI (zPo cd pN n (LC d1 i)))), (0, .ref (τ.1 30)), (1, .int (nI d1)), (3, .int ((-1))), (5, .int (nI i))]) hx hb dX12_settle_154 hl (by decide) rfl (fun ls hl => ?_)
            refine lv_iinc (v := nI (i + 1)) (lv' := [(5, .int (nI (i + 1))), (4, .int (nI (sm + (zPo cd pN n (LC d1 i)) * (MN d1 i)))), (6, .int (nI (zPo cd pN n (LC d1 i)))), (0, .ref (τ.1 30)), (1, .int (nI d1)), (3, .int ((-1)))]) hx hb dX12_settle_156 hl (k := 5) rfl (by rw [show (Int32.ofInt 1 : Int32) = nI 1 from by decide, nI_add]) (by decide) rfl (fun ls hl => ?_)
            refine lv_goto (tgt := 71) hx hb dX12_settle_159 (by decide) ?_
            exact ih151 (LL d1 - (i + 1)) (by omega) (i + 1, sm + (zPo cd pN n (LC d1 i)) * (MN d1 i), f215) _ _ _ (show LL d1 - (i + 1) = LL d1 - (i + 1) ∧ ((i + 1) ≤ LL d1 ∧ f215 30 26 = nI (LL d1) ∧ f215 30 30 = fi (205 + 10 * g) d1 ∧ f215 30 0 = nI 0 ∧ (sm + (zPo cd pN n (LC d1 i)) * (MN d1 i)) = zSm (fun j => zPo cd pN n (LC d1 j) * MN d1 j) (i + 1) ∧ (∀ j, j < (i + 1) → f215 48 j = nI (LC d1 j) ∧ f215 49 j = nI (MN d1 j)) ∧ ∀ a b, ¬ (a = 48 ∨ a = 49 ∨ (a = 30 ∧ (b = 0 ∨ b = 26 ∨ b = 30))) → f215 a b = fi a b) ∧ zH D A τ f215 fr ol s _ ∧ va_S A s.heap _ _ ∧ lv_has _ 7 [(0, .ref (τ.1 30)), (1, .int (nI d1)), (3, .int ((-1))), (4, .int (nI (sm + (zPo cd pN n (LC d1 i)) * (MN d1 i)))), (5, .int (nI (i + 1)))] from ⟨rfl, ⟨by omega, q216, q220, q221, by simp only [zSm]; rw [← hsm], fun j h => by by_cases h7 : j = i; (subst h7; exact ⟨by rw [ef215, zu_n (by omega), ef204, zu_s], by rw [ef215, zu_s]⟩); (exact ⟨by rw [ef215, zu_n (by omega), ef204, zu_n (by omega)]; exact (hli j (by omega)).1, by rw [ef215, zu_n (by omega), ef204, zu_n (by omega)]; exact (hli j (by omega)).2⟩), fun a b h => by rw [ef215, zu_n (by omega), ef204, zu_n (by omega)]; exact hfr a b h⟩, hH, hS, lv_sub hl [3, 4, 5, 1, 0] rfl⟩)
    · have zc103 := c103
      replace zc103 := zc_eq (rfl) ((by decide : (0 : Int32).toInt = 0)) zc103
      have hwt : fi (200 + 10 * g) d1 = 0 := Int32.toInt_inj.mp (by rw [zc103]; decide)
      refine lv_iconst (v := nI 2) hx hb dX12_settle_22 (by decide) ?_
      refine lv_goto (tgt := 27) hx hb dX12_settle_23 (by decide) ?_
      refine zPutI (D := D) (ci := 12) (ty := .int) (C := RX12) (T := TX12) (N := 71) hx hb hts hiX12 tyX12 tyX12_ok nmX12 hown hH hS (zk_30 hF) rfl 0 (by decide) rfl hw2 (fun _ h9 => h9) rfl (by decide +kernel) rfl rfl dX12_settle_27 (fun H locs hH hS => ?_)
      obtain ⟨f231, ef231⟩ : ∃ f9 : zFi, f9 = zu fi 30 0 (nI 2) := ⟨_, rfl⟩
      rw [← ef231] at hH
      have q232 : f231 30 45 = nI o := by rw [ef231, zu_n (fun h9 => absurd h9.2 (by decide))]; exact hMo.2.1
      have q233 : f231 30 35 = nI d := by rw [ef231, zu_n (fun h9 => absurd h9.2 (by decide))]; exact hMq.2.2.1
      have q234 : f231 30 36 = nI wq := by rw [ef231, zu_n (fun h9 => absurd h9.2 (by decide))]; exact hwq
      have q235 : f231 30 2 = nI n := by rw [ef231, zu_n (fun h9 => absurd h9.2 (by decide))]; exact hMt.2.1
      have q236 : f231 30 1 = nI td := by rw [ef231, zu_n (fun h9 => absurd h9.2 (by decide))]; exact hPb.1
      have q237 : f231 30 0 = nI 2 := by rw [ef231]; exact zu_s
      have hMt := zMt.ci (fi' := f231) hMt (fun i9 k9 h9 => by rw [ef231]; exact zu_n (by omega))
      have hMo := zMo.ci (fi' := f231) hMo (fun i9 k9 h9 => by rw [ef231]; exact zu_n (by omega))
      have hMq := zMq.ci (fi' := f231) hMq (fun i9 k9 h9 => by rw [ef231]; exact zu_n (by omega))
      have hPb := zqPb.cg (fi' := f231) hPb (fun i9 k9 h9 => by rw [ef231]; exact zu_n (by omega))
      refine lv_aload_n hx hb dX12_settle_30 rfl (lv_at hl 0 rfl) ?_
      refine zGetI (D := D) (ci := 12) (C := RX12) (T := TX12) (N := 71) hx hb hts hiX12 hown hH (zk_30 hF) rfl 0 (by decide) rfl hw2 (fun _ h9 => h9) dX12_settle_31 q237 ?_
      refine lv_if_le (tgt := 39) hx hb dX12_settle_34 (by decide) (fun c238 => absurd c238 (by decide)) (fun c238 => ?_)
      refine lv_iconst (v := nI 0) hx hb dX12_settle_37 (by decide) ?_
      refine W.widen (k := 0) (n := 0) (by decide) (by decide) ?_
      exact W.iret (v := nI 0) hx hb hr (fun t9 ht9 hW9 => ⟨⟨nI 0, f231, rfl, ⟨⟨⟨o, by omega, by omega, hMo⟩, hMq, fun a b h => by rw [ef231, zu_n (by omega)]⟩, Or.inr (Or.inl ⟨d1, hd1, rfl, hwt, q237, ⟨hMo.2.1, q234, fun a c h1 h2 => by rw [ef231, zu_n (by omega)]⟩⟩)⟩, zEnd1 hH ht9 hW9⟩, hS.F ht9⟩) hS.2.2 dX12_settle_38
  · skip
    refine lv_if_ne (tgt := 13) hx hb dX12_settle_6 (by decide) (fun c239 => absurd (by decide) c239) (fun c239 => ?_)
    refine lv_iconst (v := nI 1) hx hb dX12_settle_9 (by decide) ?_
    refine lv_goto (tgt := 27) hx hb dX12_settle_10 (by decide) ?_
    refine zPutI (D := D) (ci := 12) (ty := .int) (C := RX12) (T := TX12) (N := 71) hx hb hts hiX12 tyX12 tyX12_ok nmX12 hown hH hS (zk_30 hF) rfl 0 (by decide) rfl hw2 (fun _ h9 => h9) rfl (by decide +kernel) rfl rfl dX12_settle_27 (fun H locs hH hS => ?_)
    obtain ⟨f240, ef240⟩ : ∃ f9 : zFi, f9 = zu fi 30 0 (nI 1) := ⟨_, rfl⟩
    rw [← ef240] at hH
    have q241 : f240 30 45 = nI o := by rw [ef240, zu_n (fun h9 => absurd h9.2 (by decide))]; exact hMo.2.1
    have q242 : f240 30 35 = nI d := by rw [ef240, zu_n (fun h9 => absurd h9.2 (by decide))]; exact hMq.2.2.1
    have q243 : f240 30 36 = nI wq := by rw [ef240, zu_n (fun h9 => absurd h9.2 (by decide))]; exact hwq
    have q244 : f240 30 2 = nI n := by rw [ef240, zu_n (fun h9 => absurd h9.2 (by decide))]; exact hMt.2.1
    have q245 : f240 30 1 = nI td := by rw [ef240, zu_n (fun h9 => absurd h9.2 (by decide))]; exact hPb.1
    have q246 : f240 30 0 = nI 1 := by rw [ef240]; exact zu_s
    have hMt := zMt.ci (fi' := f240) hMt (fun i9 k9 h9 => by rw [ef240]; exact zu_n (by omega))
    have hMo := zMo.ci (fi' := f240) hMo (fun i9 k9 h9 => by rw [ef240]; exact zu_n (by omega))
    have hMq := zMq.ci (fi' := f240) hMq (fun i9 k9 h9 => by rw [ef240]; exact zu_n (by omega))
    have hPb := zqPb.cg (fi' := f240) hPb (fun i9 k9 h9 => by rw [ef240]; exact zu_n (by omega))
    refine lv_aload_n hx hb dX12_settle_30 rfl (lv_at hl 0 rfl) ?_
    refine zGetI (D := D) (ci := 12) (C := RX12) (T := TX12) (N := 71) hx hb hts hiX12 hown hH (zk_30 hF) rfl 0 (by decide) rfl hw2 (fun _ h9 => h9) dX12_settle_31 q246 ?_
    refine lv_if_le (tgt := 39) hx hb dX12_settle_34 (by decide) (fun c247 => absurd c247 (by decide)) (fun c247 => ?_)
    refine lv_iconst (v := nI 0) hx hb dX12_settle_37 (by decide) ?_
    refine W.widen (k := 0) (n := 0) (by decide) (by decide) ?_
    exact W.iret (v := nI 0) hx hb hr (fun t9 ht9 hW9 => ⟨⟨nI 0, f240, rfl, ⟨⟨⟨o, by omega, by omega, hMo⟩, hMq, fun a b h => by rw [ef240, zu_n (by omega)]⟩, Or.inl ⟨hno, q246, ⟨hMo.2.1, q243, fun a c h1 h2 => by rw [ef240, zu_n (by omega)]⟩⟩⟩, zEnd1 hH ht9 hW9⟩, hS.F ht9⟩) hS.2.2 dX12_settle_38
