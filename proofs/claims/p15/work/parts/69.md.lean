set_option maxHeartbeats 4000000 in
set_option maxRecDepth 100000 in
/-- longer -/
theorem m_longer_64 (l : Launch) (hl0 : l.stackTraces = false) (D : va_G) (A : Nat → Prop) (sad : Nat → Nat) (τ : zTy) (fi : zFi) (fr : zFr) (ol : Int64) (hF : zFix τ fr) (ia ib : Nat) (hka : τ.2.2.1 ia = 1 ∧ τ.2.2.2 ia = 64) (hvd : τ.2.2.1 ib = 0) (hib : 100 ≤ ib) (hne : ia ≠ ib) : Met l yX12_longer wsX12_longer ({ frames := 0, cells := 1, slots := 128, locals := 0 }) (va_Pc [.ref (τ.1 ia)] (zQc D A sad τ fi fr ol)) (va_Qq (fun (r : Option Nat) (u : zTy × zFi × zFr) => r = some (u.1.1 ib) ∧ (∀ i, i ≠ ib → u.1.1 i = τ.1 i ∧ u.1.2.2.1 i = τ.2.2.1 i ∧ u.1.2.2.2 i = τ.2.2.2 i) ∧ (u.1.2.2.1 ib = 1 ∧ u.1.2.2.2 ib = 128) ∧ zFix u.1 u.2.2 ∧ (∀ i k, i ≠ ib → u.2.1 i k = fi i k) ∧ (∀ i k, i ≠ ib → u.2.2 i k = fr i k) ∧ (∀ k, u.2.2 ib k = none) ∧ ∀ k, k < 64 → u.2.1 ib k = fi ia k) (fun (u : zTy × zFi × zFr) (t : State) => zH D A u.1 u.2.1 u.2.2 ol t t.heap) A) 1 128 A := by
  refine Met.ofW (cc := cX12_longer) (maxL := 3) (ret := (some (.array .int))) (by decide) rfl ?_
  intro p9 e9 s m args below meth c9 s₁ B hml hv
  obtain ⟨rfl, hz, hH, hA⟩ := hv
  have hx := B.exec
  have hb := B.bytes
  have hr := B.returns
  have hts := atoms_spec (ws := wsX12_longer) B.pre
  have hown : s.vm.findClass RX12 = some m.cls := findClass_of_methodNamed B.named
  have hlocks := B.notSynchronized
  have hS : va_S A s.heap s.heap [] := va_S.rf
  have hl := lv_entry ([.ref (τ.1 ia)]) (n := 3) (Nat.le_of_ble_eq_true rfl)
  rw [lg_entry_eq]
  generalize (lg_sl ([.ref (τ.1 ia)]) ++ List.replicate (3 - (lg_sl ([.ref (τ.1 ia)])).length) Slot.unset).toArray = ls at hl ⊢
  have hl : lv_has ls 3 [(0, .ref (τ.1 ia))] := hl
  have hw0 := hts (.arrayClass .int) (by decide +kernel)
  refine lv_iconst (v := nI 2) hx hb dX12_longer_0 (by decide) ?_
  refine lv_aload_n hx hb dX12_longer_1 rfl (lv_at hl 0 rfl) ?_
  refine zAlen (D := D) hx hb hH hka.1 (by decide) (by decide) hka.2 dX12_longer_2 ?_
  refine lv_imul hx hb dX12_longer_3 ?_
  refine lv_topi (fun v101 ev101 => ?_)
  obtain rfl : v101 = nI 128 := ev101.trans (by decide)
  refine zNewa (D := D) (atype := .int) (t := 1) (N' := 128) hx hb hw0 rfl (by decide) (by decide) rfl hH hS hA ib hvd (by decide) (by decide) (by first | decide | (simp only [zT, componentBytes]; omega)) (Nat.le_of_ble_eq_true rfl) (Nat.le_of_ble_eq_true rfl) dX12_longer_4 (fun q9 c9 H hH8 hS => ?_)
  obtain ⟨τ102, eτ102⟩ : ∃ t9 : zTy, t9 = (va_up τ.1 ib q9, va_up τ.2.1 ib c9, va_up τ.2.2.1 ib 1, va_up τ.2.2.2 ib 128) := ⟨_, rfl⟩
  obtain ⟨f103, ef103⟩ : ∃ f9 : zFi, f9 = va_up fi ib (fun _ => 0) := ⟨_, rfl⟩
  obtain ⟨g104, eg104⟩ : ∃ f9 : zFr, f9 = va_up fr ib (fun _ => none) := ⟨_, rfl⟩
  have hH : zH D A τ102 f103 g104 ol s H := by rw [eτ102, ef103, eg104]; exact hH8
  clear hH8
  have hqτ102 : τ102.1 ib = q9 := by rw [eτ102]; exact va_up_self _ _ _
  have haτ102 : ∀ i, i ≠ ib → τ102.1 i = τ.1 i := fun i h => by rw [eτ102]; exact va_up_ne _ _ h
  have hkτ102 : τ102.2.2.1 ib = 1 := by rw [eτ102]; exact va_up_self _ _ _
  have hnτ102 : τ102.2.2.2 ib = 128 := by rw [eτ102]; exact va_up_self _ _ _
  have hbτ102 : ∀ i, i ≠ ib → τ102.2.2.1 i = τ.2.2.1 i ∧ τ102.2.2.2 i = τ.2.2.2 i := fun i h => by rw [eτ102]; exact ⟨va_up_ne _ _ h, va_up_ne _ _ h⟩
  have hFτ102 : zFix τ102 g104 := by rw [eτ102, eg104]; exact hF.up (by omega)
  clear eτ102
  subst hqτ102
  rw [show τ.1 ia = τ102.1 ia from (haτ102 ia (by omega)).symm] at hl
  have hka2 : τ102.2.2.1 ia = 1 ∧ τ102.2.2.2 ia = 64 := ⟨by rw [(hbτ102 ia (by omega)).1]; exact hka.1, by rw [(hbτ102 ia (by omega)).2]; exact hka.2⟩
  refine W.widen (k := 1) (n := 128) (by decide) (by decide) ?_
  refine lv_astore_n (lv' := [(1, .ref (τ102.1 ib)), (0, .ref (τ102.1 ia))]) hx hb dX12_longer_6 rfl hl (by decide) rfl (fun ls hl => ?_)
  refine lv_iconst (v := nI 0) hx hb dX12_longer_7 (by decide) ?_
  refine lv_istore_n (lv' := [(2, .int (nI 0)), (1, .ref (τ102.1 ib)), (0, .ref (τ102.1 ia))]) hx hb dX12_longer_8 rfl hl (by decide) rfl (fun ls hl => ?_)
  refine zLp (σ := Nat × zFi) (fun x9 k9 H locs ls => (fun (i : Nat) (f : zFi) => k9 = 64 - i ∧ (i ≤ 64 ∧ (∀ k, k < i → f ib k = fi ia k) ∧ ∀ i9 k, i9 ≠ ib → f i9 k = fi i9 k) ∧ zH D A τ102 f g104 ol s H ∧ va_S A s.heap H locs ∧ lv_has ls 3 [(0, .ref (τ102.1 ia)), (1, .ref (τ102.1 ib)), (2, .int (nI i))]) x9.1 x9.2) (0, f103) (64 - 0) (show 64 - 0 = 64 - 0 ∧ (0 ≤ 64 ∧ (∀ k, k < 0 → f103 ib k = fi ia k) ∧ ∀ i9 k, i9 ≠ ib → f103 i9 k = fi i9 k) ∧ zH D A τ102 f103 g104 ol s _ ∧ va_S A s.heap _ _ ∧ lv_has _ 3 [(0, .ref (τ102.1 ia)), (1, .ref (τ102.1 ib)), (2, .int (nI 0))] from ⟨rfl, ⟨Nat.zero_le _, fun k h => absurd h (by omega), fun i k h => by rw [ef103, va_up_ne _ _ h]⟩, hH, hS, lv_sub hl [2, 1, 0] rfl⟩) (fun k9 ih x9 H locs ls hv9 => ?_)
  obtain ⟨i, f⟩ := x9
  have hv9 : k9 = 64 - i ∧ (i ≤ 64 ∧ (∀ k, k < i → f ib k = fi ia k) ∧ ∀ i9 k, i9 ≠ ib → f i9 k = fi i9 k) ∧ zH D A τ102 f g104 ol s H ∧ va_S A s.heap H locs ∧ lv_has ls 3 [(0, .ref (τ102.1 ia)), (1, .ref (τ102.1 ib)), (2, .int (nI i))] := hv9
  obtain ⟨hkih105, hv9, hH, hS, hl⟩ := hv9
  obtain ⟨h1, hcp, hfr⟩ := hv9
  have ih105 := ih
  clear ih
  refine lv_iload_n hx hb dX12_longer_9 rfl (lv_at hl 2 rfl) ?_
  refine lv_aload_n hx hb dX12_longer_10 rfl (lv_at hl 0 rfl) ?_
  refine zAlen (D := D) hx hb hH hka2.1 (by decide) (by decide) hka2.2 dX12_longer_11 ?_
  refine lv_icmp_ge (tgt := 27) hx hb dX12_longer_12 (by decide) (fun c106 => ?_) (fun c106 => ?_)
  · have zc106 := c106
    replace zc106 := zc_le (nI_toInt (by omega)) (nI_toInt (by omega)) zc106
    refine lv_aload_n hx hb dX12_longer_27 rfl (lv_at hl 1 rfl) ?_
    refine W.widen (k := 1) (n := 128) (by decide) (by decide) ?_
    exact W.aret (v := .ref (τ102.1 ib)) hx hb hr (Or.inr ⟨_, rfl⟩) (Or.inr ⟨_, rfl⟩) (fun t9 ht9 hW9 => ⟨⟨(some (τ102.1 ib)), (τ102, f, g104), rfl, (show (some (τ102.1 ib)) = some (τ102.1 ib) ∧ (∀ i, i ≠ ib → τ102.1 i = τ.1 i ∧ τ102.2.2.1 i = τ.2.2.1 i ∧ τ102.2.2.2 i = τ.2.2.2 i) ∧ (τ102.2.2.1 ib = 1 ∧ τ102.2.2.2 ib = 128) ∧ zFix τ102 g104 ∧ (∀ i k, i ≠ ib → f i k = fi i k) ∧ (∀ i k, i ≠ ib → g104 i k = fr i k) ∧ (∀ k, g104 ib k = none) ∧ ∀ k, k < 64 → f ib k = fi ia k from ⟨rfl, fun i h => ⟨haτ102 i h, (hbτ102 i h).1, (hbτ102 i h).2⟩, ⟨hkτ102, hnτ102⟩, hFτ102, hfr, fun i k h => by rw [eg104, va_up_ne _ _ h], fun k => by rw [eg104, va_up_self], fun k h => hcp k (by omega)⟩), zEnd1 hH ht9 hW9⟩, hS.F ht9⟩) hS.2.2 dX12_longer_28
  · have zc106 := c106
    replace zc106 := zc_nle (nI_toInt (by omega)) (nI_toInt (by omega)) zc106
    refine lv_aload_n hx hb dX12_longer_15 rfl (lv_at hl 1 rfl) ?_
    refine lv_iload_n hx hb dX12_longer_16 rfl (lv_at hl 2 rfl) ?_
    refine lv_aload_n hx hb dX12_longer_17 rfl (lv_at hl 0 rfl) ?_
    refine lv_iload_n hx hb dX12_longer_18 rfl (lv_at hl 2 rfl) ?_
    refine zIaldN (D := D) hx hb hH hka2.1 hka2.2 (by omega) (by omega) rfl dX12_longer_19 ?_
    refine zIastN (D := D) hx hb hH hS hkτ102 hnτ102 (by omega) (by omega) dX12_longer_20 (fun H locs hH hS => ?_)
    obtain ⟨f107, ef107⟩ : ∃ f9 : zFi, f9 = zu f ib i (f ia i) := ⟨_, rfl⟩
    rw [← ef107] at hH
    have q108 : f107 ib i = f ia i := by rw [ef107]; exact zu_s
    refine lv_iinc (v := nI (i + 1)) (lv' := [(2, .int (nI (i + 1))), (0, .ref (τ102.1 ia)), (1, .ref (τ102.1 ib))]) hx hb dX12_longer_21 hl (k := 2) rfl (by rw [show (Int32.ofInt 1 : Int32) = nI 1 from by decide, nI_add]) (by decide) rfl (fun ls hl => ?_)
    refine lv_goto (tgt := 9) hx hb dX12_longer_24 (by decide) ?_
    exact ih105 (64 - (i + 1)) (by omega) (i + 1, f107) _ _ _ (show 64 - (i + 1) = 64 - (i + 1) ∧ ((i + 1) ≤ 64 ∧ (∀ k, k < (i + 1) → f107 ib k = fi ia k) ∧ ∀ i9 k, i9 ≠ ib → f107 i9 k = fi i9 k) ∧ zH D A τ102 f107 g104 ol s _ ∧ va_S A s.heap _ _ ∧ lv_has _ 3 [(0, .ref (τ102.1 ia)), (1, .ref (τ102.1 ib)), (2, .int (nI (i + 1)))] from ⟨rfl, ⟨by omega, fun k h => by by_cases h7 : k = i; (subst h7; rw [ef107, zu_s]; exact hfr ia k hne); (rw [ef107, zu_n (by omega)]; exact hcp k (by omega)), fun i9 k h => by rw [ef107, zu_n (by omega)]; exact hfr i9 k h⟩, hH, hS, lv_sub hl [1, 2, 0] rfl⟩)
set_option maxHeartbeats 4000000 in
set_option maxRecDepth 100000 in
/-- longer -/
theorem m_longer_128 (l : Launch) (hl0 : l.stackTraces = false) (D : va_G) (A : Nat → Prop) (sad : Nat → Nat) (τ : zTy) (fi : zFi) (fr : zFr) (ol : Int64) (hF : zFix τ fr) (ia ib : Nat) (hka : τ.2.2.1 ia = 1 ∧ τ.2.2.2 ia = 128) (hvd : τ.2.2.1 ib = 0) (hib : 100 ≤ ib) (hne : ia ≠ ib) : Met l yX12_longer wsX12_longer ({ frames := 0, cells := 1, slots := 256, locals := 0 }) (va_Pc [.ref (τ.1 ia)] (zQc D A sad τ fi fr ol)) (va_Qq (fun (r : Option Nat) (u : zTy × zFi × zFr) => r = some (u.1.1 ib) ∧ (∀ i, i ≠ ib → u.1.1 i = τ.1 i ∧ u.1.2.2.1 i = τ.2.2.1 i ∧ u.1.2.2.2 i = τ.2.2.2 i) ∧ (u.1.2.2.1 ib = 1 ∧ u.1.2.2.2 ib = 256) ∧ zFix u.1 u.2.2 ∧ (∀ i k, i ≠ ib → u.2.1 i k = fi i k) ∧ (∀ i k, i ≠ ib → u.2.2 i k = fr i k) ∧ (∀ k, u.2.2 ib k = none) ∧ ∀ k, k < 128 → u.2.1 ib k = fi ia k) (fun (u : zTy × zFi × zFr) (t : State) => zH D A u.1 u.2.1 u.2.2 ol t t.heap) A) 1 256 A := by
  refine Met.ofW (cc := cX12_longer) (maxL := 3) (ret := (some (.array .int))) (by decide) rfl ?_
  intro p9 e9 s m args below meth c9 s₁ B hml hv
  obtain ⟨rfl, hz, hH, hA⟩ := hv
  have hx := B.exec
  have hb := B.bytes
  have hr := B.returns
  have hts := atoms_spec (ws := wsX12_longer) B.pre
  have hown : s.vm.findClass RX12 = some m.cls := findClass_of_methodNamed B.named
  have hlocks := B.notSynchronized
  have hS : va_S A s.heap s.heap [] := va_S.rf
  have hl := lv_entry ([.ref (τ.1 ia)]) (n := 3) (Nat.le_of_ble_eq_true rfl)
  rw [lg_entry_eq]
  generalize (lg_sl ([.ref (τ.1 ia)]) ++ List.replicate (3 - (lg_sl ([.ref (τ.1 ia)])).length) Slot.unset).toArray = ls at hl ⊢
  have hl : lv_has ls 3 [(0, .ref (τ.1 ia))] := hl
  have hw0 := hts (.arrayClass .int) (by decide +kernel)
  refine lv_iconst (v := nI 2) hx hb dX12_longer_0 (by decide) ?_
  refine lv_aload_n hx hb dX12_longer_1 rfl (lv_at hl 0 rfl) ?_
  refine zAlen (D := D) hx hb hH hka.1 (by decide) (by decide) hka.2 dX12_longer_2 ?_
  refine lv_imul hx hb dX12_longer_3 ?_
  refine lv_topi (fun v101 ev101 => ?_)
  obtain rfl : v101 = nI 256 := ev101.trans (by decide)
  refine zNewa (D := D) (atype := .int) (t := 1) (N' := 256) hx hb hw0 rfl (by decide) (by decide) rfl hH hS hA ib hvd (by decide) (by decide) (by first | decide | (simp only [zT, componentBytes]; omega)) (Nat.le_of_ble_eq_true rfl) (Nat.le_of_ble_eq_true rfl) dX12_longer_4 (fun q9 c9 H hH8 hS => ?_)
  obtain ⟨τ102, eτ102⟩ : ∃ t9 : zTy, t9 = (va_up τ.1 ib q9, va_up τ.2.1 ib c9, va_up τ.2.2.1 ib 1, va_up τ.2.2.2 ib 256) := ⟨_, rfl⟩
  obtain ⟨f103, ef103⟩ : ∃ f9 : zFi, f9 = va_up fi ib (fun _ => 0) := ⟨_, rfl⟩
  obtain ⟨g104, eg104⟩ : ∃ f9 : zFr, f9 = va_up fr ib (fun _ => none) := ⟨_, rfl⟩
  have hH : zH D A τ102 f103 g104 ol s H := by rw [eτ102, ef103, eg104]; exact hH8
  clear hH8
  have hqτ102 : τ102.1 ib = q9 := by rw [eτ102]; exact va_up_self _ _ _
  have haτ102 : ∀ i, i ≠ ib → τ102.1 i = τ.1 i := fun i h => by rw [eτ102]; exact va_up_ne _ _ h
  have hkτ102 : τ102.2.2.1 ib = 1 := by rw [eτ102]; exact va_up_self _ _ _
  have hnτ102 : τ102.2.2.2 ib = 256 := by rw [eτ102]; exact va_up_self _ _ _
  have hbτ102 : ∀ i, i ≠ ib → τ102.2.2.1 i = τ.2.2.1 i ∧ τ102.2.2.2 i = τ.2.2.2 i := fun i h => by rw [eτ102]; exact ⟨va_up_ne _ _ h, va_up_ne _ _ h⟩
  have hFτ102 : zFix τ102 g104 := by rw [eτ102, eg104]; exact hF.up (by omega)
  clear eτ102
  subst hqτ102
  rw [show τ.1 ia = τ102.1 ia from (haτ102 ia (by omega)).symm] at hl
  have hka2 : τ102.2.2.1 ia = 1 ∧ τ102.2.2.2 ia = 128 := ⟨by rw [(hbτ102 ia (by omega)).1]; exact hka.1, by rw [(hbτ102 ia (by omega)).2]; exact hka.2⟩
  refine W.widen (k := 1) (n := 256) (by decide) (by decide) ?_
  refine lv_astore_n (lv' := [(1, .ref (τ102.1 ib)), (0, .ref (τ102.1 ia))]) hx hb dX12_longer_6 rfl hl (by decide) rfl (fun ls hl => ?_)
  refine lv_iconst (v := nI 0) hx hb dX12_longer_7 (by decide) ?_
  refine lv_istore_n (lv' := [(2, .int (nI 0)), (1, .ref (τ102.1 ib)), (0, .ref (τ102.1 ia))]) hx hb dX12_longer_8 rfl hl (by decide) rfl (fun ls hl => ?_)
  refine zLp (σ := Nat × zFi) (fun x9 k9 H locs ls => (fun (i : Nat) (f : zFi) => k9 = 128 - i ∧ (i ≤ 128 ∧ (∀ k, k < i → f ib k = fi ia k) ∧ ∀ i9 k, i9 ≠ ib → f i9 k = fi i9 k) ∧ zH D A τ102 f g104 ol s H ∧ va_S A s.heap H locs ∧ lv_has ls 3 [(0, .ref (τ102.1 ia)), (1, .ref (τ102.1 ib)), (2, .int (nI i))]) x9.1 x9.2) (0, f103) (128 - 0) (show 128 - 0 = 128 - 0 ∧ (0 ≤ 128 ∧ (∀ k, k < 0 → f103 ib k = fi ia k) ∧ ∀ i9 k, i9 ≠ ib → f103 i9 k = fi i9 k) ∧ zH D A τ102 f103 g104 ol s _ ∧ va_S A s.heap _ _ ∧ lv_has _ 3 [(0, .ref (τ102.1 ia)), (1, .ref (τ102.1 ib)), (2, .int (nI 0))] from ⟨rfl, ⟨Nat.zero_le _, fun k h => absurd h (by omega), fun i k h => by rw [ef103, va_up_ne _ _ h]⟩, hH, hS, lv_sub hl [2, 1, 0] rfl⟩) (fun k9 ih x9 H locs ls hv9 => ?_)
  obtain ⟨i, f⟩ := x9
  have hv9 : k9 = 128 - i ∧ (i ≤ 128 ∧ (∀ k, k < i → f ib k = fi ia k) ∧ ∀ i9 k, i9 ≠ ib → f i9 k = fi i9 k) ∧ zH D A τ102 f g104 ol s H ∧ va_S A s.heap H locs ∧ lv_has ls 3 [(0, .ref (τ102.1 ia)), (1, .ref (τ102.1 ib)), (2, .int (nI i))] := hv9
  obtain ⟨hkih105, hv9, hH, hS, hl⟩ := hv9
  obtain ⟨h1, hcp, hfr⟩ := hv9
  have ih105 := ih
  clear ih
  refine lv_iload_n hx hb dX12_longer_9 rfl (lv_at hl 2 rfl) ?_
  refine lv_aload_n hx hb dX12_longer_10 rfl (lv_at hl 0 rfl) ?_
  refine zAlen (D := D) hx hb hH hka2.1 (by decide) (by decide) hka2.2 dX12_longer_11 ?_
  refine lv_icmp_ge (tgt := 27) hx hb dX12_longer_12 (by decide) (fun c106 => ?_) (fun c106 => ?_)
  · have zc106 := c106
    replace zc106 := zc_le (nI_toInt (by omega)) (nI_toInt (by omega)) zc106
    refine lv_aload_n hx hb dX12_longer_27 rfl (lv_at hl 1 rfl) ?_
    refine W.widen (k := 1) (n := 256) (by decide) (by decide) ?_
    exact W.aret (v := .ref (τ102.1 ib)) hx hb hr (Or.inr ⟨_, rfl⟩) (Or.inr ⟨_, rfl⟩) (fun t9 ht9 hW9 => ⟨⟨(some (τ102.1 ib)), (τ102, f, g104), rfl, (show (some (τ102.1 ib)) = some (τ102.1 ib) ∧ (∀ i, i ≠ ib → τ102.1 i = τ.1 i ∧ τ102.2.2.1 i = τ.2.2.1 i ∧ τ102.2.2.2 i = τ.2.2.2 i) ∧ (τ102.2.2.1 ib = 1 ∧ τ102.2.2.2 ib = 256) ∧ zFix τ102 g104 ∧ (∀ i k, i ≠ ib → f i k = fi i k) ∧ (∀ i k, i ≠ ib → g104 i k = fr i k) ∧ (∀ k, g104 ib k = none) ∧ ∀ k, k < 128 → f ib k = fi ia k from ⟨rfl, fun i h => ⟨haτ102 i h, (hbτ102 i h).1, (hbτ102 i h).2⟩, ⟨hkτ102, hnτ102⟩, hFτ102, hfr, fun i k h => by rw [eg104, va_up_ne _ _ h], fun k => by rw [eg104, va_up_self], fun k h => hcp k (by omega)⟩), zEnd1 hH ht9 hW9⟩, hS.F ht9⟩) hS.2.2 dX12_longer_28
  · have zc106 := c106
    replace zc106 := zc_nle (nI_toInt (by omega)) (nI_toInt (by omega)) zc106
    refine lv_aload_n hx hb dX12_longer_15 rfl (lv_at hl 1 rfl) ?_
    refine lv_iload_n hx hb dX12_longer_16 rfl (lv_at hl 2 rfl) ?_
    refine lv_aload_n hx hb dX12_longer_17 rfl (lv_at hl 0 rfl) ?_
    refine lv_iload_n hx hb dX12_longer_18 rfl (lv_at hl 2 rfl) ?_
    refine zIaldN (D := D) hx hb hH hka2.1 hka2.2 (by omega) (by omega) rfl dX12_longer_19 ?_
    refine zIastN (D := D) hx hb hH hS hkτ102 hnτ102 (by omega) (by omega) dX12_longer_20 (fun H locs hH hS => ?_)
    obtain ⟨f107, ef107⟩ : ∃ f9 : zFi, f9 = zu f ib i (f ia i) := ⟨_, rfl⟩
    rw [← ef107] at hH
    have q108 : f107 ib i = f ia i := by rw [ef107]; exact zu_s
    refine lv_iinc (v := nI (i + 1)) (lv' := [(2, .int (nI (i + 1))), (0, .ref (τ102.1 ia)), (1, .ref (τ102.1 ib))]) hx hb dX12_longer_21 hl (k := 2) rfl (by rw [show (Int32.ofInt 1 : Int32) = nI 1 from by decide, nI_add]) (by decide) rfl (fun ls hl => ?_)
    refine lv_goto (tgt := 9) hx hb dX12_longer_24 (by decide) ?_
    exact ih105 (128 - (i + 1)) (by omega) (i + 1, f107) _ _ _ (show 128 - (i + 1) = 128 - (i + 1) ∧ ((i + 1) ≤ 128 ∧ (∀ k, k < (i + 1) → f107 ib k = fi ia k) ∧ ∀ i9 k, i9 ≠ ib → f107 i9 k = fi i9 k) ∧ zH D A τ102 f107 g104 ol s _ ∧ va_S A s.heap _ _ ∧ lv_has _ 3 [(0, .ref (τ102.1 ia)), (1, .ref (τ102.1 ib)), (2, .int (nI (i + 1)))] from ⟨rfl, ⟨by omega, fun k h => by by_cases h7 : k = i; (subst h7; rw [ef107, zu_s]; exact hfr ia k hne); (rw [ef107, zu_n (by omega)]; exact hcp k (by omega)), fun i9 k h => by rw [ef107, zu_n (by omega)]; exact hfr i9 k h⟩, hH, hS, lv_sub hl [1, 2, 0] rfl⟩)
set_option maxHeartbeats 4000000 in
set_option maxRecDepth 100000 in
/-- longer -/
theorem m_longer_256 (l : Launch) (hl0 : l.stackTraces = false) (D : va_G) (A : Nat → Prop) (sad : Nat → Nat) (τ : zTy) (fi : zFi) (fr : zFr) (ol : Int64) (hF : zFix τ fr) (ia ib : Nat) (hka : τ.2.2.1 ia = 1 ∧ τ.2.2.2 ia = 256) (hvd : τ.2.2.1 ib = 0) (hib : 100 ≤ ib) (hne : ia ≠ ib) : Met l yX12_longer wsX12_longer ({ frames := 0, cells := 1, slots := 512, locals := 0 }) (va_Pc [.ref (τ.1 ia)] (zQc D A sad τ fi fr ol)) (va_Qq (fun (r : Option Nat) (u : zTy × zFi × zFr) => r = some (u.1.1 ib) ∧ (∀ i, i ≠ ib → u.1.1 i = τ.1 i ∧ u.1.2.2.1 i = τ.2.2.1 i ∧ u.1.2.2.2 i = τ.2.2.2 i) ∧ (u.1.2.2.1 ib = 1 ∧ u.1.2.2.2 ib = 512) ∧ zFix u.1 u.2.2 ∧ (∀ i k, i ≠ ib → u.2.1 i k = fi i k) ∧ (∀ i k, i ≠ ib → u.2.2 i k = fr i k) ∧ (∀ k, u.2.2 ib k = none) ∧ ∀ k, k < 256 → u.2.1 ib k = fi ia k) (fun (u : zTy × zFi × zFr) (t : State) => zH D A u.1 u.2.1 u.2.2 ol t t.heap) A) 1 512 A := by
  refine Met.ofW (cc := cX12_longer) (maxL := 3) (ret := (some (.array .int))) (by decide) rfl ?_
  intro p9 e9 s m args below meth c9 s₁ B hml hv
  obtain ⟨rfl, hz, hH, hA⟩ := hv
  have hx := B.exec
  have hb := B.bytes
  have hr := B.returns
  have hts := atoms_spec (ws := wsX12_longer) B.pre
  have hown : s.vm.findClass RX12 = some m.cls := findClass_of_methodNamed B.named
  have hlocks := B.notSynchronized
  have hS : va_S A s.heap s.heap [] := va_S.rf
  have hl := lv_entry ([.ref (τ.1 ia)]) (n := 3) (Nat.le_of_ble_eq_true rfl)
  rw [lg_entry_eq]
  generalize (lg_sl ([.ref (τ.1 ia)]) ++ List.replicate (3 - (lg_sl ([.ref (τ.1 ia)])).length) Slot.unset).toArray = ls at hl ⊢
  have hl : lv_has ls 3 [(0, .ref (τ.1 ia))] := hl
  have hw0 := hts (.arrayClass .int) (by decide +kernel)
  refine lv_iconst (v := nI 2) hx hb dX12_longer_0 (by decide) ?_
  refine lv_aload_n hx hb dX12_longer_1 rfl (lv_at hl 0 rfl) ?_
  refine zAlen (D := D) hx hb hH hka.1 (by decide) (by decide) hka.2 dX12_longer_2 ?_
  refine lv_imul hx hb dX12_longer_3 ?_
  refine lv_topi (fun v101 ev101 => ?_)
  obtain rfl : v101 = nI 512 := ev101.trans (by decide)
  refine zNewa (D := D) (atype := .int) (t := 1) (N' := 512) hx hb hw0 rfl (by decide) (by decide) rfl hH hS hA ib hvd (by decide) (by decide) (by first | decide | (simp only [zT, componentBytes]; omega)) (Nat.le_of_ble_eq_true rfl) (Nat.le_of_ble_eq_true rfl) dX12_longer_4 (fun q9 c9 H hH8 hS => ?_)
  obtain ⟨τ102, eτ102⟩ : ∃ t9 : zTy, t9 = (va_up τ.1 ib q9, va_up τ.2.1 ib c9, va_up τ.2.2.1 ib 1, va_up τ.2.2.2 ib 512) := ⟨_, rfl⟩
  obtain ⟨f103, ef103⟩ : ∃ f9 : zFi, f9 = va_up fi ib (fun _ => 0) := ⟨_, rfl⟩
  obtain ⟨g104, eg104⟩ : ∃ f9 : zFr, f9 = va_up fr ib (fun _ => none) := ⟨_, rfl⟩
  have hH : zH D A τ102 f103 g104 ol s H := by rw [eτ102, ef103, eg104]; exact hH8
  clear hH8
  have hqτ102 : τ102.1 ib = q9 := by rw [eτ102]; exact va_up_self _ _ _
  have haτ102 : ∀ i, i ≠ ib → τ102.1 i = τ.1 i := fun i h => by rw [eτ102]; exact va_up_ne _ _ h
  have hkτ102 : τ102.2.2.1 ib = 1 := by rw [eτ102]; exact va_up_self _ _ _
  have hnτ102 : τ102.2.2.2 ib = 512 := by rw [eτ102]; exact va_up_self _ _ _
  have hbτ102 : ∀ i, i ≠ ib → τ102.2.2.1 i = τ.2.2.1 i ∧ τ102.2.2.2 i = τ.2.2.2 i := fun i h => by rw [eτ102]; exact ⟨va_up_ne _ _ h, va_up_ne _ _ h⟩
  have hFτ102 : zFix τ102 g104 := by rw [eτ102, eg104]; exact hF.up (by omega)
  clear eτ102
  subst hqτ102
  rw [show τ.1 ia = τ102.1 ia from (haτ102 ia (by omega)).symm] at hl
  have hka2 : τ102.2.2.1 ia = 1 ∧ τ102.2.2.2 ia = 256 := ⟨by rw [(hbτ102 ia (by omega)).1]; exact hka.1, by rw [(hbτ102 ia (by omega)).2]; exact hka.2⟩
  refine W.widen (k := 1) (n := 512) (by decide) (by decide) ?_
  refine lv_astore_n (lv' := [(1, .ref (τ102.1 ib)), (0, .ref (τ102.1 ia))]) hx hb dX12_longer_6 rfl hl (by decide) rfl (fun ls hl => ?_)
  refine lv_iconst (v := nI 0) hx hb dX12_longer_7 (by decide) ?_
  refine lv_istore_n (lv' := [(2, .int (nI 0)), (1, .ref (τ102.1 ib)), (0, .ref (τ102.1 ia))]) hx hb dX12_longer_8 rfl hl (by decide) rfl (fun ls hl => ?_)
  refine zLp (σ := Nat × zFi) (fun x9 k9 H locs ls => (fun (i : Nat) (f : zFi) => k9 = 256 - i ∧ (i ≤ 256 ∧ (∀ k, k < i → f ib k = fi ia k) ∧ ∀ i9 k, i9 ≠ ib → f i9 k = fi i9 k) ∧ zH D A τ102 f g104 ol s H ∧ va_S A s.heap H locs ∧ lv_has ls 3 [(0, .ref (τ102.1 ia)), (1, .ref (τ102.1 ib)), (2, .int (nI i))]) x9.1 x9.2) (0, f103) (256 - 0) (show 256 - 0 = 256 - 0 ∧ (0 ≤ 256 ∧ (∀ k, k < 0 → f103 ib k = fi ia k) ∧ ∀ i9 k, i9 ≠ ib → f103 i9 k = fi i9 k) ∧ zH D A τ102 f103 g104 ol s _ ∧ va_S A s.heap _ _ ∧ lv_has _ 3 [(0, .ref (τ102.1 ia)), (1, .ref (τ102.1 ib)), (2, .int (nI 0))] from ⟨rfl, ⟨Nat.zero_le _, fun k h => absurd h (by omega), fun i k h => by rw [ef103, va_up_ne _ _ h]⟩, hH, hS, lv_sub hl [2, 1, 0] rfl⟩) (fun k9 ih x9 H locs ls hv9 => ?_)
  obtain ⟨i, f⟩ := x9
  have hv9 : k9 = 256 - i ∧ (i ≤ 256 ∧ (∀ k, k < i → f ib k = fi ia k) ∧ ∀ i9 k, i9 ≠ ib → f i9 k = fi i9 k) ∧ zH D A τ102 f g104 ol s H ∧ va_S A s.heap H locs ∧ lv_has ls 3 [(0, .ref (τ102.1 ia)), (1, .ref (τ102.1 ib)), (2, .int (nI i))] := hv9
  obtain ⟨hkih105, hv9, hH, hS, hl⟩ := hv9
  obtain ⟨h1, hcp, hfr⟩ := hv9
  have ih105 := ih
  clear ih
  refine lv_iload_n hx hb dX12_longer_9 rfl (lv_at hl 2 rfl) ?_
  refine lv_aload_n hx hb dX12_longer_10 rfl (lv_at hl 0 rfl) ?_
  refine zAlen (D := D) hx hb hH hka2.1 (by decide) (by decide) hka2.2 dX12_longer_11 ?_
  refine lv_icmp_ge (tgt := 27) hx hb dX12_longer_12 (by decide) (fun c106 => ?_) (fun c106 => ?_)
  · have zc106 := c106
    replace zc106 := zc_le (nI_toInt (by omega)) (nI_toInt (by omega)) zc106
    refine lv_aload_n hx hb dX12_longer_27 rfl (lv_at hl 1 rfl) ?_
    refine W.widen (k := 1) (n := 512) (by decide) (by decide) ?_
    exact W.aret (v := .ref (τ102.1 ib)) hx hb hr (Or.inr ⟨_, rfl⟩) (Or.inr ⟨_, rfl⟩) (fun t9 ht9 hW9 => ⟨⟨(some (τ102.1 ib)), (τ102, f, g104), rfl, (show (some (τ102.1 ib)) = some (τ102.1 ib) ∧ (∀ i, i ≠ ib → τ102.1 i = τ.1 i ∧ τ102.2.2.1 i = τ.2.2.1 i ∧ τ102.2.2.2 i = τ.2.2.2 i) ∧ (τ102.2.2.1 ib = 1 ∧ τ102.2.2.2 ib = 512) ∧ zFix τ102 g104 ∧ (∀ i k, i ≠ ib → f i k = fi i k) ∧ (∀ i k, i ≠ ib → g104 i k = fr i k) ∧ (∀ k, g104 ib k = none) ∧ ∀ k, k < 256 → f ib k = fi ia k from ⟨rfl, fun i h => ⟨haτ102 i h, (hbτ102 i h).1, (hbτ102 i h).2⟩, ⟨hkτ102, hnτ102⟩, hFτ102, hfr, fun i k h => by rw [eg104, va_up_ne _ _ h], fun k => by rw [eg104, va_up_self], fun k h => hcp k (by omega)⟩), zEnd1 hH ht9 hW9⟩, hS.F ht9⟩) hS.2.2 dX12_longer_28
  · have zc106 := c106
    replace zc106 := zc_nle (nI_toInt (by omega)) (nI_toInt (by omega)) zc106
    refine lv_aload_n hx hb dX12_longer_15 rfl (lv_at hl 1 rfl) ?_
    refine lv_iload_n hx hb dX12_longer_16 rfl (lv_at hl 2 rfl) ?_
    refine lv_aload_n hx hb dX12_longer_17 rfl (lv_at hl 0 rfl) ?_
    refine lv_iload_n hx hb dX12_longer_18 rfl (lv_at hl 2 rfl) ?_
    refine zIaldN (D := D) hx hb hH hka2.1 hka2.2 (by omega) (by omega) rfl dX12_longer_19 ?_
    refine zIastN (D := D) hx hb hH hS hkτ102 hnτ102 (by omega) (by omega) dX12_longer_20 (fun H locs hH hS => ?_)
    obtain ⟨f107, ef107⟩ : ∃ f9 : zFi, f9 = zu f ib i (f ia i) := ⟨_, rfl⟩
    rw [← ef107] at hH
    have q108 : f107 ib i = f ia i := by rw [ef107]; exact zu_s
    refine lv_iinc (v := nI (i + 1)) (lv' := [(2, .int (nI (i + 1))), (0, .ref (τ102.1 ia)), (1, .ref (τ102.1 ib))]) hx hb dX12_longer_21 hl (k := 2) rfl (by rw [show (Int32.ofInt 1 : Int32) = nI 1 from by decide, nI_add]) (by decide) rfl (fun ls hl => ?_)
    refine lv_goto (tgt := 9) hx hb dX12_longer_24 (by decide) ?_
    exact ih105 (256 - (i + 1)) (by omega) (i + 1, f107) _ _ _ (show 256 - (i + 1) = 256 - (i + 1) ∧ ((i + 1) ≤ 256 ∧ (∀ k, k < (i + 1) → f107 ib k = fi ia k) ∧ ∀ i9 k, i9 ≠ ib → f107 i9 k = fi i9 k) ∧ zH D A τ102 f107 g104 ol s _ ∧ va_S A s.heap _ _ ∧ lv_has _ 3 [(0, .ref (τ102.1 ia)), (1, .ref (τ102.1 ib)), (2, .int (nI (i + 1)))] from ⟨rfl, ⟨by omega, fun k h => by by_cases h7 : k = i; (subst h7; rw [ef107, zu_s]; exact hfr ia k hne); (rw [ef107, zu_n (by omega)]; exact hcp k (by omega)), fun i9 k h => by rw [ef107, zu_n (by omega)]; exact hfr i9 k h⟩, hH, hS, lv_sub hl [1, 2, 0] rfl⟩)
set_option maxHeartbeats 4000000 in
set_option maxRecDepth 100000 in
/-- longer -/
theorem m_longer_512 (l : Launch) (hl0 : l.stackTraces = false) (D : va_G) (A : Nat → Prop) (sad : Nat → Nat) (τ : zTy) (fi : zFi) (fr : zFr) (ol : Int64) (hF : zFix τ fr) (ia ib : Nat) (hka : τ.2.2.1 ia = 1 ∧ τ.2.2.2 ia = 512) (hvd : τ.2.2.1 ib = 0) (hib : 100 ≤ ib) (hne : ia ≠ ib) : Met l yX12_longer wsX12_longer ({ frames := 0, cells := 1, slots := 1024, locals := 0 }) (va_Pc [.ref (τ.1 ia)] (zQc D A sad τ fi fr ol)) (va_Qq (fun (r : Option Nat) (u : zTy × zFi × zFr) => r = some (u.1.1 ib) ∧ (∀ i, i ≠ ib → u.1.1 i = τ.1 i ∧ u.1.2.2.1 i = τ.2.2.1 i ∧ u.1.2.2.2 i = τ.2.2.2 i) ∧ (u.1.2.2.1 ib = 1 ∧ u.1.2.2.2 ib = 1024) ∧ zFix u.1 u.2.2 ∧ (∀ i k, i ≠ ib → u.2.1 i k = fi i k) ∧ (∀ i k, i ≠ ib → u.2.2 i k = fr i k) ∧ (∀ k, u.2.2 ib k = none) ∧ ∀ k, k < 512 → u.2.1 ib k = fi ia k) (fun (u : zTy × zFi × zFr) (t : State) => zH D A u.1 u.2.1 u.2.2 ol t t.heap) A) 1 1024 A := by
  refine Met.ofW (cc := cX12_longer) (maxL := 3) (ret := (some (.array .int))) (by decide) rfl ?_
  intro p9 e9 s m args below meth c9 s₁ B hml hv
  obtain ⟨rfl, hz, hH, hA⟩ := hv
  have hx := B.exec
  have hb := B.bytes
  have hr := B.returns
  have hts := atoms_spec (ws := wsX12_longer) B.pre
  have hown : s.vm.findClass RX12 = some m.cls := findClass_of_methodNamed B.named
  have hlocks := B.notSynchronized
  have hS : va_S A s.heap s.heap [] := va_S.rf
  have hl := lv_entry ([.ref (τ.1 ia)]) (n := 3) (Nat.le_of_ble_eq_true rfl)
  rw [lg_entry_eq]
  generalize (lg_sl ([.ref (τ.1 ia)]) ++ List.replicate (3 - (lg_sl ([.ref (τ.1 ia)])).length) Slot.unset).toArray = ls at hl ⊢
  have hl : lv_has ls 3 [(0, .ref (τ.1 ia))] := hl
  have hw0 := hts (.arrayClass .int) (by decide +kernel)
  refine lv_iconst (v := nI 2) hx hb dX12_longer_0 (by decide) ?_
  refine lv_aload_n hx hb dX12_longer_1 rfl (lv_at hl 0 rfl) ?_
  refine zAlen (D := D) hx hb hH hka.1 (by decide) (by decide) hka.2 dX12_longer_2 ?_
  refine lv_imul hx hb dX12_longer_3 ?_
  refine lv_topi (fun v101 ev101 => ?_)
  obtain rfl : v101 = nI 1024 := ev101.trans (by decide)
  refine zNewa (D := D) (atype := .int) (t := 1) (N' := 1024) hx hb hw0 rfl (by decide) (by decide) rfl hH hS hA ib hvd (by decide) (by decide) (by first | decide | (simp only [zT, componentBytes]; omega)) (Nat.le_of_ble_eq_true rfl) (Nat.le_of_ble_eq_true rfl) dX12_longer_4 (fun q9 c9 H hH8 hS => ?_)
  obtain ⟨τ102, eτ102⟩ : ∃ t9 : zTy, t9 = (va_up τ.1 ib q9, va_up τ.2.1 ib c9, va_up τ.2.2.1 ib 1, va_up τ.2.2.2 ib 1024) := ⟨_, rfl⟩
  obtain ⟨f103, ef103⟩ : ∃ f9 : zFi, f9 = va_up fi ib (fun _ => 0) := ⟨_, rfl⟩
  obtain ⟨g104, eg104⟩ : ∃ f9 : zFr, f9 = va_up fr ib (fun _ => none) := ⟨_, rfl⟩
  have hH : zH D A τ102 f103 g104 ol s H := by rw [eτ102, ef103, eg104]; exact hH8
  clear hH8
  have hqτ102 : τ102.1 ib = q9 := by rw [eτ102]; exact va_up_self _ _ _
  have haτ102 : ∀ i, i ≠ ib → τ102.1 i = τ.1 i := fun i h => by rw [eτ102]; exact va_up_ne _ _ h
  have hkτ102 : τ102.2.2.1 ib = 1 := by rw [eτ102]; exact va_up_self _ _ _
  have hnτ102 : τ102.2.2.2 ib = 1024 := by rw [eτ102]; exact va_up_self _ _ _
  have hbτ102 : ∀ i, i ≠ ib → τ102.2.2.1 i = τ.2.2.1 i ∧ τ102.2.2.2 i = τ.2.2.2 i := fun i h => by rw [eτ102]; exact ⟨va_up_ne _ _ h, va_up_ne _ _ h⟩
  have hFτ102 : zFix τ102 g104 := by rw [eτ102, eg104]; exact hF.up (by omega)
  clear eτ102
  subst hqτ102
  rw [show τ.1 ia = τ102.1 ia from (haτ102 ia (by omega)).symm] at hl
  have hka2 : τ102.2.2.1 ia = 1 ∧ τ102.2.2.2 ia = 512 := ⟨by rw [(hbτ102 ia (by omega)).1]; exact hka.1, by rw [(hbτ102 ia (by omega)).2]; exact hka.2⟩
  refine W.widen (k := 1) (n := 1024) (by decide) (by decide) ?_
  refine lv_astore_n (lv' := [(1, .ref (τ102.1 ib)), (0, .ref (τ102.1 ia))]) hx hb dX12_longer_6 rfl hl (by decide) rfl (fun ls hl => ?_)
  refine lv_iconst (v := nI 0) hx hb dX12_longer_7 (by decide) ?_
  refine lv_istore_n (lv' := [(2, .int (nI 0)), (1, .ref (τ102.1 ib)), (0, .ref (τ102.1 ia))]) hx hb dX12_longer_8 rfl hl (by decide) rfl (fun ls hl => ?_)
  refine zLp (σ := Nat × zFi) (fun x9 k9 H locs ls => (fun (i : Nat) (f : zFi) => k9 = 512 - i ∧ (i ≤ 512 ∧ (∀ k, k < i → f ib k = fi ia k) ∧ ∀ i9 k, i9 ≠ ib → f i9 k = fi i9 k) ∧ zH D A τ102 f g104 ol s H ∧ va_S A s.heap H locs ∧ lv_has ls 3 [(0, .ref (τ102.1 ia)), (1, .ref (τ102.1 ib)), (2, .int (nI i))]) x9.1 x9.2) (0, f103) (512 - 0) (show 512 - 0 = 512 - 0 ∧ (0 ≤ 512 ∧ (∀ k, k < 0 → f103 ib k = fi ia k) ∧ ∀ i9 k, i9 ≠ ib → f103 i9 k = fi i9 k) ∧ zH D A τ102 f103 g104 ol s _ ∧ va_S A s.heap _ _ ∧ lv_has _ 3 [(0, .ref (τ102.1 ia)), (1, .ref (τ102.1 ib)), (2, .int (nI 0))] from ⟨rfl, ⟨Nat.zero_le _, fun k h => absurd h (by omega), fun i k h => by rw [ef103, va_up_ne _ _ h]⟩, hH, hS, lv_sub hl [2, 1, 0] rfl⟩) (fun k9 ih x9 H locs ls hv9 => ?_)
  obtain ⟨i, f⟩ := x9
  have hv9 : k9 = 512 - i ∧ (i ≤ 512 ∧ (∀ k, k < i → f ib k = fi ia k) ∧ ∀ i9 k, i9 ≠ ib → f i9 k = fi i9 k) ∧ zH D A τ102 f g104 ol s H ∧ va_S A s.heap H locs ∧ lv_has ls 3 [(0, .ref (τ102.1 ia)), (1, .ref (τ102.1 ib)), (2, .int (nI i))] := hv9
  obtain ⟨hkih105, hv9, hH, hS, hl⟩ := hv9
  obtain ⟨h1, hcp, hfr⟩ := hv9
  have ih105 := ih
  clear ih
  refine lv_iload_n hx hb dX12_longer_9 rfl (lv_at hl 2 rfl) ?_
  refine lv_aload_n hx hb dX12_longer_10 rfl (lv_at hl 0 rfl) ?_
  refine zAlen (D := D) hx hb hH hka2.1 (by decide) (by decide) hka2.2 dX12_longer_11 ?_
  refine lv_icmp_ge (tgt := 27) hx hb dX12_longer_12 (by decide) (fun c106 => ?_) (fun c106 => ?_)
  · have zc106 := c106
    replace zc106 := zc_le (nI_toInt (by omega)) (nI_toInt (by omega)) zc106
    refine lv_aload_n hx hb dX12_longer_27 rfl (lv_at hl 1 rfl) ?_
    refine W.widen (k := 1) (n := 1024) (by decide) (by decide) ?_
    exact W.aret (v := .ref (τ102.1 ib)) hx hb hr (Or.inr ⟨_, rfl⟩) (Or.inr ⟨_, rfl⟩) (fun t9 ht9 hW9 => ⟨⟨(some (τ102.1 ib)), (τ102, f, g104), rfl, (show (some (τ102.1 ib)) = some (τ102.1 ib) ∧ (∀ i, i ≠ ib → τ102.1 i = τ.1 i ∧ τ102.2.2.1 i = τ.2.2.1 i ∧ τ102.2.2.2 i = τ.2.2.2 i) ∧ (τ102.2.2.1 ib = 1 ∧ τ102.2.2.2 ib = 1024) ∧ zFix τ102 g104 ∧ (∀ i k, i ≠ ib → f i k = fi i k) ∧ (∀ i k, i ≠ ib → g104 i k = fr i k) ∧ (∀ k, g104 ib k = none) ∧ ∀ k, k < 512 → f ib k = fi ia k from ⟨rfl, fun i h => ⟨haτ102 i h, (hbτ102 i h).1, (hbτ102 i h).2⟩, ⟨hkτ102, hnτ102⟩, hFτ102, hfr, fun i k h => by rw [eg104, va_up_ne _ _ h], fun k => by rw [eg104, va_up_self], fun k h => hcp k (by omega)⟩), zEnd1 hH ht9 hW9⟩, hS.F ht9⟩) hS.2.2 dX12_longer_28
  · have zc106 := c106
    replace zc106 := zc_nle (nI_toInt (by omega)) (nI_toInt (by omega)) zc106
    refine lv_aload_n hx hb dX12_longer_15 rfl (lv_at hl 1 rfl) ?_
    refine lv_iload_n hx hb dX12_longer_16 rfl (lv_at hl 2 rfl) ?_
    refine lv_aload_n hx hb dX12_longer_17 rfl (lv_at hl 0 rfl) ?_
    refine lv_iload_n hx hb dX12_longer_18 rfl (lv_at hl 2 rfl) ?_
    refine zIaldN (D := D) hx hb hH hka2.1 hka2.2 (by omega) (by omega) rfl dX12_longer_19 ?_
    refine zIastN (D := D) hx hb hH hS hkτ102 hnτ102 (by omega) (by omega) dX12_longer_20 (fun H locs hH hS => ?_)
    obtain ⟨f107, ef107⟩ : ∃ f9 : zFi, f9 = zu f ib i (f ia i) := ⟨_, rfl⟩
    rw [← ef107] at hH
    have q108 : f107 ib i = f ia i := by rw [ef107]; exact zu_s
    refine lv_iinc (v := nI (i + 1)) (lv' := [(2, .int (nI (i + 1))), (0, .ref (τ102.1 ia)), (1, .ref (τ102.1 ib))]) hx hb dX12_longer_21 hl (k := 2) rfl (by rw [show (Int32.ofInt 1 : Int32) = nI 1 from by decide, nI_add]) (by decide) rfl (fun ls hl => ?_)
    refine lv_goto (tgt := 9) hx hb dX12_longer_24 (by decide) ?_
    exact ih105 (512 - (i + 1)) (by omega) (i + 1, f107) _ _ _ (show 512 - (i + 1) = 512 - (i + 1) ∧ ((i + 1) ≤ 512 ∧ (∀ k, k < (i + 1) → f107 ib k = fi ia k) ∧ ∀ i9 k, i9 ≠ ib → f107 i9 k = fi i9 k) ∧ zH D A τ102 f107 g104 ol s _ ∧ va_S A s.heap _ _ ∧ lv_has _ 3 [(0, .ref (τ102.1 ia)), (1, .ref (τ102.1 ib)), (2, .int (nI (i + 1)))] from ⟨rfl, ⟨by omega, fun k h => by by_cases h7 : k = i; (subst h7; rw [ef107, zu_s]; exact hfr ia k hne); (rw [ef107, zu_n (by omega)]; exact hcp k (by omega)), fun i9 k h => by rw [ef107, zu_n (by omega)]; exact hfr i9 k h⟩, hH, hS, lv_sub hl [1, 2, 0] rfl⟩)
set_option maxHeartbeats 4000000 in
set_option maxRecDepth 100000 in
/-- longer -/
theorem m_longer_1024 (l : Launch) (hl0 : l.stackTraces = false) (D : va_G) (A : Nat → Prop) (sad : Nat → Nat) (τ : zTy) (fi : zFi) (fr : zFr) (ol : Int64) (hF : zFix τ fr) (ia ib : Nat) (hka : τ.2.2.1 ia = 1 ∧ τ.2.2.2 ia = 1024) (hvd : τ.2.2.1 ib = 0) (hib : 100 ≤ ib) (hne : ia ≠ ib) : Met l yX12_longer wsX12_longer ({ frames := 0, cells := 1, slots := 2048, locals := 0 }) (va_Pc [.ref (τ.1 ia)] (zQc D A sad τ fi fr ol)) (va_Qq (fun (r : Option Nat) (u : zTy × zFi × zFr) => r = some (u.1.1 ib) ∧ (∀ i, i ≠ ib → u.1.1 i = τ.1 i ∧ u.1.2.2.1 i = τ.2.2.1 i ∧ u.1.2.2.2 i = τ.2.2.2 i) ∧ (u.1.2.2.1 ib = 1 ∧ u.1.2.2.2 ib = 2048) ∧ zFix u.1 u.2.2 ∧ (∀ i k, i ≠ ib → u.2.1 i k = fi i k) ∧ (∀ i k, i ≠ ib → u.2.2 i k = fr i k) ∧ (∀ k, u.2.2 ib k = none) ∧ ∀ k, k < 1024 → u.2.1 ib k = fi ia k) (fun (u : zTy × zFi × zFr) (t : State) => zH D A u.1 u.2.1 u.2.2 ol t t.heap) A) 1 2048 A := by
  refine Met.ofW (cc := cX12_longer) (maxL := 3) (ret := (some (.array .int))) (by decide) rfl ?_
  intro p9 e9 s m args below meth c9 s₁ B hml hv
  obtain ⟨rfl, hz, hH, hA⟩ := hv
  have hx := B.exec
  have hb := B.bytes
  have hr := B.returns
  have hts := atoms_spec (ws := wsX12_longer) B.pre
  have hown : s.vm.findClass RX12 = some m.cls := findClass_of_methodNamed B.named
  have hlocks := B.notSynchronized
  have hS : va_S A s.heap s.heap [] := va_S.rf
  have hl := lv_entry ([.ref (τ.1 ia)]) (n := 3) (Nat.le_of_ble_eq_true rfl)
  rw [lg_entry_eq]
  generalize (lg_sl ([.ref (τ.1 ia)]) ++ List.replicate (3 - (lg_sl ([.ref (τ.1 ia)])).length) Slot.unset).toArray = ls at hl ⊢
  have hl : lv_has ls 3 [(0, .ref (τ.1 ia))] := hl
  have hw0 := hts (.arrayClass .int) (by decide +kernel)
  refine lv_iconst (v := nI 2) hx hb dX12_longer_0 (by decide) ?_
  refine lv_aload_n hx hb dX12_longer_1 rfl (lv_at hl 0 rfl) ?_
  refine zAlen (D := D) hx hb hH hka.1 (by decide) (by decide) hka.2 dX12_longer_2 ?_
  refine lv_imul hx hb dX12_longer_3 ?_
  refine lv_topi (fun v101 ev101 => ?_)
  obtain rfl : v101 = nI 2048 := ev101.trans (by decide)
  refine zNewa (D := D) (atype := .int) (t := 1) (N' := 2048) hx hb hw0 rfl (by decide) (by decide) rfl hH hS hA ib hvd (by decide) (by decide) (by first | decide | (simp only [zT, componentBytes]; omega)) (Nat.le_of_ble_eq_true rfl) (Nat.le_of_ble_eq_true rfl) dX12_longer_4 (fun q9 c9 H hH8 hS => ?_)
  obtain ⟨τ102, eτ102⟩ : ∃ t9 : zTy, t9 = (va_up τ.1 ib q9, va_up τ.2.1 ib c9, va_up τ.2.2.1 ib 1, va_up τ.2.2.2 ib 2048) := ⟨_, rfl⟩
  obtain ⟨f103, ef103⟩ : ∃ f9 : zFi, f9 = va_up fi ib (fun _ => 0) := ⟨_, rfl⟩
  obtain ⟨g104, eg104⟩ : ∃ f9 : zFr, f9 = va_up fr ib (fun _ => none) := ⟨_, rfl⟩
  have hH : zH D A τ102 f103 g104 ol s H := by rw [eτ102, ef103, eg104]; exact hH8
  clear hH8
  have hqτ102 : τ102.1 ib = q9 := by rw [eτ102]; exact va_up_self _ _ _
  have haτ102 : ∀ i, i ≠ ib → τ102.1 i = τ.1 i := fun i h => by rw [eτ102]; exact va_up_ne _ _ h
  have hkτ102 : τ102.2.2.1 ib = 1 := by rw [eτ102]; exact va_up_self _ _ _
  have hnτ102 : τ102.2.2.2 ib = 2048 := by rw [eτ102]; exact va_up_self _ _ _
  have hbτ102 : ∀ i, i ≠ ib → τ102.2.2.1 i = τ.2.2.1 i ∧ τ102.2.2.2 i = τ.2.2.2 i := fun i h => by rw [eτ102]; exact ⟨va_up_ne _ _ h, va_up_ne _ _ h⟩
  have hFτ102 : zFix τ102 g104 := by rw [eτ102, eg104]; exact hF.up (by omega)
  clear eτ102
  subst hqτ102
  rw [show τ.1 ia = τ102.1 ia from (haτ102 ia (by omega)).symm] at hl
  have hka2 : τ102.2.2.1 ia = 1 ∧ τ102.2.2.2 ia = 1024 := ⟨by rw [(hbτ102 ia (by omega)).1]; exact hka.1, by rw [(hbτ102 ia (by omega)).2]; exact hka.2⟩
  refine W.widen (k := 1) (n := 2048) (by decide) (by decide) ?_
  refine lv_astore_n (lv' := [(1, .ref (τ102.1 ib)), (0, .ref (τ102.1 ia))]) hx hb dX12_longer_6 rfl hl (by decide) rfl (fun ls hl => ?_)
  refine lv_iconst (v := nI 0) hx hb dX12_longer_7 (by decide) ?_
  refine lv_istore_n (lv' := [(2, .int (nI 0)), (1, .ref (τ102.1 ib)), (0, .ref (τ102.1 ia))]) hx hb dX12_longer_8 rfl hl (by decide) rfl (fun ls hl => ?_)
  refine zLp (σ := Nat × zFi) (fun x9 k9 H locs ls => (fun (i : Nat) (f : zFi) => k9 = 1024 - i ∧ (i ≤ 1024 ∧ (∀ k, k < i → f ib k = fi ia k) ∧ ∀ i9 k, i9 ≠ ib → f i9 k = fi i9 k) ∧ zH D A τ102 f g104 ol s H ∧ va_S A s.heap H locs ∧ lv_has ls 3 [(0, .ref (τ102.1 ia)), (1, .ref (τ102.1 ib)), (2, .int (nI i))]) x9.1 x9.2) (0, f103) (1024 - 0) (show 1024 - 0 = 1024 - 0 ∧ (0 ≤ 1024 ∧ (∀ k, k < 0 → f103 ib k = fi ia k) ∧ ∀ i9 k, i9 ≠ ib → f103 i9 k = fi i9 k) ∧ zH D A τ102 f103 g104 ol s _ ∧ va_S A s.heap _ _ ∧ lv_has _ 3 [(0, .ref (τ102.1 ia)), (1, .ref (τ102.1 ib)), (2, .int (nI 0))] from ⟨rfl, ⟨Nat.zero_le _, fun k h => absurd h (by omega), fun i k h => by rw [ef103, va_up_ne _ _ h]⟩, hH, hS, lv_sub hl [2, 1, 0] rfl⟩) (fun k9 ih x9 H locs ls hv9 => ?_)
  obtain ⟨i, f⟩ := x9
  have hv9 : k9 = 1024 - i ∧ (i ≤ 1024 ∧ (∀ k, k < i → f ib k = fi ia k) ∧ ∀ i9 k, i9 ≠ ib → f i9 k = fi i9 k) ∧ zH D A τ102 f g104 ol s H ∧ va_S A s.heap H locs ∧ lv_has ls 3 [(0, .ref (τ102.1 ia)), (1, .ref (τ102.1 ib)), (2, .int (nI i))] := hv9
  obtain ⟨hkih105, hv9, hH, hS, hl⟩ := hv9
  obtain ⟨h1, hcp, hfr⟩ := hv9
  have ih105 := ih
  clear ih
  refine lv_iload_n hx hb dX12_longer_9 rfl (lv_at hl 2 rfl) ?_
  refine lv_aload_n hx hb dX12_longer_10 rfl (lv_at hl 0 rfl) ?_
  refine zAlen (D := D) hx hb hH hka2.1 (by decide) (by decide) hka2.2 dX12_longer_11 ?_
  refine lv_icmp_ge (tgt := 27) hx hb dX12_longer_12 (by decide) (fun c106 => ?_) (fun c106 => ?_)
  · have zc106 := c106
    replace zc106 := zc_le (nI_toInt (by omega)) (nI_toInt (by omega)) zc106
    refine lv_aload_n hx hb dX12_longer_27 rfl (lv_at hl 1 rfl) ?_
    refine W.widen (k := 1) (n := 2048) (by decide) (by decide) ?_
    exact W.aret (v := .ref (τ102.1 ib)) hx hb hr (Or.inr ⟨_, rfl⟩) (Or.inr ⟨_, rfl⟩) (fun t9 ht9 hW9 => ⟨⟨(some (τ102.1 ib)), (τ102, f, g104), rfl, (show (some (τ102.1 ib)) = some (τ102.1 ib) ∧ (∀ i, i ≠ ib → τ102.1 i = τ.1 i ∧ τ102.2.2.1 i = τ.2.2.1 i ∧ τ102.2.2.2 i = τ.2.2.2 i) ∧ (τ102.2.2.1 ib = 1 ∧ τ102.2.2.2 ib = 2048) ∧ zFix τ102 g104 ∧ (∀ i k, i ≠ ib → f i k = fi i k) ∧ (∀ i k, i ≠ ib → g104 i k = fr i k) ∧ (∀ k, g104 ib k = none) ∧ ∀ k, k < 1024 → f ib k = fi ia k from ⟨rfl, fun i h => ⟨haτ102 i h, (hbτ102 i h).1, (hbτ102 i h).2⟩, ⟨hkτ102, hnτ102⟩, hFτ102, hfr, fun i k h => by rw [eg104, va_up_ne _ _ h], fun k => by rw [eg104, va_up_self], fun k h => hcp k (by omega)⟩), zEnd1 hH ht9 hW9⟩, hS.F ht9⟩) hS.2.2 dX12_longer_28
  · have zc106 := c106
    replace zc106 := zc_nle (nI_toInt (by omega)) (nI_toInt (by omega)) zc106
    refine lv_aload_n hx hb dX12_longer_15 rfl (lv_at hl 1 rfl) ?_
    refine lv_iload_n hx hb dX12_longer_16 rfl (lv_at hl 2 rfl) ?_
    refine lv_aload_n hx hb dX12_longer_17 rfl (lv_at hl 0 rfl) ?_
    refine lv_iload_n hx hb dX12_longer_18 rfl (lv_at hl 2 rfl) ?_
    refine zIaldN (D := D) hx hb hH hka2.1 hka2.2 (by omega) (by omega) rfl dX12_longer_19 ?_
    refine zIastN (D := D) hx hb hH hS hkτ102 hnτ102 (by omega) (by omega) dX12_longer_20 (fun H locs hH hS => ?_)
    obtain ⟨f107, ef107⟩ : ∃ f9 : zFi, f9 = zu f ib i (f ia i) := ⟨_, rfl⟩
    rw [← ef107] at hH
    have q108 : f107 ib i = f ia i := by rw [ef107]; exact zu_s
    refine lv_iinc (v := nI (i + 1)) (lv' := [(2, .int (nI (i + 1))), (0, .ref (τ102.1 ia)), (1, .ref (τ102.1 ib))]) hx hb dX12_longer_21 hl (k := 2) rfl (by rw [show (Int32.ofInt 1 : Int32) = nI 1 from by decide, nI_add]) (by decide) rfl (fun ls hl => ?_)
    refine lv_goto (tgt := 9) hx hb dX12_longer_24 (by decide) ?_
    exact ih105 (1024 - (i + 1)) (by omega) (i + 1, f107) _ _ _ (show 1024 - (i + 1) = 1024 - (i + 1) ∧ ((i + 1) ≤ 1024 ∧ (∀ k, k < (i + 1) → f107 ib k = fi ia k) ∧ ∀ i9 k, i9 ≠ ib → f107 i9 k = fi i9 k) ∧ zH D A τ102 f107 g104 ol s _ ∧ va_S A s.heap _ _ ∧ lv_has _ 3 [(0, .ref (τ102.1 ia)), (1, .ref (τ102.1 ib)), (2, .int (nI (i + 1)))] from ⟨rfl, ⟨by omega, fun k h => by by_cases h7 : k = i; (subst h7; rw [ef107, zu_s]; exact hfr ia k hne); (rw [ef107, zu_n (by omega)]; exact hcp k (by omega)), fun i9 k h => by rw [ef107, zu_n (by omega)]; exact hfr i9 k h⟩, hH, hS, lv_sub hl [1, 2, 0] rfl⟩)
set_option maxHeartbeats 4000000 in
set_option maxRecDepth 100000 in
/-- longer -/
theorem m_longer_2048 (l : Launch) (hl0 : l.stackTraces = false) (D : va_G) (A : Nat → Prop) (sad : Nat → Nat) (τ : zTy) (fi : zFi) (fr : zFr) (ol : Int64) (hF : zFix τ fr) (ia ib : Nat) (hka : τ.2.2.1 ia = 1 ∧ τ.2.2.2 ia = 2048) (hvd : τ.2.2.1 ib = 0) (hib : 100 ≤ ib) (hne : ia ≠ ib) : Met l yX12_longer wsX12_longer ({ frames := 0, cells := 1, slots := 4096, locals := 0 }) (va_Pc [.ref (τ.1 ia)] (zQc D A sad τ fi fr ol)) (va_Qq (fun (r : Option Nat) (u : zTy × zFi × zFr) => r = some (u.1.1 ib) ∧ (∀ i, i ≠ ib → u.1.1 i = τ.1 i ∧ u.1.2.2.1 i = τ.2.2.1 i ∧ u.1.2.2.2 i = τ.2.2.2 i) ∧ (u.1.2.2.1 ib = 1 ∧ u.1.2.2.2 ib = 4096) ∧ zFix u.1 u.2.2 ∧ (∀ i k, i ≠ ib → u.2.1 i k = fi i k) ∧ (∀ i k, i ≠ ib → u.2.2 i k = fr i k) ∧ (∀ k, u.2.2 ib k = none) ∧ ∀ k, k < 2048 → u.2.1 ib k = fi ia k) (fun (u : zTy × zFi × zFr) (t : State) => zH D A u.1 u.2.1 u.2.2 ol t t.heap) A) 1 4096 A := by
  refine Met.ofW (cc := cX12_longer) (maxL := 3) (ret := (some (.array .int))) (by decide) rfl ?_
  intro p9 e9 s m args below meth c9 s₁ B hml hv
  obtain ⟨rfl, hz, hH, hA⟩ := hv
  have hx := B.exec
  have hb := B.bytes
  have hr := B.returns
  have hts := atoms_spec (ws := wsX12_longer) B.pre
  have hown : s.vm.findClass RX12 = some m.cls := findClass_of_methodNamed B.named
  have hlocks := B.notSynchronized
  have hS : va_S A s.heap s.heap [] := va_S.rf
  have hl := lv_entry ([.ref (τ.1 ia)]) (n := 3) (Nat.le_of_ble_eq_true rfl)
  rw [lg_entry_eq]
  generalize (lg_sl ([.ref (τ.1 ia)]) ++ List.replicate (3 - (lg_sl ([.ref (τ.1 ia)])).length) Slot.unset).toArray = ls at hl ⊢
  have hl : lv_has ls 3 [(0, .ref (τ.1 ia))] := hl
  have hw0 := hts (.arrayClass .int) (by decide +kernel)
  refine lv_iconst (v := nI 2) hx hb dX12_longer_0 (by decide) ?_
  refine lv_aload_n hx hb dX12_longer_1 rfl (lv_at hl 0 rfl) ?_
  refine zAlen (D := D) hx hb hH hka.1 (by decide) (by decide) hka.2 dX12_longer_2 ?_
  refine lv_imul hx hb dX12_longer_3 ?_
  refine lv_topi (fun v101 ev101 => ?_)
  obtain rfl : v101 = nI 4096 := ev101.trans (by decide)
  refine zNewa (D := D) (atype := .int) (t := 1) (N' := 4096) hx hb hw0 rfl (by decide) (by decide) rfl hH hS hA ib hvd (by decide) (by decide) (by first | decide | (simp only [zT, componentBytes]; omega)) (Nat.le_of_ble_eq_true rfl) (Nat.le_of_ble_eq_true rfl) dX12_longer_4 (fun q9 c9 H hH8 hS => ?_)
  obtain ⟨τ102, eτ102⟩ : ∃ t9 : zTy, t9 = (va_up τ.1 ib q9, va_up τ.2.1 ib c9, va_up τ.2.2.1 ib 1, va_up τ.2.2.2 ib 4096) := ⟨_, rfl⟩
  obtain ⟨f103, ef103⟩ : ∃ f9 : zFi, f9 = va_up fi ib (fun _ => 0) := ⟨_, rfl⟩
  obtain ⟨g104, eg104⟩ : ∃ f9 : zFr, f9 = va_up fr ib (fun _ => none) := ⟨_, rfl⟩
  have hH : zH D A τ102 f103 g104 ol s H := by rw [eτ102, ef103, eg104]; exact hH8
  clear hH8
  have hqτ102 : τ102.1 ib = q9 := by rw [eτ102]; exact va_up_self _ _ _
  have haτ102 : ∀ i, i ≠ ib → τ102.1 i = τ.1 i := fun i h => by rw [eτ102]; exact va_up_ne _ _ h
  have hkτ102 : τ102.2.2.1 ib = 1 := by rw [eτ102]; exact va_up_self _ _ _
  have hnτ102 : τ102.2.2.2 ib = 4096 := by rw [eτ102]; exact va_up_self _ _ _
  have hbτ102 : ∀ i, i ≠ ib → τ102.2.2.1 i = τ.2.2.1 i ∧ τ102.2.2.2 i = τ.2.2.2 i := fun i h => by rw [eτ102]; exact ⟨va_up_ne _ _ h, va_up_ne _ _ h⟩
  have hFτ102 : zFix τ102 g104 := by rw [eτ102, eg104]; exact hF.up (by omega)
  clear eτ102
  subst hqτ102
  rw [show τ.1 ia = τ102.1 ia from (haτ102 ia (by omega)).symm] at hl
  have hka2 : τ102.2.2.1 ia = 1 ∧ τ102.2.2.2 ia = 2048 := ⟨by rw [(hbτ102 ia (by omega)).1]; exact hka.1, by rw [(hbτ102 ia (by omega)).2]; exact hka.2⟩
  refine W.widen (k := 1) (n := 4096) (by decide) (by decide) ?_
  refine lv_astore_n (lv' := [(1, .ref (τ102.1 ib)), (0, .ref (τ102.1 ia))]) hx hb dX12_longer_6 rfl hl (by decide) rfl (fun ls hl => ?_)
  refine lv_iconst (v := nI 0) hx hb dX12_longer_7 (by decide) ?_
  refine lv_istore_n (lv' := [(2, .int (nI 0)), (1, .ref (τ102.1 ib)), (0, .ref (τ102.1 ia))]) hx hb dX12_longer_8 rfl hl (by decide) rfl (fun ls hl => ?_)
  refine zLp (σ := Nat × zFi) (fun x9 k9 H locs ls => (fun (i : Nat) (f : zFi) => k9 = 2048 - i ∧ (i ≤ 2048 ∧ (∀ k, k < i → f ib k = fi ia k) ∧ ∀ i9 k, i9 ≠ ib → f i9 k = fi i9 k) ∧ zH D A τ102 f g104 ol s H ∧ va_S A s.heap H locs ∧ lv_has ls 3 [(0, .ref (τ102.1 ia)), (1, .ref (τ102.1 ib)), (2, .int (nI i))]) x9.1 x9.2) (0, f103) (2048 - 0) (show 2048 - 0 = 2048 - 0 ∧ (0 ≤ 2048 ∧ (∀ k, k < 0 → f103 ib k = fi ia k) ∧ ∀ i9 k, i9 ≠ ib → f103 i9 k = fi i9 k) ∧ zH D A τ102 f103 g104 ol s _ ∧ va_S A s.heap _ _ ∧ lv_has _ 3 [(0, .ref (τ102.1 ia)), (1, .ref (τ102.1 ib)), (2, .int (nI 0))] from ⟨rfl, ⟨Nat.zero_le _, fun k h => absurd h (by omega), fun i k h => by rw [ef103, va_up_ne _ _ h]⟩, hH, hS, lv_sub hl [2, 1, 0] rfl⟩) (fun k9 ih x9 H locs ls hv9 => ?_)
  obtain ⟨i, f⟩ := x9
  have hv9 : k9 = 2048 - i ∧ (i ≤ 2048 ∧ (∀ k, k < i → f ib k = fi ia k) ∧ ∀ i9 k, i9 ≠ ib → f i9 k = fi i9 k) ∧ zH D A τ102 f g104 ol s H ∧ va_S A s.heap H locs ∧ lv_has ls 3 [(0, .ref (τ102.1 ia)), (1, .ref (τ102.1 ib)), (2, .int (nI i))] := hv9
  obtain ⟨hkih105, hv9, hH, hS, hl⟩ := hv9
  obtain ⟨h1, hcp, hfr⟩ := hv9
  have ih105 := ih
  clear ih
  refine lv_iload_n hx hb dX12_longer_9 rfl (lv_at hl 2 rfl) ?_
  refine lv_aload_n hx hb dX12_longer_10 rfl (lv_at hl 0 rfl) ?_
  refine zAlen (D := D) hx hb hH hka2.1 (by decide) (by decide) hka2.2 dX12_longer_11 ?_
  refine lv_icmp_ge (tgt := 27) hx hb dX12_longer_12 (by decide) (fun c106 => ?_) (fun c106 => ?_)
  · have zc106 := c106
    replace zc106 := zc_le (nI_toInt (by omega)) (nI_toInt (by omega)) zc106
    refine lv_aload_n hx hb dX12_longer_27 rfl (lv_at hl 1 rfl) ?_
    refine W.widen (k := 1) (n := 4096) (by decide) (by decide) ?_
    exact W.aret (v := .ref (τ102.1 ib)) hx hb hr (Or.inr ⟨_, rfl⟩) (Or.inr ⟨_, rfl⟩) (fun t9 ht9 hW9 => ⟨⟨(some (τ102.1 ib)), (τ102, f, g104), rfl, (show (some (τ102.1 ib)) = some (τ102.1 ib) ∧ (∀ i, i ≠ ib → τ102.1 i = τ.1 i ∧ τ102.2.2.1 i = τ.2.2.1 i ∧ τ102.2.2.2 i = τ.2.2.2 i) ∧ (τ102.2.2.1 ib = 1 ∧ τ102.2.2.2 ib = 4096) ∧ zFix τ102 g104 ∧ (∀ i k, i ≠ ib → f i k = fi i k) ∧ (∀ i k, i ≠ ib → g104 i k = fr i k) ∧ (∀ k, g104 ib k = none) ∧ ∀ k, k < 2048 → f ib k = fi ia k from ⟨rfl, fun i h => ⟨haτ102 i h, (hbτ102 i h).1, (hbτ102 i h).2⟩, ⟨hkτ102, hnτ102⟩, hFτ102, hfr, fun i k h => by rw [eg104, va_up_ne _ _ h], fun k => by rw [eg104, va_up_self], fun k h => hcp k (by omega)⟩), zEnd1 hH ht9 hW9⟩, hS.F ht9⟩) hS.2.2 dX12_longer_28
  · have zc106 := c106
    replace zc106 := zc_nle (nI_toInt (by omega)) (nI_toInt (by omega)) zc106
    refine lv_aload_n hx hb dX12_longer_15 rfl (lv_at hl 1 rfl) ?_
    refine lv_iload_n hx hb dX12_longer_16 rfl (lv_at hl 2 rfl) ?_
    refine lv_aload_n hx hb dX12_longer_17 rfl (lv_at hl 0 rfl) ?_
    refine lv_iload_n hx hb dX12_longer_18 rfl (lv_at hl 2 rfl) ?_
    refine zIaldN (D := D) hx hb hH hka2.1 hka2.2 (by omega) (by omega) rfl dX12_longer_19 ?_
    refine zIastN (D := D) hx hb hH hS hkτ102 hnτ102 (by omega) (by omega) dX12_longer_20 (fun H locs hH hS => ?_)
    obtain ⟨f107, ef107⟩ : ∃ f9 : zFi, f9 = zu f ib i (f ia i) := ⟨_, rfl⟩
    rw [← ef107] at hH
    have q108 : f107 ib i = f ia i := by rw [ef107]; exact zu_s
    refine lv_iinc (v := nI (i + 1)) (lv' := [(2, .int (nI (i + 1))), (0, .ref (τ102.1 ia)), (1, .ref (τ102.1 ib))]) hx hb dX12_longer_21 hl (k := 2) rfl (by rw [show (Int32.ofInt 1 : Int32) = nI 1 from by decide, nI_add]) (by decide) rfl (fun ls hl => ?_)
    refine lv_goto (tgt := 9) hx hb dX12_longer_24 (by decide) ?_
    exact ih105 (2048 - (i + 1)) (by omega) (i + 1, f107) _ _ _ (show 2048 - (i + 1) = 2048 - (i + 1) ∧ ((i + 1) ≤ 2048 ∧ (∀ k, k < (i + 1) → f107 ib k = fi ia k) ∧ ∀ i9 k, i9 ≠ ib → f107 i9 k = fi i9 k) ∧ zH D A τ102 f107 g104 ol s _ ∧ va_S A s.heap _ _ ∧ lv_has _ 3 [(0, .ref (τ102.1 ia)), (1, .ref (τ102.1 ib)), (2, .int (nI (i + 1)))] from ⟨rfl, ⟨by omega, fun k h => by by_cases h7 : k = i; (subst h7; rw [ef107, zu_s]; exact hfr ia k hne); (rw [ef107, zu_n (by omega)]; exact hcp k (by omega)), fun i9 k h => by rw [ef107, zu_n (by omega)]; exact hfr i9 k h⟩, hH, hS, lv_sub hl [1, 2, 0] rfl⟩)
