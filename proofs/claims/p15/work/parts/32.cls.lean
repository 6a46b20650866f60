set_option maxHeartbeats 4000000 in
set_option maxRecDepth 100000 in
/-- Packing.clear -/
theorem c_clear (l : Launch) (hl0 : l.stackTraces = false) (D : va_G) (A : Nat → Prop) (sad : Nat → Nat) (τ : zTy) (fi : zFi) (fr : zFr) (ol : Int64) (hF : zFix τ fr) : Met l yX4_clear wsX4_clear ({ frames := 0, cells := 0, slots := 0, locals := 0 }) (va_Pc [.ref (τ.1 18)] (zQc D A sad τ fi fr ol)) (va_Qv (fun (u : zFi) => u = zu (zu fi 18 3 (nI 0)) 18 4 (nI 0)) (fun (u : zFi) (t : State) => zH D A τ u fr ol t t.heap) A) 0 0 A := by
  refine Met.ofW (cc := cX4_clear) (maxL := 1) (ret := none) (by decide) rfl ?_
  intro p9 e9 s m args below meth c9 s₁ B hml hv
  obtain ⟨rfl, hz, hH, hA⟩ := hv
  have hx := B.exec
  have hb := B.bytes
  have hr := B.returns
  have hts := atoms_spec (ws := wsX4_clear) B.pre
  have hown : s.vm.findClass RX4 = some m.cls := findClass_of_methodNamed B.named
  have hlocks := B.notSynchronized
  have hS : va_S A s.heap s.heap [] := va_S.rf
  have hl := lv_entry ([.ref (τ.1 18)]) (n := 1) (Nat.le_of_ble_eq_true rfl)
  rw [lg_entry_eq]
  generalize (lg_sl ([.ref (τ.1 18)]) ++ List.replicate (1 - (lg_sl ([.ref (τ.1 18)])).length) Slot.unset).toArray = ls at hl ⊢
  have hl : lv_has ls 1 [(0, .ref (τ.1 18))] := hl
  have hw0 := hts (.fieldLink RX4 21 "PostHouse$Packing" "kinds" "I") (by decide +kernel)
  have hiX4 : ∀ w ∈ u_ws RX4 TX4 5, w ∈ wsX4_clear := fun _ h => List.mem_cons_of_mem _ (List.mem_append_right _ h)
  have hw2 := hts (.fieldLink RX4 25 "PostHouse$Packing" "pieces" "I") (by decide +kernel)
  refine lv_aload_n hx hb dX4_clear_0 rfl (lv_at hl 0 rfl) ?_
  refine lv_iconst (v := nI 0) hx hb dX4_clear_1 (by decide) ?_
  refine zPutI (D := D) (ci := 4) (ty := .int) (C := RX4) (T := TX4) (N := 5) hx hb hts hiX4 tyX4 tyX4_ok nmX4 hown hH hS (zk_18 hF) rfl 3 (by decide) rfl hw0 (fun _ h9 => h9) rfl (by decide +kernel) rfl rfl dX4_clear_2 (fun H locs hH hS => ?_)
  obtain ⟨f101, ef101⟩ : ∃ f9 : zFi, f9 = zu fi 18 3 (nI 0) := ⟨_, rfl⟩
  rw [← ef101] at hH
  have q102 : f101 18 3 = nI 0 := by rw [ef101]; exact zu_s
  refine lv_aload_n hx hb dX4_clear_5 rfl (lv_at hl 0 rfl) ?_
  refine lv_iconst (v := nI 0) hx hb dX4_clear_6 (by decide) ?_
  refine zPutI (D := D) (ci := 4) (ty := .int) (C := RX4) (T := TX4) (N := 5) hx hb hts hiX4 tyX4 tyX4_ok nmX4 hown hH hS (zk_18 hF) rfl 4 (by decide) rfl hw2 (fun _ h9 => h9) rfl (by decide +kernel) rfl rfl dX4_clear_7 (fun H locs hH hS => ?_)
  obtain ⟨f103, ef103⟩ : ∃ f9 : zFi, f9 = zu f101 18 4 (nI 0) := ⟨_, rfl⟩
  rw [← ef103] at hH
  have q104 : f103 18 3 = nI 0 := by rw [ef103, zu_n (fun h9 => absurd h9.2 (by decide))]; exact q102
  have q105 : f103 18 4 = nI 0 := by rw [ef103]; exact zu_s
  refine W.widen (k := 0) (n := 0) (by decide) (by decide) ?_
  exact W.vret hx hb hr (fun t9 ht9 hW9 => ⟨⟨f103, rfl, by rw [ef103, ef101], zEnd1 hH ht9 hW9⟩, hS.F ht9⟩) hS.2.2 dX4_clear_10
set_option maxHeartbeats 4000000 in
set_option maxRecDepth 100000 in
/-- Packing.add -/
theorem c_padd (l : Launch) (hl0 : l.stackTraces = false) (D : va_G) (A : Nat → Prop) (sad : Nat → Nat) (τ : zTy) (fi : zFi) (fr : zFr) (ol : Int64) (hF : zFix τ fr) (kk : Nat) (hkk : kk ≤ 16) (hk3 : fi 18 3 = nI kk) (x y : Int32) : Met l yX4_add wsX4_add ({ frames := 0, cells := 0, slots := 0, locals := 0 }) (va_Pc [.ref (τ.1 18), .int x, .int y] (zQc D A sad τ fi fr ol)) (va_Qv (fun (u : zFi) => (∀ i k, ¬ (i = 19 ∨ i = 20 ∨ (i = 18 ∧ 3 ≤ k)) → u i k = fi i k) ∧ ∃ k, k ≤ 16 ∧ u 18 3 = nI k) (fun (u : zFi) (t : State) => zH D A τ u fr ol t t.heap) A) 0 0 A := by
  refine Met.ofW (cc := cX4_add) (maxL := 4) (ret := none) (by decide) rfl ?_
  intro p9 e9 s m args below meth c9 s₁ B hml hv
  obtain ⟨rfl, hz, hH, hA⟩ := hv
  have hx := B.exec
  have hb := B.bytes
  have hr := B.returns
  have hts := atoms_spec (ws := wsX4_add) B.pre
  have hown : s.vm.findClass RX4 = some m.cls := findClass_of_methodNamed B.named
  have hlocks := B.notSynchronized
  have hS : va_S A s.heap s.heap [] := va_S.rf
  have hl := lv_entry ([.ref (τ.1 18), .int x, .int y]) (n := 4) (Nat.le_of_ble_eq_true rfl)
  rw [lg_entry_eq]
  generalize (lg_sl ([.ref (τ.1 18), .int x, .int y]) ++ List.replicate (4 - (lg_sl ([.ref (τ.1 18), .int x, .int y])).length) Slot.unset).toArray = ls at hl ⊢
  have hl : lv_has ls 4 [(0, .ref (τ.1 18)), (1, .int x), (2, .int y)] := hl
  have hiX4 : ∀ w ∈ u_ws RX4 TX4 5, w ∈ wsX4_add := fun _ h => List.mem_cons_of_mem _ (List.mem_append_right _ h)
  have hw1 := hts (.fieldLink RX4 21 "PostHouse$Packing" "kinds" "I") (by decide +kernel)
  have hw2 := hts (.fieldLink RX4 11 "PostHouse$Packing" "weights" "[I") (by decide +kernel)
  have hw3 := hts (.fieldLink RX4 15 "PostHouse$Packing" "counts" "[I") (by decide +kernel)
  have hw4 := hts (.fieldLink RX4 25 "PostHouse$Packing" "pieces" "I") (by decide +kernel)
  refine lv_aload_n hx hb dX4_add_0 rfl (lv_at hl 0 rfl) ?_
  refine zGetI (D := D) (ci := 4) (C := RX4) (T := TX4) (N := 5) hx hb hts hiX4 hown hH (zk_18 hF) rfl 3 (by decide) rfl hw1 (fun _ h9 => h9) dX4_add_1 hk3 ?_
  refine lv_bipush (v := nI 16) hx hb dX4_add_4 (by decide) ?_
  refine lv_icmp_lt (tgt := 10) hx hb dX4_add_6 (by decide) (fun c101 => ?_) (fun c101 => ?_)
  · have zc101 := c101
    replace zc101 := zc_lt (nI_toInt (by omega)) (nI_toInt (by omega)) zc101
    refine lv_aload_n hx hb dX4_add_10 rfl (lv_at hl 0 rfl) ?_
    refine zGetI (D := D) (ci := 4) (C := RX4) (T := TX4) (N := 5) hx hb hts hiX4 hown hH (zk_18 hF) rfl 3 (by decide) rfl hw1 (fun _ h9 => h9) dX4_add_11 hk3 ?_
    refine lv_istore_n (lv' := [(3, .int (nI kk)), (0, .ref (τ.1 18)), (1, .int x), (2, .int y)]) hx hb dX4_add_14 rfl hl (by decide) rfl (fun ls hl => ?_)
    refine zLp (σ := Nat × zFi) (fun x9 k9 H locs ls => (fun (a : Nat) (f : zFi) => k9 = a ∧ (a ≤ kk ∧ kk < 16 ∧ ∀ i k, ¬ (i = 19 ∨ i = 20) → f i k = fi i k) ∧ zH D A τ f fr ol s H ∧ va_S A s.heap H locs ∧ lv_has ls 4 [(0, .ref (τ.1 18)), (1, .int x), (2, .int y), (3, .int (nI a))]) x9.1 x9.2) (kk, fi) (kk) (show kk = kk ∧ (kk ≤ kk ∧ kk < 16 ∧ ∀ i k, ¬ (i = 19 ∨ i = 20) → fi i k = fi i k) ∧ zH D A τ fi fr ol s _ ∧ va_S A s.heap _ _ ∧ lv_has _ 4 [(0, .ref (τ.1 18)), (1, .int x), (2, .int y), (3, .int (nI kk))] from ⟨rfl, ⟨Nat.le_refl _, by omega, fun _ _ _ => rfl⟩, hH, hS, lv_sub hl [1, 2, 3, 0] rfl⟩) (fun k9 ih x9 H locs ls hv9 => ?_)
    obtain ⟨a, f⟩ := x9
    have hv9 : k9 = a ∧ (a ≤ kk ∧ kk < 16 ∧ ∀ i k, ¬ (i = 19 ∨ i = 20) → f i k = fi i k) ∧ zH D A τ f fr ol s H ∧ va_S A s.heap H locs ∧ lv_has ls 4 [(0, .ref (τ.1 18)), (1, .int x), (2, .int y), (3, .int (nI a))] := hv9
    obtain ⟨hkih102, hv9, hH, hS, hl⟩ := hv9
    obtain ⟨h1, h2, hfr⟩ := hv9
    have ih102 := ih
    clear ih
    have q1 : f 18 3 = nI kk := by rw [hfr 18 3 (by omega)]; exact hk3
    refine lv_iload_n hx hb dX4_add_15 rfl (lv_at hl 3 rfl) ?_
    refine lv_if_le (tgt := 65) hx hb dX4_add_16 (by decide) (fun c103 => ?_) (fun c103 => ?_)
    · have zc103 := c103
      replace zc103 := zc_le (nI_toInt (by omega)) ((by decide : (0 : Int32).toInt = 0)) zc103
      refine lv_aload_n hx hb dX4_add_65 rfl (lv_at hl 0 rfl) ?_
      refine zGetR (D := D) (ci := 4) (C := RX4) (T := TX4) (N := 5) hx hb hts hiX4 hown hH (zk_18 hF) rfl 0 (by decide) rfl hw2 (fun _ h9 => h9) dX4_add_66 (zr_18_0 hF) ?_
      refine lv_iload_n hx hb dX4_add_69 rfl (lv_at hl 3 rfl) ?_
      refine lv_iload_n hx hb dX4_add_70 rfl (lv_at hl 1 rfl) ?_
      refine zIastN (D := D) hx hb hH hS (zk_19 hF) (zn_19 hF) (by omega) (by omega) dX4_add_71 (fun H locs hH hS => ?_)
      obtain ⟨f104, ef104⟩ : ∃ f9 : zFi, f9 = zu f 19 a x := ⟨_, rfl⟩
      rw [← ef104] at hH
      have q105 : f104 18 3 = nI kk := by rw [ef104, zu_n (fun h9 => absurd h9.1 (by decide))]; exact q1
      have q106 : f104 19 a = x := by rw [ef104]; exact zu_s
      refine lv_aload_n hx hb dX4_add_72 rfl (lv_at hl 0 rfl) ?_
      refine zGetR (D := D) (ci := 4) (C := RX4) (T := TX4) (N := 5) hx hb hts hiX4 hown hH (zk_18 hF) rfl 1 (by decide) rfl hw3 (fun _ h9 => h9) dX4_add_73 (zr_18_1 hF) ?_
      refine lv_iload_n hx hb dX4_add_76 rfl (lv_at hl 3 rfl) ?_
      refine lv_iload_n hx hb dX4_add_77 rfl (lv_at hl 2 rfl) ?_
      refine zIastN (D := D) hx hb hH hS (zk_20 hF) (zn_20 hF) (by omega) (by omega) dX4_add_78 (fun H locs hH hS => ?_)
      obtain ⟨f107, ef107⟩ : ∃ f9 : zFi, f9 = zu f104 20 a y := ⟨_, rfl⟩
      rw [← ef107] at hH
      have q108 : f107 18 3 = nI kk := by rw [ef107, zu_n (fun h9 => absurd h9.1 (by decide))]; exact q105
      have q109 : f107 19 a = x := by rw [ef107, zu_n (fun h9 => absurd h9.1 (by decide))]; exact q106
      have q110 : f107 20 a = y := by rw [ef107]; exact zu_s
      refine lv_aload_n hx hb dX4_add_79 rfl (lv_at hl 0 rfl) ?_
      refine lv_dup hx hb dX4_add_80 rfl ?_
      refine zGetI (D := D) (ci := 4) (C := RX4) (T := TX4) (N := 5) hx hb hts hiX4 hown hH (zk_18 hF) rfl 3 (by decide) rfl hw1 (fun _ h9 => h9) dX4_add_81 q108 ?_
      refine lv_iconst (v := nI 1) hx hb dX4_add_84 (by decide) ?_
      refine lv_iadd hx hb dX4_add_85 ?_
      refine lv_topi (fun v111 ev111 => ?_)
      obtain rfl : v111 = nI (kk + 1) := ev111.trans (nI_add _ _)
      refine zPutI (D := D) (ci := 4) (ty := .int) (C := RX4) (T := TX4) (N := 5) hx hb hts hiX4 tyX4 tyX4_ok nmX4 hown hH hS (zk_18 hF) rfl 3 (by decide) rfl hw1 (fun _ h9 => h9) rfl (by decide +kernel) rfl rfl dX4_add_86 (fun H locs hH hS => ?_)
      obtain ⟨f112, ef112⟩ : ∃ f9 : zFi, f9 = zu f107 18 3 (nI (kk + 1)) := ⟨_, rfl⟩
      rw [← ef112] at hH
      have q113 : f112 19 a = x := by rw [ef112, zu_n (fun h9 => absurd h9.1 (by decide))]; exact q109
      have q114 : f112 20 a = y := by rw [ef112, zu_n (fun h9 => absurd h9.1 (by decide))]; exact q110
      have q115 : f112 18 3 = nI (kk + 1) := by rw [ef112]; exact zu_s
      refine lv_aload_n hx hb dX4_add_89 rfl (lv_at hl 0 rfl) ?_
      refine lv_dup hx hb dX4_add_90 rfl ?_
      refine zGetI (D := D) (ci := 4) (C := RX4) (T := TX4) (N := 5) hx hb hts hiX4 hown hH (zk_18 hF) rfl 4 (by decide) rfl hw4 (fun _ h9 => h9) dX4_add_91 rfl ?_
      refine lv_iload_n hx hb dX4_add_94 rfl (lv_at hl 2 rfl) ?_
      refine lv_iadd hx hb dX4_add_95 ?_
      refine lv_topi (fun v116 ev116 => ?_)
      refine zPutI (D := D) (ci := 4) (ty := .int) (C := RX4) (T := TX4) (N := 5) hx hb hts hiX4 tyX4 tyX4_ok nmX4 hown hH hS (zk_18 hF) rfl 4 (by decide) rfl hw4 (fun _ h9 => h9) rfl (by decide +kernel) rfl rfl dX4_add_96 (fun H locs hH hS => ?_)
      obtain ⟨f117, ef117⟩ : ∃ f9 : zFi, f9 = zu f112 18 4 v116 := ⟨_, rfl⟩
      rw [← ef117] at hH
      have q118 : f117 19 a = x := by rw [ef117, zu_n (fun h9 => absurd h9.1 (by decide))]; exact q113
      have q119 : f117 20 a = y := by rw [ef117, zu_n (fun h9 => absurd h9.1 (by decide))]; exact q114
      have q120 : f117 18 3 = nI (kk + 1) := by rw [ef117, zu_n (fun h9 => absurd h9.2 (by decide))]; exact q115
      have q121 : f117 18 4 = v116 := by rw [ef117]; exact zu_s
      refine W.widen (k := 0) (n := 0) (by decide) (by decide) ?_
      exact W.vret hx hb hr (fun t9 ht9 hW9 => ⟨⟨f117, rfl, ⟨fun i k h => by rw [ef117, zu_n (by omega), ef112, zu_n (by omega), ef107, zu_n (by omega), ef104, zu_n (by omega)]; exact hfr i k (by omega), kk + 1, by omega, by rw [ef117, zu_n (by omega)]; exact q115⟩, zEnd1 hH ht9 hW9⟩, hS.F ht9⟩) hS.2.2 dX4_add_99
    · have zc103 := c103
      replace zc103 := zc_nle (nI_toInt (by omega)) ((by decide : (0 : Int32).toInt = 0)) zc103
      refine lv_aload_n hx hb dX4_add_19 rfl (lv_at hl 0 rfl) ?_
      refine zGetR (D := D) (ci := 4) (C := RX4) (T := TX4) (N := 5) hx hb hts hiX4 hown hH (zk_18 hF) rfl 0 (by decide) rfl hw2 (fun _ h9 => h9) dX4_add_20 (zr_18_0 hF) ?_
      refine lv_iload_n hx hb dX4_add_23 rfl (lv_at hl 3 rfl) ?_
      refine lv_iconst (v := nI 1) hx hb dX4_add_24 (by decide) ?_
      refine lv_isub hx hb dX4_add_25 ?_
      refine lv_topi (fun v122 ev122 => ?_)
      obtain rfl : v122 = nI (a - 1) := ev122.trans (pk_sub (by omega))
      refine zIaldN (D := D) hx hb hH (zk_19 hF) (zn_19 hF) (by omega) (by omega) rfl dX4_add_26 ?_
      refine lv_iload_n hx hb dX4_add_27 rfl (lv_at hl 1 rfl) ?_
      refine lv_icmp_ge (tgt := 65) hx hb dX4_add_28 (by decide) (fun c123 => ?_) (fun c123 => ?_)
      · have zc123 := c123
        replace zc123 := zc_le (rfl) (rfl) zc123
        refine lv_aload_n hx hb dX4_add_65 rfl (lv_at hl 0 rfl) ?_
        refine zGetR (D := D) (ci := 4) (C := RX4) (T := TX4) (N := 5) hx hb hts hiX4 hown hH (zk_18 hF) rfl 0 (by decide) rfl hw2 (fun _ h9 => h9) dX4_add_66 (zr_18_0 hF) ?_
        refine lv_iload_n hx hb dX4_add_69 rfl (lv_at hl 3 rfl) ?_
        refine lv_iload_n hx hb dX4_add_70 rfl (lv_at hl 1 rfl) ?_
        refine zIastN (D := D) hx hb hH hS (zk_19 hF) (zn_19 hF) (by omega) (by omega) dX4_add_71 (fun H locs hH hS => ?_)
        obtain ⟨f124, ef124⟩ : ∃ f9 : zFi, f9 = zu f 19 a x := ⟨_, rfl⟩
        rw [← ef124] at hH
        have q125 : f124 18 3 = nI kk := by rw [ef124, zu_n (fun h9 => absurd h9.1 (by decide))]; exact q1
        have q126 : f124 19 a = x := by rw [ef124]; exact zu_s
        refine lv_aload_n hx hb dX4_add_72 rfl (lv_at hl 0 rfl) ?_
        refine zGetR (D := D) (ci := 4) (C := RX4) (T := TX4) (N := 5) hx hb hts hiX4 hown hH (zk_18 hF) rfl 1 (by decide) rfl hw3 (fun _ h9 => h9) dX4_add_73 (zr_18_1 hF) ?_
        refine lv_iload_n hx hb dX4_add_76 rfl (lv_at hl 3 rfl) ?_
        refine lv_iload_n hx hb dX4_add_77 rfl (lv_at hl 2 rfl) ?_
        refine zIastN (D := D) hx hb hH hS (zk_20 hF) (zn_20 hF) (by omega) (by omega) dX4_add_78 (fun H locs hH hS => ?_)
        obtain ⟨f127, ef127⟩ : ∃ f9 : zFi, f9 = zu f124 20 a y := ⟨_, rfl⟩
        rw [← ef127] at hH
        have q128 : f127 18 3 = nI kk := by rw [ef127, zu_n (fun h9 => absurd h9.1 (by decide))]; exact q125
        have q129 : f127 19 a = x := by rw [ef127, zu_n (fun h9 => absurd h9.1 (by decide))]; exact q126
        have q130 : f127 20 a = y := by rw [ef127]; exact zu_s
        refine lv_aload_n hx hb dX4_add_79 rfl (lv_at hl 0 rfl) ?_
        refine lv_dup hx hb dX4_add_80 rfl ?_
        refine zGetI (D := D) (ci := 4) (C := RX4) (T := TX4) (N := 5) hx hb hts hiX4 hown hH (zk_18 hF) rfl 3 (by decide) rfl hw1 (fun _ h9 => h9) dX4_add_81 q128 ?_
        refine lv_iconst (v := nI 1) hx hb dX4_add_84 (by decide) ?_
        refine lv_iadd hx hb dX4_add_85 ?_
        refine lv_topi (fun v131 ev131 => ?_)
        obtain rfl : v131 = nI (kk + 1) := ev131.trans (nI_add _ _)
        refine zPutI (D := D) (ci := 4) (ty := .int) (C := RX4) (T := TX4) (N := 5) hx hb hts hiX4 tyX4 tyX4_ok nmX4 hown hH hS (zk_18 hF) rfl 3 (by decide) rfl hw1 (fun _ h9 => h9) rfl (by decide +kernel) rfl rfl dX4_add_86 (fun H locs hH hS => ?_)
        obtain ⟨f132, ef132⟩ : ∃ f9 : zFi, f9 = zu f127 18 3 (nI (kk + 1)) := ⟨_, rfl⟩
        rw [← ef132] at hH
        have q133 : f132 19 a = x := by rw [ef132, zu_n (fun h9 => absurd h9.1 (by decide))]; exact q129
        have q134 : f132 20 a = y := by rw [ef132, zu_n (fun h9 => absurd h9.1 (by decide))]; exact q130
        have q135 : f132 18 3 = nI (kk + 1) := by rw [ef132]; exact zu_s
        refine lv_aload_n hx hb dX4_add_89 rfl (lv_at hl 0 rfl) ?_
        refine lv_dup hx hb dX4_add_90 rfl ?_
        refine zGetI (D := D) (ci := 4) (C := RX4) (T := TX4) (N := 5) hx hb hts hiX4 hown hH (zk_18 hF) rfl 4 (by decide) rfl hw4 (fun _ h9 => h9) dX4_add_91 rfl ?_
        refine lv_iload_n hx hb dX4_add_94 rfl (lv_at hl 2 rfl) ?_
        refine lv_iadd hx hb dX4_add_95 ?_
        refine lv_topi (fun v136 ev136 => ?_)
        refine zPutI (D := D) (ci := 4) (ty := .int) (C := RX4) (T := TX4) (N := 5) hx hb hts hiX4 tyX4 tyX4_ok nmX4 hown hH hS (zk_18 hF) rfl 4 (by decide) rfl hw4 (fun _ h9 => h9) rfl (by decide +kernel) rfl rfl dX4_add_96 (fun H locs hH hS => ?_)
        obtain ⟨f137, ef137⟩ : ∃ f9 : zFi, f9 = zu f132 18 4 v136 := ⟨_, rfl⟩
        rw [← ef137] at hH
        have q138 : f137 19 a = x := by rw [ef137, zu_n (fun h9 => absurd h9.1 (by decide))]; exact q133
        have q139 : f137 20 a = y := by rw [ef137, zu_n (fun h9 => absurd h9.1 (by decide))]; exact q134
        have q140 : f137 18 3 = nI (kk + 1) := by rw [ef137, zu_n (fun h9 => absurd h9.2 (by decide))]; exact q135
        have q141 : f137 18 4 = v136 := by rw [ef137]; exact zu_s
        refine W.widen (k := 0) (n := 0) (by decide) (by decide) ?_
        exact W.vret hx hb hr (fun t9 ht9 hW9 => ⟨⟨f137, rfl, ⟨fun i k h => by rw [ef137, zu_n (by omega), ef132, zu_n (by omega), ef127, zu_n (by omega), ef124, zu_n (by omega)]; exact hfr i k (by omega), kk + 1, by omega, by rw [ef137, zu_n (by omega)]; exact q135⟩, zEnd1 hH ht9 hW9⟩, hS.F ht9⟩) hS.2.2 dX4_add_99
      · have zc123 := c123
        replace zc123 := zc_nle (rfl) (rfl) zc123
        refine lv_aload_n hx hb dX4_add_31 rfl (lv_at hl 0 rfl) ?_
        refine zGetR (D := D) (ci := 4) (C := RX4) (T := TX4) (N := 5) hx hb hts hiX4 hown hH (zk_18 hF) rfl 0 (by decide) rfl hw2 (fun _ h9 => h9) dX4_add_32 (zr_18_0 hF) ?_
        refine lv_iload_n hx hb dX4_add_35 rfl (lv_at hl 3 rfl) ?_
        refine lv_aload_n hx hb dX4_add_36 rfl (lv_at hl 0 rfl) ?_
        refine zGetR (D := D) (ci := 4) (C := RX4) (T := TX4) (N := 5) hx hb hts hiX4 hown hH (zk_18 hF) rfl 0 (by decide) rfl hw2 (fun _ h9 => h9) dX4_add_37 (zr_18_0 hF) ?_
        refine lv_iload_n hx hb dX4_add_40 rfl (lv_at hl 3 rfl) ?_
        refine lv_iconst (v := nI 1) hx hb dX4_add_41 (by decide) ?_
        refine lv_isub hx hb dX4_add_42 ?_
        refine lv_topi (fun v142 ev142 => ?_)
        obtain rfl : v142 = nI (a - 1) := ev142.trans (pk_sub (by omega))
        refine zIaldN (D := D) hx hb hH (zk_19 hF) (zn_19 hF) (by omega) (by omega) rfl dX4_add_43 ?_
        refine zIastN (D := D) hx hb hH hS (zk_19 hF) (zn_19 hF) (by omega) (by omega) dX4_add_44 (fun H locs hH hS => ?_)
        obtain ⟨f143, ef143⟩ : ∃ f9 : zFi, f9 = zu f 19 a (f 19 (a - 1)) := ⟨_, rfl⟩
        rw [← ef143] at hH
        have q144 : f143 18 3 = nI kk := by rw [ef143, zu_n (fun h9 => absurd h9.1 (by decide))]; exact q1
        have q145 : f143 19 a = f 19 (a - 1) := by rw [ef143]; exact zu_s
        refine lv_aload_n hx hb dX4_add_45 rfl (lv_at hl 0 rfl) ?_
        refine zGetR (D := D) (ci := 4) (C := RX4) (T := TX4) (N := 5) hx hb hts hiX4 hown hH (zk_18 hF) rfl 1 (by decide) rfl hw3 (fun _ h9 => h9) dX4_add_46 (zr_18_1 hF) ?_
        refine lv_iload_n hx hb dX4_add_49 rfl (lv_at hl 3 rfl) ?_
        refine lv_aload_n hx hb dX4_add_50 rfl (lv_at hl 0 rfl) ?_
        refine zGetR (D := D) (ci := 4) (C := RX4) (T := TX4) (N := 5) hx hb hts hiX4 hown hH (zk_18 hF) rfl 1 (by decide) rfl hw3 (fun _ h9 => h9) dX4_add_51 (zr_18_1 hF) ?_
        refine lv_iload_n hx hb dX4_add_54 rfl (lv_at hl 3 rfl) ?_
        refine lv_iconst (v := nI 1) hx hb dX4_add_55 (by decide) ?_
        refine lv_isub hx hb dX4_add_56 ?_
        refine lv_topi (fun v146 ev146 => ?_)
        obtain rfl : v146 = nI (a - 1) := ev146.trans (pk_sub (by omega))
        refine zIaldN (D := D) hx hb hH (zk_20 hF) (zn_20 hF) (by omega) (by omega) rfl dX4_add_57 ?_
        refine zIastN (D := D) hx hb hH hS (zk_20 hF) (zn_20 hF) (by omega) (by omega) dX4_add_58 (fun H locs hH hS => ?_)
        obtain ⟨f147, ef147⟩ : ∃ f9 : zFi, f9 = zu f143 20 a (f143 20 (a - 1)) := ⟨_, rfl⟩
        rw [← ef147] at hH
        have q148 : f147 18 3 = nI kk := by rw [ef147, zu_n (fun h9 => absurd h9.1 (by decide))]; exact q144
        have q149 : f147 19 a = f 19 (a - 1) := by rw [ef147, zu_n (fun h9 => absurd h9.1 (by decide))]; exact q145
        have q150 : f147 20 a = f143 20 (a - 1) := by rw [ef147]; exact zu_s
        refine lv_iinc (v := nI (a - 1)) (lv' := [(3, .int (nI (a - 1))), (0, .ref (τ.1 18)), (1, .int x), (2, .int y)]) hx hb dX4_add_59 hl (k := 3) rfl (zI_dec (k := 1) (by omega) (by decide)) (by decide) rfl (fun ls hl => ?_)
        refine lv_goto (tgt := 15) hx hb dX4_add_62 (by decide) ?_
        exact ih102 ((a - 1)) (by omega) (a - 1, f147) _ _ _ (show (a - 1) = (a - 1) ∧ ((a - 1) ≤ kk ∧ kk < 16 ∧ ∀ i k, ¬ (i = 19 ∨ i = 20) → f147 i k = fi i k) ∧ zH D A τ f147 fr ol s _ ∧ va_S A s.heap _ _ ∧ lv_has _ 4 [(0, .ref (τ.1 18)), (1, .int x), (2, .int y), (3, .int (nI (a - 1)))] from ⟨rfl, ⟨by omega, h2, fun i k h => by rw [ef147, zu_n (by omega), ef143, zu_n (by omega)]; exact hfr i k h⟩, hH, hS, lv_sub hl [1, 2, 3, 0] rfl⟩)
  · have zc101 := c101
    replace zc101 := zc_nlt (nI_toInt (by omega)) (nI_toInt (by omega)) zc101
    refine W.widen (k := 0) (n := 0) (by decide) (by decide) ?_
    exact W.vret hx hb hr (fun t9 ht9 hW9 => ⟨⟨fi, rfl, ⟨fun _ _ _ => rfl, kk, hkk, hk3⟩, zEnd1 hH ht9 hW9⟩, hS.F ht9⟩) hS.2.2 dX4_add_9
set_option maxHeartbeats 4000000 in
set_option maxRecDepth 100000 in
/-- Packing.parcels -/
theorem c_parcels (l : Launch) (hl0 : l.stackTraces = false) (D : va_G) (A : Nat → Prop) (sad : Nat → Nat) (τ : zTy) (fi : zFi) (fr : zFr) (ol : Int64) (hF : zFix τ fr) (kk : Nat) (hkk : kk ≤ 16) (hk3 : fi 18 3 = nI kk) : Met l yX4_parcels wsX4_parcels ({ frames := 1, cells := 0, slots := 0, locals := 13 }) (va_Pc [.ref (τ.1 18)] (zQc D A sad τ fi fr ol)) (va_Qi (fun (r : Int32) (u : zFi) => ∀ i k, i ≠ 21 → u i k = fi i k) (fun (u : zFi) (t : State) => zH D A τ u fr ol t t.heap) A) 0 0 A := by
  refine Met.ofW (cc := cX4_parcels) (maxL := 7) (ret := (some .int)) (by decide) rfl ?_
  intro p9 e9 s m args below meth c9 s₁ B hml hv
  obtain ⟨rfl, hz, hH, hA⟩ := hv
  have hx := B.exec
  have hb := B.bytes
  have hr := B.returns
  have hts := atoms_spec (ws := wsX4_parcels) B.pre
  have hown : s.vm.findClass RX4 = some m.cls := findClass_of_methodNamed B.named
  have hlocks := B.notSynchronized
  have hS : va_S A s.heap s.heap [] := va_S.rf
  have hl := lv_entry ([.ref (τ.1 18)]) (n := 7) (Nat.le_of_ble_eq_true rfl)
  rw [lg_entry_eq]
  generalize (lg_sl ([.ref (τ.1 18)]) ++ List.replicate (7 - (lg_sl ([.ref (τ.1 18)])).length) Slot.unset).toArray = ls at hl ⊢
  have hl : lv_has ls 7 [(0, .ref (τ.1 18))] := hl
  have hiX4 : ∀ w ∈ u_ws RX4 TX4 5, w ∈ wsX4_parcels := fun _ h => List.mem_cons_of_mem _ (List.mem_append_right _ h)
  have hw1 := hts (.fieldLink RX4 21 "PostHouse$Packing" "kinds" "I") (by decide +kernel)
  have hw2 := hts (.fieldLink RX4 11 "PostHouse$Packing" "weights" "[I") (by decide +kernel)
  have hw3 := hts (.fieldLink RX4 15 "PostHouse$Packing" "counts" "[I") (by decide +kernel)
  have hw4 := hts (.fieldLink RX4 18 "PostHouse$Packing" "loads" "[I") (by decide +kernel)
  have hw5 := hts (.methodLink RX4 28 Lib.Math.min.name) (by decide +kernel)
  have hw6 := hts (.static Lib.Math.min.name) (by decide +kernel)
  have hw7 := hts (.initialized "java/lang/Math") (by decide +kernel)
  have hw8 := hts (.code Lib.Math.min.name Lib.Math.min.code 2 (some .int)) (by decide +kernel)
  refine lv_iconst (v := nI 0) hx hb dX4_parcels_0 (by decide) ?_
  refine lv_istore_n (lv' := [(1, .int (nI 0)), (0, .ref (τ.1 18))]) hx hb dX4_parcels_1 rfl hl (by decide) rfl (fun ls hl => ?_)
  refine lv_iconst (v := nI 0) hx hb dX4_parcels_2 (by decide) ?_
  refine lv_istore_n (lv' := [(2, .int (nI 0)), (1, .int (nI 0)), (0, .ref (τ.1 18))]) hx hb dX4_parcels_3 rfl hl (by decide) rfl (fun ls hl => ?_)
  refine zLp (σ := Nat × Int32 × zFi) (fun x9 k9 H locs ls => (fun (i : Nat) (p : Int32) (f : zFi) => k9 = kk - i ∧ (i ≤ kk ∧ ∀ a b, a ≠ 21 → f a b = fi a b) ∧ zH D A τ f fr ol s H ∧ va_S A s.heap H locs ∧ lv_has ls 7 [(0, .ref (τ.1 18)), (1, .int p), (2, .int (nI i))]) x9.1 x9.2.1 x9.2.2) (0, nI 0, fi) (kk - 0) (show kk - 0 = kk - 0 ∧ (0 ≤ kk ∧ ∀ a b, a ≠ 21 → fi a b = fi a b) ∧ zH D A τ fi fr ol s _ ∧ va_S A s.heap _ _ ∧ lv_has _ 7 [(0, .ref (τ.1 18)), (1, .int (nI 0)), (2, .int (nI 0))] from ⟨rfl, ⟨Nat.zero_le _, fun _ _ _ => rfl⟩, hH, hS, lv_sub hl [2, 1, 0] rfl⟩) (fun k9 ih x9 H locs ls hv9 => ?_)
  obtain ⟨i, p, f⟩ := x9
  have hv9 : k9 = kk - i ∧ (i ≤ kk ∧ ∀ a b, a ≠ 21 → f a b = fi a b) ∧ zH D A τ f fr ol s H ∧ va_S A s.heap H locs ∧ lv_has ls 7 [(0, .ref (τ.1 18)), (1, .int p), (2, .int (nI i))] := hv9
  obtain ⟨hkih101, hv9, hH, hS, hl⟩ := hv9
  obtain ⟨h1, hfr⟩ := hv9
  have ih101 := ih
  clear ih
  have q1 : f 18 3 = nI kk := by rw [hfr 18 3 (by omega)]; exact hk3
  refine lv_iload_n hx hb dX4_parcels_4 rfl (lv_at hl 2 rfl) ?_
  refine lv_aload_n hx hb dX4_parcels_5 rfl (lv_at hl 0 rfl) ?_
  refine zGetI (D := D) (ci := 4) (C := RX4) (T := TX4) (N := 5) hx hb hts hiX4 hown hH (zk_18 hF) rfl 3 (by decide) rfl hw1 (fun _ h9 => h9) dX4_parcels_6 q1 ?_
  refine lv_icmp_ge (tgt := 117) hx hb dX4_parcels_9 (by decide) (fun c102 => ?_) (fun c102 => ?_)
  · have zc102 := c102
    replace zc102 := zc_le (nI_toInt (by omega)) (nI_toInt (by omega)) zc102
    refine lv_iload_n hx hb dX4_parcels_117 rfl (lv_at hl 1 rfl) ?_
    refine W.widen (k := 0) (n := 0) (by decide) (by decide) ?_
    exact W.iret (v := p) hx hb hr (fun t9 ht9 hW9 => ⟨⟨p, f, rfl, hfr, zEnd1 hH ht9 hW9⟩, hS.F ht9⟩) hS.2.2 dX4_parcels_118
  · have zc102 := c102
    replace zc102 := zc_nle (nI_toInt (by omega)) (nI_toInt (by omega)) zc102
    refine lv_aload_n hx hb dX4_parcels_12 rfl (lv_at hl 0 rfl) ?_
    refine zGetR (D := D) (ci := 4) (C := RX4) (T := TX4) (N := 5) hx hb hts hiX4 hown hH (zk_18 hF) rfl 0 (by decide) rfl hw2 (fun _ h9 => h9) dX4_parcels_13 (zr_18_0 hF) ?_
    refine lv_iload_n hx hb dX4_parcels_16 rfl (lv_at hl 2 rfl) ?_
    refine zIaldN (D := D) hx hb hH (zk_19 hF) (zn_19 hF) (by omega) (by omega) rfl dX4_parcels_17 ?_
    refine lv_istore_n (lv' := [(3, .int (f 19 i)), (0, .ref (τ.1 18)), (1, .int p), (2, .int (nI i))]) hx hb dX4_parcels_18 rfl hl (by decide) rfl (fun ls hl => ?_)
    refine lv_aload_n hx hb dX4_parcels_19 rfl (lv_at hl 1 rfl) ?_
    refine zGetR (D := D) (ci := 4) (C := RX4) (T := TX4) (N := 5) hx hb hts hiX4 hown hH (zk_18 hF) rfl 1 (by decide) rfl hw3 (fun _ h9 => h9) dX4_parcels_20 (zr_18_1 hF) ?_
    refine lv_iload_n hx hb dX4_parcels_23 rfl (lv_at hl 3 rfl) ?_
    refine zIaldN (D := D) hx hb hH (zk_20 hF) (zn_20 hF) (by omega) (by omega) rfl dX4_parcels_24 ?_
    refine lv_istore (lv' := [(4, .int (f 20 i)), (3, .int (f 19 i)), (0, .ref (τ.1 18)), (1, .int p), (2, .int (nI i))]) hx hb dX4_parcels_25 hl (by decide) rfl (fun ls hl => ?_)
    refine lv_iconst (v := nI 0) hx hb dX4_parcels_27 (by decide) ?_
    refine lv_istore (lv' := [(5, .int (nI 0)), (4, .int (f 20 i)), (3, .int (f 19 i)), (0, .ref (τ.1 18)), (1, .int p), (2, .int (nI i))]) hx hb dX4_parcels_28 hl (by decide) rfl (fun ls hl => ?_)
    refine zLp (σ := Nat × Int32 × Int32 × zFi) (fun x9 k9 H locs ls => (fun (j : Nat) (lf : Int32) (p2 : Int32) (f2 : zFi) => k9 = 792 - j ∧ (j ≤ 792 ∧ ∀ a b, a ≠ 21 → f2 a b = fi a b) ∧ zH D A τ f2 fr ol s H ∧ va_S A s.heap H locs ∧ lv_has ls 7 [(0, .ref (τ.1 18)), (1, .int p2), (2, .int (nI i)), (3, .int (f 19 i)), (4, .int lf), (5, .int (nI j))]) x9.1 x9.2.1 x9.2.2.1 x9.2.2.2) (0, _, _, f) (792 - 0) (show 792 - 0 = 792 - 0 ∧ (0 ≤ 792 ∧ ∀ a b, a ≠ 21 → f a b = fi a b) ∧ zH D A τ f fr ol s _ ∧ va_S A s.heap _ _ ∧ lv_has _ 7 [(0, .ref (τ.1 18)), (1, .int _), (2, .int (nI i)), (3, .int (f 19 i)), (4, .int _), (5, .int (nI 0))] from ⟨rfl, ⟨Nat.zero_le _, hfr⟩, hH, hS, lv_sub hl [3, 4, 5, 2, 1, 0] rfl⟩) (fun k9 ih x9 H locs ls hv9 => ?_)
    obtain ⟨j, lf, p2, f2⟩ := x9
    have hv9 : k9 = 792 - j ∧ (j ≤ 792 ∧ ∀ a b, a ≠ 21 → f2 a b = fi a b) ∧ zH D A τ f2 fr ol s H ∧ va_S A s.heap H locs ∧ lv_has ls 7 [(0, .ref (τ.1 18)), (1, .int p2), (2, .int (nI i)), (3, .int (f 19 i)), (4, .int lf), (5, .int (nI j))] := hv9
    obtain ⟨hkih103, hv9, hH, hS, hl⟩ := hv9
    obtain ⟨h3, hfr2⟩ := hv9
    have ih103 := ih
    clear ih
    have q2 : f2 18 3 = nI kk := by rw [hfr2 18 3 (by omega)]; exact hk3
    refine lv_iload hx hb dX4_parcels_30 (lv_at hl 5 rfl) ?_
    refine lv_sipush (v := nI 792) hx hb dX4_parcels_32 (by decide) ?_
    refine lv_icmp_ge (tgt := 111) hx hb dX4_parcels_35 (by decide) (fun c104 => ?_) (fun c104 => ?_)
    · have zc104 := c104
      replace zc104 := zc_le (nI_toInt (by omega)) (nI_toInt (by omega)) zc104
      refine lv_iinc (v := nI (i + 1)) (lv' := [(2, .int (nI (i + 1))), (0, .ref (τ.1 18)), (1, .int p2), (3, .int (f 19 i)), (4, .int lf), (5, .int (nI j))]) hx hb dX4_parcels_111 hl (k := 2) rfl (by rw [show (Int32.ofInt 1 : Int32) = nI 1 from by decide, nI_add]) (by decide) rfl (fun ls hl => ?_)
      refine lv_goto (tgt := 4) hx hb dX4_parcels_114 (by decide) ?_
      exact ih101 (kk - (i + 1)) (by omega) (i + 1, _, f2) _ _ _ (show kk - (i + 1) = kk - (i + 1) ∧ ((i + 1) ≤ kk ∧ ∀ a b, a ≠ 21 → f2 a b = fi a b) ∧ zH D A τ f2 fr ol s _ ∧ va_S A s.heap _ _ ∧ lv_has _ 7 [(0, .ref (τ.1 18)), (1, .int _), (2, .int (nI (i + 1)))] from ⟨rfl, ⟨by omega, hfr2⟩, hH, hS, lv_sub hl [1, 2, 0] rfl⟩)
    · have zc104 := c104
      replace zc104 := zc_nle (nI_toInt (by omega)) (nI_toInt (by omega)) zc104
      refine lv_iload hx hb dX4_parcels_38 (lv_at hl 4 rfl) ?_
      refine lv_if_le (tgt := 111) hx hb dX4_parcels_40 (by decide) (fun c105 => ?_) (fun c105 => ?_)
      · have zc105 := c105
        replace zc105 := zc_le (rfl) ((by decide : (0 : Int32).toInt = 0)) zc105
        refine lv_iinc (v := nI (i + 1)) (lv' := [(2, .int (nI (i + 1))), (0, .ref (τ.1 18)), (1, .int p2), (3, .int (f 19 i)), (4, .int lf), (5, .int (nI j))]) hx hb dX4_parcels_111 hl (k := 2) rfl (by rw [show (Int32.ofInt 1 : Int32) = nI 1 from by decide, nI_add]) (by decide) rfl (fun ls hl => ?_)
        refine lv_goto (tgt := 4) hx hb dX4_parcels_114 (by decide) ?_
        exact ih101 (kk - (i + 1)) (by omega) (i + 1, _, f2) _ _ _ (show kk - (i + 1) = kk - (i + 1) ∧ ((i + 1) ≤ kk ∧ ∀ a b, a ≠ 21 → f2 a b = fi a b) ∧ zH D A τ f2 fr ol s _ ∧ va_S A s.heap _ _ ∧ lv_has _ 7 [(0, .ref (τ.1 18)), (1, .int _), (2, .int (nI (i + 1)))] from ⟨rfl, ⟨by omega, hfr2⟩, hH, hS, lv_sub hl [1, 2, 0] rfl⟩)
      · have zc105 := c105
        replace zc105 := zc_nle (rfl) ((by decide : (0 : Int32).toInt = 0)) zc105
        refine lv_iload_n hx hb dX4_parcels_43 rfl (lv_at hl 3 rfl) ?_
        refine lv_if_le (tgt := 111) hx hb dX4_parcels_44 (by decide) (fun c106 => ?_) (fun c106 => ?_)
        · have zc106 := c106
          replace zc106 := zc_le (rfl) ((by decide : (0 : Int32).toInt = 0)) zc106
          refine lv_iinc (v := nI (i + 1)) (lv' := [(2, .int (nI (i + 1))), (0, .ref (τ.1 18)), (1, .int p2), (3, .int (f 19 i)), (4, .int lf), (5, .int (nI j))]) hx hb dX4_parcels_111 hl (k := 2) rfl (by rw [show (Int32.ofInt 1 : Int32) = nI 1 from by decide, nI_add]) (by decide) rfl (fun ls hl => ?_)
          refine lv_goto (tgt := 4) hx hb dX4_parcels_114 (by decide) ?_
          exact ih101 (kk - (i + 1)) (by omega) (i + 1, _, f2) _ _ _ (show kk - (i + 1) = kk - (i + 1) ∧ ((i + 1) ≤ kk ∧ ∀ a b, a ≠ 21 → f2 a b = fi a b) ∧ zH D A τ f2 fr ol s _ ∧ va_S A s.heap _ _ ∧ lv_has _ 7 [(0, .ref (τ.1 18)), (1, .int _), (2, .int (nI (i + 1)))] from ⟨rfl, ⟨by omega, hfr2⟩, hH, hS, lv_sub hl [1, 2, 0] rfl⟩)
        · have zc106 := c106
          replace zc106 := zc_nle (rfl) ((by decide : (0 : Int32).toInt = 0)) zc106
          refine lv_iload hx hb dX4_parcels_47 (lv_at hl 5 rfl) ?_
          refine lv_iload_n hx hb dX4_parcels_49 rfl (lv_at hl 1 rfl) ?_
          refine lv_icmp_ne (tgt := 64) hx hb dX4_parcels_50 (by decide) (fun c107 => ?_) (fun c107 => ?_)
          · have zc107 := c107
            replace zc107 := zc_neq (nI_toInt (by omega)) (rfl) zc107
            refine lv_iload hx hb dX4_parcels_64 (lv_at hl 4 rfl) ?_
            refine lv_sipush (v := nI 2000) hx hb dX4_parcels_66 (by decide) ?_
            refine lv_aload_n hx hb dX4_parcels_69 rfl (lv_at hl 0 rfl) ?_
            refine zGetR (D := D) (ci := 4) (C := RX4) (T := TX4) (N := 5) hx hb hts hiX4 hown hH (zk_18 hF) rfl 2 (by decide) rfl hw4 (fun _ h9 => h9) dX4_parcels_70 (zr_18_2 hF) ?_
            refine lv_iload hx hb dX4_parcels_73 (lv_at hl 5 rfl) ?_
            refine zIaldN (D := D) hx hb hH (zk_21 hF) (zn_21 hF) (by omega) (by omega) rfl dX4_parcels_75 ?_
            refine lv_isub hx hb dX4_parcels_76 ?_
            refine lv_topi (fun v108 ev108 => ?_)
            refine lv_iload_n hx hb dX4_parcels_77 rfl (lv_at hl 3 rfl) ?_
            refine lv_idiv hx hb dX4_parcels_78 (fun h9 => by have h8 := zc106; rw [h9] at h8; exact absurd h8 (by decide)) ?_
            refine lv_topi (fun v109 ev109 => ?_)
            refine va_mmin hx hb (by rw [hml]; exact hl.1.symm) hown hw5 hw6 hw7 hw8 (Nat.le_of_ble_eq_true rfl) (Nat.le_of_ble_eq_true rfl) (Nat.le_of_ble_eq_true rfl) (Nat.le_of_ble_eq_true rfl) dX4_parcels_79 ?_
            refine lv_topi (fun v110 ev110 => ?_)
            refine lv_istore (lv' := [(6, .int v110), (0, .ref (τ.1 18)), (1, .int p2), (2, .int (nI i)), (3, .int (f 19 i)), (4, .int lf), (5, .int (nI j))]) hx hb dX4_parcels_82 hl (by decide) rfl (fun ls hl => ?_)
            refine lv_aload_n hx hb dX4_parcels_84 rfl (lv_at hl 1 rfl) ?_
            refine zGetR (D := D) (ci := 4) (C := RX4) (T := TX4) (N := 5) hx hb hts hiX4 hown hH (zk_18 hF) rfl 2 (by decide) rfl hw4 (fun _ h9 => h9) dX4_parcels_85 (zr_18_2 hF) ?_
            refine lv_iload hx hb dX4_parcels_88 (lv_at hl 6 rfl) ?_
            refine lv_dup2_11 hx hb dX4_parcels_90 rfl rfl ?_
            refine zIaldN (D := D) hx hb hH (zk_21 hF) (zn_21 hF) (by omega) (by omega) rfl dX4_parcels_91 ?_
            refine lv_iload hx hb dX4_parcels_92 (lv_at hl 0 rfl) ?_
            refine lv_iload_n hx hb dX4_parcels_94 rfl (lv_at hl 4 rfl) ?_
            refine lv_imul hx hb dX4_parcels_95 ?_
            refine lv_topi (fun v111 ev111 => ?_)
            refine lv_iadd hx hb dX4_parcels_96 ?_
            refine lv_topi (fun v112 ev112 => ?_)
            refine zIastN (D := D) hx hb hH hS (zk_21 hF) (zn_21 hF) (by omega) (by omega) dX4_parcels_97 (fun H locs hH hS => ?_)
            obtain ⟨f113, ef113⟩ : ∃ f9 : zFi, f9 = zu f2 21 j v112 := ⟨_, rfl⟩
            rw [← ef113] at hH
            have q114 : f113 18 3 = nI kk := by rw [ef113, zu_n (fun h9 => absurd h9.1 (by decide))]; exact q2
            have q115 : f113 21 j = v112 := by rw [ef113]; exact zu_s
            refine lv_iload hx hb dX4_parcels_98 (lv_at hl 5 rfl) ?_
            refine lv_iload hx hb dX4_parcels_100 (lv_at hl 0 rfl) ?_
            refine lv_isub hx hb dX4_parcels_102 ?_
            refine lv_topi (fun v116 ev116 => ?_)
            refine lv_istore (lv' := [(4, .int v116), (6, .int v110), (0, .ref (τ.1 18)), (1, .int p2), (2, .int (nI i)), (3, .int (f 19 i)), (5, .int (nI j))]) hx hb dX4_parcels_103 hl (by decide) rfl (fun ls hl => ?_)
            refine lv_iinc (v := nI (j + 1)) (lv' := [(5, .int (nI (j + 1))), (4, .int v116), (6, .int v110), (0, .ref (τ.1 18)), (1, .int p2), (2, .int (nI i)), (3, .int (f 19 i))]) hx hb dX4_parcels_105 hl (k := 6) rfl (by rw [show (Int32.ofInt 1 : Int32) = nI 1 from by decide, nI_add]) (by decide) rfl (fun ls hl => ?_)
            refine lv_goto (tgt := 30) hx hb dX4_parcels_108 (by decide) ?_
            exact ih103 (792 - (j + 1)) (by omega) (j + 1, _, _, f113) _ _ _ (show 792 - (j + 1) = 792 - (j + 1) ∧ ((j + 1) ≤ 792 ∧ ∀ a b, a ≠ 21 → f113 a b = fi a b) ∧ zH D A τ f113 fr ol s _ ∧ va_S A s.heap _ _ ∧ lv_has _ 7 [(0, .ref (τ.1 18)), (1, .int _), (2, .int (nI i)), (3, .int (f 19 i)), (4, .int _), (5, .int (nI (j + 1)))] from ⟨rfl, ⟨by omega, fun a b h => by rw [ef113, zu_n (by omega)]; exact hfr2 a b h⟩, hH, hS, lv_sub hl [3, 4, 5, 6, 1, 0] rfl⟩)
          · have zc107 := c107
            replace zc107 := zc_eq (nI_toInt (by omega)) (rfl) zc107
            refine lv_aload_n hx hb dX4_parcels_53 rfl (lv_at hl 0 rfl) ?_
            refine zGetR (D := D) (ci := 4) (C := RX4) (T := TX4) (N := 5) hx hb hts hiX4 hown hH (zk_18 hF) rfl 2 (by decide) rfl hw4 (fun _ h9 => h9) dX4_parcels_54 (zr_18_2 hF) ?_
            refine lv_iload hx hb dX4_parcels_57 (lv_at hl 5 rfl) ?_
            refine lv_iconst (v := nI 0) hx hb dX4_parcels_59 (by decide) ?_
            refine zIastN (D := D) hx hb hH hS (zk_21 hF) (zn_21 hF) (by omega) (by omega) dX4_parcels_60 (fun H locs hH hS => ?_)
            obtain ⟨f117, ef117⟩ : ∃ f9 : zFi, f9 = zu f2 21 j (nI 0) := ⟨_, rfl⟩
            rw [← ef117] at hH
            have q118 : f117 18 3 = nI kk := by rw [ef117, zu_n (fun h9 => absurd h9.1 (by decide))]; exact q2
            have q119 : f117 21 j = nI 0 := by rw [ef117]; exact zu_s
            obtain ⟨v120, ev120⟩ : ∃ y : Int32, y = p2 + 1 := ⟨_, rfl⟩
            refine lv_iinc (v := v120) (lv' := [(1, .int v120), (0, .ref (τ.1 18)), (2, .int (nI i)), (3, .int (f 19 i)), (4, .int lf), (5, .int (nI j))]) hx hb dX4_parcels_61 hl (k := 1) rfl (by rw [ev120]; rfl) (by decide) rfl (fun ls hl => ?_)
            refine lv_iload hx hb dX4_parcels_64 (lv_at hl 4 rfl) ?_
            refine lv_sipush (v := nI 2000) hx hb dX4_parcels_66 (by decide) ?_
            refine lv_aload_n hx hb dX4_parcels_69 rfl (lv_at hl 1 rfl) ?_
            refine zGetR (D := D) (ci := 4) (C := RX4) (T := TX4) (N := 5) hx hb hts hiX4 hown hH (zk_18 hF) rfl 2 (by decide) rfl hw4 (fun _ h9 => h9) dX4_parcels_70 (zr_18_2 hF) ?_
            refine lv_iload hx hb dX4_parcels_73 (lv_at hl 5 rfl) ?_
            refine zIaldN (D := D) hx hb hH (zk_21 hF) (zn_21 hF) (by omega) (by omega) q119 dX4_parcels_75 ?_
            refine lv_isub hx hb dX4_parcels_76 ?_
            refine lv_topi (fun v121 ev121 => ?_)
            obtain rfl : v121 = nI 2000 := ev121.trans (by decide)
            refine lv_iload_n hx hb dX4_parcels_77 rfl (lv_at hl 3 rfl) ?_
            refine lv_idiv hx hb dX4_parcels_78 (fun h9 => by have h8 := zc106; rw [h9] at h8; exact absurd h8 (by decide)) ?_
            refine lv_topi (fun v122 ev122 => ?_)
            refine va_mmin hx hb (by rw [hml]; exact hl.1.symm) hown hw5 hw6 hw7 hw8 (Nat.le_of_ble_eq_true rfl) (Nat.le_of_ble_eq_true rfl) (Nat.le_of_ble_eq_true rfl) (Nat.le_of_ble_eq_true rfl) dX4_parcels_79 ?_
            refine lv_topi (fun v123 ev123 => ?_)
            refine lv_istore (lv' := [(6, .int v123), (1, .int v120), (0, .ref (τ.1 18)), (2, .int (nI i)), (3, .int (f 19 i)), (4, .int lf), (5, .int (nI j))]) hx hb dX4_parcels_82 hl (by decide) rfl (fun ls hl => ?_)
            refine lv_aload_n hx hb dX4_parcels_84 rfl (lv_at hl 2 rfl) ?_
            refine zGetR (D := D) (ci := 4) (C := RX4) (T := TX4) (N := 5) hx hb hts hiX4 hown hH (zk_18 hF) rfl 2 (by decide) rfl hw4 (fun _ h9 => h9) dX4_parcels_85 (zr_18_2 hF) ?_
            refine lv_iload hx hb dX4_parcels_88 (lv_at hl 6 rfl) ?_
            refine lv_dup2_11 hx hb dX4_parcels_90 rfl rfl ?_
            refine zIaldN (D := D) hx hb hH (zk_21 hF) (zn_21 hF) (by omega) (by omega) q119 dX4_parcels_91 ?_
            refine lv_iload hx hb dX4_parcels_92 (lv_at hl 0 rfl) ?_
            refine lv_iload_n hx hb dX4_parcels_94 rfl (lv_at hl 4 rfl) ?_
            refine lv_imul hx hb dX4_parcels_95 ?_
            refine lv_topi (fun v124 ev124 => ?_)
            refine lv_iadd hx hb dX4_parcels_96 ?_
            refine lv_topi (fun v125 ev125 => ?_)
            refine zIastN (D := D) hx hb hH hS (zk_21 hF) (zn_21 hF) (by omega) (by omega) dX4_parcels_97 (fun H locs hH hS => ?_)
            obtain ⟨f126, ef126⟩ : ∃ f9 : zFi, f9 = zu f117 21 j v125 := ⟨_, rfl⟩
            rw [← ef126] at hH
            have q127 : f126 18 3 = nI kk := by rw [ef126, zu_n (fun h9 => absurd h9.1 (by decide))]; exact q118
            have q128 : f126 21 j = v125 := by rw [ef126]; exact zu_s
            refine lv_iload hx hb dX4_parcels_98 (lv_at hl 5 rfl) ?_
            refine lv_iload hx hb dX4_parcels_100 (lv_at hl 0 rfl) ?_
            refine lv_isub hx hb dX4_parcels_102 ?_
            refine lv_topi (fun v129 ev129 => ?_)
            refine lv_istore (lv' := [(4, .int v129), (6, .int v123), (1, .int v120), (0, .ref (τ.1 18)), (2, .int (nI i)), (3, .int (f 19 i)), (5, .int (nI j))]) hx hb dX4_parcels_103 hl (by decide) rfl (fun ls hl => ?_)
            refine lv_iinc (v := nI (j + 1)) (lv' := [(5, .int (nI (j + 1))), (4, .int v129), (6, .int v123), (1, .int v120), (0, .ref (τ.1 18)), (2, .int (nI i)), (3, .int (f 19 i))]) hx hb dX4_parcels_105 hl (k := 6) rfl (by rw [show (Int32.ofInt 1 : Int32) = nI 1 from by decide, nI_add]) (by decide) rfl (fun ls hl => ?_)
            refine lv_goto (tgt := 30) hx hb dX4_parcels_108 (by decide) ?_
            exact ih103 (792 - (j + 1)) (by omega) (j + 1, _, _, f126) _ _ _ (show 792 - (j + 1) = 792 - (j + 1) ∧ ((j + 1) ≤ 792 ∧ ∀ a b, a ≠ 21 → f126 a b = fi a b) ∧ zH D A τ f126 fr ol s _ ∧ va_S A s.heap _ _ ∧ lv_has _ 7 [(0, .ref (τ.1 18)), (1, .int _), (2, .int (nI i)), (3, .int (f 19 i)), (4, .int _), (5, .int (nI (j + 1)))] from ⟨rfl, ⟨by omega, fun a b h => by rw [ef126, zu_n (by omega), ef117, zu_n (by omega)]; exact hfr2 a b h⟩, hH, hS, lv_sub hl [4, 3, 5, 6, 1, 0] rfl⟩)
