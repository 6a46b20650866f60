set_option maxHeartbeats 4000000 in
set_option maxRecDepth 100000 in
/-- rules -/
theorem m_rules (l : Launch) (hl0 : l.stackTraces = false) (D : va_G) (A : Nat → Prop) (sad : Nat → Nat) (τ : zTy) (fi : zFi) (fr : zFr) (ol : Int64) (L : Nat) (hF : zFix τ fr) (hn : fi 30 21 = nI L) (hL4 : L ≤ 400) (n : Nat) (hMt : zMt fi n) (hMx : zMx fi n) : Met l yX12_rules wsX12_rules ({ frames := 4, cells := 0, slots := 0, locals := 93 }) (va_Pc [.ref (τ.1 30)] (zQc D A sad τ fi fr ol)) (va_Qi (fun (r : Int32) (u : zFi) => u 30 21 = nI 0 ∧ zMx u n ∧ ∀ a b, ¬ (a = 40 ∨ a = 44 ∨ a = 45 ∨ a = 46 ∨ (a = 30 ∧ (b = 0 ∨ (21 ≤ b ∧ b ≤ 25)))) → u a b = fi a b) (fun (u : zFi) (t : State) => zH D A τ u fr ol t t.heap) A) 0 0 A := by
  refine Met.ofW (cc := cX12_rules) (maxL := 5) (ret := (some .int)) (by decide) rfl ?_
  intro p9 e9 s m args below meth c9 s₁ B hml hv
  obtain ⟨rfl, hz, hH, hA⟩ := hv
  have hx := B.exec
  have hb := B.bytes
  have hr := B.returns
  have hts := atoms_spec (ws := wsX12_rules) B.pre
  have hown : s.vm.findClass RX12 = some m.cls := findClass_of_methodNamed B.named
  have hlocks := B.notSynchronized
  have hS : va_S A s.heap s.heap [] := va_S.rf
  have hl := lv_entry ([.ref (τ.1 30)]) (n := 5) (Nat.le_of_ble_eq_true rfl)
  rw [lg_entry_eq]
  generalize (lg_sl ([.ref (τ.1 30)]) ++ List.replicate (5 - (lg_sl ([.ref (τ.1 30)])).length) Slot.unset).toArray = ls at hl ⊢
  have hl : lv_has ls 5 [(0, .ref (τ.1 30))] := hl
  have hm30 := hMt.1
  have hMt0 := hMt
  have hMx0 := hMx
  have hw0 := hts (.fieldLink RX12 165 "PostHouseModel" "thrown" "I") (by decide +kernel)
  have hiX12 : ∀ w ∈ u_ws RX12 TX12 71, w ∈ wsX12_rules := fun _ h => List.mem_cons_of_mem _ (List.mem_append_right _ h)
  have hw2 := hts (.fieldLink RX12 52 "PostHouseModel" "draft" "[I") (by decide +kernel)
  have hw3 := hts (.fieldLink RX12 49 "PostHouseModel" "rule" "[I") (by decide +kernel)
  have hw4 := hts (.fieldLink RX12 168 "PostHouseModel" "things" "I") (by decide +kernel)
  have hw5 := hts (.fieldLink RX12 37 "PostHouseModel" "other" "[I") (by decide +kernel)
  have hw6 := hts (.fieldLink RX12 55 "PostHouseModel" "draftOther" "[I") (by decide +kernel)
  have hw7 := hts (.fieldLink RX12 206 "PostHouseModel" "at" "I") (by decide +kernel)
  refine lv_aload_n hx hb dX12_rules_0 rfl (lv_at hl 0 rfl) ?_
  refine va_callv (va_runV (As := []) (rest := []) ⟨hx, hb, hml, hown, hts⟩ (m_begin l hl0 D A sad τ fi fr ol L hF hn) (cwV 0 hts gX12_rules_X12_beginText rfl rfl rfl (by decide +kernel) ⟨Nat.le_of_ble_eq_true rfl, Nat.le_of_ble_eq_true rfl⟩) ⟨zQc_bl, zRecv hH (zk_30 hF) rfl, zQc_at hz hS hA hH⟩ rfl rfl hl.1 rfl (lv_room (Nat.le_of_ble_eq_true rfl)) dX12_rules_1 ⟨Nat.le_of_ble_eq_true rfl, Nat.le_of_ble_eq_true rfl⟩) hS (fun q _ h => h) (fun q h => h) (fun u9 t9 H1 locs ht9 hvm9 hw hB hz1 hk1 hS => ?_)
  have hH := zMv ht9 hvm9 hB
  clear hB
  generalize u9 = f102 at hw hH
  generalize H1 = H at hH hS ⊢
  obtain ⟨q21, q22, q23, hf21⟩ := hw
  have q103 : f102 30 2 = nI n := by rw [hf21 30 2 (by omega)]; exact hMt.2.1
  have hMt := zMt.ci (fi' := f102) hMt (fun i9 k9 h9 => hf21 i9 k9 (by omega))
  have hMx := zMx.ci (fi' := f102) hMx (fun i9 k9 h9 => hf21 i9 k9 (by omega))
  refine lv_aload_n hx hb dX12_rules_4 rfl (lv_at hl 0 rfl) ?_
  refine lv_iconst (v := nI 0) hx hb dX12_rules_5 (by decide) ?_
  refine zPutI (D := D) (ci := 12) (ty := .int) (C := RX12) (T := TX12) (N := 71) hx hb hts hiX12 tyX12 tyX12_ok nmX12 hown hH hS (zk_30 hF) rfl 0 (by decide) rfl hw0 (fun _ h9 => h9) rfl (by decide +kernel) rfl rfl dX12_rules_6 (fun H locs hH hS => ?_)
  obtain ⟨f104, ef104⟩ : ∃ f9 : zFi, f9 = zu f102 30 0 (nI 0) := ⟨_, rfl⟩
  rw [← ef104] at hH
  have q105 : f104 30 2 = nI n := by rw [ef104, zu_n (fun h9 => absurd h9.2 (by decide))]; exact q103
  have q106 : f104 30 21 = nI 0 := by rw [ef104, zu_n (fun h9 => absurd h9.2 (by decide))]; exact q21
  have q107 : f104 30 22 = nI L := by rw [ef104, zu_n (fun h9 => absurd h9.2 (by decide))]; exact q22
  have q108 : f104 30 23 = nI 0 := by rw [ef104, zu_n (fun h9 => absurd h9.2 (by decide))]; exact q23
  have q109 : f104 30 0 = nI 0 := by rw [ef104]; exact zu_s
  have hMt := zMt.ci (fi' := f104) hMt (fun i9 k9 h9 => by rw [ef104]; exact zu_n (by omega))
  have hMx := zMx.ci (fi' := f104) hMx (fun i9 k9 h9 => by rw [ef104]; exact zu_n (by omega))
  refine lv_iconst (v := nI 0) hx hb dX12_rules_9 (by decide) ?_
  refine lv_istore_n (lv' := [(1, .int (nI 0)), (0, .ref (τ.1 30))]) hx hb dX12_rules_10 rfl hl (by decide) rfl (fun ls hl => ?_)
  refine lv_iload_n hx hb dX12_rules_11 rfl (lv_at hl 0 rfl) ?_
  refine lv_iconst (v := nI 4) hx hb dX12_rules_12 (by decide) ?_
  refine lv_icmp_ge (tgt := 34) hx hb dX12_rules_13 (by decide) (fun c110 => absurd c110 (by decide)) (fun c110 => ?_)
  refine lv_aload_n hx hb dX12_rules_16 rfl (lv_at hl 1 rfl) ?_
  refine zGetR (D := D) (ci := 12) (C := RX12) (T := TX12) (N := 71) hx hb hts hiX12 hown hH (zk_30 hF) rfl 18 (by decide) rfl hw2 (fun _ h9 => h9) dX12_rules_17 (zr_30_18 hF) ?_
  refine lv_iload_n hx hb dX12_rules_20 rfl (lv_at hl 0 rfl) ?_
  refine lv_aload_n hx hb dX12_rules_21 rfl (lv_at hl 1 rfl) ?_
  refine zGetR (D := D) (ci := 12) (C := RX12) (T := TX12) (N := 71) hx hb hts hiX12 hown hH (zk_30 hF) rfl 17 (by decide) rfl hw3 (fun _ h9 => h9) dX12_rules_22 (zr_30_17 hF) ?_
  refine lv_iload_n hx hb dX12_rules_25 rfl (lv_at hl 0 rfl) ?_
  refine zIaldN (D := D) hx hb hH (zk_44 hF) (zn_44 hF) (by omega) (by omega) rfl dX12_rules_26 ?_
  refine zIastN (D := D) hx hb hH hS (zk_45 hF) (zn_45 hF) (by omega) (by omega) dX12_rules_27 (fun H locs hH hS => ?_)
  obtain ⟨f111, ef111⟩ : ∃ f9 : zFi, f9 = zu f104 45 0 (f104 44 0) := ⟨_, rfl⟩
  rw [← ef111] at hH
  have q112 : f111 30 2 = nI n := by rw [ef111, zu_n (fun h9 => absurd h9.1 (by decide))]; exact q105
  have q113 : f111 30 21 = nI 0 := by rw [ef111, zu_n (fun h9 => absurd h9.1 (by decide))]; exact q106
  have q114 : f111 30 22 = nI L := by rw [ef111, zu_n (fun h9 => absurd h9.1 (by decide))]; exact q107
  have q115 : f111 30 23 = nI 0 := by rw [ef111, zu_n (fun h9 => absurd h9.1 (by decide))]; exact q108
  have q116 : f111 30 0 = nI 0 := by rw [ef111, zu_n (fun h9 => absurd h9.1 (by decide))]; exact q109
  have q117 : f111 45 0 = f104 44 0 := by rw [ef111]; exact zu_s
  have hMt := zMt.ci (fi' := f111) hMt (fun i9 k9 h9 => by rw [ef111]; exact zu_n (by omega))
  have hMx := zMx.ci (fi' := f111) hMx (fun i9 k9 h9 => by rw [ef111]; exact zu_n (by omega))
  refine lv_iinc (v := nI 1) (lv' := [(1, .int (nI 1)), (0, .ref (τ.1 30))]) hx hb dX12_rules_28 hl (k := 0) rfl (by decide) (by decide) rfl (fun ls hl => ?_)
  refine lv_goto (tgt := 11) hx hb dX12_rules_31 (by decide) ?_
  refine lv_iload_n hx hb dX12_rules_11 rfl (lv_at hl 0 rfl) ?_
  refine lv_iconst (v := nI 4) hx hb dX12_rules_12 (by decide) ?_
  refine lv_icmp_ge (tgt := 34) hx hb dX12_rules_13 (by decide) (fun c118 => absurd c118 (by decide)) (fun c118 => ?_)
  refine lv_aload_n hx hb dX12_rules_16 rfl (lv_at hl 1 rfl) ?_
  refine zGetR (D := D) (ci := 12) (C := RX12) (T := TX12) (N := 71) hx hb hts hiX12 hown hH (zk_30 hF) rfl 18 (by decide) rfl hw2 (fun _ h9 => h9) dX12_rules_17 (zr_30_18 hF) ?_
  refine lv_iload_n hx hb dX12_rules_20 rfl (lv_at hl 0 rfl) ?_
  refine lv_aload_n hx hb dX12_rules_21 rfl (lv_at hl 1 rfl) ?_
  refine zGetR (D := D) (ci := 12) (C := RX12) (T := TX12) (N := 71) hx hb hts hiX12 hown hH (zk_30 hF) rfl 17 (by decide) rfl hw3 (fun _ h9 => h9) dX12_rules_22 (zr_30_17 hF) ?_
  refine lv_iload_n hx hb dX12_rules_25 rfl (lv_at hl 0 rfl) ?_
  refine zIaldN (D := D) hx hb hH (zk_44 hF) (zn_44 hF) (by omega) (by omega) rfl dX12_rules_26 ?_
  refine zIastN (D := D) hx hb hH hS (zk_45 hF) (zn_45 hF) (by omega) (by omega) dX12_rules_27 (fun H locs hH hS => ?_)
  obtain ⟨f119, ef119⟩ : ∃ f9 : zFi, f9 = zu f111 45 1 (f111 44 1) := ⟨_, rfl⟩
  rw [← ef119] at hH
  have q120 : f119 30 2 = nI n := by rw [ef119, zu_n (fun h9 => absurd h9.1 (by decide))]; exact q112
  have q121 : f119 30 21 = nI 0 := by rw [ef119, zu_n (fun h9 => absurd h9.1 (by decide))]; exact q113
  have q122 : f119 30 22 = nI L := by rw [ef119, zu_n (fun h9 => absurd h9.1 (by decide))]; exact q114
  have q123 : f119 30 23 = nI 0 := by rw [ef119, zu_n (fun h9 => absurd h9.1 (by decide))]; exact q115
  have q124 : f119 30 0 = nI 0 := by rw [ef119, zu_n (fun h9 => absurd h9.1 (by decide))]; exact q116
  have q125 : f119 45 0 = f104 44 0 := by rw [ef119, zu_n (fun h9 => absurd h9.2 (by decide))]; exact q117
  have q126 : f119 45 1 = f111 44 1 := by rw [ef119]; exact zu_s
  have hMt := zMt.ci (fi' := f119) hMt (fun i9 k9 h9 => by rw [ef119]; exact zu_n (by omega))
  have hMx := zMx.ci (fi' := f119) hMx (fun i9 k9 h9 => by rw [ef119]; exact zu_n (by omega))
  refine lv_iinc (v := nI 2) (lv' := [(1, .int (nI 2)), (0, .ref (τ.1 30))]) hx hb dX12_rules_28 hl (k := 0) rfl (by decide) (by decide) rfl (fun ls hl => ?_)
  refine lv_goto (tgt := 11) hx hb dX12_rules_31 (by decide) ?_
  refine lv_iload_n hx hb dX12_rules_11 rfl (lv_at hl 0 rfl) ?_
  refine lv_iconst (v := nI 4) hx hb dX12_rules_12 (by decide) ?_
  refine lv_icmp_ge (tgt := 34) hx hb dX12_rules_13 (by decide) (fun c127 => absurd c127 (by decide)) (fun c127 => ?_)
  refine lv_aload_n hx hb dX12_rules_16 rfl (lv_at hl 1 rfl) ?_
  refine zGetR (D := D) (ci := 12) (C := RX12) (T := TX12) (N := 71) hx hb hts hiX12 hown hH (zk_30 hF) rfl 18 (by decide) rfl hw2 (fun _ h9 => h9) dX12_rules_17 (zr_30_18 hF) ?_
  refine lv_iload_n hx hb dX12_rules_20 rfl (lv_at hl 0 rfl) ?_
  refine lv_aload_n hx hb dX12_rules_21 rfl (lv_at hl 1 rfl) ?_
  refine zGetR (D := D) (ci := 12) (C := RX12) (T := TX12) (N := 71) hx hb hts hiX12 hown hH (zk_30 hF) rfl 17 (by decide) rfl hw3 (fun _ h9 => h9) dX12_rules_22 (zr_30_17 hF) ?_
  refine lv_iload_n hx hb dX12_rules_25 rfl (lv_at hl 0 rfl) ?_
  refine zIaldN (D := D) hx hb hH (zk_44 hF) (zn_44 hF) (by omega) (by omega) rfl dX12_rules_26 ?_
  refine zIastN (D := D) hx hb hH hS (zk_45 hF) (zn_45 hF) (by omega) (by omega) dX12_rules_27 (fun H locs hH hS => ?_)
  obtain ⟨f128, ef128⟩ : ∃ f9 : zFi, f9 = zu f119 45 2 (f119 44 2) := ⟨_, rfl⟩
  rw [← ef128] at hH
  have q129 : f128 30 2 = nI n := by rw [ef128, zu_n (fun h9 => absurd h9.1 (by decide))]; exact q120
  have q130 : f128 30 21 = nI 0 := by rw [ef128, zu_n (fun h9 => absurd h9.1 (by decide))]; exact q121
  have q131 : f128 30 22 = nI L := by rw [ef128, zu_n (fun h9 => absurd h9.1 (by decide))]; exact q122
  have q132 : f128 30 23 = nI 0 := by rw [ef128, zu_n (fun h9 => absurd h9.1 (by decide))]; exact q123
  have q133 : f128 30 0 = nI 0 := by rw [ef128, zu_n (fun h9 => absurd h9.1 (by decide))]; exact q124
  have q134 : f128 45 0 = f104 44 0 := by rw [ef128, zu_n (fun h9 => absurd h9.2 (by decide))]; exact q125
  have q135 : f128 45 1 = f111 44 1 := by rw [ef128, zu_n (fun h9 => absurd h9.2 (by decide))]; exact q126
  have q136 : f128 45 2 = f119 44 2 := by rw [ef128]; exact zu_s
  have hMt := zMt.ci (fi' := f128) hMt (fun i9 k9 h9 => by rw [ef128]; exact zu_n (by omega))
  have hMx := zMx.ci (fi' := f128) hMx (fun i9 k9 h9 => by rw [ef128]; exact zu_n (by omega))
  refine lv_iinc (v := nI 3) (lv' := [(1, .int (nI 3)), (0, .ref (τ.1 30))]) hx hb dX12_rules_28 hl (k := 0) rfl (by decide) (by decide) rfl (fun ls hl => ?_)
  refine lv_goto (tgt := 11) hx hb dX12_rules_31 (by decide) ?_
  refine lv_iload_n hx hb dX12_rules_11 rfl (lv_at hl 0 rfl) ?_
  refine lv_iconst (v := nI 4) hx hb dX12_rules_12 (by decide) ?_
  refine lv_icmp_ge (tgt := 34) hx hb dX12_rules_13 (by decide) (fun c137 => absurd c137 (by decide)) (fun c137 => ?_)
  refine lv_aload_n hx hb dX12_rules_16 rfl (lv_at hl 1 rfl) ?_
  refine zGetR (D := D) (ci := 12) (C := RX12) (T := TX12) (N := 71) hx hb hts hiX12 hown hH (zk_30 hF) rfl 18 (by decide) rfl hw2 (fun _ h9 => h9) dX12_rules_17 (zr_30_18 hF) ?_
  refine lv_iload_n hx hb dX12_rules_20 rfl (lv_at hl 0 rfl) ?_
  refine lv_aload_n hx hb dX12_rules_21 rfl (lv_at hl 1 rfl) ?_
  refine zGetR (D := D) (ci := 12) (C := RX12) (T := TX12) (N := 71) hx hb hts hiX12 hown hH (zk_30 hF) rfl 17 (by decide) rfl hw3 (fun _ h9 => h9) dX12_rules_22 (zr_30_17 hF) ?_
  refine lv_iload_n hx hb dX12_rules_25 rfl (lv_at hl 0 rfl) ?_
  refine zIaldN (D := D) hx hb hH (zk_44 hF) (zn_44 hF) (by omega) (by omega) rfl dX12_rules_26 ?_
  refine zIastN (D := D) hx hb hH hS (zk_45 hF) (zn_45 hF) (by omega) (by omega) dX12_rules_27 (fun H locs hH hS => ?_)
  obtain ⟨f138, ef138⟩ : ∃ f9 : zFi, f9 = zu f128 45 3 (f128 44 3) := ⟨_, rfl⟩
  rw [← ef138] at hH
  have q139 : f138 30 2 = nI n := by rw [ef138, zu_n (fun h9 => absurd h9.1 (by decide))]; exact q129
  have q140 : f138 30 21 = nI 0 := by rw [ef138, zu_n (fun h9 => absurd h9.1 (by decide))]; exact q130
  have q141 : f138 30 22 = nI L := by rw [ef138, zu_n (fun h9 => absurd h9.1 (by decide))]; exact q131
  have q142 : f138 30 23 = nI 0 := by rw [ef138, zu_n (fun h9 => absurd h9.1 (by decide))]; exact q132
  have q143 : f138 30 0 = nI 0 := by rw [ef138, zu_n (fun h9 => absurd h9.1 (by decide))]; exact q133
  have q144 : f138 45 0 = f104 44 0 := by rw [ef138, zu_n (fun h9 => absurd h9.2 (by decide))]; exact q134
  have q145 : f138 45 1 = f111 44 1 := by rw [ef138, zu_n (fun h9 => absurd h9.2 (by decide))]; exact q135
  have q146 : f138 45 2 = f119 44 2 := by rw [ef138, zu_n (fun h9 => absurd h9.2 (by decide))]; exact q136
  have q147 : f138 45 3 = f128 44 3 := by rw [ef138]; exact zu_s
  have hMt := zMt.ci (fi' := f138) hMt (fun i9 k9 h9 => by rw [ef138]; exact zu_n (by omega))
  have hMx := zMx.ci (fi' := f138) hMx (fun i9 k9 h9 => by rw [ef138]; exact zu_n (by omega))
  refine lv_iinc (v := nI 4) (lv' := [(1, .int (nI 4)), (0, .ref (τ.1 30))]) hx hb dX12_rules_28 hl (k := 0) rfl (by decide) (by decide) rfl (fun ls hl => ?_)
  refine lv_goto (tgt := 11) hx hb dX12_rules_31 (by decide) ?_
  refine lv_iload_n hx hb dX12_rules_11 rfl (lv_at hl 0 rfl) ?_
  refine lv_iconst (v := nI 4) hx hb dX12_rules_12 (by decide) ?_
  refine lv_icmp_ge (tgt := 34) hx hb dX12_rules_13 (by decide) (fun c148 => ?_) (fun c148 => absurd (by decide) c148)
  refine lv_iconst (v := nI 0) hx hb dX12_rules_34 (by decide) ?_
  refine lv_istore_n (lv' := [(1, .int (nI 0)), (0, .ref (τ.1 30))]) hx hb dX12_rules_35 rfl hl (by decide) rfl (fun ls hl => ?_)
  refine zLp (σ := Nat × zFi) (fun x9 k9 H locs ls => (fun (i : Nat) (f : zFi) => k9 = n - i ∧ (i ≤ n ∧ (∀ t, t < i → f 46 t = -1 ∨ ∃ t2, t2 < n ∧ f 46 t = nI t2) ∧ (f 30 22 = nI L ∧ f 30 21 = nI 0 ∧ f 30 23 = nI 0) ∧ ∀ a b, ¬ (a = 45 ∨ a = 46 ∨ (a = 30 ∧ (b = 0 ∨ (21 ≤ b ∧ b ≤ 25)))) → f a b = fi a b) ∧ zH D A τ f fr ol s H ∧ va_S A s.heap H locs ∧ lv_has ls 5 [(0, .ref (τ.1 30)), (1, .int (nI i))]) x9.1 x9.2) (0, f138) (n - 0) (show n - 0 = n - 0 ∧ (0 ≤ n ∧ (∀ t, t < 0 → f138 46 t = -1 ∨ ∃ t2, t2 < n ∧ f138 46 t = nI t2) ∧ (f138 30 22 = nI L ∧ f138 30 21 = nI 0 ∧ f138 30 23 = nI 0) ∧ ∀ a b, ¬ (a = 45 ∨ a = 46 ∨ (a = 30 ∧ (b = 0 ∨ (21 ≤ b ∧ b ≤ 25)))) → f138 a b = fi a b) ∧ zH D A τ f138 fr ol s _ ∧ va_S A s.heap _ _ ∧ lv_has _ 5 [(0, .ref (τ.1 30)), (1, .int (nI 0))] from ⟨rfl, ⟨Nat.zero_le _, fun j h => absurd h (by omega), ⟨q141, q140, q142⟩, fun a b h => by rw [ef138, zu_n (by omega), ef128, zu_n (by omega), ef119, zu_n (by omega), ef111, zu_n (by omega), ef104, zu_n (by omega), hf21 a b (by omega)]⟩, hH, hS, lv_sub hl [1, 0] rfl⟩) (fun k9 ih x9 H locs ls hv9 => ?_)
  obtain ⟨i, f⟩ := x9
  have hv9 : k9 = n - i ∧ (i ≤ n ∧ (∀ t, t < i → f 46 t = -1 ∨ ∃ t2, t2 < n ∧ f 46 t = nI t2) ∧ (f 30 22 = nI L ∧ f 30 21 = nI 0 ∧ f 30 23 = nI 0) ∧ ∀ a b, ¬ (a = 45 ∨ a = 46 ∨ (a = 30 ∧ (b = 0 ∨ (21 ≤ b ∧ b ≤ 25)))) → f a b = fi a b) ∧ zH D A τ f fr ol s H ∧ va_S A s.heap H locs ∧ lv_has ls 5 [(0, .ref (τ.1 30)), (1, .int (nI i))] := hv9
  obtain ⟨hkih149, hv9, hH, hS, hl⟩ := hv9
  obtain ⟨h1, hdo, hst, hfr⟩ := hv9
  have ih149 := ih
  clear ih
  have hMt := zMt.ci (fi' := f) hMt0 (fun i9 k9 h9 => hfr i9 k9 (by omega))
  have hMx := zMx.ci (fi' := f) hMx0 (fun i9 k9 h9 => hfr i9 k9 (by omega))
  obtain ⟨p22, p21, p23⟩ := hst
  have p2 := hMt.2.1
  refine lv_iload_n hx hb dX12_rules_36 rfl (lv_at hl 1 rfl) ?_
  refine lv_aload_n hx hb dX12_rules_37 rfl (lv_at hl 0 rfl) ?_
  refine zGetI (D := D) (ci := 12) (C := RX12) (T := TX12) (N := 71) hx hb hts hiX12 hown hH (zk_30 hF) rfl 2 (by decide) rfl hw4 (fun _ h9 => h9) dX12_rules_38 p2 ?_
  refine lv_icmp_ge (tgt := 62) hx hb dX12_rules_41 (by decide) (fun c150 => ?_) (fun c150 => ?_)
  · have zc150 := c150
    replace zc150 := zc_le (nI_toInt (by omega)) (nI_toInt (by omega)) zc150
    refine lv_iconst (v := nI 0) hx hb dX12_rules_62 (by decide) ?_
    refine lv_istore_n (lv' := [(1, .int (nI 0)), (0, .ref (τ.1 30))]) hx hb dX12_rules_63 rfl hl (by decide) rfl (fun ls hl => ?_)
    refine lv_iconst (v := nI 1) hx hb dX12_rules_64 (by decide) ?_
    refine lv_istore_n (lv' := [(2, .int (nI 1)), (1, .int (nI 0)), (0, .ref (τ.1 30))]) hx hb dX12_rules_65 rfl hl (by decide) rfl (fun ls hl => ?_)
    refine lv_iconst (v := nI 1) hx hb dX12_rules_66 (by decide) ?_
    refine lv_istore_n (lv' := [(3, .int (nI 1)), (2, .int (nI 1)), (1, .int (nI 0)), (0, .ref (τ.1 30))]) hx hb dX12_rules_67 rfl hl (by decide) rfl (fun ls hl => ?_)
    refine zLp (σ := Int32 × Nat × Int32 × Nat × zFi) (fun x9 k9 H locs ls => (fun (y1 : Int32) (m2 : Nat) (y3 : Int32) (c : Nat) (f2 : zFi) => k9 = 2 * (L - c) + m2 ∧ (c ≤ L ∧ m2 ≤ 1 ∧ f2 30 23 = nI c ∧ zMd f2 n ∧ (f2 30 22 = nI L ∧ f2 30 21 = nI 0) ∧ ∀ a b, ¬ (a = 45 ∨ a = 46 ∨ (a = 30 ∧ (b = 0 ∨ (21 ≤ b ∧ b ≤ 25)))) → f2 a b = fi a b) ∧ zH D A τ f2 fr ol s H ∧ va_S A s.heap H locs ∧ lv_has ls 5 [(0, .ref (τ.1 30)), (1, .int y1), (2, .int (nI m2)), (3, .int y3)]) x9.1 x9.2.1 x9.2.2.1 x9.2.2.2.1 x9.2.2.2.2) (nI 0, 1, nI 1, 0, f) (2 * (L - 0) + 1) (show 2 * (L - 0) + 1 = 2 * (L - 0) + 1 ∧ (0 ≤ L ∧ 1 ≤ 1 ∧ f 30 23 = nI 0 ∧ zMd f n ∧ (f 30 22 = nI L ∧ f 30 21 = nI 0) ∧ ∀ a b, ¬ (a = 45 ∨ a = 46 ∨ (a = 30 ∧ (b = 0 ∨ (21 ≤ b ∧ b ≤ 25)))) → f a b = fi a b) ∧ zH D A τ f fr ol s _ ∧ va_S A s.heap _ _ ∧ lv_has _ 5 [(0, .ref (τ.1 30)), (1, .int (nI 0)), (2, .int (nI 1)), (3, .int (nI 1))] from ⟨rfl, ⟨by omega, by omega, p23, fun j h => hdo j (by omega), ⟨p22, p21⟩, fun a b h => hfr a b h⟩, hH, hS, lv_sub hl [3, 2, 1, 0] rfl⟩) (fun k9 ih x9 H locs ls hv9 => ?_)
    obtain ⟨y1, m2, y3, c, f2⟩ := x9
    have hv9 : k9 = 2 * (L - c) + m2 ∧ (c ≤ L ∧ m2 ≤ 1 ∧ f2 30 23 = nI c ∧ zMd f2 n ∧ (f2 30 22 = nI L ∧ f2 30 21 = nI 0) ∧ ∀ a b, ¬ (a = 45 ∨ a = 46 ∨ (a = 30 ∧ (b = 0 ∨ (21 ≤ b ∧ b ≤ 25)))) → f2 a b = fi a b) ∧ zH D A τ f2 fr ol s H ∧ va_S A s.heap H locs ∧ lv_has ls 5 [(0, .ref (τ.1 30)), (1, .int y1), (2, .int (nI m2)), (3, .int y3)] := hv9
    obtain ⟨hkih151, hv9, hH, hS, hl⟩ := hv9
    obtain ⟨h2, hm2, p23, hMd, hst2, hfr2⟩ := hv9
    have ih151 := ih
    clear ih
    have hMt := zMt.ci (fi' := f2) hMt0 (fun i9 k9 h9 => hfr2 i9 k9 (by omega))
    have hMx := zMx.ci (fi' := f2) hMx0 (fun i9 k9 h9 => hfr2 i9 k9 (by omega))
    obtain ⟨p22, p21⟩ := hst2
    have p2 := hMt.2.1
    refine lv_iload_n hx hb dX12_rules_68 rfl (lv_at hl 2 rfl) ?_
    refine lv_if_eq (tgt := 120) hx hb dX12_rules_69 (by decide) (fun c152 => ?_) (fun c152 => ?_)
    · have zc152 := c152
      replace zc152 := zc_eq (nI_toInt (by omega)) ((by decide : (0 : Int32).toInt = 0)) zc152
      refine lv_iload_n hx hb dX12_rules_120 rfl (lv_at hl 3 rfl) ?_
      refine lv_if_eq (tgt := 141) hx hb dX12_rules_121 (by decide) (fun c153 => ?_) (fun c153 => ?_)
      · have zc153 := c153
        replace zc153 := zc_eq (rfl) ((by decide : (0 : Int32).toInt = 0)) zc153
        refine lv_iload_n hx hb dX12_rules_141 rfl (lv_at hl 3 rfl) ?_
        refine lv_if_ne (tgt := 152) hx hb dX12_rules_142 (by decide) (fun c154 => ?_) (fun c154 => ?_)
        · have zc154 := c154
          replace zc154 := zc_neq (rfl) ((by decide : (0 : Int32).toInt = 0)) zc154
          refine lv_iconst (v := nI 0) hx hb dX12_rules_152 (by decide) ?_
          refine lv_istore (lv' := [(4, .int (nI 0)), (0, .ref (τ.1 30)), (1, .int y1), (2, .int (nI m2)), (3, .int y3)]) hx hb dX12_rules_153 hl (by decide) rfl (fun ls hl => ?_)
          refine lv_iload hx hb dX12_rules_155 (lv_at hl 0 rfl) ?_
          refine lv_iconst (v := nI 4) hx hb dX12_rules_157 (by decide) ?_
          refine lv_icmp_ge (tgt := 181) hx hb dX12_rules_158 (by decide) (fun c155 => absurd c155 (by decide)) (fun c155 => ?_)
          refine lv_aload_n hx hb dX12_rules_161 rfl (lv_at hl 1 rfl) ?_
          refine zGetR (D := D) (ci := 12) (C := RX12) (T := TX12) (N := 71) hx hb hts hiX12 hown hH (zk_30 hF) rfl 17 (by decide) rfl hw3 (fun _ h9 => h9) dX12_rules_162 (zr_30_17 hF) ?_
          refine lv_iload hx hb dX12_rules_165 (lv_at hl 0 rfl) ?_
          refine lv_aload_n hx hb dX12_rules_167 rfl (lv_at hl 1 rfl) ?_
          refine zGetR (D := D) (ci := 12) (C := RX12) (T := TX12) (N := 71) hx hb hts hiX12 hown hH (zk_30 hF) rfl 18 (by decide) rfl hw2 (fun _ h9 => h9) dX12_rules_168 (zr_30_18 hF) ?_
          refine lv_iload hx hb dX12_rules_171 (lv_at hl 0 rfl) ?_
          refine zIaldN (D := D) hx hb hH (zk_45 hF) (zn_45 hF) (by omega) (by omega) rfl dX12_rules_173 ?_
          refine zIastN (D := D) hx hb hH hS (zk_44 hF) (zn_44 hF) (by omega) (by omega) dX12_rules_174 (fun H locs hH hS => ?_)
          obtain ⟨f156, ef156⟩ : ∃ f9 : zFi, f9 = zu f2 44 0 (f2 45 0) := ⟨_, rfl⟩
          rw [← ef156] at hH
          have q157 : f156 30 22 = nI L := by rw [ef156, zu_n (fun h9 => absurd h9.1 (by decide))]; exact p22
          have q158 : f156 30 21 = nI 0 := by rw [ef156, zu_n (fun h9 => absurd h9.1 (by decide))]; exact p21
          have q159 : f156 30 23 = nI c := by rw [ef156, zu_n (fun h9 => absurd h9.1 (by decide))]; exact p23
          have q160 : f156 30 2 = nI n := by rw [ef156, zu_n (fun h9 => absurd h9.1 (by decide))]; exact p2
          have q161 : f156 44 0 = f2 45 0 := by rw [ef156]; exact zu_s
          have hMt := zMt.ci (fi' := f156) hMt (fun i9 k9 h9 => by rw [ef156]; exact zu_n (by omega))
          have hMx := zMx.ci (fi' := f156) hMx (fun i9 k9 h9 => by rw [ef156]; exact zu_n (by omega))
          have hMd := zMd.ci (fi' := f156) hMd (fun i9 k9 h9 => by rw [ef156]; exact zu_n (by omega))
          refine lv_iinc (v := nI 1) (lv' := [(4, .int (nI 1)), (0, .ref (τ.1 30)), (1, .int y1), (2, .int (nI m2)), (3, .int y3)]) hx hb dX12_rules_175 hl (k := 0) rfl (by decide) (by decide) rfl (fun ls hl => ?_)
          refine lv_goto (tgt := 155) hx hb dX12_rules_178 (by decide) ?_
          refine lv_iload hx hb dX12_rules_155 (lv_at hl 0 rfl) ?_
          refine lv_iconst (v := nI 4) hx hb dX12_rules_157 (by decide) ?_
          refine lv_icmp_ge (tgt := 181) hx hb dX12_rules_158 (by decide) (fun c162 => absurd c162 (by decide)) (fun c162 => ?_)
          refine lv_aload_n hx hb dX12_rules_161 rfl (lv_at hl 1 rfl) ?_
          refine zGetR (D := D) (ci := 12) (C := RX12) (T := TX12) (N := 71) hx hb hts hiX12 hown hH (zk_30 hF) rfl 17 (by decide) rfl hw3 (fun _ h9 => h9) dX12_rules_162 (zr_30_17 hF) ?_
          refine lv_iload hx hb dX12_rules_165 (lv_at hl 0 rfl) ?_
          refine lv_aload_n hx hb dX12_rules_167 rfl (lv_at hl 1 rfl) ?_
          refine zGetR (D := D) (ci := 12) (C := RX12) (T := TX12) (N := 71) hx hb hts hiX12 hown hH (zk_30 hF) rfl 18 (by decide) rfl hw2 (fun _ h9 => h9) dX12_rules_168 (zr_30_18 hF) ?_
          refine lv_iload hx hb dX12_rules_171 (lv_at hl 0 rfl) ?_
          refine zIaldN (D := D) hx hb hH (zk_45 hF) (zn_45 hF) (by omega) (by omega) rfl dX12_rules_173 ?_
          refine zIastN (D := D) hx hb hH hS (zk_44 hF) (zn_44 hF) (by omega) (by omega) dX12_rules_174 (fun H locs hH hS => ?_)
          obtain ⟨f163, ef163⟩ : ∃ f9 : zFi, f9 = zu f156 44 1 (f156 45 1) := ⟨_, rfl⟩
          rw [← ef163] at hH
          have q164 : f163 30 22 = nI L := by rw [ef163, zu_n (fun h9 => absurd h9.1 (by decide))]; exact q157
          have q165 : f163 30 21 = nI 0 := by rw [ef163, zu_n (fun h9 => absurd h9.1 (by decide))]; exact q158
          have q166 : f163 30 23 = nI c := by rw [ef163, zu_n (fun h9 => absurd h9.1 (by decide))]; exact q159
          have q167 : f163 30 2 = nI n := by rw [ef163, zu_n (fun h9 => absurd h9.1 (by decide))]; exact q160
          have q168 : f163 44 0 = f2 45 0 := by rw [ef163, zu_n (fun h9 => absurd h9.2 (by decide))]; exact q161
          have q169 : f163 44 1 = f156 45 1 := by rw [ef163]; exact zu_s
          have hMt := zMt.ci (fi' := f163) hMt (fun i9 k9 h9 => by rw [ef163]; exact zu_n (by omega))
          have hMx := zMx.ci (fi' := f163) hMx (fun i9 k9 h9 => by rw [ef163]; exact zu_n (by omega))
          have hMd := zMd.ci (fi' := f163) hMd (fun i9 k9 h9 => by rw [ef163]; exact zu_n (by omega))
          refine lv_iinc (v := nI 2) (lv' := [(4, .int (nI 2)), (0, .ref (τ.1 30)), (1, .int y1), (2, .int (nI m2)), (3, .int y3)]) hx hb dX12_rules_175 hl (k := 0) rfl (by decide) (by decide) rfl (fun ls hl => ?_)
          refine lv_goto (tgt := 155) hx hb dX12_rules_178 (by decide) ?_
          refine lv_iload hx hb dX12_rules_155 (lv_at hl 0 rfl) ?_
          refine lv_iconst (v := nI 4) hx hb dX12_rules_157 (by decide) ?_
          refine lv_icmp_ge (tgt := 181) hx hb dX12_rules_158 (by decide) (fun c170 => absurd c170 (by decide)) (fun c170 => ?_)
          refine lv_aload_n hx hb dX12_rules_161 rfl (lv_at hl 1 rfl) ?_
          refine zGetR (D := D) (ci := 12) (C := RX12) (T := TX12) (N := 71) hx hb hts hiX12 hown hH (zk_30 hF) rfl 17 (by decide) rfl hw3 (fun _ h9 => h9) dX12_rules_162 (zr_30_17 hF) ?_
          refine lv_iload hx hb dX12_rules_165 (lv_at hl 0 rfl) ?_
          refine lv_aload_n hx hb dX12_rules_167 rfl (lv_at hl 1 rfl) ?_
          refine zGetR (D := D) (ci := 12) (C := RX12) (T := TX12) (N := 71) hx hb hts hiX12 hown hH (zk_30 hF) rfl 18 (by decide) rfl hw2 (fun _ h9 => h9) dX12_rules_168 (zr_30_18 hF) ?_
          refine lv_iload hx hb dX12_rules_171 (lv_at hl 0 rfl) ?_
          refine zIaldN (D := D) hx hb hH (zk_45 hF) (zn_45 hF) (by omega) (by omega) rfl dX12_rules_173 ?_
          refine zIastN (D := D) hx hb hH hS (zk_44 hF) (zn_44 hF) (by omega) (by omega) dX12_rules_174 (fun H locs hH hS => ?_)
          obtain ⟨f171, ef171⟩ : ∃ f9 : zFi, f9 = zu f163 44 2 (f163 45 2) := ⟨_, rfl⟩
          rw [← ef171] at hH
          have q172 : f171 30 22 = nI L := by rw [ef171, zu_n (fun h9 => absurd h9.1 (by decide))]; exact q164
          have q173 : f171 30 21 = nI 0 := by rw [ef171, zu_n (fun h9 => absurd h9.1 (by decide))]; exact q165
          have q174 : f171 30 23 = nI c := by rw [ef171, zu_n (fun h9 => absurd h9.1 (by decide))]; exact q166
          have q175 : f171 30 2 = nI n := by rw [ef171, zu_n (fun h9 => absurd h9.1 (by decide))]; exact q167
          have q176 : f171 44 0 = f2 45 0 := by rw [ef171, zu_n (fun h9 => absurd h9.2 (by decide))]; exact q168
          have q177 : f171 44 1 = f156 45 1 := by rw [ef171, zu_n (fun h9 => absurd h9.2 (by decide))]; exact q169
          have q178 : f171 44 2 = f163 45 2 := by rw [ef171]; exact zu_s
          have hMt := zMt.ci (fi' := f171) hMt (fun i9 k9 h9 => by rw [ef171]; exact zu_n (by omega))
          have hMx := zMx.ci (fi' := f171) hMx (fun i9 k9 h9 => by rw [ef171]; exact zu_n (by omega))
          have hMd := zMd.ci (fi' := f171) hMd (fun i9 k9 h9 => by rw [ef171]; exact zu_n (by omega))
          refine lv_iinc (v := nI 3) (lv' := [(4, .int (nI 3)), (0, .ref (τ.1 30)), (1, .int y1), (2, .int (nI m2)), (3, .int y3)]) hx hb dX12_rules_175 hl (k := 0) rfl (by decide) (by decide) rfl (fun ls hl => ?_)
          refine lv_goto (tgt := 155) hx hb dX12_rules_178 (by decide) ?_
          refine lv_iload hx hb dX12_rules_155 (lv_at hl 0 rfl) ?_
          refine lv_iconst (v := nI 4) hx hb dX12_rules_157 (by decide) ?_
          refine lv_icmp_ge (tgt := 181) hx hb dX12_rules_158 (by decide) (fun c179 => absurd c179 (by decide)) (fun c179 => ?_)
          refine lv_aload_n hx hb dX12_rules_161 rfl (lv_at hl 1 rfl) ?_
          refine zGetR (D := D) (ci := 12) (C := RX12) (T := TX12) (N := 71) hx hb hts hiX12 hown hH (zk_30 hF) rfl 17 (by decide) rfl hw3 (fun _ h9 => h9) dX12_rules_162 (zr_30_17 hF) ?_
          refine lv_iload hx hb dX12_rules_165 (lv_at hl 0 rfl) ?_
          refine lv_aload_n hx hb dX12_rules_167 rfl (lv_at hl 1 rfl) ?_
          refine zGetR (D := D) (ci := 12) (C := RX12) (T := TX12) (N := 71) hx hb hts hiX12 hown hH (zk_30 hF) rfl 18 (by decide) rfl hw2 (fun _ h9 => h9) dX12_rules_168 (zr_30_18 hF) ?_
          refine lv_iload hx hb dX12_rules_171 (lv_at hl 0 rfl) ?_
          refine zIaldN (D := D) hx hb hH (zk_45 hF) (zn_45 hF) (by omega) (by omega) rfl dX12_rules_173 ?_
          refine zIastN (D := D) hx hb hH hS (zk_44 hF) (zn_44 hF) (by omega) (by omega) dX12_rules_174 (fun H locs hH hS => ?_)
          obtain ⟨f180, ef180⟩ : ∃ f9 : zFi, f9 = zu f171 44 3 (f171 45 3) := ⟨_, rfl⟩
          rw [← ef180] at hH
          have q181 : f180 30 22 = nI L := by rw [ef180, zu_n (fun h9 => absurd h9.1 (by decide))]; exact q172
          have q182 : f180 30 21 = nI 0 := by rw [ef180, zu_n (fun h9 => absurd h9.1 (by decide))]; exact q173
          have q183 : f180 30 23 = nI c := by rw [ef180, zu_n (fun h9 => absurd h9.1 (by decide))]; exact q174
          have q184 : f180 30 2 = nI n := by rw [ef180, zu_n (fun h9 => absurd h9.1 (by decide))]; exact q175
          have q185 : f180 44 0 = f2 45 0 := by rw [ef180, zu_n (fun h9 => absurd h9.2 (by decide))]; exact q176
          have q186 : f180 44 1 = f156 45 1 := by rw [ef180, zu_n (fun h9 => absurd h9.2 (by decide))]; exact q177
          have q187 : f180 44 2 = f163 45 2 := by rw [ef180, zu_n (fun h9 => absurd h9.2 (by decide))]; exact q178
          have q188 : f180 44 3 = f171 45 3 := by rw [ef180]; exact zu_s
          have hMt := zMt.ci (fi' := f180) hMt (fun i9 k9 h9 => by rw [ef180]; exact zu_n (by omega))
          have hMx := zMx.ci (fi' := f180) hMx (fun i9 k9 h9 => by rw [ef180]; exact zu_n (by omega))
          have hMd := zMd.ci (fi' := f180) hMd (fun i9 k9 h9 => by rw [ef180]; exact zu_n (by omega))
          refine lv_iinc (v := nI 4) (lv' := [(4, .int (nI 4)), (0, .ref (τ.1 30)), (1, .int y1), (2, .int (nI m2)), (3, .int y3)]) hx hb dX12_rules_175 hl (k := 0) rfl (by decide) (by decide) rfl (fun ls hl => ?_)
          refine lv_goto (tgt := 155) hx hb dX12_rules_178 (by decide) ?_
          refine lv_iload hx hb dX12_rules_155 (lv_at hl 0 rfl) ?_
          refine lv_iconst (v := nI 4) hx hb dX12_rules_157 (by decide) ?_
          refine lv_icmp_ge (tgt := 181) hx hb dX12_rules_158 (by decide) (fun c189 => ?_) (fun c189 => absurd (by decide) c189)
          refine lv_iconst (v := nI 0) hx hb dX12_rules_181 (by decide) ?_
          refine lv_istore (lv' := [(4, .int (nI 0)), (0, .ref (τ.1 30)), (1, .int y1), (2, .int (nI m2)), (3, .int y3)]) hx hb dX12_rules_182 hl (by decide) rfl (fun ls hl => ?_)
          refine zLp (σ := Nat × zFi) (fun x9 k9 H locs ls => (fun (i3 : Nat) (f3 : zFi) => k9 = n - i3 ∧ (i3 ≤ n ∧ zMx f3 n ∧ zMd f3 n ∧ f3 30 21 = nI 0 ∧ ∀ a b, ¬ (a = 40 ∨ a = 44 ∨ a = 45 ∨ a = 46 ∨ (a = 30 ∧ (b = 0 ∨ (21 ≤ b ∧ b ≤ 25)))) → f3 a b = fi a b) ∧ zH D A τ f3 fr ol s H ∧ va_S A s.heap H locs ∧ lv_has ls 5 [(0, .ref (τ.1 30)), (1, .int y1), (4, .int (nI i3))]) x9.1 x9.2) (0, f180) (n - 0) (show n - 0 = n - 0 ∧ (0 ≤ n ∧ zMx f180 n ∧ zMd f180 n ∧ f180 30 21 = nI 0 ∧ ∀ a b, ¬ (a = 40 ∨ a = 44 ∨ a = 45 ∨ a = 46 ∨ (a = 30 ∧ (b = 0 ∨ (21 ≤ b ∧ b ≤ 25)))) → f180 a b = fi a b) ∧ zH D A τ f180 fr ol s _ ∧ va_S A s.heap _ _ ∧ lv_has _ 5 [(0, .ref (τ.1 30)), (1, .int y1), (4, .int (nI 0))] from ⟨rfl, ⟨Nat.zero_le _, hMx, hMd, q182, fun a b h => by rw [ef180, zu_n (by omega), ef171, zu_n (by omega), ef163, zu_n (by omega), ef156, zu_n (by omega)]; exact hfr2 a b (by omega)⟩, hH, hS, lv_sub hl [1, 2, 0] rfl⟩) (fun k9 ih x9 H locs ls hv9 => ?_)
          obtain ⟨i3, f3⟩ := x9
          have hv9 : k9 = n - i3 ∧ (i3 ≤ n ∧ zMx f3 n ∧ zMd f3 n ∧ f3 30 21 = nI 0 ∧ ∀ a b, ¬ (a = 40 ∨ a = 44 ∨ a = 45 ∨ a = 46 ∨ (a = 30 ∧ (b = 0 ∨ (21 ≤ b ∧ b ≤ 25)))) → f3 a b = fi a b) ∧ zH D A τ f3 fr ol s H ∧ va_S A s.heap H locs ∧ lv_has ls 5 [(0, .ref (τ.1 30)), (1, .int y1), (4, .int (nI i3))] := hv9
          obtain ⟨hkih190, hv9, hH, hS, hl⟩ := hv9
          obtain ⟨h3, hMx, hMd, p21, hfr3⟩ := hv9
          have ih190 := ih
          clear ih
          have hMt := zMt.ci (fi' := f3) hMt0 (fun i9 k9 h9 => hfr3 i9 k9 (by omega))
          have p2 := hMt.2.1
          refine lv_iload hx hb dX12_rules_184 (lv_at hl 2 rfl) ?_
          refine lv_aload_n hx hb dX12_rules_186 rfl (lv_at hl 0 rfl) ?_
          refine zGetI (D := D) (ci := 12) (C := RX12) (T := TX12) (N := 71) hx hb hts hiX12 hown hH (zk_30 hF) rfl 2 (by decide) rfl hw4 (fun _ h9 => h9) dX12_rules_187 p2 ?_
          refine lv_icmp_ge (tgt := 213) hx hb dX12_rules_190 (by decide) (fun c191 => ?_) (fun c191 => ?_)
          · have zc191 := c191
            replace zc191 := zc_le (nI_toInt (by omega)) (nI_toInt (by omega)) zc191
            refine lv_iload_n hx hb dX12_rules_213 rfl (lv_at hl 1 rfl) ?_
            refine W.widen (k := 0) (n := 0) (by decide) (by decide) ?_
            exact W.iret (v := y1) hx hb hr (fun t9 ht9 hW9 => ⟨⟨y1, f3, rfl, ⟨p21, hMx, fun a b h => hfr3 a b h⟩, zEnd1 hH ht9 hW9⟩, hS.F ht9⟩) hS.2.2 dX12_rules_214
          · have zc191 := c191
            replace zc191 := zc_nle (nI_toInt (by omega)) (nI_toInt (by omega)) zc191
            refine lv_aload_n hx hb dX12_rules_193 rfl (lv_at hl 0 rfl) ?_
            refine zGetR (D := D) (ci := 12) (C := RX12) (T := TX12) (N := 71) hx hb hts hiX12 hown hH (zk_30 hF) rfl 12 (by decide) rfl hw5 (fun _ h9 => h9) dX12_rules_194 (zr_30_12 hF) ?_
            refine lv_iload hx hb dX12_rules_197 (lv_at hl 2 rfl) ?_
            refine lv_aload_n hx hb dX12_rules_199 rfl (lv_at hl 0 rfl) ?_
            refine zGetR (D := D) (ci := 12) (C := RX12) (T := TX12) (N := 71) hx hb hts hiX12 hown hH (zk_30 hF) rfl 19 (by decide) rfl hw6 (fun _ h9 => h9) dX12_rules_200 (zr_30_19 hF) ?_
            refine lv_iload hx hb dX12_rules_203 (lv_at hl 2 rfl) ?_
            refine zIaldN (D := D) hx hb hH (zk_46 hF) (zn_46 hF) (by omega) (by omega) rfl dX12_rules_205 ?_
            have hsv9 := hMd i3 (by omega)
            refine zIastN (D := D) hx hb hH hS (zk_40 hF) (zn_40 hF) (by omega) (by omega) dX12_rules_206 (fun H locs hH hS => ?_)
            obtain ⟨f192, ef192⟩ : ∃ f9 : zFi, f9 = zu f3 40 i3 (f3 46 i3) := ⟨_, rfl⟩
            rw [← ef192] at hH
            have q193 : f192 30 2 = nI n := by rw [ef192, zu_n (fun h9 => absurd h9.1 (by decide))]; exact p2
            have q194 : f192 40 i3 = f3 46 i3 := by rw [ef192]; exact zu_s
            have hMt := zMt.ci (fi' := f192) hMt (fun i9 k9 h9 => by rw [ef192]; exact zu_n (by omega))
            have hMd := zMd.ci (fi' := f192) hMd (fun i9 k9 h9 => by rw [ef192]; exact zu_n (by omega))
            have hMx := hMx.set ef192 (hsv9)
            refine lv_iinc (v := nI (i3 + 1)) (lv' := [(4, .int (nI (i3 + 1))), (0, .ref (τ.1 30)), (1, .int y1)]) hx hb dX12_rules_207 hl (k := 2) rfl (by rw [show (Int32.ofInt 1 : Int32) = nI 1 from by decide, nI_add]) (by decide) rfl (fun ls hl => ?_)
            refine lv_goto (tgt := 184) hx hb dX12_rules_210 (by decide) ?_
            exact ih190 (n - (i3 + 1)) (by omega) (i3 + 1, f192) _ _ _ (show n - (i3 + 1) = n - (i3 + 1) ∧ ((i3 + 1) ≤ n ∧ zMx f192 n ∧ zMd f192 n ∧ f192 30 21 = nI 0 ∧ ∀ a b, ¬ (a = 40 ∨ a = 44 ∨ a = 45 ∨ a = 46 ∨ (a = 30 ∧ (b = 0 ∨ (21 ≤ b ∧ b ≤ 25)))) → f192 a b = fi a b) ∧ zH D A τ f192 fr ol s _ ∧ va_S A s.heap _ _ ∧ lv_has _ 5 [(0, .ref (τ.1 30)), (1, .int y1), (4, .int (nI (i3 + 1)))] from ⟨rfl, ⟨by omega, hMx, hMd, by rw [ef192, zu_n (by omega)]; exact p21, fun a b h => by rw [ef192, zu_n (by omega)]; exact hfr3 a b h⟩, hH, hS, lv_sub hl [1, 2, 0] rfl⟩)
        · have zc154 := c154
          replace zc154 := zc_eq (rfl) ((by decide : (0 : Int32).toInt = 0)) zc154
          refine lv_aload_n hx hb dX12_rules_145 rfl (lv_at hl 0 rfl) ?_
          refine lv_iconst (v := nI 1) hx hb dX12_rules_146 (by decide) ?_
          refine zPutI (D := D) (ci := 12) (ty := .int) (C := RX12) (T := TX12) (N := 71) hx hb hts hiX12 tyX12 tyX12_ok nmX12 hown hH hS (zk_30 hF) rfl 0 (by decide) rfl hw0 (fun _ h9 => h9) rfl (by decide +kernel) rfl rfl dX12_rules_147 (fun H locs hH hS => ?_)
          obtain ⟨f195, ef195⟩ : ∃ f9 : zFi, f9 = zu f2 30 0 (nI 1) := ⟨_, rfl⟩
          rw [← ef195] at hH
          have q196 : f195 30 22 = nI L := by rw [ef195, zu_n (fun h9 => absurd h9.2 (by decide))]; exact p22
          have q197 : f195 30 21 = nI 0 := by rw [ef195, zu_n (fun h9 => absurd h9.2 (by decide))]; exact p21
          have q198 : f195 30 23 = nI c := by rw [ef195, zu_n (fun h9 => absurd h9.2 (by decide))]; exact p23
          have q199 : f195 30 2 = nI n := by rw [ef195, zu_n (fun h9 => absurd h9.2 (by decide))]; exact p2
          have q200 : f195 30 0 = nI 1 := by rw [ef195]; exact zu_s
          have hMt := zMt.ci (fi' := f195) hMt (fun i9 k9 h9 => by rw [ef195]; exact zu_n (by omega))
          have hMx := zMx.ci (fi' := f195) hMx (fun i9 k9 h9 => by rw [ef195]; exact zu_n (by omega))
          have hMd := zMd.ci (fi' := f195) hMd (fun i9 k9 h9 => by rw [ef195]; exact zu_n (by omega))
          refine lv_iconst (v := nI 0) hx hb dX12_rules_150 (by decide) ?_
          refine W.widen (k := 0) (n := 0) (by decide) (by decide) ?_
          exact W.iret (v := nI 0) hx hb hr (fun t9 ht9 hW9 => ⟨⟨nI 0, f195, rfl, ⟨q197, hMx, fun a b h => by rw [ef195, zu_n (by omega)]; exact hfr2 a b (by omega)⟩, zEnd1 hH ht9 hW9⟩, hS.F ht9⟩) hS.2.2 dX12_rules_151
      · have zc153 := c153
        replace zc153 := zc_neq (rfl) ((by decide : (0 : Int32).toInt = 0)) zc153
        refine lv_aload_n hx hb dX12_rules_124 rfl (lv_at hl 0 rfl) ?_
        refine va_calli (va_runV (As := []) (rest := []) ⟨hx, hb, hml, hown, hts⟩ (m_sign l hl0 D A sad τ f2 fr ol L c hF p22 p23 (by omega) (by omega)) (cwV 0 hts gX12_rules_X12_sign rfl rfl rfl (by decide +kernel) ⟨Nat.le_of_ble_eq_true rfl, Nat.le_of_ble_eq_true rfl⟩) ⟨zQc_bl, zRecv hH (zk_30 hF) rfl, zQc_at hz hS hA hH⟩ rfl rfl hl.1 rfl (lv_room (Nat.le_of_ble_eq_true rfl)) dX12_rules_125 ⟨Nat.le_of_ble_eq_true rfl, Nat.le_of_ble_eq_true rfl⟩) hS (fun q _ h => h) (fun q h => h) (fun r201 u9 t9 H1 locs ht9 hvm9 hw hB hz1 hk1 hS => ?_)
        have hH := zMv ht9 hvm9 hB
        clear hB
        generalize u9 = f202 at hw hH
        generalize H1 = H at hH hS ⊢
        obtain ⟨hr209, ⟨c203, hc204, hc205, q206, hx207⟩, hf208⟩ := hw
        have q210 : f202 30 22 = nI L := by rw [hf208 30 22 (by omega)]; exact p22
        have q211 : f202 30 21 = nI 0 := by rw [hf208 30 21 (by omega)]; exact p21
        have q212 : f202 30 2 = nI n := by rw [hf208 30 2 (by omega)]; exact p2
        have hMt := zMt.ci (fi' := f202) hMt (fun i9 k9 h9 => hf208 i9 k9 (by omega))
        have hMx := zMx.ci (fi' := f202) hMx (fun i9 k9 h9 => hf208 i9 k9 (by omega))
        have hMd := zMd.ci (fi' := f202) hMd (fun i9 k9 h9 => hf208 i9 k9 (by omega))
        refine lv_iconst (v := (-1)) hx hb dX12_rules_128 (by decide) ?_
        refine lv_icmp_eq (tgt := 141) hx hb dX12_rules_129 (by decide) (fun c213 => ?_) (fun c213 => ?_)
        · have zc213 := c213
          replace zc213 := zc_eq (rfl) ((by decide : ((-1) : Int32).toInt = (-1))) zc213
          refine lv_iload_n hx hb dX12_rules_141 rfl (lv_at hl 3 rfl) ?_
          refine lv_if_ne (tgt := 152) hx hb dX12_rules_142 (by decide) (fun c214 => ?_) (fun c214 => ?_)
          · have zc214 := c214
            replace zc214 := zc_neq (rfl) ((by decide : (0 : Int32).toInt = 0)) zc214
            refine lv_iconst (v := nI 0) hx hb dX12_rules_152 (by decide) ?_
            refine lv_istore (lv' := [(4, .int (nI 0)), (0, .ref (τ.1 30)), (1, .int y1), (2, .int (nI m2)), (3, .int y3)]) hx hb dX12_rules_153 hl (by decide) rfl (fun ls hl => ?_)
            refine lv_iload hx hb dX12_rules_155 (lv_at hl 0 rfl) ?_
            refine lv_iconst (v := nI 4) hx hb dX12_rules_157 (by decide) ?_
            refine lv_icmp_ge (tgt := 181) hx hb dX12_rules_158 (by decide) (fun c215 => absurd c215 (by decide)) (fun c215 => ?_)
            refine lv_aload_n hx hb dX12_rules_161 rfl (lv_at hl 1 rfl) ?_
            refine zGetR (D := D) (ci := 12) (C := RX12) (T := TX12) (N := 71) hx hb hts hiX12 hown hH (zk_30 hF) rfl 17 (by decide) rfl hw3 (fun _ h9 => h9) dX12_rules_162 (zr_30_17 hF) ?_
            refine lv_iload hx hb dX12_rules_165 (lv_at hl 0 rfl) ?_
            refine lv_aload_n hx hb dX12_rules_167 rfl (lv_at hl 1 rfl) ?_
            refine zGetR (D := D) (ci := 12) (C := RX12) (T := TX12) (N := 71) hx hb hts hiX12 hown hH (zk_30 hF) rfl 18 (by decide) rfl hw2 (fun _ h9 => h9) dX12_rules_168 (zr_30_18 hF) ?_
            refine lv_iload hx hb dX12_rules_171 (lv_at hl 0 rfl) ?_
            refine zIaldN (D := D) hx hb hH (zk_45 hF) (zn_45 hF) (by omega) (by omega) rfl dX12_rules_173 ?_
            refine zIastN (D := D) hx hb hH hS (zk_44 hF) (zn_44 hF) (by omega) (by omega) dX12_rules_174 (fun H locs hH hS => ?_)
            obtain ⟨f216, ef216⟩ : ∃ f9 : zFi, f9 = zu f202 44 0 (f202 45 0) := ⟨_, rfl⟩
            rw [← ef216] at hH
            have q217 : f216 30 22 = nI L := by rw [ef216, zu_n (fun h9 => absurd h9.1 (by decide))]; exact q210
            have q218 : f216 30 21 = nI 0 := by rw [ef216, zu_n (fun h9 => absurd h9.1 (by decide))]; exact q211
            have q219 : f216 30 2 = nI n := by rw [ef216, zu_n (fun h9 => absurd h9.1 (by decide))]; exact q212
            have q220 : f216 30 23 = nI c203 := by rw [ef216, zu_n (fun h9 => absurd h9.1 (by decide))]; exact q206
            have q221 : f216 44 0 = f202 45 0 := by rw [ef216]; exact zu_s
            have hMt := zMt.ci (fi' := f216) hMt (fun i9 k9 h9 => by rw [ef216]; exact zu_n (by omega))
            have hMx := zMx.ci (fi' := f216) hMx (fun i9 k9 h9 => by rw [ef216]; exact zu_n (by omega))
            have hMd := zMd.ci (fi' := f216) hMd (fun i9 k9 h9 => by rw [ef216]; exact zu_n (by omega))
            refine lv_iinc (v := nI 1) (lv' := [(4, .int (nI 1)), (0, .ref (τ.1 30)), (1, .int y1), (2, .int (nI m2)), (3, .int y3)]) hx hb dX12_rules_175 hl (k := 0) rfl (by decide) (by decide) rfl (fun ls hl => ?_)
            refine lv_goto (tgt := 155) hx hb dX12_rules_178 (by decide) ?_
            refine lv_iload hx hb dX12_rules_155 (lv_at hl 0 rfl) ?_
            refine lv_iconst (v := nI 4) hx hb dX12_rules_157 (by decide) ?_
            refine lv_icmp_ge (tgt := 181) hx hb dX12_rules_158 (by decide) (fun c222 => absurd c222 (by decide)) (fun c222 => ?_)
            refine lv_aload_n hx hb dX12_rules_161 rfl (lv_at hl 1 rfl) ?_
            refine zGetR (D := D) (ci := 12) (C := RX12) (T := TX12) (N := 71) hx hb hts hiX12 hown hH (zk_30 hF) rfl 17 (by decide) rfl hw3 (fun _ h9 => h9) dX12_rules_162 (zr_30_17 hF) ?_
            refine lv_iload hx hb dX12_rules_165 (lv_at hl 0 rfl) ?_
            refine lv_aload_n hx hb dX12_rules_167 rfl (lv_at hl 1 rfl) ?_
            refine zGetR (D := D) (ci := 12) (C := RX12) (T := TX12) (N := 71) hx hb hts hiX12 hown hH (zk_30 hF) rfl 18 (by decide) rfl hw2 (fun _ h9 => h9) dX12_rules_168 (zr_30_18 hF) ?_
            refine lv_iload hx hb dX12_rules_171 (lv_at hl 0 rfl) ?_
            refine zIaldN (D := D) hx hb hH (zk_45 hF) (zn_45 hF) (by omega) (by omega) rfl dX12_rules_173 ?_
            refine zIastN (D := D) hx hb hH hS (zk_44 hF) (zn_44 hF) (by omega) (by omega) dX12_rules_174 (fun H locs hH hS => ?_)
            obtain ⟨f223, ef223⟩ : ∃ f9 : zFi, f9 = zu f216 44 1 (f216 45 1) := ⟨_, rfl⟩
            rw [← ef223] at hH
            have q224 : f223 30 22 = nI L := by rw [ef223, zu_n (fun h9 => absurd h9.1 (by decide))]; exact q217
            have q225 : f223 30 21 = nI 0 := by rw [ef223, zu_n (fun h9 => absurd h9.1 (by decide))]; exact q218
            have q226 : f223 30 2 = nI n := by rw [ef223, zu_n (fun h9 => absurd h9.1 (by decide))]; exact q219
            have q227 : f223 30 23 = nI c203 := by rw [ef223, zu_n (fun h9 => absurd h9.1 (by decide))]; exact q220
            have q228 : f223 44 0 = f202 45 0 := by rw [ef223, zu_n (fun h9 => absurd h9.2 (by decide))]; exact q221
            have q229 : f223 44 1 = f216 45 1 := by rw [ef223]; exact zu_s
            have hMt := zMt.ci (fi' := f223) hMt (fun i9 k9 h9 => by rw [ef223]; exact zu_n (by omega))
            have hMx := zMx.ci (fi' := f223) hMx (fun i9 k9 h9 => by rw [ef223]; exact zu_n (by omega))
            have hMd := zMd.ci (fi' := f223) hMd (fun i9 k9 h9 => by rw [ef223]; exact zu_n (by omega))
            refine lv_iinc (v := nI 2) (lv' := [(4, .int (nI 2)), (0, .ref (τ.1 30)), (1, .int y1), (2, .int (nI m2)), (3, .int y3)]) hx hb dX12_rules_175 hl (k := 0) rfl (by decide) (by decide) rfl (fun ls hl => ?_)
            refine lv_goto (tgt := 155) hx hb dX12_rules_178 (by decide) ?_
            refine lv_iload hx hb dX12_rules_155 (lv_at hl 0 rfl) ?_
            refine lv_iconst (v := nI 4) hx hb dX12_rules_157 (by decide) ?_
            refine lv_icmp_ge (tgt := 181) hx hb dX12_rules_158 (by decide) (fun c230 => absurd c230 (by decide)) (fun c230 => ?_)
            refine lv_aload_n hx hb dX12_rules_161 rfl (lv_at hl 1 rfl) ?_
            refine zGetR (D := D) (ci := 12) (C := RX12) (T := TX12) (N := 71) hx hb hts hiX12 hown hH (zk_30 hF) rfl 17 (by decide) rfl hw3 (fun _ h9 => h9) dX12_rules_162 (zr_30_17 hF) ?_
            refine lv_iload hx hb dX12_rules_165 (lv_at hl 0 rfl) ?_
            refine lv_aload_n hx hb dX12_rules_167 rfl (lv_at hl 1 rfl) ?_
            refine zGetR (D := D) (ci := 12) (C := RX12) (T := TX12) (N := 71) hx hb hts hiX12 hown hH (zk_30 hF) rfl 18 (by decide) rfl hw2 (fun _ h9 => h9) dX12_rules_168 (zr_30_18 hF) ?_
            refine lv_iload hx hb dX12_rules_171 (lv_at hl 0 rfl) ?_
            refine zIaldN (D := D) hx hb hH (zk_45 hF) (zn_45 hF) (by omega) (by omega) rfl dX12_rules_173 ?_
            refine zIastN (D := D) hx hb hH hS (zk_44 hF) (zn_44 hF) (by omega) (by omega) dX12_rules_174 (fun H locs hH hS => ?_)
            obtain ⟨f231, ef231⟩ : ∃ f9 : zFi, f9 = zu f223 44 2 (f223 45 2) := ⟨_, rfl⟩
            rw [← ef231] at hH
            have q232 : f231 30 22 = nI L := by rw [ef231, zu_n (fun h9 => absurd h9.1 (by decide))]; exact q224
            have q233 : f231 30 21 = nI 0 := by rw [ef231, zu_n (fun h9 => absurd h9.1 (by decide))]; exact q225
            have q234 : f231 30 2 = nI n := by rw [ef231, zu_n (fun h9 => absurd h9.1 (by decide))]; exact q226
            have q235 : f231 30 23 = nI c203 := by rw [ef231, zu_n (fun h9 => absurd h9.1 (by decide))]; exact q227
            have q236 : f231 44 0 = f202 45 0 := by rw [ef231, zu_n (fun h9 => absurd h9.2 (by decide))]; exact q228
            have q237 : f231 44 1 = f216 45 1 := by rw [ef231, zu_n (fun h9 => absurd h9.2 (by decide))]; exact q229
            have q238 : f231 44 2 = f223 45 2 := by rw [ef231]; exact zu_s
            have hMt := zMt.ci (fi' := f231) hMt (fun i9 k9 h9 => by rw [ef231]; exact zu_n (by omega))
            have hMx := zMx.ci (fi' := f231) hMx (fun i9 k9 h9 => by rw [ef231]; exact zu_n (by omega))
            have hMd := zMd.ci (fi' := f231) hMd (fun i9 k9 h9 => by rw [ef231]; exact zu_n (by omega))
            refine lv_iinc (v := nI 3) (lv' := [(4, .int (nI 3)), (0, .ref (τ.1 30)), (1, .int y1), (2, .int (nI m2)), (3, .int y3)]) hx hb dX12_rules_175 hl (k := 0) rfl (by decide) (by decide) rfl (fun ls hl => ?_)
            refine lv_goto (tgt := 155) hx hb dX12_rules_178 (by decide) ?_
            refine lv_iload hx hb dX12_rules_155 (lv_at hl 0 rfl) ?_
            refine lv_iconst (v := nI 4) hx hb dX12_rules_157 (by decide) ?_
            refine lv_icmp_ge (tgt := 181) hx hb dX12_rules_158 (by decide) (fun c239 => absurd c239 (by decide)) (fun c239 => ?_)
            refine lv_aload_n hx hb dX12_rules_161 rfl (lv_at hl 1 rfl) ?_
            refine zGetR (D := D) (ci := 12) (C := RX12) (T := TX12) (N := 71) hx hb hts hiX12 hown hH (zk_30 hF) rfl 17 (by decide) rfl hw3 (fun _ h9 => h9) dX12_rules_162 (zr_30_17 hF) ?_
            refine lv_iload hx hb dX12_rules_165 (lv_at hl 0 rfl) ?_
            refine lv_aload_n hx hb dX12_rules_167 rfl (lv_at hl 1 rfl) ?_
            refine zGetR (D := D) (ci := 12) (C := RX12) (T := TX12) (N := 71) hx hb hts hiX12 hown hH (zk_30 hF) rfl 18 (by decide) rfl hw2 (fun _ h9 => h9) dX12_rules_168 (zr_30_18 hF) ?_
            refine lv_iload hx hb dX12_rules_171 (lv_at hl 0 rfl) ?_
            refine zIaldN (D := D) hx hb hH (zk_45 hF) (zn_45 hF) (by omega) (by omega) rfl dX12_rules_173 ?_
            refine zIastN (D := D) hx hb hH hS (zk_44 hF) (zn_44 hF) (by omega) (by omega) dX12_rules_174 (fun H locs hH hS => ?_)
            obtain ⟨f240, ef240⟩ : ∃ f9 : zFi, f9 = zu f231 44 3 (f231 45 3) := ⟨_, rfl⟩
            rw [← ef240] at hH
            have q241 : f240 30 22 = nI L := by rw [ef240, zu_n (fun h9 => absurd h9.1 (by decide))]; exact q232
            have q242 : f240 30 21 = nI 0 := by rw [ef240, zu_n (fun h9 => absurd h9.1 (by decide))]; exact q233
            have q243 : f240 30 2 = nI n := by rw [ef240, zu_n (fun h9 => absurd h9.1 (by decide))]; exact q234
            have q244 : f240 30 23 = nI c203 := by rw [ef240, zu_n (fun h9 => absurd h9.1 (by decide))]; exact q235
            have q245 : f240 44 0 = f202 45 0 := by rw [ef240, zu_n (fun h9 => absurd h9.2 (by decide))]; exact q236
            have q246 : f240 44 1 = f216 45 1 := by rw [ef240, zu_n (fun h9 => absurd h9.2 (by decide))]; exact q237
            have q247 : f240 44 2 = f223 45 2 := by rw [ef240, zu_n (fun h9 => absurd h9.2 (by decide))]; exact q238
            have q248 : f240 44 3 = f231 45 3 := by rw [ef240]; exact zu_s
            have hMt := zMt.ci (fi' := f240) hMt (fun i9 k9 h9 => by rw [ef240]; exact zu_n (by omega))
            have hMx := zMx.ci (fi' := f240) hMx (fun i9 k9 h9 => by rw [ef240]; exact zu_n (by omega))
            have hMd := zMd.ci (fi' := f240) hMd (fun i9 k9 h9 => by rw [ef240]; exact zu_n (by omega))
            refine lv_iinc (v := nI 4) (lv' := [(4, .int (nI 4)), (0, .ref (τ.1 30)), (1, .int y1), (2, .int (nI m2)), (3, .int y3)]) hx hb dX12_rules_175 hl (k := 0) rfl (by decide) (by decide) rfl (fun ls hl => ?_)
            refine lv_goto (tgt := 155) hx hb dX12_rules_178 (by decide) ?_
            refine lv_iload hx hb dX12_rules_155 (lv_at hl 0 rfl) ?_
            refine lv_iconst (v := nI 4) hx hb dX12_rules_157 (by decide) ?_
            refine lv_icmp_ge (tgt := 181) hx hb dX12_rules_158 (by decide) (fun c249 => ?_) (fun c249 => absurd (by decide) c249)
            refine lv_iconst (v := nI 0) hx hb dX12_rules_181 (by decide) ?_
            refine lv_istore (lv' := [(4, .int (nI 0)), (0, .ref (τ.1 30)), (1, .int y1), (2, .int (nI m2)), (3, .int y3)]) hx hb dX12_rules_182 hl (by decide) rfl (fun ls hl => ?_)
            refine zLp (σ := Nat × zFi) (fun x9 k9 H locs ls => (fun (i3 : Nat) (f3 : zFi) => k9 = n - i3 ∧ (i3 ≤ n ∧ zMx f3 n ∧ zMd f3 n ∧ f3 30 21 = nI 0 ∧ ∀ a b, ¬ (a = 40 ∨ a = 44 ∨ a = 45 ∨ a = 46 ∨ (a = 30 ∧ (b = 0 ∨ (21 ≤ b ∧ b ≤ 25)))) → f3 a b = fi a b) ∧ zH D A τ f3 fr ol s H ∧ va_S A s.heap H locs ∧ lv_has ls 5 [(0, .ref (τ.1 30)), (1, .int y1), (4, .int (nI i3))]) x9.1 x9.2) (0, f240) (n - 0) (show n - 0 = n - 0 ∧ (0 ≤ n ∧ zMx f240 n ∧ zMd f240 n ∧ f240 30 21 = nI 0 ∧ ∀ a b, ¬ (a = 40 ∨ a = 44 ∨ a = 45 ∨ a = 46 ∨ (a = 30 ∧ (b = 0 ∨ (21 ≤ b ∧ b ≤ 25)))) → f240 a b = fi a b) ∧ zH D A τ f240 fr ol s _ ∧ va_S A s.heap _ _ ∧ lv_has _ 5 [(0, .ref (τ.1 30)), (1, .int y1), (4, .int (nI 0))] from ⟨rfl, ⟨Nat.zero_le _, hMx, hMd, q242, fun a b h => by rw [ef240, zu_n (by omega), ef231, zu_n (by omega), ef223, zu_n (by omega), ef216, zu_n (by omega), hf208 a b (by omega)]; exact hfr2 a b (by omega)⟩, hH, hS, lv_sub hl [1, 2, 0] rfl⟩) (fun k9 ih x9 H locs ls hv9 => ?_)
            obtain ⟨i3, f3⟩ := x9
            have hv9 : k9 = n - i3 ∧ (i3 ≤ n ∧ zMx f3 n ∧ zMd f3 n ∧ f3 30 21 = nI 0 ∧ ∀ a b, ¬ (a = 40 ∨ a = 44 ∨ a = 45 ∨ a = 46 ∨ (a = 30 ∧ (b = 0 ∨ (21 ≤ b ∧ b ≤ 25)))) → f3 a b = fi a b) ∧ zH D A τ f3 fr ol s H ∧ va_S A s.heap H locs ∧ lv_has ls 5 [(0, .ref (τ.1 30)), (1, .int y1), (4, .int (nI i3))] := hv9
            obtain ⟨hkih250, hv9, hH, hS, hl⟩ := hv9
            obtain ⟨h3, hMx, hMd, p21, hfr3⟩ := hv9
            have ih250 := ih
            clear ih
            have hMt := zMt.ci (fi' := f3) hMt0 (fun i9 k9 h9 => hfr3 i9 k9 (by omega))
            have p2 := hMt.2.1
            refine lv_iload hx hb dX12_rules_184 (lv_at hl 2 rfl) ?_
            refine lv_aload_n hx hb dX12_rules_186 rfl (lv_at hl 0 rfl) ?_
            refine zGetI (D := D) (ci := 12) (C := RX12) (T := TX12) (N := 71) hx hb hts hiX12 hown hH (zk_30 hF) rfl 2 (by decide) rfl hw4 (fun _ h9 => h9) dX12_rules_187 p2 ?_
            refine lv_icmp_ge (tgt := 213) hx hb dX12_rules_190 (by decide) (fun c251 => ?_) (fun c251 => ?_)
            · have zc251 := c251
              replace zc251 := zc_le (nI_toInt (by omega)) (nI_toInt (by omega)) zc251
              refine lv_iload_n hx hb dX12_rules_213 rfl (lv_at hl 1 rfl) ?_
              refine W.widen (k := 0) (n := 0) (by decide) (by decide) ?_
              exact W.iret (v := y1) hx hb hr (fun t9 ht9 hW9 => ⟨⟨y1, f3, rfl, ⟨p21, hMx, fun a b h => hfr3 a b h⟩, zEnd1 hH ht9 hW9⟩, hS.F ht9⟩) hS.2.2 dX12_rules_214
            · have zc251 := c251
              replace zc251 := zc_nle (nI_toInt (by omega)) (nI_toInt (by omega)) zc251
              refine lv_aload_n hx hb dX12_rules_193 rfl (lv_at hl 0 rfl) ?_
              refine zGetR (D := D) (ci := 12) (C := RX12) (T := TX12) (N := 71) hx hb hts hiX12 hown hH (zk_30 hF) rfl 12 (by decide) rfl hw5 (fun _ h9 => h9) dX12_rules_194 (zr_30_12 hF) ?_
              refine lv_iload hx hb dX12_rules_197 (lv_at hl 2 rfl) ?_
              refine lv_aload_n hx hb dX12_rules_199 rfl (lv_at hl 0 rfl) ?_
              refine zGetR (D := D) (ci := 12) (C := RX12) (T := TX12) (N := 71) hx hb hts hiX12 hown hH (zk_30 hF) rfl 19 (by decide) rfl hw6 (fun _ h9 => h9) dX12_rules_200 (zr_30_19 hF) ?_
              refine lv_iload hx hb dX12_rules_203 (lv_at hl 2 rfl) ?_
              refine zIaldN (D := D) hx hb hH (zk_46 hF) (zn_46 hF) (by omega) (by omega) rfl dX12_rules_205 ?_
              have hsv9 := hMd i3 (by omega)
              refine zIastN (D := D) hx hb hH hS (zk_40 hF) (zn_40 hF) (by omega) (by omega) dX12_rules_206 (fun H locs hH hS => ?_)
              obtain ⟨f252, ef252⟩ : ∃ f9 : zFi, f9 = zu f3 40 i3 (f3 46 i3) := ⟨_, rfl⟩
              rw [← ef252] at hH
              have q253 : f252 30 2 = nI n := by rw [ef252, zu_n (fun h9 => absurd h9.1 (by decide))]; exact p2
              have q254 : f252 40 i3 = f3 46 i3 := by rw [ef252]; exact zu_s
              have hMt := zMt.ci (fi' := f252) hMt (fun i9 k9 h9 => by rw [ef252]; exact zu_n (by omega))
              have hMd := zMd.ci (fi' := f252) hMd (fun i9 k9 h9 => by rw [ef252]; exact zu_n (by omega))
              have hMx := hMx.set ef252 (hsv9)
              refine lv_iinc (v := nI (i3 + 1)) (lv' := [(4, .int (nI (i3 + 1))), (0, .ref (τ.1 30)), (1, .int y1)]) hx hb dX12_rules_207 hl (k := 2) rfl (by rw [show (Int32.ofInt 1 : Int32) = nI 1 from by decide, nI_add]) (by decide) rfl (fun ls hl => ?_)
              refine lv_goto (tgt := 184) hx hb dX12_rules_210 (by decide) ?_
              exact ih250 (n - (i3 + 1)) (by omega) (i3 + 1, f252) _ _ _ (show n - (i3 + 1) = n - (i3 + 1) ∧ ((i3 + 1) ≤ n ∧ zMx f252 n ∧ zMd f252 n ∧ f252 30 21 = nI 0 ∧ ∀ a b, ¬ (a = 40 ∨ a = 44 ∨ a = 45 ∨ a = 46 ∨ (a = 30 ∧ (b = 0 ∨ (21 ≤ b ∧ b ≤ 25)))) → f252 a b = fi a b) ∧ zH D A τ f252 fr ol s _ ∧ va_S A s.heap _ _ ∧ lv_has _ 5 [(0, .ref (τ.1 30)), (1, .int y1), (4, .int (nI (i3 + 1)))] from ⟨rfl, ⟨by omega, hMx, hMd, by rw [ef252, zu_n (by omega)]; exact p21, fun a b h => by rw [ef252, zu_n (by omega)]; exact hfr3 a b h⟩, hH, hS, lv_sub hl [1, 2, 0] rfl⟩)
          · have zc214 := c214
            replace zc214 := zc_eq (rfl) ((by decide : (0 : Int32).toInt = 0)) zc214
            refine lv_aload_n hx hb dX12_rules_145 rfl (lv_at hl 0 rfl) ?_
            refine lv_iconst (v := nI 1) hx hb dX12_rules_146 (by decide) ?_
            refine zPutI (D := D) (ci := 12) (ty := .int) (C := RX12) (T := TX12) (N := 71) hx hb hts hiX12 tyX12 tyX12_ok nmX12 hown hH hS (zk_30 hF) rfl 0 (by decide) rfl hw0 (fun _ h9 => h9) rfl (by decide +kernel) rfl rfl dX12_rules_147 (fun H locs hH hS => ?_)
            obtain ⟨f255, ef255⟩ : ∃ f9 : zFi, f9 = zu f202 30 0 (nI 1) := ⟨_, rfl⟩
            rw [← ef255] at hH
            have q256 : f255 30 22 = nI L := by rw [ef255, zu_n (fun h9 => absurd h9.2 (by decide))]; exact q210
            have q257 : f255 30 21 = nI 0 := by rw [ef255, zu_n (fun h9 => absurd h9.2 (by decide))]; exact q211
            have q258 : f255 30 2 = nI n := by rw [ef255, zu_n (fun h9 => absurd h9.2 (by decide))]; exact q212
            have q259 : f255 30 23 = nI c203 := by rw [ef255, zu_n (fun h9 => absurd h9.2 (by decide))]; exact q206
            have q260 : f255 30 0 = nI 1 := by rw [ef255]; exact zu_s
            have hMt := zMt.ci (fi' := f255) hMt (fun i9 k9 h9 => by rw [ef255]; exact zu_n (by omega))
            have hMx := zMx.ci (fi' := f255) hMx (fun i9 k9 h9 => by rw [ef255]; exact zu_n (by omega))
            have hMd := zMd.ci (fi' := f255) hMd (fun i9 k9 h9 => by rw [ef255]; exact zu_n (by omega))
            refine lv_iconst (v := nI 0) hx hb dX12_rules_150 (by decide) ?_
            refine W.widen (k := 0) (n := 0) (by decide) (by decide) ?_
            exact W.iret (v := nI 0) hx hb hr (fun t9 ht9 hW9 => ⟨⟨nI 0, f255, rfl, ⟨q257, hMx, fun a b h => by rw [ef255, zu_n (by omega), hf208 a b (by omega)]; exact hfr2 a b (by omega)⟩, zEnd1 hH ht9 hW9⟩, hS.F ht9⟩) hS.2.2 dX12_rules_151
        · have zc213 := c213
          replace zc213 := zc_neq (rfl) ((by decide : ((-1) : Int32).toInt = (-1))) zc213
          refine lv_aload_n hx hb dX12_rules_132 rfl (lv_at hl 0 rfl) ?_
          refine lv_aload_n hx hb dX12_rules_133 rfl (lv_at hl 0 rfl) ?_
          refine zGetI (D := D) (ci := 12) (C := RX12) (T := TX12) (N := 71) hx hb hts hiX12 hown hH (zk_30 hF) rfl 23 (by decide) rfl hw7 (fun _ h9 => h9) dX12_rules_134 q206 ?_
          refine va_calli (va_runV (As := [.int (nI c203)]) (rest := []) ⟨hx, hb, hml, hown, hts⟩ (m_wrong l hl0 D A sad τ f202 fr ol (nI c203) hF) (cwV 1 hts gX12_rules_X12_wrong rfl rfl rfl (by decide +kernel) ⟨Nat.le_of_ble_eq_true rfl, Nat.le_of_ble_eq_true rfl⟩) ⟨zQc_bl, zRecv hH (zk_30 hF) rfl, zQc_at hz hS hA hH⟩ rfl rfl hl.1 rfl (lv_room (Nat.le_of_ble_eq_true rfl)) dX12_rules_137 ⟨Nat.le_of_ble_eq_true rfl, Nat.le_of_ble_eq_true rfl⟩) hS (fun q _ h => h) (fun q h => h) (fun r261 u9 t9 H1 locs ht9 hvm9 hw hB hz1 hk1 hS => ?_)
          have hH := zMv ht9 hvm9 hB
          clear hB
          generalize u9 = f262 at hw hH
          generalize H1 = H at hH hS ⊢
          obtain ⟨rfl, hf263⟩ := hw
          have q264 : f262 30 22 = nI L := by rw [hf263 30 22 (by omega)]; exact q210
          have q265 : f262 30 21 = nI 0 := by rw [hf263 30 21 (by omega)]; exact q211
          have q266 : f262 30 2 = nI n := by rw [hf263 30 2 (by omega)]; exact q212
          have q267 : f262 30 23 = nI c203 := by rw [hf263 30 23 (by omega)]; exact q206
          have hMt := zMt.ci (fi' := f262) hMt (fun i9 k9 h9 => hf263 i9 k9 (by omega))
          have hMx := zMx.ci (fi' := f262) hMx (fun i9 k9 h9 => hf263 i9 k9 (by omega))
          have hMd := zMd.ci (fi' := f262) hMd (fun i9 k9 h9 => hf263 i9 k9 (by omega))
          refine lv_istore_n (lv' := [(3, .int 0), (0, .ref (τ.1 30)), (1, .int y1), (2, .int (nI m2))]) hx hb dX12_rules_140 rfl hl (by decide) rfl (fun ls hl => ?_)
          refine lv_iload_n hx hb dX12_rules_141 rfl (lv_at hl 0 rfl) ?_
          refine lv_if_ne (tgt := 152) hx hb dX12_rules_142 (by decide) (fun c268 => absurd (by decide) c268) (fun c268 => ?_)
          refine lv_aload_n hx hb dX12_rules_145 rfl (lv_at hl 1 rfl) ?_
          refine lv_iconst (v := nI 1) hx hb dX12_rules_146 (by decide) ?_
          refine zPutI (D := D) (ci := 12) (ty := .int) (C := RX12) (T := TX12) (N := 71) hx hb hts hiX12 tyX12 tyX12_ok nmX12 hown hH hS (zk_30 hF) rfl 0 (by decide) rfl hw0 (fun _ h9 => h9) rfl (by decide +kernel) rfl rfl dX12_rules_147 (fun H locs hH hS => ?_)
          obtain ⟨f269, ef269⟩ : ∃ f9 : zFi, f9 = zu f262 30 0 (nI 1) := ⟨_, rfl⟩
          rw [← ef269] at hH
          have q270 : f269 30 22 = nI L := by rw [ef269, zu_n (fun h9 => absurd h9.2 (by decide))]; exact q264
          have q271 : f269 30 21 = nI 0 := by rw [ef269, zu_n (fun h9 => absurd h9.2 (by decide))]; exact q265
          have q272 : f269 30 2 = nI n := by rw [ef269, zu_n (fun h9 => absurd h9.2 (by decide))]; exact q266
          have q273 : f269 30 23 = nI c203 := by rw [ef269, zu_n (fun h9 => absurd h9.2 (by decide))]; exact q267
          have q274 : f269 30 0 = nI 1 := by rw [ef269]; exact zu_s
          have hMt := zMt.ci (fi' := f269) hMt (fun i9 k9 h9 => by rw [ef269]; exact zu_n (by omega))
          have hMx := zMx.ci (fi' := f269) hMx (fun i9 k9 h9 => by rw [ef269]; exact zu_n (by omega))
          have hMd := zMd.ci (fi' := f269) hMd (fun i9 k9 h9 => by rw [ef269]; exact zu_n (by omega))
          refine lv_iconst (v := nI 0) hx hb dX12_rules_150 (by decide) ?_
          refine W.widen (k := 0) (n := 0) (by decide) (by decide) ?_
          exact W.iret (v := nI 0) hx hb hr (fun t9 ht9 hW9 => ⟨⟨nI 0, f269, rfl, ⟨q271, hMx, fun a b h => by rw [ef269, zu_n (by omega), hf263 a b (by omega), hf208 a b (by omega)]; exact hfr2 a b (by omega)⟩, zEnd1 hH ht9 hW9⟩, hS.F ht9⟩) hS.2.2 dX12_rules_151
    · have zc152 := c152
      replace zc152 := zc_neq (nI_toInt (by omega)) ((by decide : (0 : Int32).toInt = 0)) zc152
      refine lv_iload_n hx hb dX12_rules_72 rfl (lv_at hl 3 rfl) ?_
      refine lv_if_eq (tgt := 120) hx hb dX12_rules_73 (by decide) (fun c275 => ?_) (fun c275 => ?_)
      · have zc275 := c275
        replace zc275 := zc_eq (rfl) ((by decide : (0 : Int32).toInt = 0)) zc275
        refine lv_iload_n hx hb dX12_rules_120 rfl (lv_at hl 3 rfl) ?_
        refine lv_if_eq (tgt := 141) hx hb dX12_rules_121 (by decide) (fun c276 => ?_) (fun c276 => ?_)
        · have zc276 := c276
          replace zc276 := zc_eq (rfl) ((by decide : (0 : Int32).toInt = 0)) zc276
          refine lv_iload_n hx hb dX12_rules_141 rfl (lv_at hl 3 rfl) ?_
          refine lv_if_ne (tgt := 152) hx hb dX12_rules_142 (by decide) (fun c277 => ?_) (fun c277 => ?_)
          · have zc277 := c277
            replace zc277 := zc_neq (rfl) ((by decide : (0 : Int32).toInt = 0)) zc277
            refine lv_iconst (v := nI 0) hx hb dX12_rules_152 (by decide) ?_
            refine lv_istore (lv' := [(4, .int (nI 0)), (0, .ref (τ.1 30)), (1, .int y1), (2, .int (nI m2)), (3, .int y3)]) hx hb dX12_rules_153 hl (by decide) rfl (fun ls hl => ?_)
            refine lv_iload hx hb dX12_rules_155 (lv_at hl 0 rfl) ?_
            refine lv_iconst (v := nI 4) hx hb dX12_rules_157 (by decide) ?_
            refine lv_icmp_ge (tgt := 181) hx hb dX12_rules_158 (by decide) (fun c278 => absurd c278 (by decide)) (fun c278 => ?_)
            refine lv_aload_n hx hb dX12_rules_161 rfl (lv_at hl 1 rfl) ?_
            refine zGetR (D := D) (ci := 12) (C := RX12) (T := TX12) (N := 71) hx hb hts hiX12 hown hH (zk_30 hF) rfl 17 (by decide) rfl hw3 (fun _ h9 => h9) dX12_rules_162 (zr_30_17 hF) ?_
            refine lv_iload hx hb dX12_rules_165 (lv_at hl 0 rfl) ?_
            refine lv_aload_n hx hb dX12_rules_167 rfl (lv_at hl 1 rfl) ?_
            refine zGetR (D := D) (ci := 12) (C := RX12) (T := TX12) (N := 71) hx hb hts hiX12 hown hH (zk_30 hF) rfl 18 (by decide) rfl hw2 (fun _ h9 => h9) dX12_rules_168 (zr_30_18 hF) ?_
            refine lv_iload hx hb dX12_rules_171 (lv_at hl 0 rfl) ?_
            refine zIaldN (D := D) hx hb hH (zk_45 hF) (zn_45 hF) (by omega) (by omega) rfl dX12_rules_173 ?_
            refine zIastN (D := D) hx hb hH hS (zk_44 hF) (zn_44 hF) (by omega) (by omega) dX12_rules_174 (fun H locs hH hS => ?_)
            obtain ⟨f279, ef279⟩ : ∃ f9 : zFi, f9 = zu f2 44 0 (f2 45 0) := ⟨_, rfl⟩
            rw [← ef279] at hH
            have q280 : f279 30 22 = nI L := by rw [ef279, zu_n (fun h9 => absurd h9.1 (by decide))]; exact p22
            have q281 : f279 30 21 = nI 0 := by rw [ef279, zu_n (fun h9 => absurd h9.1 (by decide))]; exact p21
            have q282 : f279 30 23 = nI c := by rw [ef279, zu_n (fun h9 => absurd h9.1 (by decide))]; exact p23
            have q283 : f279 30 2 = nI n := by rw [ef279, zu_n (fun h9 => absurd h9.1 (by decide))]; exact p2
            have q284 : f279 44 0 = f2 45 0 := by rw [ef279]; exact zu_s
            have hMt := zMt.ci (fi' := f279) hMt (fun i9 k9 h9 => by rw [ef279]; exact zu_n (by omega))
            have hMx := zMx.ci (fi' := f279) hMx (fun i9 k9 h9 => by rw [ef279]; exact zu_n (by omega))
            have hMd := zMd.ci (fi' := f279) hMd (fun i9 k9 h9 => by rw [ef279]; exact zu_n (by omega))
            refine lv_iinc (v := nI 1) (lv' := [(4, .int (nI 1)), (0, .ref (τ.1 30)), (1, .int y1), (2, .int (nI m2)), (3, .int y3)]) hx hb dX12_rules_175 hl (k := 0) rfl (by decide) (by decide) rfl (fun ls hl => ?_)
            refine lv_goto (tgt := 155) hx hb dX12_rules_178 (by decide) ?_
            refine lv_iload hx hb dX12_rules_155 (lv_at hl 0 rfl) ?_
            refine lv_iconst (v := nI 4) hx hb dX12_rules_157 (by decide) ?_
            refine lv_icmp_ge (tgt := 181) hx hb dX12_rules_158 (by decide) (fun c285 => absurd c285 (by decide)) (fun c285 => ?_)
            refine lv_aload_n hx hb dX12_rules_161 rfl (lv_at hl 1 rfl) ?_
            refine zGetR (D := D) (ci := 12) (C := RX12) (T := TX12) (N := 71) hx hb hts hiX12 hown hH (zk_30 hF) rfl 17 (by decide) rfl hw3 (fun _ h9 => h9) dX12_rules_162 (zr_30_17 hF) ?_
            refine lv_iload hx hb dX12_rules_165 (lv_at hl 0 rfl) ?_
            refine lv_aload_n hx hb dX12_rules_167 rfl (lv_at hl 1 rfl) ?_
            refine zGetR (D := D) (ci := 12) (C := RX12) (T := TX12) (N := 71) hx hb hts hiX12 hown hH (zk_30 hF) rfl 18 (by decide) rfl hw2 (fun _ h9 => h9) dX12_rules_168 (zr_30_18 hF) ?_
            refine lv_iload hx hb dX12_rules_171 (lv_at hl 0 rfl) ?_
            refine zIaldN (D := D) hx hb hH (zk_45 hF) (zn_45 hF) (by omega) (by omega) rfl dX12_rules_173 ?_
            refine zIastN (D := D) hx hb hH hS (zk_44 hF) (zn_44 hF) (by omega) (by omega) dX12_rules_174 (fun H locs hH hS => ?_)
            obtain ⟨f286, ef286⟩ : ∃ f9 : zFi, f9 = zu f279 44 1 (f279 45 1) := ⟨_, rfl⟩
            rw [← ef286] at hH
            have q287 : f286 30 22 = nI L := by rw [ef286, zu_n (fun h9 => absurd h9.1 (by decide))]; exact q280
            have q288 : f286 30 21 = nI 0 := by rw [ef286, zu_n (fun h9 => absurd h9.1 (by decide))]; exact q281
            have q289 : f286 30 23 = nI c := by rw [ef286, zu_n (fun h9 => absurd h9.1 (by decide))]; exact q282
            have q290 : f286 30 2 = nI n := by rw [ef286, zu_n (fun h9 => absurd h9.1 (by decide))]; exact q283
            have q291 : f286 44 0 = f2 45 0 := by rw [ef286, zu_n (fun h9 => absurd h9.2 (by decide))]; exact q284
            have q292 : f286 44 1 = f279 45 1 := by rw [ef286]; exact zu_s
            have hMt := zMt.ci (fi' := f286) hMt (fun i9 k9 h9 => by rw [ef286]; exact zu_n (by omega))
            have hMx := zMx.ci (fi' := f286) hMx (fun i9 k9 h9 => by rw [ef286]; exact zu_n (by omega))
            have hMd := zMd.ci (fi' := f286) hMd (fun i9 k9 h9 => by rw [ef286]; exact zu_n (by omega))
            refine lv_iinc (v := nI 2) (lv' := [(4, .int (nI 2)), (0, .ref (τ.1 30)), (1, .int y1), (2, .int (nI m2)), (3, .int y3)]) hx hb dX12_rules_175 hl (k := 0) rfl (by decide) (by decide) rfl (fun ls hl => ?_)
            refine lv_goto (tgt := 155) hx hb dX12_rules_178 (by decide) ?_
            refine lv_iload hx hb dX12_rules_155 (lv_at hl 0 rfl) ?_
            refine lv_iconst (v := nI 4) hx hb dX12_rules_157 (by decide) ?_
            refine lv_icmp_ge (tgt := 181) hx hb dX12_rules_158 (by decide) (fun c293 => absurd c293 (by decide)) (fun c293 => ?_)
            refine lv_aload_n hx hb dX12_rules_161 rfl (lv_at hl 1 rfl) ?_
            refine zGetR (D := D) (ci := 12) (C := RX12) (T := TX12) (N := 71) hx hb hts hiX12 hown hH (zk_30 hF) rfl 17 (by decide) rfl hw3 (fun _ h9 => h9) dX12_rules_162 (zr_30_17 hF) ?_
            refine lv_iload hx hb dX12_rules_165 (lv_at hl 0 rfl) ?_
            refine lv_aload_n hx hb dX12_rules_167 rfl (lv_at hl 1 rfl) ?_
            refine zGetR (D := D) (ci := 12) (C := RX12) (T := TX12) (N := 71) hx hb hts hiX12 hown hH (zk_30 hF) rfl 18 (by decide) rfl hw2 (fun _ h9 => h9) dX12_rules_168 (zr_30_18 hF) ?_
            refine lv_iload hx hb dX12_rules_171 (lv_at hl 0 rfl) ?_
            refine zIaldN (D := D) hx hb hH (zk_45 hF) (zn_45 hF) (by omega) (by omega) rfl dX12_rules_173 ?_
            refine zIastN (D := D) hx hb hH hS (zk_44 hF) (zn_44 hF) (by omega) (by omega) dX12_rules_174 (fun H locs hH hS => ?_)
            obtain ⟨f294, ef294⟩ : ∃ f9 : zFi, f9 = zu f286 44 2 (f286 45 2) := ⟨_, rfl⟩
            rw [← ef294] at hH
            have q295 : f294 30 22 = nI L := by rw [ef294, zu_n (fun h9 => absurd h9.1 (by decide))]; exact q287
            have q296 : f294 30 21 = nI 0 := by rw [ef294, zu_n (fun h9 => absurd h9.1 (by decide))]; exact q288
            have q297 : f294 30 23 = nI c := by rw [ef294, zu_n (fun h9 => absurd h9.1 (by decide))]; exact q289
            have q298 : f294 30 2 = nI n := by rw [ef294, zu_n (fun h9 => absurd h9.1 (by decide))]; exact q290
            have q299 : f294 44 0 = f2 45 0 := by rw [ef294, zu_n (fun h9 => absurd h9.2 (by decide))]; exact q291
            have q300 : f294 44 1 = f279 45 1 := by rw [ef294, zu_n (fun h9 => absurd h9.2 (by decide))]; exact q292
            have q301 : f294 44 2 = f286 45 2 := by rw [ef294]; exact zu_s
            have hMt := zMt.ci (fi' := f294) hMt (fun i9 k9 h9 => by rw [ef294]; exact zu_n (by omega))
            have hMx := zMx.ci (fi' := f294) hMx (fun i9 k9 h9 => by rw [ef294]; exact zu_n (by omega))
            have hMd := zMd.ci (fi' := f294) hMd (fun i9 k9 h9 => by rw [ef294]; exact zu_n (by omega))
            refine lv_iinc (v := nI 3) (lv' := [(4, .int (nI 3)), (0, .ref (τ.1 30)), (1, .int y1), (2, .int (nI m2)), (3, .int y3)]) hx hb dX12_rules_175 hl (k := 0) rfl (by decide) (by decide) rfl (fun ls hl => ?_)
            refine lv_goto (tgt := 155) hx hb dX12_rules_178 (by decide) ?_
            refine lv_iload hx hb dX12_rules_155 (lv_at hl 0 rfl) ?_
            refine lv_iconst (v := nI 4) hx hb dX12_rules_157 (by decide) ?_
            refine lv_icmp_ge (tgt := 181) hx hb dX12_rules_158 (by decide) (fun c302 => absurd c302 (by decide)) (fun c302 => ?_)
            refine lv_aload_n hx hb dX12_rules_161 rfl (lv_at hl 1 rfl) ?_
            refine zGetR (D := D) (ci := 12) (C := RX12) (T := TX12) (N := 71) hx hb hts hiX12 hown hH (zk_30 hF) rfl 17 (by decide) rfl hw3 (fun _ h9 => h9) dX12_rules_162 (zr_30_17 hF) ?_
            refine lv_iload hx hb dX12_rules_165 (lv_at hl 0 rfl) ?_
            refine lv_aload_n hx hb dX12_rules_167 rfl (lv_at hl 1 rfl) ?_
            refine zGetR (D := D) (ci := 12) (C := RX12) (T := TX12) (N := 71) hx hb hts hiX12 hown hH (zk_30 hF) rfl 18 (by decide) rfl hw2 (fun _ h9 => h9) dX12_rules_168 (zr_30_18 hF) ?_
            refine lv_iload hx hb dX12_rules_171 (lv_at hl 0 rfl) ?_
            refine zIaldN (D := D) hx hb hH (zk_45 hF) (zn_45 hF) (by omega) (by omega) rfl dX12_rules_173 ?_
            refine zIastN (D := D) hx hb hH hS (zk_44 hF) (zn_44 hF) (by omega) (by omega) dX12_rules_174 (fun H locs hH hS => ?_)
            obtain ⟨f303, ef303⟩ : ∃ f9 : zFi, f9 = zu f294 44 3 (f294 45 3) := ⟨_, rfl⟩
            rw [← ef303] at hH
            have q304 : f303 30 22 = nI L := by rw [ef303, zu_n (fun h9 => absurd h9.1 (by decide))]; exact q295
            have q305 : f303 30 21 = nI 0 := by rw [ef303, zu_n (fun h9 => absurd h9.1 (by decide))]; exact q296
            have q306 : f303 30 23 = nI c := by rw [ef303, zu_n (fun h9 => absurd h9.1 (by decide))]; exact q297
            have q307 : f303 30 2 = nI n := by rw [ef303, zu_n (fun h9 => absurd h9.1 (by decide))]; exact q298
            have q308 : f303 44 0 = f2 45 0 := by rw [ef303, zu_n (fun h9 => absurd h9.2 (by decide))]; exact q299
            have q309 : f303 44 1 = f279 45 1 := by rw [ef303, zu_n (fun h9 => absurd h9.2 (by decide))]; exact q300
            have q310 : f303 44 2 = f286 45 2 := by rw [ef303, zu_n (fun h9 => absurd h9.2 (by decide))]; exact q301
            have q311 : f303 44 3 = f294 45 3 := by rw [ef303]; exact zu_s
            have hMt := zMt.ci (fi' := f303) hMt (fun i9 k9 h9 => by rw [ef303]; exact zu_n (by omega))
            have hMx := zMx.ci (fi' := f303) hMx (fun i9 k9 h9 => by rw [ef303]; exact zu_n (by omega))
            have hMd := zMd.ci (fi' := f303) hMd (fun i9 k9 h9 => by rw [ef303]; exact zu_n (by omega))
            refine lv_iinc (v := nI 4) (lv' := [(4, .int (nI 4)), (0, .ref (τ.1 30)), (1, .int y1), (2, .int (nI m2)), (3, .int y3)]) hx hb dX12_rules_175 hl (k := 0) rfl (by decide) (by decide) rfl (fun ls hl => ?_)
            refine lv_goto (tgt := 155) hx hb dX12_rules_178 (by decide) ?_
            refine lv_iload hx hb dX12_rules_155 (lv_at hl 0 rfl) ?_
            refine lv_iconst (v := nI 4) hx hb dX12_rules_157 (by decide) ?_
            refine lv_icmp_ge (tgt := 181) hx hb dX12_rules_158 (by decide) (fun c312 => ?_) (fun c312 => absurd (by decide) c312)
            refine lv_iconst (v := nI 0) hx hb dX12_rules_181 (by decide) ?_
            refine lv_istore (lv' := [(4, .int (nI 0)), (0, .ref (τ.1 30)), (1, .int y1), (2, .int (nI m2)), (3, .int y3)]) hx hb dX12_rules_182 hl (by decide) rfl (fun ls hl => ?_)
            refine zLp (σ := Nat × zFi) (fun x9 k9 H locs ls => (fun (i3 : Nat) (f3 : zFi) => k9 = n - i3 ∧ (i3 ≤ n ∧ zMx f3 n ∧ zMd f3 n ∧ f3 30 21 = nI 0 ∧ ∀ a b, ¬ (a = 40 ∨ a = 44 ∨ a = 45 ∨ a = 46 ∨ (a = 30 ∧ (b = 0 ∨ (21 ≤ b ∧ b ≤ 25)))) → f3 a b = fi a b) ∧ zH D A τ f3 fr ol s H ∧ va_S A s.heap H locs ∧ lv_has ls 5 [(0, .ref (τ.1 30)), (1, .int y1), (4, .int (nI i3))]) x9.1 x9.2) (0, f303) (n - 0) (show n - 0 = n - 0 ∧ (0 ≤ n ∧ zMx f303 n ∧ zMd f303 n ∧ f303 30 21 = nI 0 ∧ ∀ a b, ¬ (a = 40 ∨ a = 44 ∨ a = 45 ∨ a = 46 ∨ (a = 30 ∧ (b = 0 ∨ (21 ≤ b ∧ b ≤ 25)))) → f303 a b = fi a b) ∧ zH D A τ f303 fr ol s _ ∧ va_S A s.heap _ _ ∧ lv_has _ 5 [(0, .ref (τ.1 30)), (1, .int y1), (4, .int (nI 0))] from ⟨rfl, ⟨Nat.zero_le _, hMx, hMd, q305, fun a b h => by rw [ef303, zu_n (by omega), ef294, zu_n (by omega), ef286, zu_n (by omega), ef279, zu_n (by omega)]; exact hfr2 a b (by omega)⟩, hH, hS, lv_sub hl [1, 2, 0] rfl⟩) (fun k9 ih x9 H locs ls hv9 => ?_)
            obtain ⟨i3, f3⟩ := x9
            have hv9 : k9 = n - i3 ∧ (i3 ≤ n ∧ zMx f3 n ∧ zMd f3 n ∧ f3 30 21 = nI 0 ∧ ∀ a b, ¬ (a = 40 ∨ a = 44 ∨ a = 45 ∨ a = 46 ∨ (a = 30 ∧ (b = 0 ∨ (21 ≤ b ∧ b ≤ 25)))) → f3 a b = fi a b) ∧ zH D A τ f3 fr ol s H ∧ va_S A s.heap H locs ∧ lv_has ls 5 [(0, .ref (τ.1 30)), (1, .int y1), (4, .int (nI i3))] := hv9
            obtain ⟨hkih313, hv9, hH, hS, hl⟩ := hv9
            obtain ⟨h3, hMx, hMd, p21, hfr3⟩ := hv9
            have ih313 := ih
            clear ih
            have hMt := zMt.ci (fi' := f3) hMt0 (fun i9 k9 h9 => hfr3 i9 k9 (by omega))
            have p2 := hMt.2.1
            refine lv_iload hx hb dX12_rules_184 (lv_at hl 2 rfl) ?_
            refine lv_aload_n hx hb dX12_rules_186 rfl (lv_at hl 0 rfl) ?_
            refine zGetI (D := D) (ci := 12) (C := RX12) (T := TX12) (N := 71) hx hb hts hiX12 hown hH (zk_30 hF) rfl 2 (by decide) rfl hw4 (fun _ h9 => h9) dX12_rules_187 p2 ?_
            refine lv_icmp_ge (tgt := 213) hx hb dX12_rules_190 (by decide) (fun c314 => ?_) (fun c314 => ?_)
            · have zc314 := c314
              replace zc314 := zc_le (nI_toInt (by omega)) (nI_toInt (by omega)) zc314
              refine lv_iload_n hx hb dX12_rules_213 rfl (lv_at hl 1 rfl) ?_
              refine W.widen (k := 0) (n := 0) (by decide) (by decide) ?_
              exact W.iret (v := y1) hx hb hr (fun t9 ht9 hW9 => ⟨⟨y1, f3, rfl, ⟨p21, hMx, fun a b h => hfr3 a b h⟩, zEnd1 hH ht9 hW9⟩, hS.F ht9⟩) hS.2.2 dX12_rules_214
            · have zc314 := c314
              replace zc314 := zc_nle (nI_toInt (by omega)) (nI_toInt (by omega)) zc314
              refine lv_aload_n hx hb dX12_rules_193 rfl (lv_at hl 0 rfl) ?_
              refine zGetR (D := D) (ci := 12) (C := RX12) (T := TX12) (N := 71) hx hb hts hiX12 hown hH (zk_30 hF) rfl 12 (by decide) rfl hw5 (fun _ h9 => h9) dX12_rules_194 (zr_30_12 hF) ?_
              refine lv_iload hx hb dX12_rules_197 (lv_at hl 2 rfl) ?_
              refine lv_aload_n hx hb dX12_rules_199 rfl (lv_at hl 0 rfl) ?_
              refine zGetR (D := D) (ci := 12) (C := RX12) (T := TX12) (N := 71) hx hb hts hiX12 hown hH (zk_30 hF) rfl 19 (by decide) rfl hw6 (fun _ h9 => h9) dX12_rules_200 (zr_30_19 hF) ?_
              refine lv_iload hx hb dX12_rules_203 (lv_at hl 2 rfl) ?_
              refine zIaldN (D := D) hx hb hH (zk_46 hF) (zn_46 hF) (by omega) (by omega) rfl dX12_rules_205 ?_
              have hsv9 := hMd i3 (by omega)
              refine zIastN (D := D) hx hb hH hS (zk_40 hF) (zn_40 hF) (by omega) (by omega) dX12_rules_206 (fun H locs hH hS => ?_)
              obtain ⟨f315, ef315⟩ : ∃ f9 : zFi, f9 = zu f3 40 i3 (f3 46 i3) := ⟨_, rfl⟩
              rw [← ef315] at hH
              have q316 : f315 30 2 = nI n := by rw [ef315, zu_n (fun h9 => absurd h9.1 (by decide))]; exact p2
              have q317 : f315 40 i3 = f3 46 i3 := by rw [ef315]; exact zu_s
              have hMt := zMt.ci (fi' := f315) hMt (fun i9 k9 h9 => by rw [ef315]; exact zu_n (by omega))
              have hMd := zMd.ci (fi' := f315) hMd (fun i9 k9 h9 => by rw [ef315]; exact zu_n (by omega))
              have hMx := hMx.set ef315 (hsv9)
              refine lv_iinc (v := nI (i3 + 1)) (lv' := [(4, .int (nI (i3 + 1))), (0, .ref (τ.1 30)), (1, .int y1)]) hx hb dX12_rules_207 hl (k := 2) rfl (by rw [show (Int32.ofInt 1 : Int32) = nI 1 from by decide, nI_add]) (by decide) rfl (fun ls hl => ?_)
              refine lv_goto (tgt := 184) hx hb dX12_rules_210 (by decide) ?_
              exact ih313 (n - (i3 + 1)) (by omega) (i3 + 1, f315) _ _ _ (show n - (i3 + 1) = n - (i3 + 1) ∧ ((i3 + 1) ≤ n ∧ zMx f315 n ∧ zMd f315 n ∧ f315 30 21 = nI 0 ∧ ∀ a b, ¬ (a = 40 ∨ a = 44 ∨ a = 45 ∨ a = 46 ∨ (a = 30 ∧ (b = 0 ∨ (21 ≤ b ∧ b ≤ 25)))) → f315 a b = fi a b) ∧ zH D A τ f315 fr ol s _ ∧ va_S A s.heap _ _ ∧ lv_has _ 5 [(0, .ref (τ.1 30)), (1, .int y1), (4, .int (nI (i3 + 1)))] from ⟨rfl, ⟨by omega, hMx, hMd, by rw [ef315, zu_n (by omega)]; exact p21, fun a b h => by rw [ef315, zu_n (by omega)]; exact hfr3 a b h⟩, hH, hS, lv_sub hl [1, 2, 0] rfl⟩)
          · have zc277 := c277
            replace zc277 := zc_eq (rfl) ((by decide : (0 : Int32).toInt = 0)) zc277
            refine lv_aload_n hx hb dX12_rules_145 rfl (lv_at hl 0 rfl) ?_
            refine lv_iconst (v := nI 1) hx hb dX12_rules_146 (by decide) ?_
            refine zPutI (D := D) (ci := 12) (ty := .int) (C := RX12) (T := TX12) (N := 71) hx hb hts hiX12 tyX12 tyX12_ok nmX12 hown hH hS (zk_30 hF) rfl 0 (by decide) rfl hw0 (fun _ h9 => h9) rfl (by decide +kernel) rfl rfl dX12_rules_147 (fun H locs hH hS => ?_)
            obtain ⟨f318, ef318⟩ : ∃ f9 : zFi, f9 = zu f2 30 0 (nI 1) := ⟨_, rfl⟩
            rw [← ef318] at hH
            have q319 : f318 30 22 = nI L := by rw [ef318, zu_n (fun h9 => absurd h9.2 (by decide))]; exact p22
            have q320 : f318 30 21 = nI 0 := by rw [ef318, zu_n (fun h9 => absurd h9.2 (by decide))]; exact p21
            have q321 : f318 30 23 = nI c := by rw [ef318, zu_n (fun h9 => absurd h9.2 (by decide))]; exact p23
            have q322 : f318 30 2 = nI n := by rw [ef318, zu_n (fun h9 => absurd h9.2 (by decide))]; exact p2
            have q323 : f318 30 0 = nI 1 := by rw [ef318]; exact zu_s
            have hMt := zMt.ci (fi' := f318) hMt (fun i9 k9 h9 => by rw [ef318]; exact zu_n (by omega))
            have hMx := zMx.ci (fi' := f318) hMx (fun i9 k9 h9 => by rw [ef318]; exact zu_n (by omega))
            have hMd := zMd.ci (fi' := f318) hMd (fun i9 k9 h9 => by rw [ef318]; exact zu_n (by omega))
            refine lv_iconst (v := nI 0) hx hb dX12_rules_150 (by decide) ?_
            refine W.widen (k := 0) (n := 0) (by decide) (by decide) ?_
            exact W.iret (v := nI 0) hx hb hr (fun t9 ht9 hW9 => ⟨⟨nI 0, f318, rfl, ⟨q320, hMx, fun a b h => by rw [ef318, zu_n (by omega)]; exact hfr2 a b (by omega)⟩, zEnd1 hH ht9 hW9⟩, hS.F ht9⟩) hS.2.2 dX12_rules_151
        · have zc276 := c276
          replace zc276 := zc_neq (rfl) ((by decide : (0 : Int32).toInt = 0)) zc276
          refine lv_aload_n hx hb dX12_rules_124 rfl (lv_at hl 0 rfl) ?_
          refine va_calli (va_runV (As := []) (rest := []) ⟨hx, hb, hml, hown, hts⟩ (m_sign l hl0 D A sad τ f2 fr ol L c hF p22 p23 (by omega) (by omega)) (cwV 0 hts gX12_rules_X12_sign rfl rfl rfl (by decide +kernel) ⟨Nat.le_of_ble_eq_true rfl, Nat.le_of_ble_eq_true rfl⟩) ⟨zQc_bl, zRecv hH (zk_30 hF) rfl, zQc_at hz hS hA hH⟩ rfl rfl hl.1 rfl (lv_room (Nat.le_of_ble_eq_true rfl)) dX12_rules_125 ⟨Nat.le_of_ble_eq_true rfl, Nat.le_of_ble_eq_true rfl⟩) hS (fun q _ h => h) (fun q h => h) (fun r324 u9 t9 H1 locs ht9 hvm9 hw hB hz1 hk1 hS => ?_)
          have hH := zMv ht9 hvm9 hB
          clear hB
          generalize u9 = f325 at hw hH
          generalize H1 = H at hH hS ⊢
          obtain ⟨hr332, ⟨c326, hc327, hc328, q329, hx330⟩, hf331⟩ := hw
          have q333 : f325 30 22 = nI L := by rw [hf331 30 22 (by omega)]; exact p22
          have q334 : f325 30 21 = nI 0 := by rw [hf331 30 21 (by omega)]; exact p21
          have q335 : f325 30 2 = nI n := by rw [hf331 30 2 (by omega)]; exact p2
          have hMt := zMt.ci (fi' := f325) hMt (fun i9 k9 h9 => hf331 i9 k9 (by omega))
          have hMx := zMx.ci (fi' := f325) hMx (fun i9 k9 h9 => hf331 i9 k9 (by omega))
          have hMd := zMd.ci (fi' := f325) hMd (fun i9 k9 h9 => hf331 i9 k9 (by omega))
          refine lv_iconst (v := (-1)) hx hb dX12_rules_128 (by decide) ?_
          refine lv_icmp_eq (tgt := 141) hx hb dX12_rules_129 (by decide) (fun c336 => ?_) (fun c336 => ?_)
          · have zc336 := c336
            replace zc336 := zc_eq (rfl) ((by decide : ((-1) : Int32).toInt = (-1))) zc336
            refine lv_iload_n hx hb dX12_rules_141 rfl (lv_at hl 3 rfl) ?_
            refine lv_if_ne (tgt := 152) hx hb dX12_rules_142 (by decide) (fun c337 => ?_) (fun c337 => ?_)
            · have zc337 := c337
              replace zc337 := zc_neq (rfl) ((by decide : (0 : Int32).toInt = 0)) zc337
              refine lv_iconst (v := nI 0) hx hb dX12_rules_152 (by decide) ?_
              refine lv_istore (lv' := [(4, .int (nI 0)), (0, .ref (τ.1 30)), (1, .int y1), (2, .int (nI m2)), (3, .int y3)]) hx hb dX12_rules_153 hl (by decide) rfl (fun ls hl => ?_)
              refine lv_iload hx hb dX12_rules_155 (lv_at hl 0 rfl) ?_
              refine lv_iconst (v := nI 4) hx hb dX12_rules_157 (by decide) ?_
              refine lv_icmp_ge (tgt := 181) hx hb dX12_rules_158 (by decide) (fun c338 => absurd c338 (by decide)) (fun c338 => ?_)
              refine lv_aload_n hx hb dX12_rules_161 rfl (lv_at hl 1 rfl) ?_
              refine zGetR (D := D) (ci := 12) (C := RX12) (T := TX12) (N := 71) hx hb hts hiX12 hown hH (zk_30 hF) rfl 17 (by decide) rfl hw3 (fun _ h9 => h9) dX12_rules_162 (zr_30_17 hF) ?_
              refine lv_iload hx hb dX12_rules_165 (lv_at hl 0 rfl) ?_
              refine lv_aload_n hx hb dX12_rules_167 rfl (lv_at hl 1 rfl) ?_
              refine zGetR (D := D) (ci := 12) (C := RX12) (T := TX12) (N := 71) hx hb hts hiX12 hown hH (zk_30 hF) rfl 18 (by decide) rfl hw2 (fun _ h9 => h9) dX12_rules_168 (zr_30_18 hF) ?_
              refine lv_iload hx hb dX12_rules_171 (lv_at hl 0 rfl) ?_
              refine zIaldN (D := D) hx hb hH (zk_45 hF) (zn_45 hF) (by omega) (by omega) rfl dX12_rules_173 ?_
              refine zIastN (D := D) hx hb hH hS (zk_44 hF) (zn_44 hF) (by omega) (by omega) dX12_rules_174 (fun H locs hH hS => ?_)
              obtain ⟨f339, ef339⟩ : ∃ f9 : zFi, f9 = zu f325 44 0 (f325 45 0) := ⟨_, rfl⟩
              rw [← ef339] at hH
              have q340 : f339 30 22 = nI L := by rw [ef339, zu_n (fun h9 => absurd h9.1 (by decide))]; exact q333
              have q341 : f339 30 21 = nI 0 := by rw [ef339, zu_n (fun h9 => absurd h9.1 (by decide))]; exact q334
              have q342 : f339 30 2 = nI n := by rw [ef339, zu_n (fun h9 => absurd h9.1 (by decide))]; exact q335
              have q343 : f339 30 23 = nI c326 := by rw [ef339, zu_n (fun h9 => absurd h9.1 (by decide))]; exact q329
              have q344 : f339 44 0 = f325 45 0 := by rw [ef339]; exact zu_s
              have hMt := zMt.ci (fi' := f339) hMt (fun i9 k9 h9 => by rw [ef339]; exact zu_n (by omega))
              have hMx := zMx.ci (fi' := f339) hMx (fun i9 k9 h9 => by rw [ef339]; exact zu_n (by omega))
              have hMd := zMd.ci (fi' := f339) hMd (fun i9 k9 h9 => by rw [ef339]; exact zu_n (by omega))
              refine lv_iinc (v := nI 1) (lv' := [(4, .int (nI 1)), (0, .ref (τ.1 30)), (1, .int y1), (2, .int (nI m2)), (3, .int y3)]) hx hb dX12_rules_175 hl (k := 0) rfl (by decide) (by decide) rfl (fun ls hl => ?_)
              refine lv_goto (tgt := 155) hx hb dX12_rules_178 (by decide) ?_
              refine lv_iload hx hb dX12_rules_155 (lv_at hl 0 rfl) ?_
              refine lv_iconst (v := nI 4) hx hb dX12_rules_157 (by decide) ?_
              refine lv_icmp_ge (tgt := 181) hx hb dX12_rules_158 (by decide) (fun c345 => absurd c345 (by decide)) (fun c345 => ?_)
              refine lv_aload_n hx hb dX12_rules_161 rfl (lv_at hl 1 rfl) ?_
              refine zGetR (D := D) (ci := 12) (C := RX12) (T := TX12) (N := 71) hx hb hts hiX12 hown hH (zk_30 hF) rfl 17 (by decide) rfl hw3 (fun _ h9 => h9) dX12_rules_162 (zr_30_17 hF) ?_
              refine lv_iload hx hb dX12_rules_165 (lv_at hl 0 rfl) ?_
              refine lv_aload_n hx hb dX12_rules_167 rfl (lv_at hl 1 rfl) ?_
              refine zGetR (D := D) (ci := 12) (C := RX12) (T := TX12) (N := 71) hx hb hts hiX12 hown hH (zk_30 hF) rfl 18 (by decide) rfl hw2 (fun _ h9 => h9) dX12_rules_168 (zr_30_18 hF) ?_
              refine lv_iload hx hb dX12_rules_171 (lv_at hl 0 rfl) ?_
              refine zIaldN (D := D) hx hb hH (zk_45 hF) (zn_45 hF) (by omega) (by omega) rfl dX12_rules_173 ?_
              refine zIastN (D := D) hx hb hH hS (zk_44 hF) (zn_44 hF) (by omega) (by omega) dX12_rules_174 (fun H locs hH hS => ?_)
              obtain ⟨f346, ef346⟩ : ∃ f9 : zFi, f9 = zu f339 44 1 (f339 45 1) := ⟨_, rfl⟩
              rw [← ef346] at hH
              have q347 : f346 30 22 = nI L := by rw [ef346, zu_n (fun h9 => absurd h9.1 (by decide))]; exact q340
              have q348 : f346 30 21 = nI 0 := by rw [ef346, zu_n (fun h9 => absurd h9.1 (by decide))]; exact q341
              have q349 : f346 30 2 = nI n := by rw [ef346, zu_n (fun h9 => absurd h9.1 (by decide))]; exact q342
              have q350 : f346 30 23 = nI c326 := by rw [ef346, zu_n (fun h9 => absurd h9.1 (by decide))]; exact q343
              have q351 : f346 44 0 = f325 45 0 := by rw [ef346, zu_n (fun h9 => absurd h9.2 (by decide))]; exact q344
              have q352 : f346 44 1 = f339 45 1 := by rw [ef346]; exact zu_s
              have hMt := zMt.ci (fi' := f346) hMt (fun i9 k9 h9 => by rw [ef346]; exact zu_n (by omega))
              have hMx := zMx.ci (fi' := f346) hMx (fun i9 k9 h9 => by rw [ef346]; exact zu_n (by omega))
              have hMd := zMd.ci (fi' := f346) hMd (fun i9 k9 h9 => by rw [ef346]; exact zu_n (by omega))
              refine lv_iinc (v := nI 2) (lv' := [(4, .int (nI 2)), (0, .ref (τ.1 30)), (1, .int y1), (2, .int (nI m2)), (3, .int y3)]) hx hb dX12_rules_175 hl (k := 0) rfl (by decide) (by decide) rfl (fun ls hl => ?_)
              refine lv_goto (tgt := 155) hx hb dX12_rules_178 (by decide) ?_
              refine lv_iload hx hb dX12_rules_155 (lv_at hl 0 rfl) ?_
              refine lv_iconst (v := nI 4) hx hb dX12_rules_157 (by decide) ?_
              refine lv_icmp_ge (tgt := 181) hx hb dX12_rules_158 (by decide) (fun c353 => absurd c353 (by decide)) (fun c353 => ?_)
              refine lv_aload_n hx hb dX12_rules_161 rfl (lv_at hl 1 rfl) ?_
              refine zGetR (D := D) (ci := 12) (C := RX12) (T := TX12) (N := 71) hx hb hts hiX12 hown hH (zk_30 hF) rfl 17 (by decide) rfl hw3 (fun _ h9 => h9) dX12_rules_162 (zr_30_17 hF) ?_
              refine lv_iload hx hb dX12_rules_165 (lv_at hl 0 rfl) ?_
              refine lv_aload_n hx hb dX12_rules_167 rfl (lv_at hl 1 rfl) ?_
              refine zGetR (D := D) (ci := 12) (C := RX12) (T := TX12) (N := 71) hx hb hts hiX12 hown hH (zk_30 hF) rfl 18 (by decide) rfl hw2 (fun _ h9 => h9) dX12_rules_168 (zr_30_18 hF) ?_
              refine lv_iload hx hb dX12_rules_171 (lv_at hl 0 rfl) ?_
              refine zIaldN (D := D) hx hb hH (zk_45 hF) (zn_45 hF) (by omega) (by omega) rfl dX12_rules_173 ?_
              refine zIastN (D := D) hx hb hH hS (zk_44 hF) (zn_44 hF) (by omega) (by omega) dX12_rules_174 (fun H locs hH hS => ?_)
              obtain ⟨f354, ef354⟩ : ∃ f9 : zFi, f9 = zu f346 44 2 (f346 45 2) := ⟨_, rfl⟩
              rw [← ef354] at hH
              have q355 : f354 30 22 = nI L := by rw [ef354, zu_n (fun h9 => absurd h9.1 (by decide))]; exact q347
              have q356 : f354 30 21 = nI 0 := by rw [ef354, zu_n (fun h9 => absurd h9.1 (by decide))]; exact q348
              have q357 : f354 30 2 = nI n := by rw [ef354, zu_n (fun h9 => absurd h9.1 (by decide))]; exact q349
              have q358 : f354 30 23 = nI c326 := by rw [ef354, zu_n (fun h9 => absurd h9.1 (by decide))]; exact q350
              have q359 : f354 44 0 = f325 45 0 := by rw [ef354, zu_n (fun h9 => absurd h9.2 (by decide))]; exact q351
              have q360 : f354 44 1 = f339 45 1 := by rw [ef354, zu_n (fun h9 => absurd h9.2 (by decide))]; exact q352
              have q361 : f354 44 2 = f346 45 2 := by rw [ef354]; exact zu_s
              have hMt := zMt.ci (fi' := f354) hMt (fun i9 k9 h9 => by rw [ef354]; exact zu_n (by omega))
              have hMx := zMx.ci (fi' := f354) hMx (fun i9 k9 h9 => by rw [ef354]; exact zu_n (by omega))
              have hMd := zMd.ci (fi' := f354) hMd (fun i9 k9 h9 => by rw [ef354]; exact zu_n (by omega))
              refine lv_iinc (v := nI 3) (lv' := [(4, .int (nI 3)), (0, .ref (τ.1 30)), (1, .int y1), (2, .int (nI m2)), (3, .int y3)]) hx hb dX12_rules_175 hl (k := 0) rfl (by decide) (by decide) rfl (fun ls hl => ?_)
              refine lv_goto (tgt := 155) hx hb dX12_rules_178 (by decide) ?_
              refine lv_iload hx hb dX12_rules_155 (lv_at hl 0 rfl) ?_
              refine lv_iconst (v := nI 4) hx hb dX12_rules_157 (by decide) ?_
              refine lv_icmp_ge (tgt := 181) hx hb dX12_rules_158 (by decide) (fun c362 => absurd c362 (by decide)) (fun c362 => ?_)
              refine lv_aload_n hx hb dX12_rules_161 rfl (lv_at hl 1 rfl) ?_
              refine zGetR (D := D) (ci := 12) (C := RX12) (T := TX12) (N := 71) hx hb hts hiX12 hown hH (zk_30 hF) rfl 17 (by decide) rfl hw3 (fun _ h9 => h9) dX12_rules_162 (zr_30_17 hF) ?_
              refine lv_iload hx hb dX12_rules_165 (lv_at hl 0 rfl) ?_
              refine lv_aload_n hx hb dX12_rules_167 rfl (lv_at hl 1 rfl) ?_
              refine zGetR (D := D) (ci := 12) (C := RX12) (T := TX12) (N := 71) hx hb hts hiX12 hown hH (zk_30 hF) rfl 18 (by decide) rfl hw2 (fun _ h9 => h9) dX12_rules_168 (zr_30_18 hF) ?_
              refine lv_iload hx hb dX12_rules_171 (lv_at hl 0 rfl) ?_
              refine zIaldN (D := D) hx hb hH (zk_45 hF) (zn_45 hF) (by omega) (by omega) rfl dX12_rules_173 ?_
              refine zIastN (D := D) hx hb hH hS (zk_44 hF) (zn_44 hF) (by omega) (by omega) dX12_rules_174 (fun H locs hH hS => ?_)
              obtain ⟨f363, ef363⟩ : ∃ f9 : zFi, f9 = zu f354 44 3 (f354 45 3) := ⟨_, rfl⟩
              rw [← ef363] at hH
              have q364 : f363 30 22 = nI L := by rw [ef363, zu_n (fun h9 => absurd h9.1 (by decide))]; exact q355
              have q365 : f363 30 21 = nI 0 := by rw [ef363, zu_n (fun h9 => absurd h9.1 (by decide))]; exact q356
              have q366 : f363 30 2 = nI n := by rw [ef363, zu_n (fun h9 => absurd h9.1 (by decide))]; exact q357
              have q367 : f363 30 23 = nI c326 := by rw [ef363, zu_n (fun h9 => absurd h9.1 (by decide))]; exact q358
              have q368 : f363 44 0 = f325 45 0 := by rw [ef363, zu_n (fun h9 => absurd h9.2 (by decide))]; exact q359
              have q369 : f363 44 1 = f339 45 1 := by rw [ef363, zu_n (fun h9 => absurd h9.2 (by decide))]; exact q360
              have q370 : f363 44 2 = f346 45 2 := by rw [ef363, zu_n (fun h9 => absurd h9.2 (by decide))]; exact q361
              have q371 : f363 44 3 = f354 45 3 := by rw [ef363]; exact zu_s
              have hMt := zMt.ci (fi' := f363) hMt (fun i9 k9 h9 => by rw [ef363]; exact zu_n (by omega))
              have hMx := zMx.ci (fi' := f363) hMx (fun i9 k9 h9 => by rw [ef363]; exact zu_n (by omega))
              have hMd := zMd.ci (fi' := f363) hMd (fun i9 k9 h9 => by rw [ef363]; exact zu_n (by omega))
              refine lv_iinc (v := nI 4) (lv' := [(4, .int (nI 4)), (0, .ref (τ.1 30)), (1, .int y1), (2, .int (nI m2)), (3, .int y3)]) hx hb dX12_rules_175 hl (k := 0) rfl (by decide) (by decide) rfl (fun ls hl => ?_)
              refine lv_goto (tgt := 155) hx hb dX12_rules_178 (by decide) ?_
              refine lv_iload hx hb dX12_rules_155 (lv_at hl 0 rfl) ?_
              refine lv_iconst (v := nI 4) hx hb dX12_rules_157 (by decide) ?_
              refine lv_icmp_ge (tgt := 181) hx hb dX12_rules_158 (by decide) (fun c372 => ?_) (fun c372 => absurd (by decide) c372)
              refine lv_iconst (v := nI 0) hx hb dX12_rules_181 (by decide) ?_
              refine lv_istore (lv' := [(4, .int (nI 0)), (0, .ref (τ.1 30)), (1, .int y1), (2, .int (nI m2)), (3, .int y3)]) hx hb dX12_rules_182 hl (by decide) rfl (fun ls hl => ?_)
              refine zLp (σ := Nat × zFi) (fun x9 k9 H locs ls => (fun (i3 : Nat) (f3 : zFi) => k9 = n - i3 ∧ (i3 ≤ n ∧ zMx f3 n ∧ zMd f3 n ∧ f3 30 21 = nI 0 ∧ ∀ a b, ¬ (a = 40 ∨ a = 44 ∨ a = 45 ∨ a = 46 ∨ (a = 30 ∧ (b = 0 ∨ (21 ≤ b ∧ b ≤ 25)))) → f3 a b = fi a b) ∧ zH D A τ f3 fr ol s H ∧ va_S A s.heap H locs ∧ lv_has ls 5 [(0, .ref (τ.1 30)), (1, .int y1), (4, .int (nI i3))]) x9.1 x9.2) (0, f363) (n - 0) (show n - 0 = n - 0 ∧ (0 ≤ n ∧ zMx f363 n ∧ zMd f363 n ∧ f363 30 21 = nI 0 ∧ ∀ a b, ¬ (a = 40 ∨ a = 44 ∨ a = 45 ∨ a = 46 ∨ (a = 30 ∧ (b = 0 ∨ (21 ≤ b ∧ b ≤ 25)))) → f363 a b = fi a b) ∧ zH D A τ f363 fr ol s _ ∧ va_S A s.heap _ _ ∧ lv_has _ 5 [(0, .ref (τ.1 30)), (1, .int y1), (4, .int (nI 0))] from ⟨rfl, ⟨Nat.zero_le _, hMx, hMd, q365, fun a b h => by rw [ef363, zu_n (by omega), ef354, zu_n (by omega), ef346, zu_n (by omega), ef339, zu_n (by omega), hf331 a b (by omega)]; exact hfr2 a b (by omega)⟩, hH, hS, lv_sub hl [1, 2, 0] rfl⟩) (fun k9 ih x9 H locs ls hv9 => ?_)
              obtain ⟨i3, f3⟩ := x9
              have hv9 : k9 = n - i3 ∧ (i3 ≤ n ∧ zMx f3 n ∧ zMd f3 n ∧ f3 30 21 = nI 0 ∧ ∀ a b, ¬ (a = 40 ∨ a = 44 ∨ a = 45 ∨ a = 46 ∨ (a = 30 ∧ (b = 0 ∨ (21 ≤ b ∧ b ≤ 25)))) → f3 a b = fi a b) ∧ zH D A τ f3 fr ol s H ∧ va_S A s.heap H locs ∧ lv_has ls 5 [(0, .ref (τ.1 30)), (1, .int y1), (4, .int (nI i3))] := hv9
              obtain ⟨hkih373, hv9, hH, hS, hl⟩ := hv9
              obtain ⟨h3, hMx, hMd, p21, hfr3⟩ := hv9
              have ih373 := ih
              clear ih
              have hMt := zMt.ci (fi' := f3) hMt0 (fun i9 k9 h9 => hfr3 i9 k9 (by omega))
              have p2 := hMt.2.1
              refine lv_iload hx hb dX12_rules_184 (lv_at hl 2 rfl) ?_
              refine lv_aload_n hx hb dX12_rules_186 rfl (lv_at hl 0 rfl) ?_
              refine zGetI (D := D) (ci := 12) (C := RX12) (T := TX12) (N := 71) hx hb hts hiX12 hown hH (zk_30 hF) rfl 2 (by decide) rfl hw4 (fun _ h9 => h9) dX12_rules_187 p2 ?_
              refine lv_icmp_ge (tgt := 213) hx hb dX12_rules_190 (by decide) (fun c374 => ?_) (fun c374 => ?_)
              · have zc374 := c374
                replace zc374 := zc_le (nI_toInt (by omega)) (nI_toInt (by omega)) zc374
                refine lv_iload_n hx hb dX12_rules_213 rfl (lv_at hl 1 rfl) ?_
                refine W.widen (k := 0) (n := 0) (by decide) (by decide) ?_
                exact W.iret (v := y1) hx hb hr (fun t9 ht9 hW9 => ⟨⟨y1, f3, rfl, ⟨p21, hMx, fun a b h => hfr3 a b h⟩, zEnd1 hH ht9 hW9⟩, hS.F ht9⟩) hS.2.2 dX12_rules_214
              · have zc374 := c374
                replace zc374 := zc_nle (nI_toInt (by omega)) (nI_toInt (by omega)) zc374
                refine lv_aload_n hx hb dX12_rules_193 rfl (lv_at hl 0 rfl) ?_
                refine zGetR (D := D) (ci := 12) (C := RX12) (T := TX12) (N := 71) hx hb hts hiX12 hown hH (zk_30 hF) rfl 12 (by decide) rfl hw5 (fun _ h9 => h9) dX12_rules_194 (zr_30_12 hF) ?_
                refine lv_iload hx hb dX12_rules_197 (lv_at hl 2 rfl) ?_
                refine lv_aload_n hx hb dX12_rules_199 rfl (lv_at hl 0 rfl) ?_
                refine zGetR (D := D) (ci := 12) (C := RX12) (T := TX12) (N := 71) hx hb hts hiX12 hown hH (zk_30 hF) rfl 19 (by decide) rfl hw6 (fun _ h9 => h9) dX12_rules_200 (zr_30_19 hF) ?_
                refine lv_iload hx hb dX12_rules_203 (lv_at hl 2 rfl) ?_
                refine zIaldN (D := D) hx hb hH (zk_46 hF) (zn_46 hF) (by omega) (by omega) rfl dX12_rules_205 ?_
                have hsv9 := hMd i3 (by omega)
                refine zIastN (D := D) hx hb hH hS (zk_40 hF) (zn_40 hF) (by omega) (by omega) dX12_rules_206 (fun H locs hH hS => ?_)
                obtain ⟨f375, ef375⟩ : ∃ f9 : zFi, f9 = zu f3 40 i3 (f3 46 i3) := ⟨_, rfl⟩
                rw [← ef375] at hH
                have q376 : f375 30 2 = nI n := by rw [ef375, zu_n (fun h9 => absurd h9.1 (by decide))]; exact p2
                have q377 : f375 40 i3 = f3 46 i3 := by rw [ef375]; exact zu_s
                have hMt := zMt.ci (fi' := f375) hMt (fun i9 k9 h9 => by rw [ef375]; exact zu_n (by omega))
                have hMd := zMd.ci (fi' := f375) hMd (fun i9 k9 h9 => by rw [ef375]; exact zu_n (by omega))
                have hMx := hMx.set ef375 (hsv9)
                refine lv_iinc (v := nI (i3 + 1)) (lv' := [(4, .int (nI (i3 + 1))), (0, .ref (τ.1 30)), (1, .int y1)]) hx hb dX12_rules_207 hl (k := 2) rfl (by rw [show (Int32.ofInt 1 : Int32) = nI 1 from by decide, nI_add]) (by decide) rfl (fun ls hl => ?_)
                refine lv_goto (tgt := 184) hx hb dX12_rules_210 (by decide) ?_
                exact ih373 (n - (i3 + 1)) (by omega) (i3 + 1, f375) _ _ _ (show n - (i3 + 1) = n - (i3 + 1) ∧ ((i3 + 1) ≤ n ∧ zMx f375 n ∧ zMd f375 n ∧ f375 30 21 = nI 0 ∧ ∀ a b, ¬ (a = 40 ∨ a = 44 ∨ a = 45 ∨ a = 46 ∨ (a = 30 ∧ (b = 0 ∨ (21 ≤ b ∧ b ≤ 25)))) → f375 a b = fi a b) ∧ zH D A τ f375 fr ol s _ ∧ va_S A s.heap _ _ ∧ lv_has _ 5 [(0, .ref (τ.1 30)), (1, .int y1), (4, .int (nI (i3 + 1)))] from ⟨rfl, ⟨by omega, hMx, hMd, by rw [ef375, zu_n (by omega)]; exact p21, fun a b h => by rw [ef375, zu_n (by omega)]; exact hfr3 a b h⟩, hH, hS, lv_sub hl [1, 2, 0] rfl⟩)
            · have zc337 := c337
              replace zc337 := zc_eq (rfl) ((by decide : (0 : Int32).toInt = 0)) zc337
              refine lv_aload_n hx hb dX12_rules_145 rfl (lv_at hl 0 rfl) ?_
              refine lv_iconst (v := nI 1) hx hb dX12_rules_146 (by decide) ?_
              refine zPutI (D := D) (ci := 12) (ty := .int) (C := RX12) (T := TX12) (N := 71) hx hb hts hiX12 tyX12 tyX12_ok nmX12 hown hH hS (zk_30 hF) rfl 0 (by decide) rfl hw0 (fun _ h9 => h9) rfl (by decide +kernel) rfl rfl dX12_rules_147 (fun H locs hH hS => ?_)
              obtain ⟨f378, ef378⟩ : ∃ f9 : zFi, f9 = zu f325 30 0 (nI 1) := ⟨_, rfl⟩
              rw [← ef378] at hH
              have q379 : f378 30 22 = nI L := by rw [ef378, zu_n (fun h9 => absurd h9.2 (by decide))]; exact q333
              have q380 : f378 30 21 = nI 0 := by rw [ef378, zu_n (fun h9 => absurd h9.2 (by decide))]; exact q334
              have q381 : f378 30 2 = nI n := by rw [ef378, zu_n (fun h9 => absurd h9.2 (by decide))]; exact q335
              have q382 : f378 30 23 = nI c326 := by rw [ef378, zu_n (fun h9 => absurd h9.2 (by decide))]; exact q329
              have q383 : f378 30 0 = nI 1 := by rw [ef378]; exact zu_s
              have hMt := zMt.ci (fi' := f378) hMt (fun i9 k9 h9 => by rw [ef378]; exact zu_n (by omega))
              have hMx := zMx.ci (fi' := f378) hMx (fun i9 k9 h9 => by rw [ef378]; exact zu_n (by omega))
              have hMd := zMd.ci (fi' := f378) hMd (fun i9 k9 h9 => by rw [ef378]; exact zu_n (by omega))
              refine lv_iconst (v := nI 0) hx hb dX12_rules_150 (by decide) ?_
              refine W.widen (k := 0) (n := 0) (by decide) (by decide) ?_
              exact W.iret (v := nI 0) hx hb hr (fun t9 ht9 hW9 => ⟨⟨nI 0, f378, rfl, ⟨q380, hMx, fun a b h => by rw [ef378, zu_n (by omega), hf331 a b (by omega)]; exact hfr2 a b (by omega)⟩, zEnd1 hH ht9 hW9⟩, hS.F ht9⟩) hS.2.2 dX12_rules_151
          · have zc336 := c336
            replace zc336 := zc_neq (rfl) ((by decide : ((-1) : Int32).toInt = (-1))) zc336
            refine lv_aload_n hx hb dX12_rules_132 rfl (lv_at hl 0 rfl) ?_
            refine lv_aload_n hx hb dX12_rules_133 rfl (lv_at hl 0 rfl) ?_
            refine zGetI (D := D) (ci := 12) (C := RX12) (T := TX12) (N := 71) hx hb hts hiX12 hown hH (zk_30 hF) rfl 23 (by decide) rfl hw7 (fun _ h9 => h9) dX12_rules_134 q329 ?_
            refine va_calli (va_runV (As := [.int (nI c326)]) (rest := []) ⟨hx, hb, hml, hown, hts⟩ (m_wrong l hl0 D A sad τ f325 fr ol (nI c326) hF) (cwV 1 hts gX12_rules_X12_wrong rfl rfl rfl (by decide +kernel) ⟨Nat.le_of_ble_eq_true rfl, Nat.le_of_ble_eq_true rfl⟩) ⟨zQc_bl, zRecv hH (zk_30 hF) rfl, zQc_at hz hS hA hH⟩ rfl rfl hl.1 rfl (lv_room (Nat.le_of_ble_eq_true rfl)) dX12_rules_137 ⟨Nat.le_of_ble_eq_true rfl, Nat.le_of_ble_eq_true rfl⟩) hS (fun q _ h => h) (fun q h => h) (fun r384 u9 t9 H1 locs ht9 hvm9 hw hB hz1 hk1 hS => ?_)
            have hH := zMv ht9 hvm9 hB
            clear hB
            generalize u9 = f385 at hw hH
            generalize H1 = H at hH hS ⊢
            obtain ⟨rfl, hf386⟩ := hw
            have q387 : f385 30 22 = nI L := by rw [hf386 30 22 (by omega)]; exact q333
            have q388 : f385 30 21 = nI 0 := by rw [hf386 30 21 (by omega)]; exact q334
            have q389 : f385 30 2 = nI n := by rw [hf386 30 2 (by omega)]; exact q335
            have q390 : f385 30 23 = nI c326 := by rw [hf386 30 23 (by omega)]; exact q329
            have hMt := zMt.ci (fi' := f385) hMt (fun i9 k9 h9 => hf386 i9 k9 (by omega))
            have hMx := zMx.ci (fi' := f385) hMx (fun i9 k9 h9 => hf386 i9 k9 (by omega))
            have hMd := zMd.ci (fi' := f385) hMd (fun i9 k9 h9 => hf386 i9 k9 (by omega))
            refine lv_istore_n (lv' := [(3, .int 0), (0, .ref (τ.1 30)), (1, .int y1), (2, .int (nI m2))]) hx hb dX12_rules_140 rfl hl (by decide) rfl (fun ls hl => ?_)
            refine lv_iload_n hx hb dX12_rules_141 rfl (lv_at hl 0 rfl) ?_
            refine lv_if_ne (tgt := 152) hx hb dX12_rules_142 (by decide) (fun c391 => absurd (by decide) c391) (fun c391 => ?_)
            refine lv_aload_n hx hb dX12_rules_145 rfl (lv_at hl 1 rfl) ?_
            refine lv_iconst (v := nI 1) hx hb dX12_rules_146 (by decide) ?_
            refine zPutI (D := D) (ci := 12) (ty := .int) (C := RX12) (T := TX12) (N := 71) hx hb hts hiX12 tyX12 tyX12_ok nmX12 hown hH hS (zk_30 hF) rfl 0 (by decide) rfl hw0 (fun _ h9 => h9) rfl (by decide +kernel) rfl rfl dX12_rules_147 (fun H locs hH hS => ?_)
            obtain ⟨f392, ef392⟩ : ∃ f9 : zFi, f9 = zu f385 30 0 (nI 1) := ⟨_, rfl⟩
            rw [← ef392] at hH
            have q393 : f392 30 22 = nI L := by rw [ef392, zu_n (fun h9 => absurd h9.2 (by decide))]; exact q387
            have q394 : f392 30 21 = nI 0 := by rw [ef392, zu_n (fun h9 => absurd h9.2 (by decide))]; exact q388
            have q395 : f392 30 2 = nI n := by rw [ef392, zu_n (fun h9 => absurd h9.2 (by decide))]; exact q389
            have q396 : f392 30 23 = nI c326 := by rw [ef392, zu_n (fun h9 => absurd h9.2 (by decide))]; exact q390
            have q397 : f392 30 0 = nI 1 := by rw [ef392]; exact zu_s
            have hMt := zMt.ci (fi' := f392) hMt (fun i9 k9 h9 => by rw [ef392]; exact zu_n (by omega))
            have hMx := zMx.ci (fi' := f392) hMx (fun i9 k9 h9 => by rw [ef392]; exact zu_n (by omega))
            have hMd := zMd.ci (fi' := f392) hMd (fun i9 k9 h9 => by rw [ef392]; exact zu_n (by omega))
            refine lv_iconst (v := nI 0) hx hb dX12_rules_150 (by decide) ?_
            refine W.widen (k := 0) (n := 0) (by decide) (by decide) ?_
            exact W.iret (v := nI 0) hx hb hr (fun t9 ht9 hW9 => ⟨⟨nI 0, f392, rfl, ⟨q394, hMx, fun a b h => by rw [ef392, zu_n (by omega), hf386 a b (by omega), hf331 a b (by omega)]; exact hfr2 a b (by omega)⟩, zEnd1 hH ht9 hW9⟩, hS.F ht9⟩) hS.2.2 dX12_rules_151
      · have zc275 := c275
        replace zc275 := zc_neq (rfl) ((by decide : (0 : Int32).toInt = 0)) zc275
        refine lv_aload_n hx hb dX12_rules_76 rfl (lv_at hl 0 rfl) ?_
        refine va_calli (va_runV (As := []) (rest := []) ⟨hx, hb, hml, hown, hts⟩ (m_readRule l hl0 D A sad τ f2 fr ol L c hF p22 p23 (by omega) (by omega) n hMt hMd) (cwV 0 hts gX12_rules_X12_readRule rfl rfl rfl (by decide +kernel) ⟨Nat.le_of_ble_eq_true rfl, Nat.le_of_ble_eq_true rfl⟩) ⟨zQc_bl, zRecv hH (zk_30 hF) rfl, zQc_at hz hS hA hH⟩ rfl rfl hl.1 rfl (lv_room (Nat.le_of_ble_eq_true rfl)) dX12_rules_77 ⟨Nat.le_of_ble_eq_true rfl, Nat.le_of_ble_eq_true rfl⟩) hS (fun q _ h => h) (fun q h => h) (fun r398 u9 t9 H1 locs ht9 hvm9 hw hB hz1 hk1 hS => ?_)
        have hH := zMv ht9 hvm9 hB
        clear hB
        generalize u9 = f399 at hw hH
        generalize H1 = H at hH hS ⊢
        obtain ⟨hr406, ⟨c400, hc401, hc402, q403, hx404⟩, hMd, hf405⟩ := hw
        have q407 : f399 30 22 = nI L := by rw [hf405 30 22 (by omega)]; exact p22
        have q408 : f399 30 21 = nI 0 := by rw [hf405 30 21 (by omega)]; exact p21
        have q409 : f399 30 2 = nI n := by rw [hf405 30 2 (by omega)]; exact p2
        have hMt := zMt.ci (fi' := f399) hMt (fun i9 k9 h9 => hf405 i9 k9 (by omega))
        have hMx := zMx.ci (fi' := f399) hMx (fun i9 k9 h9 => hf405 i9 k9 (by omega))
        rcases hr406 with rfl | rfl
        · skip
          refine lv_istore_n (lv' := [(3, .int 0), (0, .ref (τ.1 30)), (1, .int y1), (2, .int (nI m2))]) hx hb dX12_rules_80 rfl hl (by decide) rfl (fun ls hl => ?_)
          obtain ⟨v410, ev410⟩ : ∃ y : Int32, y = y1 + 1 := ⟨_, rfl⟩
          refine lv_iinc (v := v410) (lv' := [(1, .int v410), (3, .int 0), (0, .ref (τ.1 30)), (2, .int (nI m2))]) hx hb dX12_rules_81 hl (k := 2) rfl (by rw [ev410]; rfl) (by decide) rfl (fun ls hl => ?_)
          refine lv_iload_n hx hb dX12_rules_84 rfl (lv_at hl 1 rfl) ?_
          refine lv_if_eq (tgt := 101) hx hb dX12_rules_85 (by decide) (fun c411 => ?_) (fun c411 => absurd (by decide) c411)
          refine lv_iconst (v := nI 0) hx hb dX12_rules_101 (by decide) ?_
          refine lv_istore_n (lv' := [(2, .int (nI 0)), (1, .int v410), (3, .int 0), (0, .ref (τ.1 30))]) hx hb dX12_rules_102 rfl hl (by decide) rfl (fun ls hl => ?_)
          refine lv_iload_n hx hb dX12_rules_103 rfl (lv_at hl 0 rfl) ?_
          refine lv_if_eq (tgt := 68) hx hb dX12_rules_104 (by decide) (fun c412 => ?_) (fun c412 => absurd (by decide) c412)
          exact ih151 (2 * (L - c400) + 0) (by omega) (_, 0, 0, c400, f399) _ _ _ (show 2 * (L - c400) + 0 = 2 * (L - c400) + 0 ∧ (c400 ≤ L ∧ 0 ≤ 1 ∧ f399 30 23 = nI c400 ∧ zMd f399 n ∧ (f399 30 22 = nI L ∧ f399 30 21 = nI 0) ∧ ∀ a b, ¬ (a = 45 ∨ a = 46 ∨ (a = 30 ∧ (b = 0 ∨ (21 ≤ b ∧ b ≤ 25)))) → f399 a b = fi a b) ∧ zH D A τ f399 fr ol s _ ∧ va_S A s.heap _ _ ∧ lv_has _ 5 [(0, .ref (τ.1 30)), (1, .int _), (2, .int (nI 0)), (3, .int 0)] from ⟨rfl, ⟨by omega, by omega, q403, hMd, ⟨q407, q408⟩, fun a b h => by rw [hf405 a b (by omega)]; exact hfr2 a b h⟩, hH, hS, lv_sub hl [3, 1, 0, 2] rfl⟩)
        · skip
          refine lv_istore_n (lv' := [(3, .int 1), (0, .ref (τ.1 30)), (1, .int y1), (2, .int (nI m2))]) hx hb dX12_rules_80 rfl hl (by decide) rfl (fun ls hl => ?_)
          obtain ⟨v413, ev413⟩ : ∃ y : Int32, y = y1 + 1 := ⟨_, rfl⟩
          refine lv_iinc (v := v413) (lv' := [(1, .int v413), (3, .int 1), (0, .ref (τ.1 30)), (2, .int (nI m2))]) hx hb dX12_rules_81 hl (k := 2) rfl (by rw [ev413]; rfl) (by decide) rfl (fun ls hl => ?_)
          refine lv_iload_n hx hb dX12_rules_84 rfl (lv_at hl 1 rfl) ?_
          refine lv_if_eq (tgt := 101) hx hb dX12_rules_85 (by decide) (fun c414 => absurd c414 (by decide)) (fun c414 => ?_)
          refine lv_aload_n hx hb dX12_rules_88 rfl (lv_at hl 2 rfl) ?_
          refine va_calli (va_runV (As := []) (rest := []) ⟨hx, hb, hml, hown, hts⟩ (m_sign l hl0 D A sad τ f399 fr ol L c400 hF q407 q403 (by omega) (by omega)) (cwV 0 hts gX12_rules_X12_sign rfl rfl rfl (by decide +kernel) ⟨Nat.le_of_ble_eq_true rfl, Nat.le_of_ble_eq_true rfl⟩) ⟨zQc_bl, zRecv hH (zk_30 hF) rfl, zQc_at hz hS hA hH⟩ rfl rfl hl.1 rfl (lv_room (Nat.le_of_ble_eq_true rfl)) dX12_rules_89 ⟨Nat.le_of_ble_eq_true rfl, Nat.le_of_ble_eq_true rfl⟩) hS (fun q _ h => h) (fun q h => h) (fun r415 u9 t9 H1 locs ht9 hvm9 hw hB hz1 hk1 hS => ?_)
          have hH := zMv ht9 hvm9 hB
          clear hB
          generalize u9 = f416 at hw hH
          generalize H1 = H at hH hS ⊢
          obtain ⟨hr423, ⟨c417, hc418, hc419, q420, hx421⟩, hf422⟩ := hw
          have q424 : f416 30 22 = nI L := by rw [hf422 30 22 (by omega)]; exact q407
          have q425 : f416 30 21 = nI 0 := by rw [hf422 30 21 (by omega)]; exact q408
          have q426 : f416 30 2 = nI n := by rw [hf422 30 2 (by omega)]; exact q409
          have hMt := zMt.ci (fi' := f416) hMt (fun i9 k9 h9 => hf422 i9 k9 (by omega))
          have hMx := zMx.ci (fi' := f416) hMx (fun i9 k9 h9 => hf422 i9 k9 (by omega))
          have hMd := zMd.ci (fi' := f416) hMd (fun i9 k9 h9 => hf422 i9 k9 (by omega))
          refine lv_bipush (v := nI 59) hx hb dX12_rules_92 (by decide) ?_
          refine lv_icmp_ne (tgt := 101) hx hb dX12_rules_94 (by decide) (fun c427 => ?_) (fun c427 => ?_)
          · have zc427 := c427
            replace zc427 := zc_neq (rfl) (nI_toInt (by omega)) zc427
            refine lv_iconst (v := nI 0) hx hb dX12_rules_101 (by decide) ?_
            refine lv_istore_n (lv' := [(2, .int (nI 0)), (1, .int v413), (3, .int 1), (0, .ref (τ.1 30))]) hx hb dX12_rules_102 rfl hl (by decide) rfl (fun ls hl => ?_)
            refine lv_iload_n hx hb dX12_rules_103 rfl (lv_at hl 0 rfl) ?_
            refine lv_if_eq (tgt := 68) hx hb dX12_rules_104 (by decide) (fun c428 => ?_) (fun c428 => absurd (by decide) c428)
            exact ih151 (2 * (L - c417) + 0) (by omega) (_, 0, 1, c417, f416) _ _ _ (show 2 * (L - c417) + 0 = 2 * (L - c417) + 0 ∧ (c417 ≤ L ∧ 0 ≤ 1 ∧ f416 30 23 = nI c417 ∧ zMd f416 n ∧ (f416 30 22 = nI L ∧ f416 30 21 = nI 0) ∧ ∀ a b, ¬ (a = 45 ∨ a = 46 ∨ (a = 30 ∧ (b = 0 ∨ (21 ≤ b ∧ b ≤ 25)))) → f416 a b = fi a b) ∧ zH D A τ f416 fr ol s _ ∧ va_S A s.heap _ _ ∧ lv_has _ 5 [(0, .ref (τ.1 30)), (1, .int _), (2, .int (nI 0)), (3, .int 1)] from ⟨rfl, ⟨by omega, by omega, q420, hMd, ⟨q424, q425⟩, fun a b h => by rw [hf422 a b (by omega), hf405 a b (by omega)]; exact hfr2 a b h⟩, hH, hS, lv_sub hl [3, 1, 0, 2] rfl⟩)
          · have zc427 := c427
            replace zc427 := zc_eq (rfl) (nI_toInt (by omega)) zc427
            have hcl : c417 < L := by rcases hx421 with h9 | h9; exact h9; (rw [h9] at zc427; exact absurd zc427 (by decide))
            refine lv_iconst (v := nI 1) hx hb dX12_rules_97 (by decide) ?_
            refine lv_goto (tgt := 102) hx hb dX12_rules_98 (by decide) ?_
            refine lv_istore_n (lv' := [(2, .int (nI 1)), (1, .int v413), (3, .int 1), (0, .ref (τ.1 30))]) hx hb dX12_rules_102 rfl hl (by decide) rfl (fun ls hl => ?_)
            refine lv_iload_n hx hb dX12_rules_103 rfl (lv_at hl 0 rfl) ?_
            refine lv_if_eq (tgt := 68) hx hb dX12_rules_104 (by decide) (fun c429 => absurd c429 (by decide)) (fun c429 => ?_)
            refine lv_aload_n hx hb dX12_rules_107 rfl (lv_at hl 3 rfl) ?_
            refine lv_dup hx hb dX12_rules_108 rfl ?_
            refine zGetI (D := D) (ci := 12) (C := RX12) (T := TX12) (N := 71) hx hb hts hiX12 hown hH (zk_30 hF) rfl 23 (by decide) rfl hw7 (fun _ h9 => h9) dX12_rules_109 q420 ?_
            refine lv_iconst (v := nI 1) hx hb dX12_rules_112 (by decide) ?_
            refine lv_iadd hx hb dX12_rules_113 ?_
            refine lv_topi (fun v430 ev430 => ?_)
            obtain rfl : v430 = nI (c417 + 1) := ev430.trans (nI_add _ _)
            refine zPutI (D := D) (ci := 12) (ty := .int) (C := RX12) (T := TX12) (N := 71) hx hb hts hiX12 tyX12 tyX12_ok nmX12 hown hH hS (zk_30 hF) rfl 23 (by decide) rfl hw7 (fun _ h9 => h9) rfl (by decide +kernel) rfl rfl dX12_rules_114 (fun H locs hH hS => ?_)
            obtain ⟨f431, ef431⟩ : ∃ f9 : zFi, f9 = zu f416 30 23 (nI (c417 + 1)) := ⟨_, rfl⟩
            rw [← ef431] at hH
            have q432 : f431 30 22 = nI L := by rw [ef431, zu_n (fun h9 => absurd h9.2 (by decide))]; exact q424
            have q433 : f431 30 21 = nI 0 := by rw [ef431, zu_n (fun h9 => absurd h9.2 (by decide))]; exact q425
            have q434 : f431 30 2 = nI n := by rw [ef431, zu_n (fun h9 => absurd h9.2 (by decide))]; exact q426
            have q435 : f431 30 23 = nI (c417 + 1) := by rw [ef431]; exact zu_s
            have hMt := zMt.ci (fi' := f431) hMt (fun i9 k9 h9 => by rw [ef431]; exact zu_n (by omega))
            have hMx := zMx.ci (fi' := f431) hMx (fun i9 k9 h9 => by rw [ef431]; exact zu_n (by omega))
            have hMd := zMd.ci (fi' := f431) hMd (fun i9 k9 h9 => by rw [ef431]; exact zu_n (by omega))
            refine lv_goto (tgt := 68) hx hb dX12_rules_117 (by decide) ?_
            exact ih151 (2 * (L - (c417 + 1)) + 1) (by omega) (_, 1, 1, c417 + 1, f431) _ _ _ (show 2 * (L - (c417 + 1)) + 1 = 2 * (L - (c417 + 1)) + 1 ∧ ((c417 + 1) ≤ L ∧ 1 ≤ 1 ∧ f431 30 23 = nI (c417 + 1) ∧ zMd f431 n ∧ (f431 30 22 = nI L ∧ f431 30 21 = nI 0) ∧ ∀ a b, ¬ (a = 45 ∨ a = 46 ∨ (a = 30 ∧ (b = 0 ∨ (21 ≤ b ∧ b ≤ 25)))) → f431 a b = fi a b) ∧ zH D A τ f431 fr ol s _ ∧ va_S A s.heap _ _ ∧ lv_has _ 5 [(0, .ref (τ.1 30)), (1, .int _), (2, .int (nI 1)), (3, .int 1)] from ⟨rfl, ⟨by omega, by omega, q435, hMd, ⟨q432, q433⟩, fun a b h => by rw [ef431, zu_n (by omega), hf422 a b (by omega), hf405 a b (by omega)]; exact hfr2 a b h⟩, hH, hS, lv_sub hl [3, 1, 0, 2] rfl⟩)
  · have zc150 := c150
    replace zc150 := zc_nle (nI_toInt (by omega)) (nI_toInt (by omega)) zc150
    refine lv_aload_n hx hb dX12_rules_44 rfl (lv_at hl 0 rfl) ?_
    refine zGetR (D := D) (ci := 12) (C := RX12) (T := TX12) (N := 71) hx hb hts hiX12 hown hH (zk_30 hF) rfl 19 (by decide) rfl hw6 (fun _ h9 => h9) dX12_rules_45 (zr_30_19 hF) ?_
    refine lv_iload_n hx hb dX12_rules_48 rfl (lv_at hl 1 rfl) ?_
    refine lv_aload_n hx hb dX12_rules_49 rfl (lv_at hl 0 rfl) ?_
    refine zGetR (D := D) (ci := 12) (C := RX12) (T := TX12) (N := 71) hx hb hts hiX12 hown hH (zk_30 hF) rfl 12 (by decide) rfl hw5 (fun _ h9 => h9) dX12_rules_50 (zr_30_12 hF) ?_
    refine lv_iload_n hx hb dX12_rules_53 rfl (lv_at hl 1 rfl) ?_
    refine zIaldN (D := D) hx hb hH (zk_40 hF) (zn_40 hF) (by omega) (by omega) rfl dX12_rules_54 ?_
    refine zIastN (D := D) hx hb hH hS (zk_46 hF) (zn_46 hF) (by omega) (by omega) dX12_rules_55 (fun H locs hH hS => ?_)
    obtain ⟨f436, ef436⟩ : ∃ f9 : zFi, f9 = zu f 46 i (f 40 i) := ⟨_, rfl⟩
    rw [← ef436] at hH
    have q437 : f436 30 22 = nI L := by rw [ef436, zu_n (fun h9 => absurd h9.1 (by decide))]; exact p22
    have q438 : f436 30 21 = nI 0 := by rw [ef436, zu_n (fun h9 => absurd h9.1 (by decide))]; exact p21
    have q439 : f436 30 23 = nI 0 := by rw [ef436, zu_n (fun h9 => absurd h9.1 (by decide))]; exact p23
    have q440 : f436 30 2 = nI n := by rw [ef436, zu_n (fun h9 => absurd h9.1 (by decide))]; exact p2
    have q441 : f436 46 i = f 40 i := by rw [ef436]; exact zu_s
    have hMt := zMt.ci (fi' := f436) hMt (fun i9 k9 h9 => by rw [ef436]; exact zu_n (by omega))
    have hMx := zMx.ci (fi' := f436) hMx (fun i9 k9 h9 => by rw [ef436]; exact zu_n (by omega))
    refine lv_iinc (v := nI (i + 1)) (lv' := [(1, .int (nI (i + 1))), (0, .ref (τ.1 30))]) hx hb dX12_rules_56 hl (k := 1) rfl (by rw [show (Int32.ofInt 1 : Int32) = nI 1 from by decide, nI_add]) (by decide) rfl (fun ls hl => ?_)
    refine lv_goto (tgt := 36) hx hb dX12_rules_59 (by decide) ?_
    exact ih149 (n - (i + 1)) (by omega) (i + 1, f436) _ _ _ (show n - (i + 1) = n - (i + 1) ∧ ((i + 1) ≤ n ∧ (∀ t, t < (i + 1) → f436 46 t = -1 ∨ ∃ t2, t2 < n ∧ f436 46 t = nI t2) ∧ (f436 30 22 = nI L ∧ f436 30 21 = nI 0 ∧ f436 30 23 = nI 0) ∧ ∀ a b, ¬ (a = 45 ∨ a = 46 ∨ (a = 30 ∧ (b = 0 ∨ (21 ≤ b ∧ b ≤ 25)))) → f436 a b = fi a b) ∧ zH D A τ f436 fr ol s _ ∧ va_S A s.heap _ _ ∧ lv_has _ 5 [(0, .ref (τ.1 30)), (1, .int (nI (i + 1)))] from ⟨rfl, ⟨by omega, fun j h => by by_cases h7 : j = i; (subst h7; rw [ef436, zu_s, hfr _ _ (by omega)]; exact hMx0 j (by omega)); (rw [ef436, zu_n (by omega)]; exact hdo j (by omega)), ⟨q437, q438, q439⟩, fun a b h => by rw [ef436, zu_n (by omega)]; exact hfr a b h⟩, hH, hS, lv_sub hl [1, 0] rfl⟩)
