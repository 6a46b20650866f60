set_option maxHeartbeats 4000000 in
set_option maxRecDepth 100000 in
/-- X12_init -/
theorem i_M (l : Launch) (hl0 : l.stackTraces = false) (D : va_G) (A : Nat → Prop) (sad : Nat → Nat) (τ : zTy) (fi : zFi) (fr : zFr) (ol : Int64) (hB : zBI τ fi fr 31 200 10 30 0) : Met l yX12_init wsX12_init ({ frames := 1, cells := 50, slots := 19992, locals := 12 }) (va_Pc [.ref (τ.1 30)] (zQc D A sad τ fi fr ol)) (va_Qv (fun (u : zTy × zFi × zFr) => zBI u.1 u.2.1 u.2.2 73 208 10 30 71 ∧ (∀ i, i ≤ 30 → u.1.1 i = τ.1 i) ∧ zIV fi u.2.1 30 ∧ (∀ t, t < 30 → u.2.1 40 t = -1) ∧ zRv u.2.1 44 40 ∧ u.2.1 30 24 = -1) (fun (u : zTy × zFi × zFr) (t : State) => zH D A u.1 u.2.1 u.2.2 ol t t.heap) A) 50 19992 A := by
  refine Met.ofW (cc := cX12_init) (maxL := 2) (ret := none) (by decide) rfl ?_
  intro p9 e9 s m args below meth c9 s₁ B hml hv
  obtain ⟨rfl, hz, hH, hA⟩ := hv
  have hx := B.exec
  have hb := B.bytes
  have hr := B.returns
  have hts := atoms_spec (ws := wsX12_init) B.pre
  have hown : s.vm.findClass RX12 = some m.cls := findClass_of_methodNamed B.named
  have hlocks := B.notSynchronized
  have hin : meth.name = "<init>" := (name_of_methodNamed B.named B.method).1
  replace hS : va_S A s.heap s.heap [] := va_S.rf
  have hl := lv_entry ([.ref (τ.1 30)]) (n := 2) (Nat.le_of_ble_eq_true rfl)
  rw [lg_entry_eq]
  generalize (lg_sl ([.ref (τ.1 30)]) ++ List.replicate (2 - (lg_sl ([.ref (τ.1 30)])).length) Slot.unset).toArray = ls at hl ⊢
  have hl : lv_has ls 2 [(0, .ref (τ.1 30))] := hl
  replace hV : zIV fi fi 30 := fun _ _ _ => rfl
  have hw0 := hts (.methodLink RX12 1 objectInit) (by decide +kernel)
  have hw1 := hts (.instanceMethod objectInit) (by decide +kernel)
  have hw2 := hts (.code objectInit ⟨#[0xb1]⟩ 1 none) (by decide +kernel)
  have hw3 := hts (.arrayClass .int) (by decide +kernel)
  have hw4 := hts (.fieldLink RX12 7 "PostHouseModel" "code" "[I") (by decide +kernel)
  have hiX12 : ∀ w ∈ u_ws RX12 TX12 71, w ∈ wsX12_init := fun _ h => List.mem_cons_of_mem _ (List.mem_append_right _ h)
  have hw6 := hts (.fieldLink RX12 13 "PostHouseModel" "weight" "[I") (by decide +kernel)
  have hw7 := hts (.fieldLink RX12 16 "PostHouseModel" "street" "[I") (by decide +kernel)
  have hw8 := hts (.fieldLink RX12 19 "PostHouseModel" "place" "[I") (by decide +kernel)
  have hw9 := hts (.fieldLink RX12 22 "PostHouseModel" "stock" "[I") (by decide +kernel)
  have hw10 := hts (.fieldLink RX12 25 "PostHouseModel" "prices" "[I") (by decide +kernel)
  have hw11 := hts (.fieldLink RX12 28 "PostHouseModel" "priceMoney" "[I") (by decide +kernel)
  have hw12 := hts (.fieldLink RX12 31 "PostHouseModel" "priceFrom" "[I") (by decide +kernel)
  have hw13 := hts (.fieldLink RX12 34 "PostHouseModel" "priceTo" "[I") (by decide +kernel)
  have hw14 := hts (.fieldLink RX12 37 "PostHouseModel" "other" "[I") (by decide +kernel)
  have hw15 := hts (.fieldLink RX12 40 "PostHouseModel" "comingThing" "[I") (by decide +kernel)
  have hw16 := hts (.fieldLink RX12 43 "PostHouseModel" "comingDay" "[I") (by decide +kernel)
  have hw17 := hts (.fieldLink RX12 46 "PostHouseModel" "comingMany" "[I") (by decide +kernel)
  have hw18 := hts (.fieldLink RX12 49 "PostHouseModel" "rule" "[I") (by decide +kernel)
  have hw19 := hts (.fieldLink RX12 52 "PostHouseModel" "draft" "[I") (by decide +kernel)
  have hw20 := hts (.fieldLink RX12 55 "PostHouseModel" "draftOther" "[I") (by decide +kernel)
  have hw21 := hts (.fieldLink RX12 58 "PostHouseModel" "tape" "[I") (by decide +kernel)
  have hw22 := hts (.fieldLink RX12 61 "PostHouseModel" "fault" "I") (by decide +kernel)
  have hw23 := hts (.fieldLink RX12 65 "PostHouseModel" "lineCode" "[I") (by decide +kernel)
  have hw24 := hts (.fieldLink RX12 68 "PostHouseModel" "lineMany" "[I") (by decide +kernel)
  have hw25 := hts (.arrayClass .boolean) (by decide +kernel)
  have hw26 := hts (.fieldLink RX12 71 "PostHouseModel" "doubtWaits" "[Z") (by decide +kernel)
  have hw27 := hts (.fieldLink RX12 75 "PostHouseModel" "doubtMendings" "[I") (by decide +kernel)
  have hw28 := hts (.fieldLink RX12 78 "PostHouseModel" "doubtLines" "[I") (by decide +kernel)
  have hw29 := hts (.fieldLink RX12 81 "PostHouseModel" "doubtKnown" "[I") (by decide +kernel)
  have hw30 := hts (.fieldLink RX12 84 "PostHouseModel" "doubtSum" "[I") (by decide +kernel)
  have hw31 := hts (.fieldLink RX12 87 "PostHouseModel" "doubtMoney" "[I") (by decide +kernel)
  have hw32 := hts (.fieldLink RX12 90 "PostHouseModel" "doubtCode" "[I") (by decide +kernel)
  have hw33 := hts (.fieldLink RX12 93 "PostHouseModel" "doubtMany" "[I") (by decide +kernel)
  have hw34 := hts (.fieldLink RX12 96 "PostHouseModel" "orderDay" "[I") (by decide +kernel)
  have hw35 := hts (.fieldLink RX12 99 "PostHouseModel" "orderMoney" "[I") (by decide +kernel)
  have hw36 := hts (.fieldLink RX12 102 "PostHouseModel" "orderCredit" "[I") (by decide +kernel)
  have hw37 := hts (.fieldLink RX12 105 "PostHouseModel" "orderPost" "[I") (by decide +kernel)
  have hw38 := hts (.fieldLink RX12 108 "PostHouseModel" "wants" "[I") (by decide +kernel)
  have hw39 := hts (.fieldLink RX12 111 "PostHouseModel" "wantThing" "[I") (by decide +kernel)
  have hw40 := hts (.fieldLink RX12 114 "PostHouseModel" "wantMany" "[I") (by decide +kernel)
  have hw41 := hts (.fieldLink RX12 117 "PostHouseModel" "wantPrice" "[I") (by decide +kernel)
  have hw42 := hts (.fieldLink RX12 120 "PostHouseModel" "wantSent" "[I") (by decide +kernel)
  have hw43 := hts (.fieldLink RX12 123 "PostHouseModel" "wantPlaced" "[I") (by decide +kernel)
  have hw44 := hts (.fieldLink RX12 126 "PostHouseModel" "wantCancelled" "[I") (by decide +kernel)
  have hw45 := hts (.fieldLink RX12 129 "PostHouseModel" "wantReturned" "[I") (by decide +kernel)
  have hw46 := hts (.fieldLink RX12 132 "PostHouseModel" "wantPlacedBack" "[I") (by decide +kernel)
  have hw47 := hts (.fieldLink RX12 135 "PostHouseModel" "wantDay" "[I") (by decide +kernel)
  have hw48 := hts (.fieldLink RX12 138 "PostHouseModel" "wantOther" "[I") (by decide +kernel)
  have hw49 := hts (.fieldLink RX12 141 "PostHouseModel" "sendingOrder" "[I") (by decide +kernel)
  have hw50 := hts (.fieldLink RX12 144 "PostHouseModel" "sendingDay" "[I") (by decide +kernel)
  have hw51 := hts (.fieldLink RX12 147 "PostHouseModel" "sendingPieces" "[I") (by decide +kernel)
  have hw52 := hts (.fieldLink RX12 150 "PostHouseModel" "sendingParcels" "[I") (by decide +kernel)
  have hw53 := hts (.fieldLink RX12 153 "PostHouseModel" "piecesOf" "[I") (by decide +kernel)
  have hw54 := hts (.fieldLink RX12 156 "PostHouseModel" "parcel" "[I") (by decide +kernel)
  have hw55 := hts (.fieldLink RX12 159 "PostHouseModel" "pick" "[I") (by decide +kernel)
  have hw56 := hts (.fieldLink RX12 162 "PostHouseModel" "way" "[I") (by decide +kernel)
  refine lv_aload_n hx hb dX12_init_0 rfl (lv_at hl 0 rfl) ?_
  refine W.objInit hx hb hown hw0 hw1 hw2 rfl (by rw [hml]; exact hl.1) rfl dX12_init_1 (Nat.le_of_ble_eq_true rfl) (Nat.le_of_ble_eq_true rfl) ?_
  refine W.eq (g2 := F0 m 4 ls []) rfl ?_
  refine lv_aload_n hx hb dX12_init_4 rfl (lv_at hl 0 rfl) ?_
  refine lv_bipush (v := nI 30) hx hb dX12_init_5 (by decide) ?_
  refine zNewa (D := D) (atype := .int) (t := 1) (N' := 30) hx hb hw3 rfl (by decide) (by decide) rfl hH hS hA 31 (hB.2.1 31 (by omega)).1 (by decide) (by decide) (by first | decide | (simp only [zT, componentBytes]; omega)) (Nat.le_of_ble_eq_true rfl) (Nat.le_of_ble_eq_true rfl) dX12_init_7 (fun q9 c9 H hH8 hS => ?_)
  obtain ⟨τ101, eτ101⟩ : ∃ t9 : zTy, t9 = (va_up τ.1 31 q9, va_up τ.2.1 31 c9, va_up τ.2.2.1 31 1, va_up τ.2.2.2 31 30) := ⟨_, rfl⟩
  obtain ⟨f102, ef102⟩ : ∃ f9 : zFi, f9 = va_up fi 31 (fun _ => 0) := ⟨_, rfl⟩
  obtain ⟨g103, eg103⟩ : ∃ f9 : zFr, f9 = va_up fr 31 (fun _ => none) := ⟨_, rfl⟩
  replace hH : zH D A τ101 f102 g103 ol s H := by rw [eτ101, ef102, eg103]; exact hH8
  clear hH8
  have hqτ101 : τ101.1 31 = q9 := by rw [eτ101]; exact va_up_self τ.1 31 q9
  have haτ101 : ∀ i, i ≠ 31 → τ101.1 i = τ.1 i := fun i h => by rw [eτ101]; exact va_up_ne _ _ h
  have hkτ101 : τ101.2.2.1 31 = 1 := by rw [eτ101]; exact va_up_self τ.2.2.1 31 1
  have hnτ101 : τ101.2.2.2 31 = 30 := by rw [eτ101]; exact va_up_self τ.2.2.2 31 30
  have hbτ101 : ∀ i, i ≠ 31 → τ101.2.2.1 i = τ.2.2.1 i ∧ τ101.2.2.2 i = τ.2.2.2 i := fun i h => by rw [eτ101]; exact ⟨va_up_ne _ _ h, va_up_ne _ _ h⟩
  clear eτ101
  subst hqτ101
  rw [show τ.1 30 = τ101.1 30 from (haτ101 30 (by omega)).symm] at hl
  refine W.eq (g2 := F0 m 9 ls [.ref (τ101.1 31), .ref (τ101.1 30)]) (by rw [haτ101 30 (by omega)]) ?_
  replace hB := zBI.born (i := 31) (a' := 32) (b' := 200) hB (by omega) (by omega) hkτ101 hnτ101 hbτ101 ef102 eg103 (by decide) (by decide) (by decide)
  clear eg103 hkτ101 hnτ101 hbτ101
  replace hAd : ∀ i, i ≤ 30 → τ101.1 i = τ.1 i := fun i h => by rw [haτ101 i (by omega)]
  clear haτ101
  replace hV := hV.born ef102 (by omega)
  clear ef102
  refine W.widen (k := 1) (n := 30) (by decide) (by decide) ?_
  refine zPutFR (D := D) (ci := 12) (ty := .array .int) (C := RX12) (T := TX12) (N := 71) hx hb hts hiX12 tyX12 tyX12_ok nmX12 hown hH hS ((hB.1 30 (by omega)).1.trans (by decide : zkt 30 = 28)) rfl 3 (by decide) rfl hw4 (fun _ h9 => h9) rfl hin rfl (by rw [((hB.1 31 (by omega)).1.trans (by decide : zkt 31 = 1))]; decide)  (by decide +kernel) rfl rfl dX12_init_9 (fun H locs hH hS => ?_)
  obtain ⟨g104, eg104⟩ : ∃ f9 : zFr, f9 = zur g103 30 3 (some 31) := ⟨_, rfl⟩
  rw [← eg104] at hH
  replace hB := zBI.ref hB eg104 (by omega) (by omega) (by decide +kernel)
  clear eg104
  refine lv_aload_n hx hb dX12_init_12 rfl (lv_at hl 0 rfl) ?_
  refine lv_bipush (v := nI 30) hx hb dX12_init_13 (by decide) ?_
  refine zNewa (D := D) (atype := .int) (t := 1) (N' := 30) hx hb hw3 rfl (by decide) (by decide) rfl hH hS hA 32 (hB.2.1 32 (by omega)).1 (by decide) (by decide) (by first | decide | (simp only [zT, componentBytes]; omega)) (Nat.le_of_ble_eq_true rfl) (Nat.le_of_ble_eq_true rfl) dX12_init_15 (fun q9 c9 H hH8 hS => ?_)
  obtain ⟨τ106, eτ106⟩ : ∃ t9 : zTy, t9 = (va_up τ101.1 32 q9, va_up τ101.2.1 32 c9, va_up τ101.2.2.1 32 1, va_up τ101.2.2.2 32 30) := ⟨_, rfl⟩
  obtain ⟨f107, ef107⟩ : ∃ f9 : zFi, f9 = va_up f102 32 (fun _ => 0) := ⟨_, rfl⟩
  obtain ⟨g108, eg108⟩ : ∃ f9 : zFr, f9 = va_up g104 32 (fun _ => none) := ⟨_, rfl⟩
  replace hH : zH D A τ106 f107 g108 ol s H := by rw [eτ106, ef107, eg108]; exact hH8
  clear hH8
  have hqτ106 : τ106.1 32 = q9 := by rw [eτ106]; exact va_up_self τ101.1 32 q9
  have haτ106 : ∀ i, i ≠ 32 → τ106.1 i = τ101.1 i := fun i h => by rw [eτ106]; exact va_up_ne _ _ h
  have hkτ106 : τ106.2.2.1 32 = 1 := by rw [eτ106]; exact va_up_self τ101.2.2.1 32 1
  have hnτ106 : τ106.2.2.2 32 = 30 := by rw [eτ106]; exact va_up_self τ101.2.2.2 32 30
  have hbτ106 : ∀ i, i ≠ 32 → τ106.2.2.1 i = τ101.2.2.1 i ∧ τ106.2.2.2 i = τ101.2.2.2 i := fun i h => by rw [eτ106]; exact ⟨va_up_ne _ _ h, va_up_ne _ _ h⟩
  clear eτ106
  subst hqτ106
  rw [show τ101.1 30 = τ106.1 30 from (haτ106 30 (by omega)).symm] at hl
  refine W.eq (g2 := F0 m 17 ls [.ref (τ106.1 32), .ref (τ106.1 30)]) (by rw [haτ106 30 (by omega)]) ?_
  replace hB := zBI.born (i := 32) (a' := 33) (b' := 200) hB (by omega) (by omega) hkτ106 hnτ106 hbτ106 ef107 eg108 (by decide) (by decide) (by decide)
  clear eg108 hkτ106 hnτ106 hbτ106
  replace hAd : ∀ i, i ≤ 30 → τ106.1 i = τ.1 i := fun i h => by rw [haτ106 i (by omega)]; exact hAd i h
  clear haτ106
  replace hV := hV.born ef107 (by omega)
  clear ef107
  refine W.widen (k := 2) (n := 60) (by decide) (by decide) ?_
  refine zPutFR (D := D) (ci := 12) (ty := .array .int) (C := RX12) (T := TX12) (N := 71) hx hb hts hiX12 tyX12 tyX12_ok nmX12 hown hH hS ((hB.1 30 (by omega)).1.trans (by decide : zkt 30 = 28)) rfl 4 (by decide) rfl hw6 (fun _ h9 => h9) rfl hin rfl (by rw [((hB.1 32 (by omega)).1.trans (by decide : zkt 32 = 1))]; decide)  (by decide +kernel) rfl rfl dX12_init_17 (fun H locs hH hS => ?_)
  obtain ⟨g109, eg109⟩ : ∃ f9 : zFr, f9 = zur g108 30 4 (some 32) := ⟨_, rfl⟩
  rw [← eg109] at hH
  replace hB := zBI.ref hB eg109 (by omega) (by omega) (by decide +kernel)
  clear eg109
  refine lv_aload_n hx hb dX12_init_20 rfl (lv_at hl 0 rfl) ?_
  refine lv_bipush (v := nI 30) hx hb dX12_init_21 (by decide) ?_
  refine zNewa (D := D) (atype := .int) (t := 1) (N' := 30) hx hb hw3 rfl (by decide) (by decide) rfl hH hS hA 33 (hB.2.1 33 (by omega)).1 (by decide) (by decide) (by first | decide | (simp only [zT, componentBytes]; omega)) (Nat.le_of_ble_eq_true rfl) (Nat.le_of_ble_eq_true rfl) dX12_init_23 (fun q9 c9 H hH8 hS => ?_)
  obtain ⟨τ111, eτ111⟩ : ∃ t9 : zTy, t9 = (va_up τ106.1 33 q9, va_up τ106.2.1 33 c9, va_up τ106.2.2.1 33 1, va_up τ106.2.2.2 33 30) := ⟨_, rfl⟩
  obtain ⟨f112, ef112⟩ : ∃ f9 : zFi, f9 = va_up f107 33 (fun _ => 0) := ⟨_, rfl⟩
  obtain ⟨g113, eg113⟩ : ∃ f9 : zFr, f9 = va_up g109 33 (fun _ => none) := ⟨_, rfl⟩
  replace hH : zH D A τ111 f112 g113 ol s H := by rw [eτ111, ef112, eg113]; exact hH8
  clear hH8
  have hqτ111 : τ111.1 33 = q9 := by rw [eτ111]; exact va_up_self τ106.1 33 q9
  have haτ111 : ∀ i, i ≠ 33 → τ111.1 i = τ106.1 i := fun i h => by rw [eτ111]; exact va_up_ne _ _ h
  have hkτ111 : τ111.2.2.1 33 = 1 := by rw [eτ111]; exact va_up_self τ106.2.2.1 33 1
  have hnτ111 : τ111.2.2.2 33 = 30 := by rw [eτ111]; exact va_up_self τ106.2.2.2 33 30
  have hbτ111 : ∀ i, i ≠ 33 → τ111.2.2.1 i = τ106.2.2.1 i ∧ τ111.2.2.2 i = τ106.2.2.2 i := fun i h => by rw [eτ111]; exact ⟨va_up_ne _ _ h, va_up_ne _ _ h⟩
  clear eτ111
  subst hqτ111
  rw [show τ106.1 30 = τ111.1 30 from (haτ111 30 (by omega)).symm] at hl
  refine W.eq (g2 := F0 m 25 ls [.ref (τ111.1 33), .ref (τ111.1 30)]) (by rw [haτ111 30 (by omega)]) ?_
  replace hB := zBI.born (i := 33) (a' := 34) (b' := 200) hB (by omega) (by omega) hkτ111 hnτ111 hbτ111 ef112 eg113 (by decide) (by decide) (by decide)
  clear eg113 hkτ111 hnτ111 hbτ111
  replace hAd : ∀ i, i ≤ 30 → τ111.1 i = τ.1 i := fun i h => by rw [haτ111 i (by omega)]; exact hAd i h
  clear haτ111
  replace hV := hV.born ef112 (by omega)
  clear ef112
  refine W.widen (k := 3) (n := 90) (by decide) (by decide) ?_
  refine zPutFR (D := D) (ci := 12) (ty := .array .int) (C := RX12) (T := TX12) (N := 71) hx hb hts hiX12 tyX12 tyX12_ok nmX12 hown hH hS ((hB.1 30 (by omega)).1.trans (by decide : zkt 30 = 28)) rfl 5 (by decide) rfl hw7 (fun _ h9 => h9) rfl hin rfl (by rw [((hB.1 33 (by omega)).1.trans (by decide : zkt 33 = 1))]; decide)  (by decide +kernel) rfl rfl dX12_init_25 (fun H locs hH hS => ?_)
  obtain ⟨g114, eg114⟩ : ∃ f9 : zFr, f9 = zur g113 30 5 (some 33) := ⟨_, rfl⟩
  rw [← eg114] at hH
  replace hB := zBI.ref hB eg114 (by omega) (by omega) (by decide +kernel)
  clear eg114
  refine lv_aload_n hx hb dX12_init_28 rfl (lv_at hl 0 rfl) ?_
  refine lv_bipush (v := nI 30) hx hb dX12_init_29 (by decide) ?_
  refine zNewa (D := D) (atype := .int) (t := 1) (N' := 30) hx hb hw3 rfl (by decide) (by decide) rfl hH hS hA 34 (hB.2.1 34 (by omega)).1 (by decide) (by decide) (by first | decide | (simp only [zT, componentBytes]; omega)) (Nat.le_of_ble_eq_true rfl) (Nat.le_of_ble_eq_true rfl) dX12_init_31 (fun q9 c9 H hH8 hS => ?_)
  obtain ⟨τ116, eτ116⟩ : ∃ t9 : zTy, t9 = (va_up τ111.1 34 q9, va_up τ111.2.1 34 c9, va_up τ111.2.2.1 34 1, va_up τ111.2.2.2 34 30) := ⟨_, rfl⟩
  obtain ⟨f117, ef117⟩ : ∃ f9 : zFi, f9 = va_up f112 34 (fun _ => 0) := ⟨_, rfl⟩
  obtain ⟨g118, eg118⟩ : ∃ f9 : zFr, f9 = va_up g114 34 (fun _ => none) := ⟨_, rfl⟩
  replace hH : zH D A τ116 f117 g118 ol s H := by rw [eτ116, ef117, eg118]; exact hH8
  clear hH8
  have hqτ116 : τ116.1 34 = q9 := by rw [eτ116]; exact va_up_self τ111.1 34 q9
  have haτ116 : ∀ i, i ≠ 34 → τ116.1 i = τ111.1 i := fun i h => by rw [eτ116]; exact va_up_ne _ _ h
  have hkτ116 : τ116.2.2.1 34 = 1 := by rw [eτ116]; exact va_up_self τ111.2.2.1 34 1
  have hnτ116 : τ116.2.2.2 34 = 30 := by rw [eτ116]; exact va_up_self τ111.2.2.2 34 30
  have hbτ116 : ∀ i, i ≠ 34 → τ116.2.2.1 i = τ111.2.2.1 i ∧ τ116.2.2.2 i = τ111.2.2.2 i := fun i h => by rw [eτ116]; exact ⟨va_up_ne _ _ h, va_up_ne _ _ h⟩
  clear eτ116
  subst hqτ116
  rw [show τ111.1 30 = τ116.1 30 from (haτ116 30 (by omega)).symm] at hl
  refine W.eq (g2 := F0 m 33 ls [.ref (τ116.1 34), .ref (τ116.1 30)]) (by rw [haτ116 30 (by omega)]) ?_
  replace hB := zBI.born (i := 34) (a' := 35) (b' := 200) hB (by omega) (by omega) hkτ116 hnτ116 hbτ116 ef117 eg118 (by decide) (by decide) (by decide)
  clear eg118 hkτ116 hnτ116 hbτ116
  replace hAd : ∀ i, i ≤ 30 → τ116.1 i = τ.1 i := fun i h => by rw [haτ116 i (by omega)]; exact hAd i h
  clear haτ116
  replace hV := hV.born ef117 (by omega)
  clear ef117
  refine W.widen (k := 4) (n := 120) (by decide) (by decide) ?_
  refine zPutFR (D := D) (ci := 12) (ty := .array .int) (C := RX12) (T := TX12) (N := 71) hx hb hts hiX12 tyX12 tyX12_ok nmX12 hown hH hS ((hB.1 30 (by omega)).1.trans (by decide : zkt 30 = 28)) rfl 6 (by decide) rfl hw8 (fun _ h9 => h9) rfl hin rfl (by rw [((hB.1 34 (by omega)).1.trans (by decide : zkt 34 = 1))]; decide)  (by decide +kernel) rfl rfl dX12_init_33 (fun H locs hH hS => ?_)
  obtain ⟨g119, eg119⟩ : ∃ f9 : zFr, f9 = zur g118 30 6 (some 34) := ⟨_, rfl⟩
  rw [← eg119] at hH
  replace hB := zBI.ref hB eg119 (by omega) (by omega) (by decide +kernel)
  clear eg119
  refine lv_aload_n hx hb dX12_init_36 rfl (lv_at hl 0 rfl) ?_
  refine lv_bipush (v := nI 30) hx hb dX12_init_37 (by decide) ?_
  refine zNewa (D := D) (atype := .int) (t := 1) (N' := 30) hx hb hw3 rfl (by decide) (by decide) rfl hH hS hA 35 (hB.2.1 35 (by omega)).1 (by decide) (by decide) (by first | decide | (simp only [zT, componentBytes]; omega)) (Nat.le_of_ble_eq_true rfl) (Nat.le_of_ble_eq_true rfl) dX12_init_39 (fun q9 c9 H hH8 hS => ?_)
  obtain ⟨τ121, eτ121⟩ : ∃ t9 : zTy, t9 = (va_up τ116.1 35 q9, va_up τ116.2.1 35 c9, va_up τ116.2.2.1 35 1, va_up τ116.2.2.2 35 30) := ⟨_, rfl⟩
  obtain ⟨f122, ef122⟩ : ∃ f9 : zFi, f9 = va_up f117 35 (fun _ => 0) := ⟨_, rfl⟩
  obtain ⟨g123, eg123⟩ : ∃ f9 : zFr, f9 = va_up g119 35 (fun _ => none) := ⟨_, rfl⟩
  replace hH : zH D A τ121 f122 g123 ol s H := by rw [eτ121, ef122, eg123]; exact hH8
  clear hH8
  have hqτ121 : τ121.1 35 = q9 := by rw [eτ121]; exact va_up_self τ116.1 35 q9
  have haτ121 : ∀ i, i ≠ 35 → τ121.1 i = τ116.1 i := fun i h => by rw [eτ121]; exact va_up_ne _ _ h
  have hkτ121 : τ121.2.2.1 35 = 1 := by rw [eτ121]; exact va_up_self τ116.2.2.1 35 1
  have hnτ121 : τ121.2.2.2 35 = 30 := by rw [eτ121]; exact va_up_self τ116.2.2.2 35 30
  have hbτ121 : ∀ i, i ≠ 35 → τ121.2.2.1 i = τ116.2.2.1 i ∧ τ121.2.2.2 i = τ116.2.2.2 i := fun i h => by rw [eτ121]; exact ⟨va_up_ne _ _ h, va_up_ne _ _ h⟩
  clear eτ121
  subst hqτ121
  rw [show τ116.1 30 = τ121.1 30 from (haτ121 30 (by omega)).symm] at hl
  refine W.eq (g2 := F0 m 41 ls [.ref (τ121.1 35), .ref (τ121.1 30)]) (by rw [haτ121 30 (by omega)]) ?_
  replace hB := zBI.born (i := 35) (a' := 36) (b' := 200) hB (by omega) (by omega) hkτ121 hnτ121 hbτ121 ef122 eg123 (by decide) (by decide) (by decide)
  clear eg123 hkτ121 hnτ121 hbτ121
  replace hAd : ∀ i, i ≤ 30 → τ121.1 i = τ.1 i := fun i h => by rw [haτ121 i (by omega)]; exact hAd i h
  clear haτ121
  replace hV := hV.born ef122 (by omega)
  clear ef122
  refine W.widen (k := 5) (n := 150) (by decide) (by decide) ?_
  refine zPutFR (D := D) (ci := 12) (ty := .array .int) (C := RX12) (T := TX12) (N := 71) hx hb hts hiX12 tyX12 tyX12_ok nmX12 hown hH hS ((hB.1 30 (by omega)).1.trans (by decide : zkt 30 = 28)) rfl 7 (by decide) rfl hw9 (fun _ h9 => h9) rfl hin rfl (by rw [((hB.1 35 (by omega)).1.trans (by decide : zkt 35 = 1))]; decide)  (by decide +kernel) rfl rfl dX12_init_41 (fun H locs hH hS => ?_)
  obtain ⟨g124, eg124⟩ : ∃ f9 : zFr, f9 = zur g123 30 7 (some 35) := ⟨_, rfl⟩
  rw [← eg124] at hH
  replace hB := zBI.ref hB eg124 (by omega) (by omega) (by decide +kernel)
  clear eg124
  refine lv_aload_n hx hb dX12_init_44 rfl (lv_at hl 0 rfl) ?_
  refine lv_bipush (v := nI 30) hx hb dX12_init_45 (by decide) ?_
  refine zNewa (D := D) (atype := .int) (t := 1) (N' := 30) hx hb hw3 rfl (by decide) (by decide) rfl hH hS hA 36 (hB.2.1 36 (by omega)).1 (by decide) (by decide) (by first | decide | (simp only [zT, componentBytes]; omega)) (Nat.le_of_ble_eq_true rfl) (Nat.le_of_ble_eq_true rfl) dX12_init_47 (fun q9 c9 H hH8 hS => ?_)
  obtain ⟨τ126, eτ126⟩ : ∃ t9 : zTy, t9 = (va_up τ121.1 36 q9, va_up τ121.2.1 36 c9, va_up τ121.2.2.1 36 1, va_up τ121.2.2.2 36 30) := ⟨_, rfl⟩
  obtain ⟨f127, ef127⟩ : ∃ f9 : zFi, f9 = va_up f122 36 (fun _ => 0) := ⟨_, rfl⟩
  obtain ⟨g128, eg128⟩ : ∃ f9 : zFr, f9 = va_up g124 36 (fun _ => none) := ⟨_, rfl⟩
  replace hH : zH D A τ126 f127 g128 ol s H := by rw [eτ126, ef127, eg128]; exact hH8
  clear hH8
  have hqτ126 : τ126.1 36 = q9 := by rw [eτ126]; exact va_up_self τ121.1 36 q9
  have haτ126 : ∀ i, i ≠ 36 → τ126.1 i = τ121.1 i := fun i h => by rw [eτ126]; exact va_up_ne _ _ h
  have hkτ126 : τ126.2.2.1 36 = 1 := by rw [eτ126]; exact va_up_self τ121.2.2.1 36 1
  have hnτ126 : τ126.2.2.2 36 = 30 := by rw [eτ126]; exact va_up_self τ121.2.2.2 36 30
  have hbτ126 : ∀ i, i ≠ 36 → τ126.2.2.1 i = τ121.2.2.1 i ∧ τ126.2.2.2 i = τ121.2.2.2 i := fun i h => by rw [eτ126]; exact ⟨va_up_ne _ _ h, va_up_ne _ _ h⟩
  clear eτ126
  subst hqτ126
  rw [show τ121.1 30 = τ126.1 30 from (haτ126 30 (by omega)).symm] at hl
  refine W.eq (g2 := F0 m 49 ls [.ref (τ126.1 36), .ref (τ126.1 30)]) (by rw [haτ126 30 (by omega)]) ?_
  replace hB := zBI.born (i := 36) (a' := 37) (b' := 200) hB (by omega) (by omega) hkτ126 hnτ126 hbτ126 ef127 eg128 (by decide) (by decide) (by decide)
  clear eg128 hkτ126 hnτ126 hbτ126
  replace hAd : ∀ i, i ≤ 30 → τ126.1 i = τ.1 i := fun i h => by rw [haτ126 i (by omega)]; exact hAd i h
  clear haτ126
  replace hV := hV.born ef127 (by omega)
  clear ef127
  refine W.widen (k := 6) (n := 180) (by decide) (by decide) ?_
  refine zPutFR (D := D) (ci := 12) (ty := .array .int) (C := RX12) (T := TX12) (N := 71) hx hb hts hiX12 tyX12 tyX12_ok nmX12 hown hH hS ((hB.1 30 (by omega)).1.trans (by decide : zkt 30 = 28)) rfl 8 (by decide) rfl hw10 (fun _ h9 => h9) rfl hin rfl (by rw [((hB.1 36 (by omega)).1.trans (by decide : zkt 36 = 1))]; decide)  (by decide +kernel) rfl rfl dX12_init_49 (fun H locs hH hS => ?_)
  obtain ⟨g129, eg129⟩ : ∃ f9 : zFr, f9 = zur g128 30 8 (some 36) := ⟨_, rfl⟩
  rw [← eg129] at hH
  replace hB := zBI.ref hB eg129 (by omega) (by omega) (by decide +kernel)
  clear eg129
  refine lv_aload_n hx hb dX12_init_52 rfl (lv_at hl 0 rfl) ?_
  refine lv_bipush (v := nI 120) hx hb dX12_init_53 (by decide) ?_
  refine zNewa (D := D) (atype := .int) (t := 1) (N' := 120) hx hb hw3 rfl (by decide) (by decide) rfl hH hS hA 37 (hB.2.1 37 (by omega)).1 (by decide) (by decide) (by first | decide | (simp only [zT, componentBytes]; omega)) (Nat.le_of_ble_eq_true rfl) (Nat.le_of_ble_eq_true rfl) dX12_init_55 (fun q9 c9 H hH8 hS => ?_)
  obtain ⟨τ131, eτ131⟩ : ∃ t9 : zTy, t9 = (va_up τ126.1 37 q9, va_up τ126.2.1 37 c9, va_up τ126.2.2.1 37 1, va_up τ126.2.2.2 37 120) := ⟨_, rfl⟩
  obtain ⟨f132, ef132⟩ : ∃ f9 : zFi, f9 = va_up f127 37 (fun _ => 0) := ⟨_, rfl⟩
  obtain ⟨g133, eg133⟩ : ∃ f9 : zFr, f9 = va_up g129 37 (fun _ => none) := ⟨_, rfl⟩
  replace hH : zH D A τ131 f132 g133 ol s H := by rw [eτ131, ef132, eg133]; exact hH8
  clear hH8
  have hqτ131 : τ131.1 37 = q9 := by rw [eτ131]; exact va_up_self τ126.1 37 q9
  have haτ131 : ∀ i, i ≠ 37 → τ131.1 i = τ126.1 i := fun i h => by rw [eτ131]; exact va_up_ne _ _ h
  have hkτ131 : τ131.2.2.1 37 = 1 := by rw [eτ131]; exact va_up_self τ126.2.2.1 37 1
  have hnτ131 : τ131.2.2.2 37 = 120 := by rw [eτ131]; exact va_up_self τ126.2.2.2 37 120
  have hbτ131 : ∀ i, i ≠ 37 → τ131.2.2.1 i = τ126.2.2.1 i ∧ τ131.2.2.2 i = τ126.2.2.2 i := fun i h => by rw [eτ131]; exact ⟨va_up_ne _ _ h, va_up_ne _ _ h⟩
  clear eτ131
  subst hqτ131
  rw [show τ126.1 30 = τ131.1 30 from (haτ131 30 (by omega)).symm] at hl
  refine W.eq (g2 := F0 m 57 ls [.ref (τ131.1 37), .ref (τ131.1 30)]) (by rw [haτ131 30 (by omega)]) ?_
  replace hB := zBI.born (i := 37) (a' := 38) (b' := 200) hB (by omega) (by omega) hkτ131 hnτ131 hbτ131 ef132 eg133 (by decide) (by decide) (by decide)
  clear eg133 hkτ131 hnτ131 hbτ131
  replace hAd : ∀ i, i ≤ 30 → τ131.1 i = τ.1 i := fun i h => by rw [haτ131 i (by omega)]; exact hAd i h
  clear haτ131
  replace hV := hV.born ef132 (by omega)
  clear ef132
  refine W.widen (k := 7) (n := 300) (by decide) (by decide) ?_
  refine zPutFR (D := D) (ci := 12) (ty := .array .int) (C := RX12) (T := TX12) (N := 71) hx hb hts hiX12 tyX12 tyX12_ok nmX12 hown hH hS ((hB.1 30 (by omega)).1.trans (by decide : zkt 30 = 28)) rfl 9 (by decide) rfl hw11 (fun _ h9 => h9) rfl hin rfl (by rw [((hB.1 37 (by omega)).1.trans (by decide : zkt 37 = 1))]; decide)  (by decide +kernel) rfl rfl dX12_init_57 (fun H locs hH hS => ?_)
  obtain ⟨g134, eg134⟩ : ∃ f9 : zFr, f9 = zur g133 30 9 (some 37) := ⟨_, rfl⟩
  rw [← eg134] at hH
  replace hB := zBI.ref hB eg134 (by omega) (by omega) (by decide +kernel)
  clear eg134
  refine lv_aload_n hx hb dX12_init_60 rfl (lv_at hl 0 rfl) ?_
  refine lv_bipush (v := nI 120) hx hb dX12_init_61 (by decide) ?_
  refine zNewa (D := D) (atype := .int) (t := 1) (N' := 120) hx hb hw3 rfl (by decide) (by decide) rfl hH hS hA 38 (hB.2.1 38 (by omega)).1 (by decide) (by decide) (by first | decide | (simp only [zT, componentBytes]; omega)) (Nat.le_of_ble_eq_true rfl) (Nat.le_of_ble_eq_true rfl) dX12_init_63 (fun q9 c9 H hH8 hS => ?_)
  obtain ⟨τ136, eτ136⟩ : ∃ t9 : zTy, t9 = (va_up τ131.1 38 q9, va_up τ131.2.1 38 c9, va_up τ131.2.2.1 38 1, va_up τ131.2.2.2 38 120) := ⟨_, rfl⟩
  obtain ⟨f137, ef137⟩ : ∃ f9 : zFi, f9 = va_up f132 38 (fun _ => 0) := ⟨_, rfl⟩
  obtain ⟨g138, eg138⟩ : ∃ f9 : zFr, f9 = va_up g134 38 (fun _ => none) := ⟨_, rfl⟩
  replace hH : zH D A τ136 f137 g138 ol s H := by rw [eτ136, ef137, eg138]; exact hH8
  clear hH8
  have hqτ136 : τ136.1 38 = q9 := by rw [eτ136]; exact va_up_self τ131.1 38 q9
  have haτ136 : ∀ i, i ≠ 38 → τ136.1 i = τ131.1 i := fun i h => by rw [eτ136]; exact va_up_ne _ _ h
  have hkτ136 : τ136.2.2.1 38 = 1 := by rw [eτ136]; exact va_up_self τ131.2.2.1 38 1
  have hnτ136 : τ136.2.2.2 38 = 120 := by rw [eτ136]; exact va_up_self τ131.2.2.2 38 120
  have hbτ136 : ∀ i, i ≠ 38 → τ136.2.2.1 i = τ131.2.2.1 i ∧ τ136.2.2.2 i = τ131.2.2.2 i := fun i h => by rw [eτ136]; exact ⟨va_up_ne _ _ h, va_up_ne _ _ h⟩
  clear eτ136
  subst hqτ136
  rw [show τ131.1 30 = τ136.1 30 from (haτ136 30 (by omega)).symm] at hl
  refine W.eq (g2 := F0 m 65 ls [.ref (τ136.1 38), .ref (τ136.1 30)]) (by rw [haτ136 30 (by omega)]) ?_
  replace hB := zBI.born (i := 38) (a' := 39) (b' := 200) hB (by omega) (by omega) hkτ136 hnτ136 hbτ136 ef137 eg138 (by decide) (by decide) (by decide)
  clear eg138 hkτ136 hnτ136 hbτ136
  replace hAd : ∀ i, i ≤ 30 → τ136.1 i = τ.1 i := fun i h => by rw [haτ136 i (by omega)]; exact hAd i h
  clear haτ136
  replace hV := hV.born ef137 (by omega)
  clear ef137
  refine W.widen (k := 8) (n := 420) (by decide) (by decide) ?_
  refine zPutFR (D := D) (ci := 12) (ty := .array .int) (C := RX12) (T := TX12) (N := 71) hx hb hts hiX12 tyX12 tyX12_ok nmX12 hown hH hS ((hB.1 30 (by omega)).1.trans (by decide : zkt 30 = 28)) rfl 10 (by decide) rfl hw12 (fun _ h9 => h9) rfl hin rfl (by rw [((hB.1 38 (by omega)).1.trans (by decide : zkt 38 = 1))]; decide)  (by decide +kernel) rfl rfl dX12_init_65 (fun H locs hH hS => ?_)
  obtain ⟨g139, eg139⟩ : ∃ f9 : zFr, f9 = zur g138 30 10 (some 38) := ⟨_, rfl⟩
  rw [← eg139] at hH
  replace hB := zBI.ref hB eg139 (by omega) (by omega) (by decide +kernel)
  clear eg139
  refine lv_aload_n hx hb dX12_init_68 rfl (lv_at hl 0 rfl) ?_
  refine lv_bipush (v := nI 120) hx hb dX12_init_69 (by decide) ?_
  refine zNewa (D := D) (atype := .int) (t := 1) (N' := 120) hx hb hw3 rfl (by decide) (by decide) rfl hH hS hA 39 (hB.2.1 39 (by omega)).1 (by decide) (by decide) (by first | decide | (simp only [zT, componentBytes]; omega)) (Nat.le_of_ble_eq_true rfl) (Nat.le_of_ble_eq_true rfl) dX12_init_71 (fun q9 c9 H hH8 hS => ?_)
  obtain ⟨τ141, eτ141⟩ : ∃ t9 : zTy, t9 = (va_up τ136.1 39 q9, va_up τ136.2.1 39 c9, va_up τ136.2.2.1 39 1, va_up τ136.2.2.2 39 120) := ⟨_, rfl⟩
  obtain ⟨f142, ef142⟩ : ∃ f9 : zFi, f9 = va_up f137 39 (fun _ => 0) := ⟨_, rfl⟩
  obtain ⟨g143, eg143⟩ : ∃ f9 : zFr, f9 = va_up g139 39 (fun _ => none) := ⟨_, rfl⟩
  replace hH : zH D A τ141 f142 g143 ol s H := by rw [eτ141, ef142, eg143]; exact hH8
  clear hH8
  have hqτ141 : τ141.1 39 = q9 := by rw [eτ141]; exact va_up_self τ136.1 39 q9
  have haτ141 : ∀ i, i ≠ 39 → τ141.1 i = τ136.1 i := fun i h => by rw [eτ141]; exact va_up_ne _ _ h
  have hkτ141 : τ141.2.2.1 39 = 1 := by rw [eτ141]; exact va_up_self τ136.2.2.1 39 1
  have hnτ141 : τ141.2.2.2 39 = 120 := by rw [eτ141]; exact va_up_self τ136.2.2.2 39 120
  have hbτ141 : ∀ i, i ≠ 39 → τ141.2.2.1 i = τ136.2.2.1 i ∧ τ141.2.2.2 i = τ136.2.2.2 i := fun i h => by rw [eτ141]; exact ⟨va_up_ne _ _ h, va_up_ne _ _ h⟩
  clear eτ141
  subst hqτ141
  rw [show τ136.1 30 = τ141.1 30 from (haτ141 30 (by omega)).symm] at hl
  refine W.eq (g2 := F0 m 73 ls [.ref (τ141.1 39), .ref (τ141.1 30)]) (by rw [haτ141 30 (by omega)]) ?_
  replace hB := zBI.born (i := 39) (a' := 40) (b' := 200) hB (by omega) (by omega) hkτ141 hnτ141 hbτ141 ef142 eg143 (by decide) (by decide) (by decide)
  clear eg143 hkτ141 hnτ141 hbτ141
  replace hAd : ∀ i, i ≤ 30 → τ141.1 i = τ.1 i := fun i h => by rw [haτ141 i (by omega)]; exact hAd i h
  clear haτ141
  replace hV := hV.born ef142 (by omega)
  clear ef142
  refine W.widen (k := 9) (n := 540) (by decide) (by decide) ?_
  refine zPutFR (D := D) (ci := 12) (ty := .array .int) (C := RX12) (T := TX12) (N := 71) hx hb hts hiX12 tyX12 tyX12_ok nmX12 hown hH hS ((hB.1 30 (by omega)).1.trans (by decide : zkt 30 = 28)) rfl 11 (by decide) rfl hw13 (fun _ h9 => h9) rfl hin rfl (by rw [((hB.1 39 (by omega)).1.trans (by decide : zkt 39 = 1))]; decide)  (by decide +kernel) rfl rfl dX12_init_73 (fun H locs hH hS => ?_)
  obtain ⟨g144, eg144⟩ : ∃ f9 : zFr, f9 = zur g143 30 11 (some 39) := ⟨_, rfl⟩
  rw [← eg144] at hH
  replace hB := zBI.ref hB eg144 (by omega) (by omega) (by decide +kernel)
  clear eg144
  refine lv_aload_n hx hb dX12_init_76 rfl (lv_at hl 0 rfl) ?_
  refine lv_bipush (v := nI 30) hx hb dX12_init_77 (by decide) ?_
  refine zNewa (D := D) (atype := .int) (t := 1) (N' := 30) hx hb hw3 rfl (by decide) (by decide) rfl hH hS hA 40 (hB.2.1 40 (by omega)).1 (by decide) (by decide) (by first | decide | (simp only [zT, componentBytes]; omega)) (Nat.le_of_ble_eq_true rfl) (Nat.le_of_ble_eq_true rfl) dX12_init_79 (fun q9 c9 H hH8 hS => ?_)
  obtain ⟨τ146, eτ146⟩ : ∃ t9 : zTy, t9 = (va_up τ141.1 40 q9, va_up τ141.2.1 40 c9, va_up τ141.2.2.1 40 1, va_up τ141.2.2.2 40 30) := ⟨_, rfl⟩
  obtain ⟨f147, ef147⟩ : ∃ f9 : zFi, f9 = va_up f142 40 (fun _ => 0) := ⟨_, rfl⟩
  obtain ⟨g148, eg148⟩ : ∃ f9 : zFr, f9 = va_up g144 40 (fun _ => none) := ⟨_, rfl⟩
  replace hH : zH D A τ146 f147 g148 ol s H := by rw [eτ146, ef147, eg148]; exact hH8
  clear hH8
  have hqτ146 : τ146.1 40 = q9 := by rw [eτ146]; exact va_up_self τ141.1 40 q9
  have haτ146 : ∀ i, i ≠ 40 → τ146.1 i = τ141.1 i := fun i h => by rw [eτ146]; exact va_up_ne _ _ h
  have hkτ146 : τ146.2.2.1 40 = 1 := by rw [eτ146]; exact va_up_self τ141.2.2.1 40 1
  have hnτ146 : τ146.2.2.2 40 = 30 := by rw [eτ146]; exact va_up_self τ141.2.2.2 40 30
  have hbτ146 : ∀ i, i ≠ 40 → τ146.2.2.1 i = τ141.2.2.1 i ∧ τ146.2.2.2 i = τ141.2.2.2 i := fun i h => by rw [eτ146]; exact ⟨va_up_ne _ _ h, va_up_ne _ _ h⟩
  clear eτ146
  subst hqτ146
  rw [show τ141.1 30 = τ146.1 30 from (haτ146 30 (by omega)).symm] at hl
  refine W.eq (g2 := F0 m 81 ls [.ref (τ146.1 40), .ref (τ146.1 30)]) (by rw [haτ146 30 (by omega)]) ?_
  replace hB := zBI.born (i := 40) (a' := 41) (b' := 200) hB (by omega) (by omega) hkτ146 hnτ146 hbτ146 ef147 eg148 (by decide) (by decide) (by decide)
  clear eg148 hkτ146 hnτ146 hbτ146
  replace hAd : ∀ i, i ≤ 30 → τ146.1 i = τ.1 i := fun i h => by rw [haτ146 i (by omega)]; exact hAd i h
  clear haτ146
  replace hV := hV.born ef147 (by omega)
  clear ef147
  refine W.widen (k := 10) (n := 570) (by decide) (by decide) ?_
  refine zPutFR (D := D) (ci := 12) (ty := .array .int) (C := RX12) (T := TX12) (N := 71) hx hb hts hiX12 tyX12 tyX12_ok nmX12 hown hH hS ((hB.1 30 (by omega)).1.trans (by decide : zkt 30 = 28)) rfl 12 (by decide) rfl hw14 (fun _ h9 => h9) rfl hin rfl (by rw [((hB.1 40 (by omega)).1.trans (by decide : zkt 40 = 1))]; decide)  (by decide +kernel) rfl rfl dX12_init_81 (fun H locs hH hS => ?_)
  obtain ⟨g149, eg149⟩ : ∃ f9 : zFr, f9 = zur g148 30 12 (some 40) := ⟨_, rfl⟩
  rw [← eg149] at hH
  replace hB := zBI.ref hB eg149 (by omega) (by omega) (by decide +kernel)
  clear eg149
  refine lv_aload_n hx hb dX12_init_84 rfl (lv_at hl 0 rfl) ?_
  refine lv_bipush (v := nI 60) hx hb dX12_init_85 (by decide) ?_
  refine zNewa (D := D) (atype := .int) (t := 1) (N' := 60) hx hb hw3 rfl (by decide) (by decide) rfl hH hS hA 41 (hB.2.1 41 (by omega)).1 (by decide) (by decide) (by first | decide | (simp only [zT, componentBytes]; omega)) (Nat.le_of_ble_eq_true rfl) (Nat.le_of_ble_eq_true rfl) dX12_init_87 (fun q9 c9 H hH8 hS => ?_)
  obtain ⟨τ151, eτ151⟩ : ∃ t9 : zTy, t9 = (va_up τ146.1 41 q9, va_up τ146.2.1 41 c9, va_up τ146.2.2.1 41 1, va_up τ146.2.2.2 41 60) := ⟨_, rfl⟩
  obtain ⟨f152, ef152⟩ : ∃ f9 : zFi, f9 = va_up f147 41 (fun _ => 0) := ⟨_, rfl⟩
  obtain ⟨g153, eg153⟩ : ∃ f9 : zFr, f9 = va_up g149 41 (fun _ => none) := ⟨_, rfl⟩
  replace hH : zH D A τ151 f152 g153 ol s H := by rw [eτ151, ef152, eg153]; exact hH8
  clear hH8
  have hqτ151 : τ151.1 41 = q9 := by rw [eτ151]; exact va_up_self τ146.1 41 q9
  have haτ151 : ∀ i, i ≠ 41 → τ151.1 i = τ146.1 i := fun i h => by rw [eτ151]; exact va_up_ne _ _ h
  have hkτ151 : τ151.2.2.1 41 = 1 := by rw [eτ151]; exact va_up_self τ146.2.2.1 41 1
  have hnτ151 : τ151.2.2.2 41 = 60 := by rw [eτ151]; exact va_up_self τ146.2.2.2 41 60
  have hbτ151 : ∀ i, i ≠ 41 → τ151.2.2.1 i = τ146.2.2.1 i ∧ τ151.2.2.2 i = τ146.2.2.2 i := fun i h => by rw [eτ151]; exact ⟨va_up_ne _ _ h, va_up_ne _ _ h⟩
  clear eτ151
  subst hqτ151
  rw [show τ146.1 30 = τ151.1 30 from (haτ151 30 (by omega)).symm] at hl
  refine W.eq (g2 := F0 m 89 ls [.ref (τ151.1 41), .ref (τ151.1 30)]) (by rw [haτ151 30 (by omega)]) ?_
  replace hB := zBI.born (i := 41) (a' := 42) (b' := 200) hB (by omega) (by omega) hkτ151 hnτ151 hbτ151 ef152 eg153 (by decide) (by decide) (by decide)
  clear eg153 hkτ151 hnτ151 hbτ151
  replace hAd : ∀ i, i ≤ 30 → τ151.1 i = τ.1 i := fun i h => by rw [haτ151 i (by omega)]; exact hAd i h
  clear haτ151
  replace hV := hV.born ef152 (by omega)
  clear ef152
  refine W.widen (k := 11) (n := 630) (by decide) (by decide) ?_
  refine zPutFR (D := D) (ci := 12) (ty := .array .int) (C := RX12) (T := TX12) (N := 71) hx hb hts hiX12 tyX12 tyX12_ok nmX12 hown hH hS ((hB.1 30 (by omega)).1.trans (by decide : zkt 30 = 28)) rfl 14 (by decide) rfl hw15 (fun _ h9 => h9) rfl hin rfl (by rw [((hB.1 41 (by omega)).1.trans (by decide : zkt 41 = 1))]; decide)  (by decide +kernel) rfl rfl dX12_init_89 (fun H locs hH hS => ?_)
  obtain ⟨g154, eg154⟩ : ∃ f9 : zFr, f9 = zur g153 30 14 (some 41) := ⟨_, rfl⟩
  rw [← eg154] at hH
  replace hB := zBI.ref hB eg154 (by omega) (by omega) (by decide +kernel)
  clear eg154
  refine lv_aload_n hx hb dX12_init_92 rfl (lv_at hl 0 rfl) ?_
  refine lv_bipush (v := nI 60) hx hb dX12_init_93 (by decide) ?_
  refine zNewa (D := D) (atype := .int) (t := 1) (N' := 60) hx hb hw3 rfl (by decide) (by decide) rfl hH hS hA 42 (hB.2.1 42 (by omega)).1 (by decide) (by decide) (by first | decide | (simp only [zT, componentBytes]; omega)) (Nat.le_of_ble_eq_true rfl) (Nat.le_of_ble_eq_true rfl) dX12_init_95 (fun q9 c9 H hH8 hS => ?_)
  obtain ⟨τ156, eτ156⟩ : ∃ t9 : zTy, t9 = (va_up τ151.1 42 q9, va_up τ151.2.1 42 c9, va_up τ151.2.2.1 42 1, va_up τ151.2.2.2 42 60) := ⟨_, rfl⟩
  obtain ⟨f157, ef157⟩ : ∃ f9 : zFi, f9 = va_up f152 42 (fun _ => 0) := ⟨_, rfl⟩
  obtain ⟨g158, eg158⟩ : ∃ f9 : zFr, f9 = va_up g154 42 (fun _ => none) := ⟨_, rfl⟩
  replace hH : zH D A τ156 f157 g158 ol s H := by rw [eτ156, ef157, eg158]; exact hH8
  clear hH8
  have hqτ156 : τ156.1 42 = q9 := by rw [eτ156]; exact va_up_self τ151.1 42 q9
  have haτ156 : ∀ i, i ≠ 42 → τ156.1 i = τ151.1 i := fun i h => by rw [eτ156]; exact va_up_ne _ _ h
  have hkτ156 : τ156.2.2.1 42 = 1 := by rw [eτ156]; exact va_up_self τ151.2.2.1 42 1
  have hnτ156 : τ156.2.2.2 42 = 60 := by rw [eτ156]; exact va_up_self τ151.2.2.2 42 60
  have hbτ156 : ∀ i, i ≠ 42 → τ156.2.2.1 i = τ151.2.2.1 i ∧ τ156.2.2.2 i = τ151.2.2.2 i := fun i h => by rw [eτ156]; exact ⟨va_up_ne _ _ h, va_up_ne _ _ h⟩
  clear eτ156
  subst hqτ156
  rw [show τ151.1 30 = τ156.1 30 from (haτ156 30 (by omega)).symm] at hl
  refine W.eq (g2 := F0 m 97 ls [.ref (τ156.1 42), .ref (τ156.1 30)]) (by rw [haτ156 30 (by omega)]) ?_
  replace hB := zBI.born (i := 42) (a' := 43) (b' := 200) hB (by omega) (by omega) hkτ156 hnτ156 hbτ156 ef157 eg158 (by decide) (by decide) (by decide)
  clear eg158 hkτ156 hnτ156 hbτ156
  replace hAd : ∀ i, i ≤ 30 → τ156.1 i = τ.1 i := fun i h => by rw [haτ156 i (by omega)]; exact hAd i h
  clear haτ156
  replace hV := hV.born ef157 (by omega)
  clear ef157
  refine W.widen (k := 12) (n := 690) (by decide) (by decide) ?_
  refine zPutFR (D := D) (ci := 12) (ty := .array .int) (C := RX12) (T := TX12) (N := 71) hx hb hts hiX12 tyX12 tyX12_ok nmX12 hown hH hS ((hB.1 30 (by omega)).1.trans (by decide : zkt 30 = 28)) rfl 15 (by decide) rfl hw16 (fun _ h9 => h9) rfl hin rfl (by rw [((hB.1 42 (by omega)).1.trans (by decide : zkt 42 = 1))]; decide)  (by decide +kernel) rfl rfl dX12_init_97 (fun H locs hH hS => ?_)
  obtain ⟨g159, eg159⟩ : ∃ f9 : zFr, f9 = zur g158 30 15 (some 42) := ⟨_, rfl⟩
  rw [← eg159] at hH
  replace hB := zBI.ref hB eg159 (by omega) (by omega) (by decide +kernel)
  clear eg159
  refine lv_aload_n hx hb dX12_init_100 rfl (lv_at hl 0 rfl) ?_
  refine lv_bipush (v := nI 60) hx hb dX12_init_101 (by decide) ?_
  refine zNewa (D := D) (atype := .int) (t := 1) (N' := 60) hx hb hw3 rfl (by decide) (by decide) rfl hH hS hA 43 (hB.2.1 43 (by omega)).1 (by decide) (by decide) (by first | decide | (simp only [zT, componentBytes]; omega)) (Nat.le_of_ble_eq_true rfl) (Nat.le_of_ble_eq_true rfl) dX12_init_103 (fun q9 c9 H hH8 hS => ?_)
  obtain ⟨τ161, eτ161⟩ : ∃ t9 : zTy, t9 = (va_up τ156.1 43 q9, va_up τ156.2.1 43 c9, va_up τ156.2.2.1 43 1, va_up τ156.2.2.2 43 60) := ⟨_, rfl⟩
  obtain ⟨f162, ef162⟩ : ∃ f9 : zFi, f9 = va_up f157 43 (fun _ => 0) := ⟨_, rfl⟩
  obtain ⟨g163, eg163⟩ : ∃ f9 : zFr, f9 = va_up g159 43 (fun _ => none) := ⟨_, rfl⟩
  replace hH : zH D A τ161 f162 g163 ol s H := by rw [eτ161, ef162, eg163]; exact hH8
  clear hH8
  have hqτ161 : τ161.1 43 = q9 := by rw [eτ161]; exact va_up_self τ156.1 43 q9
  have haτ161 : ∀ i, i ≠ 43 → τ161.1 i = τ156.1 i := fun i h => by rw [eτ161]; exact va_up_ne _ _ h
  have hkτ161 : τ161.2.2.1 43 = 1 := by rw [eτ161]; exact va_up_self τ156.2.2.1 43 1
  have hnτ161 : τ161.2.2.2 43 = 60 := by rw [eτ161]; exact va_up_self τ156.2.2.2 43 60
  have hbτ161 : ∀ i, i ≠ 43 → τ161.2.2.1 i = τ156.2.2.1 i ∧ τ161.2.2.2 i = τ156.2.2.2 i := fun i h => by rw [eτ161]; exact ⟨va_up_ne _ _ h, va_up_ne _ _ h⟩
  clear eτ161
  subst hqτ161
  rw [show τ156.1 30 = τ161.1 30 from (haτ161 30 (by omega)).symm] at hl
  refine W.eq (g2 := F0 m 105 ls [.ref (τ161.1 43), .ref (τ161.1 30)]) (by rw [haτ161 30 (by omega)]) ?_
  replace hB := zBI.born (i := 43) (a' := 44) (b' := 200) hB (by omega) (by omega) hkτ161 hnτ161 hbτ161 ef162 eg163 (by decide) (by decide) (by decide)
  clear eg163 hkτ161 hnτ161 hbτ161
  replace hAd : ∀ i, i ≤ 30 → τ161.1 i = τ.1 i := fun i h => by rw [haτ161 i (by omega)]; exact hAd i h
  clear haτ161
  replace hV := hV.born ef162 (by omega)
  clear ef162
  refine W.widen (k := 13) (n := 750) (by decide) (by decide) ?_
  refine zPutFR (D := D) (ci := 12) (ty := .array .int) (C := RX12) (T := TX12) (N := 71) hx hb hts hiX12 tyX12 tyX12_ok nmX12 hown hH hS ((hB.1 30 (by omega)).1.trans (by decide : zkt 30 = 28)) rfl 16 (by decide) rfl hw17 (fun _ h9 => h9) rfl hin rfl (by rw [((hB.1 43 (by omega)).1.trans (by decide : zkt 43 = 1))]; decide)  (by decide +kernel) rfl rfl dX12_init_105 (fun H locs hH hS => ?_)
  obtain ⟨g164, eg164⟩ : ∃ f9 : zFr, f9 = zur g163 30 16 (some 43) := ⟨_, rfl⟩
  rw [← eg164] at hH
  replace hB := zBI.ref hB eg164 (by omega) (by omega) (by decide +kernel)
  clear eg164
  refine lv_aload_n hx hb dX12_init_108 rfl (lv_at hl 0 rfl) ?_
  refine lv_iconst (v := nI 4) hx hb dX12_init_109 (by decide) ?_
  refine zNewa (D := D) (atype := .int) (t := 1) (N' := 4) hx hb hw3 rfl (by decide) (by decide) rfl hH hS hA 44 (hB.2.1 44 (by omega)).1 (by decide) (by decide) (by first | decide | (simp only [zT, componentBytes]; omega)) (Nat.le_of_ble_eq_true rfl) (Nat.le_of_ble_eq_true rfl) dX12_init_110 (fun q9 c9 H hH8 hS => ?_)
  obtain ⟨τ166, eτ166⟩ : ∃ t9 : zTy, t9 = (va_up τ161.1 44 q9, va_up τ161.2.1 44 c9, va_up τ161.2.2.1 44 1, va_up τ161.2.2.2 44 4) := ⟨_, rfl⟩
  obtain ⟨f167, ef167⟩ : ∃ f9 : zFi, f9 = va_up f162 44 (fun _ => 0) := ⟨_, rfl⟩
  obtain ⟨g168, eg168⟩ : ∃ f9 : zFr, f9 = va_up g164 44 (fun _ => none) := ⟨_, rfl⟩
  replace hH : zH D A τ166 f167 g168 ol s H := by rw [eτ166, ef167, eg168]; exact hH8
  clear hH8
  have hqτ166 : τ166.1 44 = q9 := by rw [eτ166]; exact va_up_self τ161.1 44 q9
  have haτ166 : ∀ i, i ≠ 44 → τ166.1 i = τ161.1 i := fun i h => by rw [eτ166]; exact va_up_ne _ _ h
  have hkτ166 : τ166.2.2.1 44 = 1 := by rw [eτ166]; exact va_up_self τ161.2.2.1 44 1
  have hnτ166 : τ166.2.2.2 44 = 4 := by rw [eτ166]; exact va_up_self τ161.2.2.2 44 4
  have hbτ166 : ∀ i, i ≠ 44 → τ166.2.2.1 i = τ161.2.2.1 i ∧ τ166.2.2.2 i = τ161.2.2.2 i := fun i h => by rw [eτ166]; exact ⟨va_up_ne _ _ h, va_up_ne _ _ h⟩
  clear eτ166
  subst hqτ166
  rw [show τ161.1 30 = τ166.1 30 from (haτ166 30 (by omega)).symm] at hl
  refine W.eq (g2 := F0 m 112 ls [.ref (τ166.1 44), .ref (τ166.1 30)]) (by rw [haτ166 30 (by omega)]) ?_
  replace hB := zBI.born (i := 44) (a' := 45) (b' := 200) hB (by omega) (by omega) hkτ166 hnτ166 hbτ166 ef167 eg168 (by decide) (by decide) (by decide)
  clear eg168 hkτ166 hnτ166 hbτ166
  replace hAd : ∀ i, i ≤ 30 → τ166.1 i = τ.1 i := fun i h => by rw [haτ166 i (by omega)]; exact hAd i h
  clear haτ166
  replace hV := hV.born ef167 (by omega)
  clear ef167
  refine W.widen (k := 14) (n := 754) (by decide) (by decide) ?_
  refine zPutFR (D := D) (ci := 12) (ty := .array .int) (C := RX12) (T := TX12) (N := 71) hx hb hts hiX12 tyX12 tyX12_ok nmX12 hown hH hS ((hB.1 30 (by omega)).1.trans (by decide : zkt 30 = 28)) rfl 17 (by decide) rfl hw18 (fun _ h9 => h9) rfl hin rfl (by rw [((hB.1 44 (by omega)).1.trans (by decide : zkt 44 = 1))]; decide)  (by decide +kernel) rfl rfl dX12_init_112 (fun H locs hH hS => ?_)
  obtain ⟨g169, eg169⟩ : ∃ f9 : zFr, f9 = zur g168 30 17 (some 44) := ⟨_, rfl⟩
  rw [← eg169] at hH
  replace hB := zBI.ref hB eg169 (by omega) (by omega) (by decide +kernel)
  clear eg169
  refine lv_aload_n hx hb dX12_init_115 rfl (lv_at hl 0 rfl) ?_
  refine lv_iconst (v := nI 4) hx hb dX12_init_116 (by decide) ?_
  refine zNewa (D := D) (atype := .int) (t := 1) (N' := 4) hx hb hw3 rfl (by decide) (by decide) rfl hH hS hA 45 (hB.2.1 45 (by omega)).1 (by decide) (by decide) (by first | decide | (simp only [zT, componentBytes]; omega)) (Nat.le_of_ble_eq_true rfl) (Nat.le_of_ble_eq_true rfl) dX12_init_117 (fun q9 c9 H hH8 hS => ?_)
  obtain ⟨τ171, eτ171⟩ : ∃ t9 : zTy, t9 = (va_up τ166.1 45 q9, va_up τ166.2.1 45 c9, va_up τ166.2.2.1 45 1, va_up τ166.2.2.2 45 4) := ⟨_, rfl⟩
  obtain ⟨f172, ef172⟩ : ∃ f9 : zFi, f9 = va_up f167 45 (fun _ => 0) := ⟨_, rfl⟩
  obtain ⟨g173, eg173⟩ : ∃ f9 : zFr, f9 = va_up g169 45 (fun _ => none) := ⟨_, rfl⟩
  replace hH : zH D A τ171 f172 g173 ol s H := by rw [eτ171, ef172, eg173]; exact hH8
  clear hH8
  have hqτ171 : τ171.1 45 = q9 := by rw [eτ171]; exact va_up_self τ166.1 45 q9
  have haτ171 : ∀ i, i ≠ 45 → τ171.1 i = τ166.1 i := fun i h => by rw [eτ171]; exact va_up_ne _ _ h
  have hkτ171 : τ171.2.2.1 45 = 1 := by rw [eτ171]; exact va_up_self τ166.2.2.1 45 1
  have hnτ171 : τ171.2.2.2 45 = 4 := by rw [eτ171]; exact va_up_self τ166.2.2.2 45 4
  have hbτ171 : ∀ i, i ≠ 45 → τ171.2.2.1 i = τ166.2.2.1 i ∧ τ171.2.2.2 i = τ166.2.2.2 i := fun i h => by rw [eτ171]; exact ⟨va_up_ne _ _ h, va_up_ne _ _ h⟩
  clear eτ171
  subst hqτ171
  rw [show τ166.1 30 = τ171.1 30 from (haτ171 30 (by omega)).symm] at hl
  refine W.eq (g2 := F0 m 119 ls [.ref (τ171.1 45), .ref (τ171.1 30)]) (by rw [haτ171 30 (by omega)]) ?_
  replace hB := zBI.born (i := 45) (a' := 46) (b' := 200) hB (by omega) (by omega) hkτ171 hnτ171 hbτ171 ef172 eg173 (by decide) (by decide) (by decide)
  clear eg173 hkτ171 hnτ171 hbτ171
  replace hAd : ∀ i, i ≤ 30 → τ171.1 i = τ.1 i := fun i h => by rw [haτ171 i (by omega)]; exact hAd i h
  clear haτ171
  replace hV := hV.born ef172 (by omega)
  clear ef172
  refine W.widen (k := 15) (n := 758) (by decide) (by decide) ?_
  refine zPutFR (D := D) (ci := 12) (ty := .array .int) (C := RX12) (T := TX12) (N := 71) hx hb hts hiX12 tyX12 tyX12_ok nmX12 hown hH hS ((hB.1 30 (by omega)).1.trans (by decide : zkt 30 = 28)) rfl 18 (by decide) rfl hw19 (fun _ h9 => h9) rfl hin rfl (by rw [((hB.1 45 (by omega)).1.trans (by decide : zkt 45 = 1))]; decide)  (by decide +kernel) rfl rfl dX12_init_119 (fun H locs hH hS => ?_)
  obtain ⟨g174, eg174⟩ : ∃ f9 : zFr, f9 = zur g173 30 18 (some 45) := ⟨_, rfl⟩
  rw [← eg174] at hH
  replace hB := zBI.ref hB eg174 (by omega) (by omega) (by decide +kernel)
  clear eg174
  refine lv_aload_n hx hb dX12_init_122 rfl (lv_at hl 0 rfl) ?_
  refine lv_bipush (v := nI 30) hx hb dX12_init_123 (by decide) ?_
  refine zNewa (D := D) (atype := .int) (t := 1) (N' := 30) hx hb hw3 rfl (by decide) (by decide) rfl hH hS hA 46 (hB.2.1 46 (by omega)).1 (by decide) (by decide) (by first | decide | (simp only [zT, componentBytes]; omega)) (Nat.le_of_ble_eq_true rfl) (Nat.le_of_ble_eq_true rfl) dX12_init_125 (fun q9 c9 H hH8 hS => ?_)
  obtain ⟨τ176, eτ176⟩ : ∃ t9 : zTy, t9 = (va_up τ171.1 46 q9, va_up τ171.2.1 46 c9, va_up τ171.2.2.1 46 1, va_up τ171.2.2.2 46 30) := ⟨_, rfl⟩
  obtain ⟨f177, ef177⟩ : ∃ f9 : zFi, f9 = va_up f172 46 (fun _ => 0) := ⟨_, rfl⟩
  obtain ⟨g178, eg178⟩ : ∃ f9 : zFr, f9 = va_up g174 46 (fun _ => none) := ⟨_, rfl⟩
  replace hH : zH D A τ176 f177 g178 ol s H := by rw [eτ176, ef177, eg178]; exact hH8
  clear hH8
  have hqτ176 : τ176.1 46 = q9 := by rw [eτ176]; exact va_up_self τ171.1 46 q9
  have haτ176 : ∀ i, i ≠ 46 → τ176.1 i = τ171.1 i := fun i h => by rw [eτ176]; exact va_up_ne _ _ h
  have hkτ176 : τ176.2.2.1 46 = 1 := by rw [eτ176]; exact va_up_self τ171.2.2.1 46 1
  have hnτ176 : τ176.2.2.2 46 = 30 := by rw [eτ176]; exact va_up_self τ171.2.2.2 46 30
  have hbτ176 : ∀ i, i ≠ 46 → τ176.2.2.1 i = τ171.2.2.1 i ∧ τ176.2.2.2 i = τ171.2.2.2 i := fun i h => by rw [eτ176]; exact ⟨va_up_ne _ _ h, va_up_ne _ _ h⟩
  clear eτ176
  subst hqτ176
  rw [show τ171.1 30 = τ176.1 30 from (haτ176 30 (by omega)).symm] at hl
  refine W.eq (g2 := F0 m 127 ls [.ref (τ176.1 46), .ref (τ176.1 30)]) (by rw [haτ176 30 (by omega)]) ?_
  replace hB := zBI.born (i := 46) (a' := 47) (b' := 200) hB (by omega) (by omega) hkτ176 hnτ176 hbτ176 ef177 eg178 (by decide) (by decide) (by decide)
  clear eg178 hkτ176 hnτ176 hbτ176
  replace hAd : ∀ i, i ≤ 30 → τ176.1 i = τ.1 i := fun i h => by rw [haτ176 i (by omega)]; exact hAd i h
  clear haτ176
  replace hV := hV.born ef177 (by omega)
  clear ef177
  refine W.widen (k := 16) (n := 788) (by decide) (by decide) ?_
  refine zPutFR (D := D) (ci := 12) (ty := .array .int) (C := RX12) (T := TX12) (N := 71) hx hb hts hiX12 tyX12 tyX12_ok nmX12 hown hH hS ((hB.1 30 (by omega)).1.trans (by decide : zkt 30 = 28)) rfl 19 (by decide) rfl hw20 (fun _ h9 => h9) rfl hin rfl (by rw [((hB.1 46 (by omega)).1.trans (by decide : zkt 46 = 1))]; decide)  (by decide +kernel) rfl rfl dX12_init_127 (fun H locs hH hS => ?_)
  obtain ⟨g179, eg179⟩ : ∃ f9 : zFr, f9 = zur g178 30 19 (some 46) := ⟨_, rfl⟩
  rw [← eg179] at hH
  replace hB := zBI.ref hB eg179 (by omega) (by omega) (by decide +kernel)
  clear eg179
  refine lv_aload_n hx hb dX12_init_130 rfl (lv_at hl 0 rfl) ?_
  refine lv_sipush (v := nI 400) hx hb dX12_init_131 (by decide) ?_
  refine zNewa (D := D) (atype := .int) (t := 1) (N' := 400) hx hb hw3 rfl (by decide) (by decide) rfl hH hS hA 47 (hB.2.1 47 (by omega)).1 (by decide) (by decide) (by first | decide | (simp only [zT, componentBytes]; omega)) (Nat.le_of_ble_eq_true rfl) (Nat.le_of_ble_eq_true rfl) dX12_init_134 (fun q9 c9 H hH8 hS => ?_)
  obtain ⟨τ181, eτ181⟩ : ∃ t9 : zTy, t9 = (va_up τ176.1 47 q9, va_up τ176.2.1 47 c9, va_up τ176.2.2.1 47 1, va_up τ176.2.2.2 47 400) := ⟨_, rfl⟩
  obtain ⟨f182, ef182⟩ : ∃ f9 : zFi, f9 = va_up f177 47 (fun _ => 0) := ⟨_, rfl⟩
  obtain ⟨g183, eg183⟩ : ∃ f9 : zFr, f9 = va_up g179 47 (fun _ => none) := ⟨_, rfl⟩
  replace hH : zH D A τ181 f182 g183 ol s H := by rw [eτ181, ef182, eg183]; exact hH8
  clear hH8
  have hqτ181 : τ181.1 47 = q9 := by rw [eτ181]; exact va_up_self τ176.1 47 q9
  have haτ181 : ∀ i, i ≠ 47 → τ181.1 i = τ176.1 i := fun i h => by rw [eτ181]; exact va_up_ne _ _ h
  have hkτ181 : τ181.2.2.1 47 = 1 := by rw [eτ181]; exact va_up_self τ176.2.2.1 47 1
  have hnτ181 : τ181.2.2.2 47 = 400 := by rw [eτ181]; exact va_up_self τ176.2.2.2 47 400
  have hbτ181 : ∀ i, i ≠ 47 → τ181.2.2.1 i = τ176.2.2.1 i ∧ τ181.2.2.2 i = τ176.2.2.2 i := fun i h => by rw [eτ181]; exact ⟨va_up_ne _ _ h, va_up_ne _ _ h⟩
  clear eτ181
  subst hqτ181
  rw [show τ176.1 30 = τ181.1 30 from (haτ181 30 (by omega)).symm] at hl
  refine W.eq (g2 := F0 m 136 ls [.ref (τ181.1 47), .ref (τ181.1 30)]) (by rw [haτ181 30 (by omega)]) ?_
  replace hB := zBI.born (i := 47) (a' := 48) (b' := 200) hB (by omega) (by omega) hkτ181 hnτ181 hbτ181 ef182 eg183 (by decide) (by decide) (by decide)
  clear eg183 hkτ181 hnτ181 hbτ181
  replace hAd : ∀ i, i ≤ 30 → τ181.1 i = τ.1 i := fun i h => by rw [haτ181 i (by omega)]; exact hAd i h
  clear haτ181
  replace hV := hV.born ef182 (by omega)
  clear ef182
  refine W.widen (k := 17) (n := 1188) (by decide) (by decide) ?_
  refine zPutFR (D := D) (ci := 12) (ty := .array .int) (C := RX12) (T := TX12) (N := 71) hx hb hts hiX12 tyX12 tyX12_ok nmX12 hown hH hS ((hB.1 30 (by omega)).1.trans (by decide : zkt 30 = 28)) rfl 20 (by decide) rfl hw21 (fun _ h9 => h9) rfl hin rfl (by rw [((hB.1 47 (by omega)).1.trans (by decide : zkt 47 = 1))]; decide)  (by decide +kernel) rfl rfl dX12_init_136 (fun H locs hH hS => ?_)
  obtain ⟨g184, eg184⟩ : ∃ f9 : zFr, f9 = zur g183 30 20 (some 47) := ⟨_, rfl⟩
  rw [← eg184] at hH
  replace hB := zBI.ref hB eg184 (by omega) (by omega) (by decide +kernel)
  clear eg184
  refine lv_aload_n hx hb dX12_init_139 rfl (lv_at hl 0 rfl) ?_
  refine lv_iconst (v := (-1)) hx hb dX12_init_140 (by decide) ?_
  refine zPutI (D := D) (ci := 12) (ty := .int) (C := RX12) (T := TX12) (N := 71) hx hb hts hiX12 tyX12 tyX12_ok nmX12 hown hH hS ((hB.1 30 (by omega)).1.trans (by decide : zkt 30 = 28)) rfl 24 (by decide) rfl hw22 (fun _ h9 => h9) rfl (by decide +kernel) rfl rfl dX12_init_141 (fun H locs hH hS => ?_)
  obtain ⟨f186, ef186⟩ : ∃ f9 : zFi, f9 = zu f182 30 24 ((-1)) := ⟨_, rfl⟩
  rw [← ef186] at hH
  have q187 : f186 30 24 = (-1) := by rw [ef186]; exact zu_s
  replace hB := zBI.int hB ef186 (by unfold zXc; omega)
  replace hV := hV.int ef186 (by omega)
  replace hQ24 : f186 30 24 = -1 := by rw [ef186]; exact zu_s
  clear ef186
  refine lv_aload_n hx hb dX12_init_144 rfl (lv_at hl 0 rfl) ?_
  refine lv_bipush (v := nI 8) hx hb dX12_init_145 (by decide) ?_
  refine zNewa (D := D) (atype := .int) (t := 1) (N' := 8) hx hb hw3 rfl (by decide) (by decide) rfl hH hS hA 48 (hB.2.1 48 (by omega)).1 (by decide) (by decide) (by first | decide | (simp only [zT, componentBytes]; omega)) (Nat.le_of_ble_eq_true rfl) (Nat.le_of_ble_eq_true rfl) dX12_init_147 (fun q9 c9 H hH8 hS => ?_)
  obtain ⟨τ188, eτ188⟩ : ∃ t9 : zTy, t9 = (va_up τ181.1 48 q9, va_up τ181.2.1 48 c9, va_up τ181.2.2.1 48 1, va_up τ181.2.2.2 48 8) := ⟨_, rfl⟩
  obtain ⟨f189, ef189⟩ : ∃ f9 : zFi, f9 = va_up f186 48 (fun _ => 0) := ⟨_, rfl⟩
  obtain ⟨g190, eg190⟩ : ∃ f9 : zFr, f9 = va_up g184 48 (fun _ => none) := ⟨_, rfl⟩
  replace hH : zH D A τ188 f189 g190 ol s H := by rw [eτ188, ef189, eg190]; exact hH8
  clear hH8
  have hqτ188 : τ188.1 48 = q9 := by rw [eτ188]; exact va_up_self τ181.1 48 q9
  have haτ188 : ∀ i, i ≠ 48 → τ188.1 i = τ181.1 i := fun i h => by rw [eτ188]; exact va_up_ne _ _ h
  have hkτ188 : τ188.2.2.1 48 = 1 := by rw [eτ188]; exact va_up_self τ181.2.2.1 48 1
  have hnτ188 : τ188.2.2.2 48 = 8 := by rw [eτ188]; exact va_up_self τ181.2.2.2 48 8
  have hbτ188 : ∀ i, i ≠ 48 → τ188.2.2.1 i = τ181.2.2.1 i ∧ τ188.2.2.2 i = τ181.2.2.2 i := fun i h => by rw [eτ188]; exact ⟨va_up_ne _ _ h, va_up_ne _ _ h⟩
  clear eτ188
  subst hqτ188
  rw [show τ181.1 30 = τ188.1 30 from (haτ188 30 (by omega)).symm] at hl
  refine W.eq (g2 := F0 m 149 ls [.ref (τ188.1 48), .ref (τ188.1 30)]) (by rw [haτ188 30 (by omega)]) ?_
  have q191 : f189 30 24 = (-1) := by rw [ef189, va_up_ne _ _ (by omega)]; exact q187
  replace hB := zBI.born (i := 48) (a' := 49) (b' := 200) hB (by omega) (by omega) hkτ188 hnτ188 hbτ188 ef189 eg190 (by decide) (by decide) (by decide)
  clear eg190 hkτ188 hnτ188 hbτ188
  replace hAd : ∀ i, i ≤ 30 → τ188.1 i = τ.1 i := fun i h => by rw [haτ188 i (by omega)]; exact hAd i h
  clear haτ188
  replace hV := hV.born ef189 (by omega)
  replace hQ24 : f189 30 24 = -1 := by rw [show f189 30 24 = f186 30 24 from by rw [ef189, va_up_ne _ _ (by omega)]]; exact hQ24
  clear ef189
  refine W.widen (k := 18) (n := 1196) (by decide) (by decide) ?_
  refine zPutFR (D := D) (ci := 12) (ty := .array .int) (C := RX12) (T := TX12) (N := 71) hx hb hts hiX12 tyX12 tyX12_ok nmX12 hown hH hS ((hB.1 30 (by omega)).1.trans (by decide : zkt 30 = 28)) rfl 27 (by decide) rfl hw23 (fun _ h9 => h9) rfl hin rfl (by rw [((hB.1 48 (by omega)).1.trans (by decide : zkt 48 = 1))]; decide)  (by decide +kernel) rfl rfl dX12_init_149 (fun H locs hH hS => ?_)
  obtain ⟨g192, eg192⟩ : ∃ f9 : zFr, f9 = zur g190 30 27 (some 48) := ⟨_, rfl⟩
  rw [← eg192] at hH
  replace hB := zBI.ref hB eg192 (by omega) (by omega) (by decide +kernel)
  clear eg192
  refine lv_aload_n hx hb dX12_init_152 rfl (lv_at hl 0 rfl) ?_
  refine lv_bipush (v := nI 8) hx hb dX12_init_153 (by decide) ?_
  refine zNewa (D := D) (atype := .int) (t := 1) (N' := 8) hx hb hw3 rfl (by decide) (by decide) rfl hH hS hA 49 (hB.2.1 49 (by omega)).1 (by decide) (by decide) (by first | decide | (simp only [zT, componentBytes]; omega)) (Nat.le_of_ble_eq_true rfl) (Nat.le_of_ble_eq_true rfl) dX12_init_155 (fun q9 c9 H hH8 hS => ?_)
  obtain ⟨τ194, eτ194⟩ : ∃ t9 : zTy, t9 = (va_up τ188.1 49 q9, va_up τ188.2.1 49 c9, va_up τ188.2.2.1 49 1, va_up τ188.2.2.2 49 8) := ⟨_, rfl⟩
  obtain ⟨f195, ef195⟩ : ∃ f9 : zFi, f9 = va_up f189 49 (fun _ => 0) := ⟨_, rfl⟩
  obtain ⟨g196, eg196⟩ : ∃ f9 : zFr, f9 = va_up g192 49 (fun _ => none) := ⟨_, rfl⟩
  replace hH : zH D A τ194 f195 g196 ol s H := by rw [eτ194, ef195, eg196]; exact hH8
  clear hH8
  have hqτ194 : τ194.1 49 = q9 := by rw [eτ194]; exact va_up_self τ188.1 49 q9
  have haτ194 : ∀ i, i ≠ 49 → τ194.1 i = τ188.1 i := fun i h => by rw [eτ194]; exact va_up_ne _ _ h
  have hkτ194 : τ194.2.2.1 49 = 1 := by rw [eτ194]; exact va_up_self τ188.2.2.1 49 1
  have hnτ194 : τ194.2.2.2 49 = 8 := by rw [eτ194]; exact va_up_self τ188.2.2.2 49 8
  have hbτ194 : ∀ i, i ≠ 49 → τ194.2.2.1 i = τ188.2.2.1 i ∧ τ194.2.2.2 i = τ188.2.2.2 i := fun i h => by rw [eτ194]; exact ⟨va_up_ne _ _ h, va_up_ne _ _ h⟩
  clear eτ194
  subst hqτ194
  rw [show τ188.1 30 = τ194.1 30 from (haτ194 30 (by omega)).symm] at hl
  refine W.eq (g2 := F0 m 157 ls [.ref (τ194.1 49), .ref (τ194.1 30)]) (by rw [haτ194 30 (by omega)]) ?_
  replace hB := zBI.born (i := 49) (a' := 50) (b' := 200) hB (by omega) (by omega) hkτ194 hnτ194 hbτ194 ef195 eg196 (by decide) (by decide) (by decide)
  clear eg196 hkτ194 hnτ194 hbτ194
  replace hAd : ∀ i, i ≤ 30 → τ194.1 i = τ.1 i := fun i h => by rw [haτ194 i (by omega)]; exact hAd i h
  clear haτ194
  replace hV := hV.born ef195 (by omega)
  replace hQ24 : f195 30 24 = -1 := by rw [show f195 30 24 = f189 30 24 from by rw [ef195, va_up_ne _ _ (by omega)]]; exact hQ24
  clear ef195
  refine W.widen (k := 19) (n := 1204) (by decide) (by decide) ?_
  refine zPutFR (D := D) (ci := 12) (ty := .array .int) (C := RX12) (T := TX12) (N := 71) hx hb hts hiX12 tyX12 tyX12_ok nmX12 hown hH hS ((hB.1 30 (by omega)).1.trans (by decide : zkt 30 = 28)) rfl 28 (by decide) rfl hw24 (fun _ h9 => h9) rfl hin rfl (by rw [((hB.1 49 (by omega)).1.trans (by decide : zkt 49 = 1))]; decide)  (by decide +kernel) rfl rfl dX12_init_157 (fun H locs hH hS => ?_)
  obtain ⟨g197, eg197⟩ : ∃ f9 : zFr, f9 = zur g196 30 28 (some 49) := ⟨_, rfl⟩
  rw [← eg197] at hH
  replace hB := zBI.ref hB eg197 (by omega) (by omega) (by decide +kernel)
  clear eg197
  refine lv_aload_n hx hb dX12_init_160 rfl (lv_at hl 0 rfl) ?_
  refine lv_bipush (v := nI 64) hx hb dX12_init_161 (by decide) ?_
  refine zNewa (D := D) (atype := .boolean) (t := 3) (N' := 64) hx hb hw25 rfl (by decide) (by decide) rfl hH hS hA 200 (hB.2.1 200 (by omega)).1 (by decide) (by decide) (by first | decide | (simp only [zT, componentBytes]; omega)) (Nat.le_of_ble_eq_true rfl) (Nat.le_of_ble_eq_true rfl) dX12_init_163 (fun q9 c9 H hH8 hS => ?_)
  obtain ⟨τ199, eτ199⟩ : ∃ t9 : zTy, t9 = (va_up τ194.1 200 q9, va_up τ194.2.1 200 c9, va_up τ194.2.2.1 200 3, va_up τ194.2.2.2 200 64) := ⟨_, rfl⟩
  obtain ⟨f200, ef200⟩ : ∃ f9 : zFi, f9 = va_up f195 200 (fun _ => 0) := ⟨_, rfl⟩
  obtain ⟨g201, eg201⟩ : ∃ f9 : zFr, f9 = va_up g197 200 (fun _ => none) := ⟨_, rfl⟩
  replace hH : zH D A τ199 f200 g201 ol s H := by rw [eτ199, ef200, eg201]; exact hH8
  clear hH8
  have hqτ199 : τ199.1 200 = q9 := by rw [eτ199]; exact va_up_self τ194.1 200 q9
  have haτ199 : ∀ i, i ≠ 200 → τ199.1 i = τ194.1 i := fun i h => by rw [eτ199]; exact va_up_ne _ _ h
  have hkτ199 : τ199.2.2.1 200 = 3 := by rw [eτ199]; exact va_up_self τ194.2.2.1 200 3
  have hnτ199 : τ199.2.2.2 200 = 64 := by rw [eτ199]; exact va_up_self τ194.2.2.2 200 64
  have hbτ199 : ∀ i, i ≠ 200 → τ199.2.2.1 i = τ194.2.2.1 i ∧ τ199.2.2.2 i = τ194.2.2.2 i := fun i h => by rw [eτ199]; exact ⟨va_up_ne _ _ h, va_up_ne _ _ h⟩
  clear eτ199
  subst hqτ199
  rw [show τ194.1 30 = τ199.1 30 from (haτ199 30 (by omega)).symm] at hl
  refine W.eq (g2 := F0 m 165 ls [.ref (τ199.1 200), .ref (τ199.1 30)]) (by rw [haτ199 30 (by omega)]) ?_
  replace hB := zBI.born (i := 200) (a' := 50) (b' := 201) hB (by omega) (by omega) hkτ199 hnτ199 hbτ199 ef200 eg201 (by decide) (by decide) (by decide)
  clear eg201 hkτ199 hnτ199 hbτ199
  replace hAd : ∀ i, i ≤ 30 → τ199.1 i = τ.1 i := fun i h => by rw [haτ199 i (by omega)]; exact hAd i h
  clear haτ199
  replace hV := hV.born ef200 (by omega)
  replace hQ24 : f200 30 24 = -1 := by rw [show f200 30 24 = f195 30 24 from by rw [ef200, va_up_ne _ _ (by omega)]]; exact hQ24
  clear ef200
  refine W.widen (k := 20) (n := 1268) (by decide) (by decide) ?_
  refine zPutR (D := D) (ci := 12) (ty := .array .boolean) (C := RX12) (T := TX12) (N := 71) hx hb hts hiX12 tyX12 tyX12_ok nmX12 hown hH hS ((hB.1 30 (by omega)).1.trans (by decide : zkt 30 = 28)) rfl 37 (by decide) rfl hw26 (fun _ h9 => h9) rfl (by rw [((hB.1 200 (by omega)).1.trans (by decide : zkt 200 = 3))]; decide)  (by decide +kernel) rfl rfl dX12_init_165 (fun H locs hH hS => ?_)
  obtain ⟨g202, eg202⟩ : ∃ f9 : zFr, f9 = zur g201 30 37 (some 200) := ⟨_, rfl⟩
  rw [← eg202] at hH
  replace hB := zBI.ref hB eg202 (by omega) (by omega) (by decide +kernel)
  clear eg202
  refine lv_aload_n hx hb dX12_init_168 rfl (lv_at hl 0 rfl) ?_
  refine lv_bipush (v := nI 64) hx hb dX12_init_169 (by decide) ?_
  refine zNewa (D := D) (atype := .int) (t := 1) (N' := 64) hx hb hw3 rfl (by decide) (by decide) rfl hH hS hA 201 (hB.2.1 201 (by omega)).1 (by decide) (by decide) (by first | decide | (simp only [zT, componentBytes]; omega)) (Nat.le_of_ble_eq_true rfl) (Nat.le_of_ble_eq_true rfl) dX12_init_171 (fun q9 c9 H hH8 hS => ?_)
  obtain ⟨τ204, eτ204⟩ : ∃ t9 : zTy, t9 = (va_up τ199.1 201 q9, va_up τ199.2.1 201 c9, va_up τ199.2.2.1 201 1, va_up τ199.2.2.2 201 64) := ⟨_, rfl⟩
  obtain ⟨f205, ef205⟩ : ∃ f9 : zFi, f9 = va_up f200 201 (fun _ => 0) := ⟨_, rfl⟩
  obtain ⟨g206, eg206⟩ : ∃ f9 : zFr, f9 = va_up g202 201 (fun _ => none) := ⟨_, rfl⟩
  replace hH : zH D A τ204 f205 g206 ol s H := by rw [eτ204, ef205, eg206]; exact hH8
  clear hH8
  have hqτ204 : τ204.1 201 = q9 := by rw [eτ204]; exact va_up_self τ199.1 201 q9
  have haτ204 : ∀ i, i ≠ 201 → τ204.1 i = τ199.1 i := fun i h => by rw [eτ204]; exact va_up_ne _ _ h
  have hkτ204 : τ204.2.2.1 201 = 1 := by rw [eτ204]; exact va_up_self τ199.2.2.1 201 1
  have hnτ204 : τ204.2.2.2 201 = 64 := by rw [eτ204]; exact va_up_self τ199.2.2.2 201 64
  have hbτ204 : ∀ i, i ≠ 201 → τ204.2.2.1 i = τ199.2.2.1 i ∧ τ204.2.2.2 i = τ199.2.2.2 i := fun i h => by rw [eτ204]; exact ⟨va_up_ne _ _ h, va_up_ne _ _ h⟩
  clear eτ204
  subst hqτ204
  rw [show τ199.1 30 = τ204.1 30 from (haτ204 30 (by omega)).symm] at hl
  refine W.eq (g2 := F0 m 173 ls [.ref (τ204.1 201), .ref (τ204.1 30)]) (by rw [haτ204 30 (by omega)]) ?_
  replace hB := zBI.born (i := 201) (a' := 50) (b' := 202) hB (by omega) (by omega) hkτ204 hnτ204 hbτ204 ef205 eg206 (by decide) (by decide) (by decide)
  clear eg206 hkτ204 hnτ204 hbτ204
  replace hAd : ∀ i, i ≤ 30 → τ204.1 i = τ.1 i := fun i h => by rw [haτ204 i (by omega)]; exact hAd i h
  clear haτ204
  replace hV := hV.born ef205 (by omega)
  replace hQ24 : f205 30 24 = -1 := by rw [show f205 30 24 = f200 30 24 from by rw [ef205, va_up_ne _ _ (by omega)]]; exact hQ24
  clear ef205
  refine W.widen (k := 21) (n := 1332) (by decide) (by decide) ?_
  refine zPutR (D := D) (ci := 12) (ty := .array .int) (C := RX12) (T := TX12) (N := 71) hx hb hts hiX12 tyX12 tyX12_ok nmX12 hown hH hS ((hB.1 30 (by omega)).1.trans (by decide : zkt 30 = 28)) rfl 38 (by decide) rfl hw27 (fun _ h9 => h9) rfl (by rw [((hB.1 201 (by omega)).1.trans (by decide : zkt 201 = 1))]; decide)  (by decide +kernel) rfl rfl dX12_init_173 (fun H locs hH hS => ?_)
  obtain ⟨g207, eg207⟩ : ∃ f9 : zFr, f9 = zur g206 30 38 (some 201) := ⟨_, rfl⟩
  rw [← eg207] at hH
  replace hB := zBI.ref hB eg207 (by omega) (by omega) (by decide +kernel)
  clear eg207
  refine lv_aload_n hx hb dX12_init_176 rfl (lv_at hl 0 rfl) ?_
  refine lv_bipush (v := nI 64) hx hb dX12_init_177 (by decide) ?_
  refine zNewa (D := D) (atype := .int) (t := 1) (N' := 64) hx hb hw3 rfl (by decide) (by decide) rfl hH hS hA 202 (hB.2.1 202 (by omega)).1 (by decide) (by decide) (by first | decide | (simp only [zT, componentBytes]; omega)) (Nat.le_of_ble_eq_true rfl) (Nat.le_of_ble_eq_true rfl) dX12_init_179 (fun q9 c9 H hH8 hS => ?_)
  obtain ⟨τ209, eτ209⟩ : ∃ t9 : zTy, t9 = (va_up τ204.1 202 q9, va_up τ204.2.1 202 c9, va_up τ204.2.2.1 202 1, va_up τ204.2.2.2 202 64) := ⟨_, rfl⟩
  obtain ⟨f210, ef210⟩ : ∃ f9 : zFi, f9 = va_up f205 202 (fun _ => 0) := ⟨_, rfl⟩
  obtain ⟨g211, eg211⟩ : ∃ f9 : zFr, f9 = va_up g207 202 (fun _ => none) := ⟨_, rfl⟩
  replace hH : zH D A τ209 f210 g211 ol s H := by rw [eτ209, ef210, eg211]; exact hH8
  clear hH8
  have hqτ209 : τ209.1 202 = q9 := by rw [eτ209]; exact va_up_self τ204.1 202 q9
  have haτ209 : ∀ i, i ≠ 202 → τ209.1 i = τ204.1 i := fun i h => by rw [eτ209]; exact va_up_ne _ _ h
  have hkτ209 : τ209.2.2.1 202 = 1 := by rw [eτ209]; exact va_up_self τ204.2.2.1 202 1
  have hnτ209 : τ209.2.2.2 202 = 64 := by rw [eτ209]; exact va_up_self τ204.2.2.2 202 64
  have hbτ209 : ∀ i, i ≠ 202 → τ209.2.2.1 i = τ204.2.2.1 i ∧ τ209.2.2.2 i = τ204.2.2.2 i := fun i h => by rw [eτ209]; exact ⟨va_up_ne _ _ h, va_up_ne _ _ h⟩
  clear eτ209
  subst hqτ209
  rw [show τ204.1 30 = τ209.1 30 from (haτ209 30 (by omega)).symm] at hl
  refine W.eq (g2 := F0 m 181 ls [.ref (τ209.1 202), .ref (τ209.1 30)]) (by rw [haτ209 30 (by omega)]) ?_
  replace hB := zBI.born (i := 202) (a' := 50) (b' := 203) hB (by omega) (by omega) hkτ209 hnτ209 hbτ209 ef210 eg211 (by decide) (by decide) (by decide)
  clear eg211 hkτ209 hnτ209 hbτ209
  replace hAd : ∀ i, i ≤ 30 → τ209.1 i = τ.1 i := fun i h => by rw [haτ209 i (by omega)]; exact hAd i h
  clear haτ209
  replace hV := hV.born ef210 (by omega)
  replace hQ24 : f210 30 24 = -1 := by rw [show f210 30 24 = f205 30 24 from by rw [ef210, va_up_ne _ _ (by omega)]]; exact hQ24
  clear ef210
  refine W.widen (k := 22) (n := 1396) (by decide) (by decide) ?_
  refine zPutR (D := D) (ci := 12) (ty := .array .int) (C := RX12) (T := TX12) (N := 71) hx hb hts hiX12 tyX12 tyX12_ok nmX12 hown hH hS ((hB.1 30 (by omega)).1.trans (by decide : zkt 30 = 28)) rfl 39 (by decide) rfl hw28 (fun _ h9 => h9) rfl (by rw [((hB.1 202 (by omega)).1.trans (by decide : zkt 202 = 1))]; decide)  (by decide +kernel) rfl rfl dX12_init_181 (fun H locs hH hS => ?_)
  obtain ⟨g212, eg212⟩ : ∃ f9 : zFr, f9 = zur g211 30 39 (some 202) := ⟨_, rfl⟩
  rw [← eg212] at hH
  replace hB := zBI.ref hB eg212 (by omega) (by omega) (by decide +kernel)
  clear eg212
  refine lv_aload_n hx hb dX12_init_184 rfl (lv_at hl 0 rfl) ?_
  refine lv_bipush (v := nI 64) hx hb dX12_init_185 (by decide) ?_
  refine zNewa (D := D) (atype := .int) (t := 1) (N' := 64) hx hb hw3 rfl (by decide) (by decide) rfl hH hS hA 203 (hB.2.1 203 (by omega)).1 (by decide) (by decide) (by first | decide | (simp only [zT, componentBytes]; omega)) (Nat.le_of_ble_eq_true rfl) (Nat.le_of_ble_eq_true rfl) dX12_init_187 (fun q9 c9 H hH8 hS => ?_)
  obtain ⟨τ214, eτ214⟩ : ∃ t9 : zTy, t9 = (va_up τ209.1 203 q9, va_up τ209.2.1 203 c9, va_up τ209.2.2.1 203 1, va_up τ209.2.2.2 203 64) := ⟨_, rfl⟩
  obtain ⟨f215, ef215⟩ : ∃ f9 : zFi, f9 = va_up f210 203 (fun _ => 0) := ⟨_, rfl⟩
  obtain ⟨g216, eg216⟩ : ∃ f9 : zFr, f9 = va_up g212 203 (fun _ => none) := ⟨_, rfl⟩
  replace hH : zH D A τ214 f215 g216 ol s H := by rw [eτ214, ef215, eg216]; exact hH8
  clear hH8
  have hqτ214 : τ214.1 203 = q9 := by rw [eτ214]; exact va_up_self τ209.1 203 q9
  have haτ214 : ∀ i, i ≠ 203 → τ214.1 i = τ209.1 i := fun i h => by rw [eτ214]; exact va_up_ne _ _ h
  have hkτ214 : τ214.2.2.1 203 = 1 := by rw [eτ214]; exact va_up_self τ209.2.2.1 203 1
  have hnτ214 : τ214.2.2.2 203 = 64 := by rw [eτ214]; exact va_up_self τ209.2.2.2 203 64
  have hbτ214 : ∀ i, i ≠ 203 → τ214.2.2.1 i = τ209.2.2.1 i ∧ τ214.2.2.2 i = τ209.2.2.2 i := fun i h => by rw [eτ214]; exact ⟨va_up_ne _ _ h, va_up_ne _ _ h⟩
  clear eτ214
  subst hqτ214
  rw [show τ209.1 30 = τ214.1 30 from (haτ214 30 (by omega)).symm] at hl
  refine W.eq (g2 := F0 m 189 ls [.ref (τ214.1 203), .ref (τ214.1 30)]) (by rw [haτ214 30 (by omega)]) ?_
  replace hB := zBI.born (i := 203) (a' := 50) (b' := 204) hB (by omega) (by omega) hkτ214 hnτ214 hbτ214 ef215 eg216 (by decide) (by decide) (by decide)
  clear eg216 hkτ214 hnτ214 hbτ214
  replace hAd : ∀ i, i ≤ 30 → τ214.1 i = τ.1 i := fun i h => by rw [haτ214 i (by omega)]; exact hAd i h
  clear haτ214
  replace hV := hV.born ef215 (by omega)
  replace hQ24 : f215 30 24 = -1 := by rw [show f215 30 24 = f210 30 24 from by rw [ef215, va_up_ne _ _ (by omega)]]; exact hQ24
  clear ef215
  refine W.widen (k := 23) (n := 1460) (by decide) (by decide) ?_
  refine zPutR (D := D) (ci := 12) (ty := .array .int) (C := RX12) (T := TX12) (N := 71) hx hb hts hiX12 tyX12 tyX12_ok nmX12 hown hH hS ((hB.1 30 (by omega)).1.trans (by decide : zkt 30 = 28)) rfl 40 (by decide) rfl hw29 (fun _ h9 => h9) rfl (by rw [((hB.1 203 (by omega)).1.trans (by decide : zkt 203 = 1))]; decide)  (by decide +kernel) rfl rfl dX12_init_189 (fun H locs hH hS => ?_)
  obtain ⟨g217, eg217⟩ : ∃ f9 : zFr, f9 = zur g216 30 40 (some 203) := ⟨_, rfl⟩
  rw [← eg217] at hH
  replace hB := zBI.ref hB eg217 (by omega) (by omega) (by decide +kernel)
  clear eg217
  refine lv_aload_n hx hb dX12_init_192 rfl (lv_at hl 0 rfl) ?_
  refine lv_bipush (v := nI 64) hx hb dX12_init_193 (by decide) ?_
  refine zNewa (D := D) (atype := .int) (t := 1) (N' := 64) hx hb hw3 rfl (by decide) (by decide) rfl hH hS hA 204 (hB.2.1 204 (by omega)).1 (by decide) (by decide) (by first | decide | (simp only [zT, componentBytes]; omega)) (Nat.le_of_ble_eq_true rfl) (Nat.le_of_ble_eq_true rfl) dX12_init_195 (fun q9 c9 H hH8 hS => ?_)
  obtain ⟨τ219, eτ219⟩ : ∃ t9 : zTy, t9 = (va_up τ214.1 204 q9, va_up τ214.2.1 204 c9, va_up τ214.2.2.1 204 1, va_up τ214.2.2.2 204 64) := ⟨_, rfl⟩
  obtain ⟨f220, ef220⟩ : ∃ f9 : zFi, f9 = va_up f215 204 (fun _ => 0) := ⟨_, rfl⟩
  obtain ⟨g221, eg221⟩ : ∃ f9 : zFr, f9 = va_up g217 204 (fun _ => none) := ⟨_, rfl⟩
  replace hH : zH D A τ219 f220 g221 ol s H := by rw [eτ219, ef220, eg221]; exact hH8
  clear hH8
  have hqτ219 : τ219.1 204 = q9 := by rw [eτ219]; exact va_up_self τ214.1 204 q9
  have haτ219 : ∀ i, i ≠ 204 → τ219.1 i = τ214.1 i := fun i h => by rw [eτ219]; exact va_up_ne _ _ h
  have hkτ219 : τ219.2.2.1 204 = 1 := by rw [eτ219]; exact va_up_self τ214.2.2.1 204 1
  have hnτ219 : τ219.2.2.2 204 = 64 := by rw [eτ219]; exact va_up_self τ214.2.2.2 204 64
  have hbτ219 : ∀ i, i ≠ 204 → τ219.2.2.1 i = τ214.2.2.1 i ∧ τ219.2.2.2 i = τ214.2.2.2 i := fun i h => by rw [eτ219]; exact ⟨va_up_ne _ _ h, va_up_ne _ _ h⟩
  clear eτ219
  subst hqτ219
  rw [show τ214.1 30 = τ219.1 30 from (haτ219 30 (by omega)).symm] at hl
  refine W.eq (g2 := F0 m 197 ls [.ref (τ219.1 204), .ref (τ219.1 30)]) (by rw [haτ219 30 (by omega)]) ?_
  replace hB := zBI.born (i := 204) (a' := 50) (b' := 205) hB (by omega) (by omega) hkτ219 hnτ219 hbτ219 ef220 eg221 (by decide) (by decide) (by decide)
  clear eg221 hkτ219 hnτ219 hbτ219
  replace hAd : ∀ i, i ≤ 30 → τ219.1 i = τ.1 i := fun i h => by rw [haτ219 i (by omega)]; exact hAd i h
  clear haτ219
  replace hV := hV.born ef220 (by omega)
  replace hQ24 : f220 30 24 = -1 := by rw [show f220 30 24 = f215 30 24 from by rw [ef220, va_up_ne _ _ (by omega)]]; exact hQ24
  clear ef220
  refine W.widen (k := 24) (n := 1524) (by decide) (by decide) ?_
  refine zPutR (D := D) (ci := 12) (ty := .array .int) (C := RX12) (T := TX12) (N := 71) hx hb hts hiX12 tyX12 tyX12_ok nmX12 hown hH hS ((hB.1 30 (by omega)).1.trans (by decide : zkt 30 = 28)) rfl 41 (by decide) rfl hw30 (fun _ h9 => h9) rfl (by rw [((hB.1 204 (by omega)).1.trans (by decide : zkt 204 = 1))]; decide)  (by decide +kernel) rfl rfl dX12_init_197 (fun H locs hH hS => ?_)
  obtain ⟨g222, eg222⟩ : ∃ f9 : zFr, f9 = zur g221 30 41 (some 204) := ⟨_, rfl⟩
  rw [← eg222] at hH
  replace hB := zBI.ref hB eg222 (by omega) (by omega) (by decide +kernel)
  clear eg222
  refine lv_aload_n hx hb dX12_init_200 rfl (lv_at hl 0 rfl) ?_
  refine lv_bipush (v := nI 64) hx hb dX12_init_201 (by decide) ?_
  refine zNewa (D := D) (atype := .int) (t := 1) (N' := 64) hx hb hw3 rfl (by decide) (by decide) rfl hH hS hA 205 (hB.2.1 205 (by omega)).1 (by decide) (by decide) (by first | decide | (simp only [zT, componentBytes]; omega)) (Nat.le_of_ble_eq_true rfl) (Nat.le_of_ble_eq_true rfl) dX12_init_203 (fun q9 c9 H hH8 hS => ?_)
  obtain ⟨τ224, eτ224⟩ : ∃ t9 : zTy, t9 = (va_up τ219.1 205 q9, va_up τ219.2.1 205 c9, va_up τ219.2.2.1 205 1, va_up τ219.2.2.2 205 64) := ⟨_, rfl⟩
  obtain ⟨f225, ef225⟩ : ∃ f9 : zFi, f9 = va_up f220 205 (fun _ => 0) := ⟨_, rfl⟩
  obtain ⟨g226, eg226⟩ : ∃ f9 : zFr, f9 = va_up g222 205 (fun _ => none) := ⟨_, rfl⟩
  replace hH : zH D A τ224 f225 g226 ol s H := by rw [eτ224, ef225, eg226]; exact hH8
  clear hH8
  have hqτ224 : τ224.1 205 = q9 := by rw [eτ224]; exact va_up_self τ219.1 205 q9
  have haτ224 : ∀ i, i ≠ 205 → τ224.1 i = τ219.1 i := fun i h => by rw [eτ224]; exact va_up_ne _ _ h
  have hkτ224 : τ224.2.2.1 205 = 1 := by rw [eτ224]; exact va_up_self τ219.2.2.1 205 1
  have hnτ224 : τ224.2.2.2 205 = 64 := by rw [eτ224]; exact va_up_self τ219.2.2.2 205 64
  have hbτ224 : ∀ i, i ≠ 205 → τ224.2.2.1 i = τ219.2.2.1 i ∧ τ224.2.2.2 i = τ219.2.2.2 i := fun i h => by rw [eτ224]; exact ⟨va_up_ne _ _ h, va_up_ne _ _ h⟩
  clear eτ224
  subst hqτ224
  rw [show τ219.1 30 = τ224.1 30 from (haτ224 30 (by omega)).symm] at hl
  refine W.eq (g2 := F0 m 205 ls [.ref (τ224.1 205), .ref (τ224.1 30)]) (by rw [haτ224 30 (by omega)]) ?_
  replace hB := zBI.born (i := 205) (a' := 50) (b' := 206) hB (by omega) (by omega) hkτ224 hnτ224 hbτ224 ef225 eg226 (by decide) (by decide) (by decide)
  clear eg226 hkτ224 hnτ224 hbτ224
  replace hAd : ∀ i, i ≤ 30 → τ224.1 i = τ.1 i := fun i h => by rw [haτ224 i (by omega)]; exact hAd i h
  clear haτ224
  replace hV := hV.born ef225 (by omega)
  replace hQ24 : f225 30 24 = -1 := by rw [show f225 30 24 = f220 30 24 from by rw [ef225, va_up_ne _ _ (by omega)]]; exact hQ24
  clear ef225
  refine W.widen (k := 25) (n := 1588) (by decide) (by decide) ?_
  refine zPutR (D := D) (ci := 12) (ty := .array .int) (C := RX12) (T := TX12) (N := 71) hx hb hts hiX12 tyX12 tyX12_ok nmX12 hown hH hS ((hB.1 30 (by omega)).1.trans (by decide : zkt 30 = 28)) rfl 42 (by decide) rfl hw31 (fun _ h9 => h9) rfl (by rw [((hB.1 205 (by omega)).1.trans (by decide : zkt 205 = 1))]; decide)  (by decide +kernel) rfl rfl dX12_init_205 (fun H locs hH hS => ?_)
  obtain ⟨g227, eg227⟩ : ∃ f9 : zFr, f9 = zur g226 30 42 (some 205) := ⟨_, rfl⟩
  rw [← eg227] at hH
  replace hB := zBI.ref hB eg227 (by omega) (by omega) (by decide +kernel)
  clear eg227
  refine lv_aload_n hx hb dX12_init_208 rfl (lv_at hl 0 rfl) ?_
  refine lv_sipush (v := nI 512) hx hb dX12_init_209 (by decide) ?_
  refine zNewa (D := D) (atype := .int) (t := 1) (N' := 512) hx hb hw3 rfl (by decide) (by decide) rfl hH hS hA 206 (hB.2.1 206 (by omega)).1 (by decide) (by decide) (by first | decide | (simp only [zT, componentBytes]; omega)) (Nat.le_of_ble_eq_true rfl) (Nat.le_of_ble_eq_true rfl) dX12_init_212 (fun q9 c9 H hH8 hS => ?_)
  obtain ⟨τ229, eτ229⟩ : ∃ t9 : zTy, t9 = (va_up τ224.1 206 q9, va_up τ224.2.1 206 c9, va_up τ224.2.2.1 206 1, va_up τ224.2.2.2 206 512) := ⟨_, rfl⟩
  obtain ⟨f230, ef230⟩ : ∃ f9 : zFi, f9 = va_up f225 206 (fun _ => 0) := ⟨_, rfl⟩
  obtain ⟨g231, eg231⟩ : ∃ f9 : zFr, f9 = va_up g227 206 (fun _ => none) := ⟨_, rfl⟩
  replace hH : zH D A τ229 f230 g231 ol s H := by rw [eτ229, ef230, eg231]; exact hH8
  clear hH8
  have hqτ229 : τ229.1 206 = q9 := by rw [eτ229]; exact va_up_self τ224.1 206 q9
  have haτ229 : ∀ i, i ≠ 206 → τ229.1 i = τ224.1 i := fun i h => by rw [eτ229]; exact va_up_ne _ _ h
  have hkτ229 : τ229.2.2.1 206 = 1 := by rw [eτ229]; exact va_up_self τ224.2.2.1 206 1
  have hnτ229 : τ229.2.2.2 206 = 512 := by rw [eτ229]; exact va_up_self τ224.2.2.2 206 512
  have hbτ229 : ∀ i, i ≠ 206 → τ229.2.2.1 i = τ224.2.2.1 i ∧ τ229.2.2.2 i = τ224.2.2.2 i := fun i h => by rw [eτ229]; exact ⟨va_up_ne _ _ h, va_up_ne _ _ h⟩
  clear eτ229
  subst hqτ229
  rw [show τ224.1 30 = τ229.1 30 from (haτ229 30 (by omega)).symm] at hl
  refine W.eq (g2 := F0 m 214 ls [.ref (τ229.1 206), .ref (τ229.1 30)]) (by rw [haτ229 30 (by omega)]) ?_
  replace hB := zBI.born (i := 206) (a' := 50) (b' := 207) hB (by omega) (by omega) hkτ229 hnτ229 hbτ229 ef230 eg231 (by decide) (by decide) (by decide)
  clear eg231 hkτ229 hnτ229 hbτ229
  replace hAd : ∀ i, i ≤ 30 → τ229.1 i = τ.1 i := fun i h => by rw [haτ229 i (by omega)]; exact hAd i h
  clear haτ229
  replace hV := hV.born ef230 (by omega)
  replace hQ24 : f230 30 24 = -1 := by rw [show f230 30 24 = f225 30 24 from by rw [ef230, va_up_ne _ _ (by omega)]]; exact hQ24
  clear ef230
  refine W.widen (k := 26) (n := 2100) (by decide) (by decide) ?_
  refine zPutR (D := D) (ci := 12) (ty := .array .int) (C := RX12) (T := TX12) (N := 71) hx hb hts hiX12 tyX12 tyX12_ok nmX12 hown hH hS ((hB.1 30 (by omega)).1.trans (by decide : zkt 30 = 28)) rfl 43 (by decide) rfl hw32 (fun _ h9 => h9) rfl (by rw [((hB.1 206 (by omega)).1.trans (by decide : zkt 206 = 1))]; decide)  (by decide +kernel) rfl rfl dX12_init_214 (fun H locs hH hS => ?_)
  obtain ⟨g232, eg232⟩ : ∃ f9 : zFr, f9 = zur g231 30 43 (some 206) := ⟨_, rfl⟩
  rw [← eg232] at hH
  replace hB := zBI.ref hB eg232 (by omega) (by omega) (by decide +kernel)
  clear eg232
  refine lv_aload_n hx hb dX12_init_217 rfl (lv_at hl 0 rfl) ?_
  refine lv_sipush (v := nI 512) hx hb dX12_init_218 (by decide) ?_
  refine zNewa (D := D) (atype := .int) (t := 1) (N' := 512) hx hb hw3 rfl (by decide) (by decide) rfl hH hS hA 207 (hB.2.1 207 (by omega)).1 (by decide) (by decide) (by first | decide | (simp only [zT, componentBytes]; omega)) (Nat.le_of_ble_eq_true rfl) (Nat.le_of_ble_eq_true rfl) dX12_init_221 (fun q9 c9 H hH8 hS => ?_)
  obtain ⟨τ234, eτ234⟩ : ∃ t9 : zTy, t9 = (va_up τ229.1 207 q9, va_up τ229.2.1 207 c9, va_up τ229.2.2.1 207 1, va_up τ229.2.2.2 207 512) := ⟨_, rfl⟩
  obtain ⟨f235, ef235⟩ : ∃ f9 : zFi, f9 = va_up f230 207 (fun _ => 0) := ⟨_, rfl⟩
  obtain ⟨g236, eg236⟩ : ∃ f9 : zFr, f9 = va_up g232 207 (fun _ => none) := ⟨_, rfl⟩
  replace hH : zH D A τ234 f235 g236 ol s H := by rw [eτ234, ef235, eg236]; exact hH8
  clear hH8
  have hqτ234 : τ234.1 207 = q9 := by rw [eτ234]; exact va_up_self τ229.1 207 q9
  have haτ234 : ∀ i, i ≠ 207 → τ234.1 i = τ229.1 i := fun i h => by rw [eτ234]; exact va_up_ne _ _ h
  have hkτ234 : τ234.2.2.1 207 = 1 := by rw [eτ234]; exact va_up_self τ229.2.2.1 207 1
  have hnτ234 : τ234.2.2.2 207 = 512 := by rw [eτ234]; exact va_up_self τ229.2.2.2 207 512
  have hbτ234 : ∀ i, i ≠ 207 → τ234.2.2.1 i = τ229.2.2.1 i ∧ τ234.2.2.2 i = τ229.2.2.2 i := fun i h => by rw [eτ234]; exact ⟨va_up_ne _ _ h, va_up_ne _ _ h⟩
  clear eτ234
  subst hqτ234
  rw [show τ229.1 30 = τ234.1 30 from (haτ234 30 (by omega)).symm] at hl
  refine W.eq (g2 := F0 m 223 ls [.ref (τ234.1 207), .ref (τ234.1 30)]) (by rw [haτ234 30 (by omega)]) ?_
  replace hB := zBI.born (i := 207) (a' := 50) (b' := 208) hB (by omega) (by omega) hkτ234 hnτ234 hbτ234 ef235 eg236 (by decide) (by decide) (by decide)
  clear eg236 hkτ234 hnτ234 hbτ234
  replace hAd : ∀ i, i ≤ 30 → τ234.1 i = τ.1 i := fun i h => by rw [haτ234 i (by omega)]; exact hAd i h
  clear haτ234
  replace hV := hV.born ef235 (by omega)
  replace hQ24 : f235 30 24 = -1 := by rw [show f235 30 24 = f230 30 24 from by rw [ef235, va_up_ne _ _ (by omega)]]; exact hQ24
  clear ef235
  refine W.widen (k := 27) (n := 2612) (by decide) (by decide) ?_
  refine zPutR (D := D) (ci := 12) (ty := .array .int) (C := RX12) (T := TX12) (N := 71) hx hb hts hiX12 tyX12 tyX12_ok nmX12 hown hH hS ((hB.1 30 (by omega)).1.trans (by decide : zkt 30 = 28)) rfl 44 (by decide) rfl hw33 (fun _ h9 => h9) rfl (by rw [((hB.1 207 (by omega)).1.trans (by decide : zkt 207 = 1))]; decide)  (by decide +kernel) rfl rfl dX12_init_223 (fun H locs hH hS => ?_)
  obtain ⟨g237, eg237⟩ : ∃ f9 : zFr, f9 = zur g236 30 44 (some 207) := ⟨_, rfl⟩
  rw [← eg237] at hH
  replace hB := zBI.ref hB eg237 (by omega) (by omega) (by decide +kernel)
  clear eg237
  refine lv_aload_n hx hb dX12_init_226 rfl (lv_at hl 0 rfl) ?_
  refine lv_bipush (v := nI 60) hx hb dX12_init_227 (by decide) ?_
  refine zNewa (D := D) (atype := .int) (t := 1) (N' := 60) hx hb hw3 rfl (by decide) (by decide) rfl hH hS hA 50 (hB.2.1 50 (by omega)).1 (by decide) (by decide) (by first | decide | (simp only [zT, componentBytes]; omega)) (Nat.le_of_ble_eq_true rfl) (Nat.le_of_ble_eq_true rfl) dX12_init_229 (fun q9 c9 H hH8 hS => ?_)
  obtain ⟨τ239, eτ239⟩ : ∃ t9 : zTy, t9 = (va_up τ234.1 50 q9, va_up τ234.2.1 50 c9, va_up τ234.2.2.1 50 1, va_up τ234.2.2.2 50 60) := ⟨_, rfl⟩
  obtain ⟨f240, ef240⟩ : ∃ f9 : zFi, f9 = va_up f235 50 (fun _ => 0) := ⟨_, rfl⟩
  obtain ⟨g241, eg241⟩ : ∃ f9 : zFr, f9 = va_up g237 50 (fun _ => none) := ⟨_, rfl⟩
  replace hH : zH D A τ239 f240 g241 ol s H := by rw [eτ239, ef240, eg241]; exact hH8
  clear hH8
  have hqτ239 : τ239.1 50 = q9 := by rw [eτ239]; exact va_up_self τ234.1 50 q9
  have haτ239 : ∀ i, i ≠ 50 → τ239.1 i = τ234.1 i := fun i h => by rw [eτ239]; exact va_up_ne _ _ h
  have hkτ239 : τ239.2.2.1 50 = 1 := by rw [eτ239]; exact va_up_self τ234.2.2.1 50 1
  have hnτ239 : τ239.2.2.2 50 = 60 := by rw [eτ239]; exact va_up_self τ234.2.2.2 50 60
  have hbτ239 : ∀ i, i ≠ 50 → τ239.2.2.1 i = τ234.2.2.1 i ∧ τ239.2.2.2 i = τ234.2.2.2 i := fun i h => by rw [eτ239]; exact ⟨va_up_ne _ _ h, va_up_ne _ _ h⟩
  clear eτ239
  subst hqτ239
  rw [show τ234.1 30 = τ239.1 30 from (haτ239 30 (by omega)).symm] at hl
  refine W.eq (g2 := F0 m 231 ls [.ref (τ239.1 50), .ref (τ239.1 30)]) (by rw [haτ239 30 (by omega)]) ?_
  replace hB := zBI.born (i := 50) (a' := 51) (b' := 208) hB (by omega) (by omega) hkτ239 hnτ239 hbτ239 ef240 eg241 (by decide) (by decide) (by decide)
  clear eg241 hkτ239 hnτ239 hbτ239
  replace hAd : ∀ i, i ≤ 30 → τ239.1 i = τ.1 i := fun i h => by rw [haτ239 i (by omega)]; exact hAd i h
  clear haτ239
  replace hV := hV.born ef240 (by omega)
  replace hQ24 : f240 30 24 = -1 := by rw [show f240 30 24 = f235 30 24 from by rw [ef240, va_up_ne _ _ (by omega)]]; exact hQ24
  clear ef240
  refine W.widen (k := 28) (n := 2672) (by decide) (by decide) ?_
  refine zPutFR (D := D) (ci := 12) (ty := .array .int) (C := RX12) (T := TX12) (N := 71) hx hb hts hiX12 tyX12 tyX12_ok nmX12 hown hH hS ((hB.1 30 (by omega)).1.trans (by decide : zkt 30 = 28)) rfl 46 (by decide) rfl hw34 (fun _ h9 => h9) rfl hin rfl (by rw [((hB.1 50 (by omega)).1.trans (by decide : zkt 50 = 1))]; decide)  (by decide +kernel) rfl rfl dX12_init_231 (fun H locs hH hS => ?_)
  obtain ⟨g242, eg242⟩ : ∃ f9 : zFr, f9 = zur g241 30 46 (some 50) := ⟨_, rfl⟩
  rw [← eg242] at hH
  replace hB := zBI.ref hB eg242 (by omega) (by omega) (by decide +kernel)
  clear eg242
  refine lv_aload_n hx hb dX12_init_234 rfl (lv_at hl 0 rfl) ?_
  refine lv_bipush (v := nI 60) hx hb dX12_init_235 (by decide) ?_
  refine zNewa (D := D) (atype := .int) (t := 1) (N' := 60) hx hb hw3 rfl (by decide) (by decide) rfl hH hS hA 51 (hB.2.1 51 (by omega)).1 (by decide) (by decide) (by first | decide | (simp only [zT, componentBytes]; omega)) (Nat.le_of_ble_eq_true rfl) (Nat.le_of_ble_eq_true rfl) dX12_init_237 (fun q9 c9 H hH8 hS => ?_)
  obtain ⟨τ244, eτ244⟩ : ∃ t9 : zTy, t9 = (va_up τ239.1 51 q9, va_up τ239.2.1 51 c9, va_up τ239.2.2.1 51 1, va_up τ239.2.2.2 51 60) := ⟨_, rfl⟩
  obtain ⟨f245, ef245⟩ : ∃ f9 : zFi, f9 = va_up f240 51 (fun _ => 0) := ⟨_, rfl⟩
  obtain ⟨g246, eg246⟩ : ∃ f9 : zFr, f9 = va_up g242 51 (fun _ => none) := ⟨_, rfl⟩
  replace hH : zH D A τ244 f245 g246 ol s H := by rw [eτ244, ef245, eg246]; exact hH8
  clear hH8
  have hqτ244 : τ244.1 51 = q9 := by rw [eτ244]; exact va_up_self τ239.1 51 q9
  have haτ244 : ∀ i, i ≠ 51 → τ244.1 i = τ239.1 i := fun i h => by rw [eτ244]; exact va_up_ne _ _ h
  have hkτ244 : τ244.2.2.1 51 = 1 := by rw [eτ244]; exact va_up_self τ239.2.2.1 51 1
  have hnτ244 : τ244.2.2.2 51 = 60 := by rw [eτ244]; exact va_up_self τ239.2.2.2 51 60
  have hbτ244 : ∀ i, i ≠ 51 → τ244.2.2.1 i = τ239.2.2.1 i ∧ τ244.2.2.2 i = τ239.2.2.2 i := fun i h => by rw [eτ244]; exact ⟨va_up_ne _ _ h, va_up_ne _ _ h⟩
  clear eτ244
  subst hqτ244
  rw [show τ239.1 30 = τ244.1 30 from (haτ244 30 (by omega)).symm] at hl
  refine W.eq (g2 := F0 m 239 ls [.ref (τ244.1 51), .ref (τ244.1 30)]) (by rw [haτ244 30 (by omega)]) ?_
  replace hB := zBI.born (i := 51) (a' := 52) (b' := 208) hB (by omega) (by omega) hkτ244 hnτ244 hbτ244 ef245 eg246 (by decide) (by decide) (by decide)
  clear eg246 hkτ244 hnτ244 hbτ244
  replace hAd : ∀ i, i ≤ 30 → τ244.1 i = τ.1 i := fun i h => by rw [haτ244 i (by omega)]; exact hAd i h
  clear haτ244
  replace hV := hV.born ef245 (by omega)
  replace hQ24 : f245 30 24 = -1 := by rw [show f245 30 24 = f240 30 24 from by rw [ef245, va_up_ne _ _ (by omega)]]; exact hQ24
  clear ef245
  refine W.widen (k := 29) (n := 2732) (by decide) (by decide) ?_
  refine zPutFR (D := D) (ci := 12) (ty := .array .int) (C := RX12) (T := TX12) (N := 71) hx hb hts hiX12 tyX12 tyX12_ok nmX12 hown hH hS ((hB.1 30 (by omega)).1.trans (by decide : zkt 30 = 28)) rfl 47 (by decide) rfl hw35 (fun _ h9 => h9) rfl hin rfl (by rw [((hB.1 51 (by omega)).1.trans (by decide : zkt 51 = 1))]; decide)  (by decide +kernel) rfl rfl dX12_init_239 (fun H locs hH hS => ?_)
  obtain ⟨g247, eg247⟩ : ∃ f9 : zFr, f9 = zur g246 30 47 (some 51) := ⟨_, rfl⟩
  rw [← eg247] at hH
  replace hB := zBI.ref hB eg247 (by omega) (by omega) (by decide +kernel)
  clear eg247
  refine lv_aload_n hx hb dX12_init_242 rfl (lv_at hl 0 rfl) ?_
  refine lv_bipush (v := nI 60) hx hb dX12_init_243 (by decide) ?_
  refine zNewa (D := D) (atype := .int) (t := 1) (N' := 60) hx hb hw3 rfl (by decide) (by decide) rfl hH hS hA 52 (hB.2.1 52 (by omega)).1 (by decide) (by decide) (by first | decide | (simp only [zT, componentBytes]; omega)) (Nat.le_of_ble_eq_true rfl) (Nat.le_of_ble_eq_true rfl) dX12_init_245 (fun q9 c9 H hH8 hS => ?_)
  obtain ⟨τ249, eτ249⟩ : ∃ t9 : zTy, t9 = (va_up τ244.1 52 q9, va_up τ244.2.1 52 c9, va_up τ244.2.2.1 52 1, va_up τ244.2.2.2 52 60) := ⟨_, rfl⟩
  obtain ⟨f250, ef250⟩ : ∃ f9 : zFi, f9 = va_up f245 52 (fun _ => 0) := ⟨_, rfl⟩
  obtain ⟨g251, eg251⟩ : ∃ f9 : zFr, f9 = va_up g247 52 (fun _ => none) := ⟨_, rfl⟩
  replace hH : zH D A τ249 f250 g251 ol s H := by rw [eτ249, ef250, eg251]; exact hH8
  clear hH8
  have hqτ249 : τ249.1 52 = q9 := by rw [eτ249]; exact va_up_self τ244.1 52 q9
  have haτ249 : ∀ i, i ≠ 52 → τ249.1 i = τ244.1 i := fun i h => by rw [eτ249]; exact va_up_ne _ _ h
  have hkτ249 : τ249.2.2.1 52 = 1 := by rw [eτ249]; exact va_up_self τ244.2.2.1 52 1
  have hnτ249 : τ249.2.2.2 52 = 60 := by rw [eτ249]; exact va_up_self τ244.2.2.2 52 60
  have hbτ249 : ∀ i, i ≠ 52 → τ249.2.2.1 i = τ244.2.2.1 i ∧ τ249.2.2.2 i = τ244.2.2.2 i := fun i h => by rw [eτ249]; exact ⟨va_up_ne _ _ h, va_up_ne _ _ h⟩
  clear eτ249
  subst hqτ249
  rw [show τ244.1 30 = τ249.1 30 from (haτ249 30 (by omega)).symm] at hl
  refine W.eq (g2 := F0 m 247 ls [.ref (τ249.1 52), .ref (τ249.1 30)]) (by rw [haτ249 30 (by omega)]) ?_
  replace hB := zBI.born (i := 52) (a' := 53) (b' := 208) hB (by omega) (by omega) hkτ249 hnτ249 hbτ249 ef250 eg251 (by decide) (by decide) (by decide)
  clear eg251 hkτ249 hnτ249 hbτ249
  replace hAd : ∀ i, i ≤ 30 → τ249.1 i = τ.1 i := fun i h => by rw [haτ249 i (by omega)]; exact hAd i h
  clear haτ249
  replace hV := hV.born ef250 (by omega)
  replace hQ24 : f250 30 24 = -1 := by rw [show f250 30 24 = f245 30 24 from by rw [ef250, va_up_ne _ _ (by omega)]]; exact hQ24
  clear ef250
  refine W.widen (k := 30) (n := 2792) (by decide) (by decide) ?_
  refine zPutFR (D := D) (ci := 12) (ty := .array .int) (C := RX12) (T := TX12) (N := 71) hx hb hts hiX12 tyX12 tyX12_ok nmX12 hown hH hS ((hB.1 30 (by omega)).1.trans (by decide : zkt 30 = 28)) rfl 48 (by decide) rfl hw36 (fun _ h9 => h9) rfl hin rfl (by rw [((hB.1 52 (by omega)).1.trans (by decide : zkt 52 = 1))]; decide)  (by decide +kernel) rfl rfl dX12_init_247 (fun H locs hH hS => ?_)
  obtain ⟨g252, eg252⟩ : ∃ f9 : zFr, f9 = zur g251 30 48 (some 52) := ⟨_, rfl⟩
  rw [← eg252] at hH
  replace hB := zBI.ref hB eg252 (by omega) (by omega) (by decide +kernel)
  clear eg252
  refine lv_aload_n hx hb dX12_init_250 rfl (lv_at hl 0 rfl) ?_
  refine lv_bipush (v := nI 60) hx hb dX12_init_251 (by decide) ?_
  refine zNewa (D := D) (atype := .int) (t := 1) (N' := 60) hx hb hw3 rfl (by decide) (by decide) rfl hH hS hA 53 (hB.2.1 53 (by omega)).1 (by decide) (by decide) (by first | decide | (simp only [zT, componentBytes]; omega)) (Nat.le_of_ble_eq_true rfl) (Nat.le_of_ble_eq_true rfl) dX12_init_253 (fun q9 c9 H hH8 hS => ?_)
  obtain ⟨τ254, eτ254⟩ : ∃ t9 : zTy, t9 = (va_up τ249.1 53 q9, va_up τ249.2.1 53 c9, va_up τ249.2.2.1 53 1, va_up τ249.2.2.2 53 60) := ⟨_, rfl⟩
  obtain ⟨f255, ef255⟩ : ∃ f9 : zFi, f9 = va_up f250 53 (fun _ => 0) := ⟨_, rfl⟩
  obtain ⟨g256, eg256⟩ : ∃ f9 : zFr, f9 = va_up g252 53 (fun _ => none) := ⟨_, rfl⟩
  replace hH : zH D A τ254 f255 g256 ol s H := by rw [eτ254, ef255, eg256]; exact hH8
  clear hH8
  have hqτ254 : τ254.1 53 = q9 := by rw [eτ254]; exact va_up_self τ249.1 53 q9
  have haτ254 : ∀ i, i ≠ 53 → τ254.1 i = τ249.1 i := fun i h => by rw [eτ254]; exact va_up_ne _ _ h
  have hkτ254 : τ254.2.2.1 53 = 1 := by rw [eτ254]; exact va_up_self τ249.2.2.1 53 1
  have hnτ254 : τ254.2.2.2 53 = 60 := by rw [eτ254]; exact va_up_self τ249.2.2.2 53 60
  have hbτ254 : ∀ i, i ≠ 53 → τ254.2.2.1 i = τ249.2.2.1 i ∧ τ254.2.2.2 i = τ249.2.2.2 i := fun i h => by rw [eτ254]; exact ⟨va_up_ne _ _ h, va_up_ne _ _ h⟩
  clear eτ254
  subst hqτ254
  rw [show τ249.1 30 = τ254.1 30 from (haτ254 30 (by omega)).symm] at hl
  refine W.eq (g2 := F0 m 255 ls [.ref (τ254.1 53), .ref (τ254.1 30)]) (by rw [haτ254 30 (by omega)]) ?_
  replace hB := zBI.born (i := 53) (a' := 54) (b' := 208) hB (by omega) (by omega) hkτ254 hnτ254 hbτ254 ef255 eg256 (by decide) (by decide) (by decide)
  clear eg256 hkτ254 hnτ254 hbτ254
  replace hAd : ∀ i, i ≤ 30 → τ254.1 i = τ.1 i := fun i h => by rw [haτ254 i (by omega)]; exact hAd i h
  clear haτ254
  replace hV := hV.born ef255 (by omega)
  replace hQ24 : f255 30 24 = -1 := by rw [show f255 30 24 = f250 30 24 from by rw [ef255, va_up_ne _ _ (by omega)]]; exact hQ24
  clear ef255
  refine W.widen (k := 31) (n := 2852) (by decide) (by decide) ?_
  refine zPutFR (D := D) (ci := 12) (ty := .array .int) (C := RX12) (T := TX12) (N := 71) hx hb hts hiX12 tyX12 tyX12_ok nmX12 hown hH hS ((hB.1 30 (by omega)).1.trans (by decide : zkt 30 = 28)) rfl 49 (by decide) rfl hw37 (fun _ h9 => h9) rfl hin rfl (by rw [((hB.1 53 (by omega)).1.trans (by decide : zkt 53 = 1))]; decide)  (by decide +kernel) rfl rfl dX12_init_255 (fun H locs hH hS => ?_)
  obtain ⟨g257, eg257⟩ : ∃ f9 : zFr, f9 = zur g256 30 49 (some 53) := ⟨_, rfl⟩
  rw [← eg257] at hH
  replace hB := zBI.ref hB eg257 (by omega) (by omega) (by decide +kernel)
  clear eg257
  refine lv_aload_n hx hb dX12_init_258 rfl (lv_at hl 0 rfl) ?_
  refine lv_bipush (v := nI 60) hx hb dX12_init_259 (by decide) ?_
  refine zNewa (D := D) (atype := .int) (t := 1) (N' := 60) hx hb hw3 rfl (by decide) (by decide) rfl hH hS hA 54 (hB.2.1 54 (by omega)).1 (by decide) (by decide) (by first | decide | (simp only [zT, componentBytes]; omega)) (Nat.le_of_ble_eq_true rfl) (Nat.le_of_ble_eq_true rfl) dX12_init_261 (fun q9 c9 H hH8 hS => ?_)
  obtain ⟨τ259, eτ259⟩ : ∃ t9 : zTy, t9 = (va_up τ254.1 54 q9, va_up τ254.2.1 54 c9, va_up τ254.2.2.1 54 1, va_up τ254.2.2.2 54 60) := ⟨_, rfl⟩
  obtain ⟨f260, ef260⟩ : ∃ f9 : zFi, f9 = va_up f255 54 (fun _ => 0) := ⟨_, rfl⟩
  obtain ⟨g261, eg261⟩ : ∃ f9 : zFr, f9 = va_up g257 54 (fun _ => none) := ⟨_, rfl⟩
  replace hH : zH D A τ259 f260 g261 ol s H := by rw [eτ259, ef260, eg261]; exact hH8
  clear hH8
  have hqτ259 : τ259.1 54 = q9 := by rw [eτ259]; exact va_up_self τ254.1 54 q9
  have haτ259 : ∀ i, i ≠ 54 → τ259.1 i = τ254.1 i := fun i h => by rw [eτ259]; exact va_up_ne _ _ h
  have hkτ259 : τ259.2.2.1 54 = 1 := by rw [eτ259]; exact va_up_self τ254.2.2.1 54 1
  have hnτ259 : τ259.2.2.2 54 = 60 := by rw [eτ259]; exact va_up_self τ254.2.2.2 54 60
  have hbτ259 : ∀ i, i ≠ 54 → τ259.2.2.1 i = τ254.2.2.1 i ∧ τ259.2.2.2 i = τ254.2.2.2 i := fun i h => by rw [eτ259]; exact ⟨va_up_ne _ _ h, va_up_ne _ _ h⟩
  clear eτ259
  subst hqτ259
  rw [show τ254.1 30 = τ259.1 30 from (haτ259 30 (by omega)).symm] at hl
  refine W.eq (g2 := F0 m 263 ls [.ref (τ259.1 54), .ref (τ259.1 30)]) (by rw [haτ259 30 (by omega)]) ?_
  replace hB := zBI.born (i := 54) (a' := 55) (b' := 208) hB (by omega) (by omega) hkτ259 hnτ259 hbτ259 ef260 eg261 (by decide) (by decide) (by decide)
  clear eg261 hkτ259 hnτ259 hbτ259
  replace hAd : ∀ i, i ≤ 30 → τ259.1 i = τ.1 i := fun i h => by rw [haτ259 i (by omega)]; exact hAd i h
  clear haτ259
  replace hV := hV.born ef260 (by omega)
  replace hQ24 : f260 30 24 = -1 := by rw [show f260 30 24 = f255 30 24 from by rw [ef260, va_up_ne _ _ (by omega)]]; exact hQ24
  clear ef260
  refine W.widen (k := 32) (n := 2912) (by decide) (by decide) ?_
  refine zPutFR (D := D) (ci := 12) (ty := .array .int) (C := RX12) (T := TX12) (N := 71) hx hb hts hiX12 tyX12 tyX12_ok nmX12 hown hH hS ((hB.1 30 (by omega)).1.trans (by decide : zkt 30 = 28)) rfl 50 (by decide) rfl hw38 (fun _ h9 => h9) rfl hin rfl (by rw [((hB.1 54 (by omega)).1.trans (by decide : zkt 54 = 1))]; decide)  (by decide +kernel) rfl rfl dX12_init_263 (fun H locs hH hS => ?_)
  obtain ⟨g262, eg262⟩ : ∃ f9 : zFr, f9 = zur g261 30 50 (some 54) := ⟨_, rfl⟩
  rw [← eg262] at hH
  replace hB := zBI.ref hB eg262 (by omega) (by omega) (by decide +kernel)
  clear eg262
  refine lv_aload_n hx hb dX12_init_266 rfl (lv_at hl 0 rfl) ?_
  refine lv_sipush (v := nI 480) hx hb dX12_init_267 (by decide) ?_
  refine zNewa (D := D) (atype := .int) (t := 1) (N' := 480) hx hb hw3 rfl (by decide) (by decide) rfl hH hS hA 55 (hB.2.1 55 (by omega)).1 (by decide) (by decide) (by first | decide | (simp only [zT, componentBytes]; omega)) (Nat.le_of_ble_eq_true rfl) (Nat.le_of_ble_eq_true rfl) dX12_init_270 (fun q9 c9 H hH8 hS => ?_)
  obtain ⟨τ264, eτ264⟩ : ∃ t9 : zTy, t9 = (va_up τ259.1 55 q9, va_up τ259.2.1 55 c9, va_up τ259.2.2.1 55 1, va_up τ259.2.2.2 55 480) := ⟨_, rfl⟩
  obtain ⟨f265, ef265⟩ : ∃ f9 : zFi, f9 = va_up f260 55 (fun _ => 0) := ⟨_, rfl⟩
  obtain ⟨g266, eg266⟩ : ∃ f9 : zFr, f9 = va_up g262 55 (fun _ => none) := ⟨_, rfl⟩
  replace hH : zH D A τ264 f265 g266 ol s H := by rw [eτ264, ef265, eg266]; exact hH8
  clear hH8
  have hqτ264 : τ264.1 55 = q9 := by rw [eτ264]; exact va_up_self τ259.1 55 q9
  have haτ264 : ∀ i, i ≠ 55 → τ264.1 i = τ259.1 i := fun i h => by rw [eτ264]; exact va_up_ne _ _ h
  have hkτ264 : τ264.2.2.1 55 = 1 := by rw [eτ264]; exact va_up_self τ259.2.2.1 55 1
  have hnτ264 : τ264.2.2.2 55 = 480 := by rw [eτ264]; exact va_up_self τ259.2.2.2 55 480
  have hbτ264 : ∀ i, i ≠ 55 → τ264.2.2.1 i = τ259.2.2.1 i ∧ τ264.2.2.2 i = τ259.2.2.2 i := fun i h => by rw [eτ264]; exact ⟨va_up_ne _ _ h, va_up_ne _ _ h⟩
  clear eτ264
  subst hqτ264
  rw [show τ259.1 30 = τ264.1 30 from (haτ264 30 (by omega)).symm] at hl
  refine W.eq (g2 := F0 m 272 ls [.ref (τ264.1 55), .ref (τ264.1 30)]) (by rw [haτ264 30 (by omega)]) ?_
  replace hB := zBI.born (i := 55) (a' := 56) (b' := 208) hB (by omega) (by omega) hkτ264 hnτ264 hbτ264 ef265 eg266 (by decide) (by decide) (by decide)
  clear eg266 hkτ264 hnτ264 hbτ264
  replace hAd : ∀ i, i ≤ 30 → τ264.1 i = τ.1 i := fun i h => by rw [haτ264 i (by omega)]; exact hAd i h
  clear haτ264
  replace hV := hV.born ef265 (by omega)
  replace hQ24 : f265 30 24 = -1 := by rw [show f265 30 24 = f260 30 24 from by rw [ef265, va_up_ne _ _ (by omega)]]; exact hQ24
  clear ef265
  refine W.widen (k := 33) (n := 3392) (by decide) (by decide) ?_
  refine zPutFR (D := D) (ci := 12) (ty := .array .int) (C := RX12) (T := TX12) (N := 71) hx hb hts hiX12 tyX12 tyX12_ok nmX12 hown hH hS ((hB.1 30 (by omega)).1.trans (by decide : zkt 30 = 28)) rfl 51 (by decide) rfl hw39 (fun _ h9 => h9) rfl hin rfl (by rw [((hB.1 55 (by omega)).1.trans (by decide : zkt 55 = 1))]; decide)  (by decide +kernel) rfl rfl dX12_init_272 (fun H locs hH hS => ?_)
  obtain ⟨g267, eg267⟩ : ∃ f9 : zFr, f9 = zur g266 30 51 (some 55) := ⟨_, rfl⟩
  rw [← eg267] at hH
  replace hB := zBI.ref hB eg267 (by omega) (by omega) (by decide +kernel)
  clear eg267
  refine lv_aload_n hx hb dX12_init_275 rfl (lv_at hl 0 rfl) ?_
  refine lv_sipush (v := nI 480) hx hb dX12_init_276 (by decide) ?_
  refine zNewa (D := D) (atype := .int) (t := 1) (N' := 480) hx hb hw3 rfl (by decide) (by decide) rfl hH hS hA 56 (hB.2.1 56 (by omega)).1 (by decide) (by decide) (by first | decide | (simp only [zT, componentBytes]; omega)) (Nat.le_of_ble_eq_true rfl) (Nat.le_of_ble_eq_true rfl) dX12_init_279 (fun q9 c9 H hH8 hS => ?_)
  obtain ⟨τ269, eτ269⟩ : ∃ t9 : zTy, t9 = (va_up τ264.1 56 q9, va_up τ264.2.1 56 c9, va_up τ264.2.2.1 56 1, va_up τ264.2.2.2 56 480) := ⟨_, rfl⟩
  obtain ⟨f270, ef270⟩ : ∃ f9 : zFi, f9 = va_up f265 56 (fun _ => 0) := ⟨_, rfl⟩
  obtain ⟨g271, eg271⟩ : ∃ f9 : zFr, f9 = va_up g267 56 (fun _ => none) := ⟨_, rfl⟩
  replace hH : zH D A τ269 f270 g271 ol s H := by rw [eτ269, ef270, eg271]; exact hH8
  clear hH8
  have hqτ269 : τ269.1 56 = q9 := by rw [eτ269]; exact va_up_self τ264.1 56 q9
  have haτ269 : ∀ i, i ≠ 56 → τ269.1 i = τ264.1 i := fun i h => by rw [eτ269]; exact va_up_ne _ _ h
  have hkτ269 : τ269.2.2.1 56 = 1 := by rw [eτ269]; exact va_up_self τ264.2.2.1 56 1
  have hnτ269 : τ269.2.2.2 56 = 480 := by rw [eτ269]; exact va_up_self τ264.2.2.2 56 480
  have hbτ269 : ∀ i, i ≠ 56 → τ269.2.2.1 i = τ264.2.2.1 i ∧ τ269.2.2.2 i = τ264.2.2.2 i := fun i h => by rw [eτ269]; exact ⟨va_up_ne _ _ h, va_up_ne _ _ h⟩
  clear eτ269
  subst hqτ269
  rw [show τ264.1 30 = τ269.1 30 from (haτ269 30 (by omega)).symm] at hl
  refine W.eq (g2 := F0 m 281 ls [.ref (τ269.1 56), .ref (τ269.1 30)]) (by rw [haτ269 30 (by omega)]) ?_
  replace hB := zBI.born (i := 56) (a' := 57) (b' := 208) hB (by omega) (by omega) hkτ269 hnτ269 hbτ269 ef270 eg271 (by decide) (by decide) (by decide)
  clear eg271 hkτ269 hnτ269 hbτ269
  replace hAd : ∀ i, i ≤ 30 → τ269.1 i = τ.1 i := fun i h => by rw [haτ269 i (by omega)]; exact hAd i h
  clear haτ269
  replace hV := hV.born ef270 (by omega)
  replace hQ24 : f270 30 24 = -1 := by rw [show f270 30 24 = f265 30 24 from by rw [ef270, va_up_ne _ _ (by omega)]]; exact hQ24
  clear ef270
  refine W.widen (k := 34) (n := 3872) (by decide) (by decide) ?_
  refine zPutFR (D := D) (ci := 12) (ty := .array .int) (C := RX12) (T := TX12) (N := 71) hx hb hts hiX12 tyX12 tyX12_ok nmX12 hown hH hS ((hB.1 30 (by omega)).1.trans (by decide : zkt 30 = 28)) rfl 52 (by decide) rfl hw40 (fun _ h9 => h9) rfl hin rfl (by rw [((hB.1 56 (by omega)).1.trans (by decide : zkt 56 = 1))]; decide)  (by decide +kernel) rfl rfl dX12_init_281 (fun H locs hH hS => ?_)
  obtain ⟨g272, eg272⟩ : ∃ f9 : zFr, f9 = zur g271 30 52 (some 56) := ⟨_, rfl⟩
  rw [← eg272] at hH
  replace hB := zBI.ref hB eg272 (by omega) (by omega) (by decide +kernel)
  clear eg272
  refine lv_aload_n hx hb dX12_init_284 rfl (lv_at hl 0 rfl) ?_
  refine lv_sipush (v := nI 480) hx hb dX12_init_285 (by decide) ?_
  refine zNewa (D := D) (atype := .int) (t := 1) (N' := 480) hx hb hw3 rfl (by decide) (by decide) rfl hH hS hA 57 (hB.2.1 57 (by omega)).1 (by decide) (by decide) (by first | decide | (simp only [zT, componentBytes]; omega)) (Nat.le_of_ble_eq_true rfl) (Nat.le_of_ble_eq_true rfl) dX12_init_288 (fun q9 c9 H hH8 hS => ?_)
  obtain ⟨τ274, eτ274⟩ : ∃ t9 : zTy, t9 = (va_up τ269.1 57 q9, va_up τ269.2.1 57 c9, va_up τ269.2.2.1 57 1, va_up τ269.2.2.2 57 480) := ⟨_, rfl⟩
  obtain ⟨f275, ef275⟩ : ∃ f9 : zFi, f9 = va_up f270 57 (fun _ => 0) := ⟨_, rfl⟩
  obtain ⟨g276, eg276⟩ : ∃ f9 : zFr, f9 = va_up g272 57 (fun _ => none) := ⟨_, rfl⟩
  replace hH : zH D A τ274 f275 g276 ol s H := by rw [eτ274, ef275, eg276]; exact hH8
  clear hH8
  have hqτ274 : τ274.1 57 = q9 := by rw [eτ274]; exact va_up_self τ269.1 57 q9
  have haτ274 : ∀ i, i ≠ 57 → τ274.1 i = τ269.1 i := fun i h => by rw [eτ274]; exact va_up_ne _ _ h
  have hkτ274 : τ274.2.2.1 57 = 1 := by rw [eτ274]; exact va_up_self τ269.2.2.1 57 1
  have hnτ274 : τ274.2.2.2 57 = 480 := by rw [eτ274]; exact va_up_self τ269.2.2.2 57 480
  have hbτ274 : ∀ i, i ≠ 57 → τ274.2.2.1 i = τ269.2.2.1 i ∧ τ274.2.2.2 i = τ269.2.2.2 i := fun i h => by rw [eτ274]; exact ⟨va_up_ne _ _ h, va_up_ne _ _ h⟩
  clear eτ274
  subst hqτ274
  rw [show τ269.1 30 = τ274.1 30 from (haτ274 30 (by omega)).symm] at hl
  refine W.eq (g2 := F0 m 290 ls [.ref (τ274.1 57), .ref (τ274.1 30)]) (by rw [haτ274 30 (by omega)]) ?_
  replace hB := zBI.born (i := 57) (a' := 58) (b' := 208) hB (by omega) (by omega) hkτ274 hnτ274 hbτ274 ef275 eg276 (by decide) (by decide) (by decide)
  clear eg276 hkτ274 hnτ274 hbτ274
  replace hAd : ∀ i, i ≤ 30 → τ274.1 i = τ.1 i := fun i h => by rw [haτ274 i (by omega)]; exact hAd i h
  clear haτ274
  replace hV := hV.born ef275 (by omega)
  replace hQ24 : f275 30 24 = -1 := by rw [show f275 30 24 = f270 30 24 from by rw [ef275, va_up_ne _ _ (by omega)]]; exact hQ24
  clear ef275
  refine W.widen (k := 35) (n := 4352) (by decide) (by decide) ?_
  refine zPutFR (D := D) (ci := 12) (ty := .array .int) (C := RX12) (T := TX12) (N := 71) hx hb hts hiX12 tyX12 tyX12_ok nmX12 hown hH hS ((hB.1 30 (by omega)).1.trans (by decide : zkt 30 = 28)) rfl 53 (by decide) rfl hw41 (fun _ h9 => h9) rfl hin rfl (by rw [((hB.1 57 (by omega)).1.trans (by decide : zkt 57 = 1))]; decide)  (by decide +kernel) rfl rfl dX12_init_290 (fun H locs hH hS => ?_)
  obtain ⟨g277, eg277⟩ : ∃ f9 : zFr, f9 = zur g276 30 53 (some 57) := ⟨_, rfl⟩
  rw [← eg277] at hH
  replace hB := zBI.ref hB eg277 (by omega) (by omega) (by decide +kernel)
  clear eg277
  refine lv_aload_n hx hb dX12_init_293 rfl (lv_at hl 0 rfl) ?_
  refine lv_sipush (v := nI 480) hx hb dX12_init_294 (by decide) ?_
  refine zNewa (D := D) (atype := .int) (t := 1) (N' := 480) hx hb hw3 rfl (by decide) (by decide) rfl hH hS hA 58 (hB.2.1 58 (by omega)).1 (by decide) (by decide) (by first | decide | (simp only [zT, componentBytes]; omega)) (Nat.le_of_ble_eq_true rfl) (Nat.le_of_ble_eq_true rfl) dX12_init_297 (fun q9 c9 H hH8 hS => ?_)
  obtain ⟨τ279, eτ279⟩ : ∃ t9 : zTy, t9 = (va_up τ274.1 58 q9, va_up τ274.2.1 58 c9, va_up τ274.2.2.1 58 1, va_up τ274.2.2.2 58 480) := ⟨_, rfl⟩
  obtain ⟨f280, ef280⟩ : ∃ f9 : zFi, f9 = va_up f275 58 (fun _ => 0) := ⟨_, rfl⟩
  obtain ⟨g281, eg281⟩ : ∃ f9 : zFr, f9 = va_up g277 58 (fun _ => none) := ⟨_, rfl⟩
  replace hH : zH D A τ279 f280 g281 ol s H := by rw [eτ279, ef280, eg281]; exact hH8
  clear hH8
  have hqτ279 : τ279.1 58 = q9 := by rw [eτ279]; exact va_up_self τ274.1 58 q9
  have haτ279 : ∀ i, i ≠ 58 → τ279.1 i = τ274.1 i := fun i h => by rw [eτ279]; exact va_up_ne _ _ h
  have hkτ279 : τ279.2.2.1 58 = 1 := by rw [eτ279]; exact va_up_self τ274.2.2.1 58 1
  have hnτ279 : τ279.2.2.2 58 = 480 := by rw [eτ279]; exact va_up_self τ274.2.2.2 58 480
  have hbτ279 : ∀ i, i ≠ 58 → τ279.2.2.1 i = τ274.2.2.1 i ∧ τ279.2.2.2 i = τ274.2.2.2 i := fun i h => by rw [eτ279]; exact ⟨va_up_ne _ _ h, va_up_ne _ _ h⟩
  clear eτ279
  subst hqτ279
  rw [show τ274.1 30 = τ279.1 30 from (haτ279 30 (by omega)).symm] at hl
  refine W.eq (g2 := F0 m 299 ls [.ref (τ279.1 58), .ref (τ279.1 30)]) (by rw [haτ279 30 (by omega)]) ?_
  replace hB := zBI.born (i := 58) (a' := 59) (b' := 208) hB (by omega) (by omega) hkτ279 hnτ279 hbτ279 ef280 eg281 (by decide) (by decide) (by decide)
  clear eg281 hkτ279 hnτ279 hbτ279
  replace hAd : ∀ i, i ≤ 30 → τ279.1 i = τ.1 i := fun i h => by rw [haτ279 i (by omega)]; exact hAd i h
  clear haτ279
  replace hV := hV.born ef280 (by omega)
  replace hQ24 : f280 30 24 = -1 := by rw [show f280 30 24 = f275 30 24 from by rw [ef280, va_up_ne _ _ (by omega)]]; exact hQ24
  clear ef280
  refine W.widen (k := 36) (n := 4832) (by decide) (by decide) ?_
  refine zPutFR (D := D) (ci := 12) (ty := .array .int) (C := RX12) (T := TX12) (N := 71) hx hb hts hiX12 tyX12 tyX12_ok nmX12 hown hH hS ((hB.1 30 (by omega)).1.trans (by decide : zkt 30 = 28)) rfl 54 (by decide) rfl hw42 (fun _ h9 => h9) rfl hin rfl (by rw [((hB.1 58 (by omega)).1.trans (by decide : zkt 58 = 1))]; decide)  (by decide +kernel) rfl rfl dX12_init_299 (fun H locs hH hS => ?_)
  obtain ⟨g282, eg282⟩ : ∃ f9 : zFr, f9 = zur g281 30 54 (some 58) := ⟨_, rfl⟩
  rw [← eg282] at hH
  replace hB := zBI.ref hB eg282 (by omega) (by omega) (by decide +kernel)
  clear eg282
  refine lv_aload_n hx hb dX12_init_302 rfl (lv_at hl 0 rfl) ?_
  refine lv_sipush (v := nI 480) hx hb dX12_init_303 (by decide) ?_
  refine zNewa (D := D) (atype := .int) (t := 1) (N' := 480) hx hb hw3 rfl (by decide) (by decide) rfl hH hS hA 59 (hB.2.1 59 (by omega)).1 (by decide) (by decide) (by first | decide | (simp only [zT, componentBytes]; omega)) (Nat.le_of_ble_eq_true rfl) (Nat.le_of_ble_eq_true rfl) dX12_init_306 (fun q9 c9 H hH8 hS => ?_)
  obtain ⟨τ284, eτ284⟩ : ∃ t9 : zTy, t9 = (va_up τ279.1 59 q9, va_up τ279.2.1 59 c9, va_up τ279.2.2.1 59 1, va_up τ279.2.2.2 59 480) := ⟨_, rfl⟩
  obtain ⟨f285, ef285⟩ : ∃ f9 : zFi, f9 = va_up f280 59 (fun _ => 0) := ⟨_, rfl⟩
  obtain ⟨g286, eg286⟩ : ∃ f9 : zFr, f9 = va_up g282 59 (fun _ => none) := ⟨_, rfl⟩
  replace hH : zH D A τ284 f285 g286 ol s H := by rw [eτ284, ef285, eg286]; exact hH8
  clear hH8
  have hqτ284 : τ284.1 59 = q9 := by rw [eτ284]; exact va_up_self τ279.1 59 q9
  have haτ284 : ∀ i, i ≠ 59 → τ284.1 i = τ279.1 i := fun i h => by rw [eτ284]; exact va_up_ne _ _ h
  have hkτ284 : τ284.2.2.1 59 = 1 := by rw [eτ284]; exact va_up_self τ279.2.2.1 59 1
  have hnτ284 : τ284.2.2.2 59 = 480 := by rw [eτ284]; exact va_up_self τ279.2.2.2 59 480
  have hbτ284 : ∀ i, i ≠ 59 → τ284.2.2.1 i = τ279.2.2.1 i ∧ τ284.2.2.2 i = τ279.2.2.2 i := fun i h => by rw [eτ284]; exact ⟨va_up_ne _ _ h, va_up_ne _ _ h⟩
  clear eτ284
  subst hqτ284
  rw [show τ279.1 30 = τ284.1 30 from (haτ284 30 (by omega)).symm] at hl
  refine W.eq (g2 := F0 m 308 ls [.ref (τ284.1 59), .ref (τ284.1 30)]) (by rw [haτ284 30 (by omega)]) ?_
  replace hB := zBI.born (i := 59) (a' := 60) (b' := 208) hB (by omega) (by omega) hkτ284 hnτ284 hbτ284 ef285 eg286 (by decide) (by decide) (by decide)
  clear eg286 hkτ284 hnτ284 hbτ284
  replace hAd : ∀ i, i ≤ 30 → τ284.1 i = τ.1 i := fun i h => by rw [haτ284 i (by omega)]; exact hAd i h
  clear haτ284
  replace hV := hV.born ef285 (by omega)
  replace hQ24 : f285 30 24 = -1 := by rw [show f285 30 24 = f280 30 24 from by rw [ef285, va_up_ne _ _ (by omega)]]; exact hQ24
  clear ef285
  refine W.widen (k := 37) (n := 5312) (by decide) (by decide) ?_
  refine zPutFR (D := D) (ci := 12) (ty := .array .int) (C := RX12) (T := TX12) (N := 71) hx hb hts hiX12 tyX12 tyX12_ok nmX12 hown hH hS ((hB.1 30 (by omega)).1.trans (by decide : zkt 30 = 28)) rfl 55 (by decide) rfl hw43 (fun _ h9 => h9) rfl hin rfl (by rw [((hB.1 59 (by omega)).1.trans (by decide : zkt 59 = 1))]; decide)  (by decide +kernel) rfl rfl dX12_init_308 (fun H locs hH hS => ?_)
  obtain ⟨g287, eg287⟩ : ∃ f9 : zFr, f9 = zur g286 30 55 (some 59) := ⟨_, rfl⟩
  rw [← eg287] at hH
  replace hB := zBI.ref hB eg287 (by omega) (by omega) (by decide +kernel)
  clear eg287
  refine lv_aload_n hx hb dX12_init_311 rfl (lv_at hl 0 rfl) ?_
  refine lv_sipush (v := nI 480) hx hb dX12_init_312 (by decide) ?_
  refine zNewa (D := D) (atype := .int) (t := 1) (N' := 480) hx hb hw3 rfl (by decide) (by decide) rfl hH hS hA 60 (hB.2.1 60 (by omega)).1 (by decide) (by decide) (by first | decide | (simp only [zT, componentBytes]; omega)) (Nat.le_of_ble_eq_true rfl) (Nat.le_of_ble_eq_true rfl) dX12_init_315 (fun q9 c9 H hH8 hS => ?_)
  obtain ⟨τ289, eτ289⟩ : ∃ t9 : zTy, t9 = (va_up τ284.1 60 q9, va_up τ284.2.1 60 c9, va_up τ284.2.2.1 60 1, va_up τ284.2.2.2 60 480) := ⟨_, rfl⟩
  obtain ⟨f290, ef290⟩ : ∃ f9 : zFi, f9 = va_up f285 60 (fun _ => 0) := ⟨_, rfl⟩
  obtain ⟨g291, eg291⟩ : ∃ f9 : zFr, f9 = va_up g287 60 (fun _ => none) := ⟨_, rfl⟩
  replace hH : zH D A τ289 f290 g291 ol s H := by rw [eτ289, ef290, eg291]; exact hH8
  clear hH8
  have hqτ289 : τ289.1 60 = q9 := by rw [eτ289]; exact va_up_self τ284.1 60 q9
  have haτ289 : ∀ i, i ≠ 60 → τ289.1 i = τ284.1 i := fun i h => by rw [eτ289]; exact va_up_ne _ _ h
  have hkτ289 : τ289.2.2.1 60 = 1 := by rw [eτ289]; exact va_up_self τ284.2.2.1 60 1
  have hnτ289 : τ289.2.2.2 60 = 480 := by rw [eτ289]; exact va_up_self τ284.2.2.2 60 480
  have hbτ289 : ∀ i, i ≠ 60 → τ289.2.2.1 i = τ284.2.2.1 i ∧ τ289.2.2.2 i = τ284.2.2.2 i := fun i h => by rw [eτ289]; exact ⟨va_up_ne _ _ h, va_up_ne _ _ h⟩
  clear eτ289
  subst hqτ289
  rw [show τ284.1 30 = τ289.1 30 from (haτ289 30 (by omega)).symm] at hl
  refine W.eq (g2 := F0 m 317 ls [.ref (τ289.1 60), .ref (τ289.1 30)]) (by rw [haτ289 30 (by omega)]) ?_
  replace hB := zBI.born (i := 60) (a' := 61) (b' := 208) hB (by omega) (by omega) hkτ289 hnτ289 hbτ289 ef290 eg291 (by decide) (by decide) (by decide)
  clear eg291 hkτ289 hnτ289 hbτ289
  replace hAd : ∀ i, i ≤ 30 → τ289.1 i = τ.1 i := fun i h => by rw [haτ289 i (by omega)]; exact hAd i h
  clear haτ289
  replace hV := hV.born ef290 (by omega)
  replace hQ24 : f290 30 24 = -1 := by rw [show f290 30 24 = f285 30 24 from by rw [ef290, va_up_ne _ _ (by omega)]]; exact hQ24
  clear ef290
  refine W.widen (k := 38) (n := 5792) (by decide) (by decide) ?_
  refine zPutFR (D := D) (ci := 12) (ty := .array .int) (C := RX12) (T := TX12) (N := 71) hx hb hts hiX12 tyX12 tyX12_ok nmX12 hown hH hS ((hB.1 30 (by omega)).1.trans (by decide : zkt 30 = 28)) rfl 56 (by decide) rfl hw44 (fun _ h9 => h9) rfl hin rfl (by rw [((hB.1 60 (by omega)).1.trans (by decide : zkt 60 = 1))]; decide)  (by decide +kernel) rfl rfl dX12_init_317 (fun H locs hH hS => ?_)
  obtain ⟨g292, eg292⟩ : ∃ f9 : zFr, f9 = zur g291 30 56 (some 60) := ⟨_, rfl⟩
  rw [← eg292] at hH
  replace hB := zBI.ref hB eg292 (by omega) (by omega) (by decide +kernel)
  clear eg292
  refine lv_aload_n hx hb dX12_init_320 rfl (lv_at hl 0 rfl) ?_
  refine lv_sipush (v := nI 480) hx hb dX12_init_321 (by decide) ?_
  refine zNewa (D := D) (atype := .int) (t := 1) (N' := 480) hx hb hw3 rfl (by decide) (by decide) rfl hH hS hA 61 (hB.2.1 61 (by omega)).1 (by decide) (by decide) (by first | decide | (simp only [zT, componentBytes]; omega)) (Nat.le_of_ble_eq_true rfl) (Nat.le_of_ble_eq_true rfl) dX12_init_324 (fun q9 c9 H hH8 hS => ?_)
  obtain ⟨τ294, eτ294⟩ : ∃ t9 : zTy, t9 = (va_up τ289.1 61 q9, va_up τ289.2.1 61 c9, va_up τ289.2.2.1 61 1, va_up τ289.2.2.2 61 480) := ⟨_, rfl⟩
  obtain ⟨f295, ef295⟩ : ∃ f9 : zFi, f9 = va_up f290 61 (fun _ => 0) := ⟨_, rfl⟩
  obtain ⟨g296, eg296⟩ : ∃ f9 : zFr, f9 = va_up g292 61 (fun _ => none) := ⟨_, rfl⟩
  replace hH : zH D A τ294 f295 g296 ol s H := by rw [eτ294, ef295, eg296]; exact hH8
  clear hH8
  have hqτ294 : τ294.1 61 = q9 := by rw [eτ294]; exact va_up_self τ289.1 61 q9
  have haτ294 : ∀ i, i ≠ 61 → τ294.1 i = τ289.1 i := fun i h => by rw [eτ294]; exact va_up_ne _ _ h
  have hkτ294 : τ294.2.2.1 61 = 1 := by rw [eτ294]; exact va_up_self τ289.2.2.1 61 1
  have hnτ294 : τ294.2.2.2 61 = 480 := by rw [eτ294]; exact va_up_self τ289.2.2.2 61 480
  have hbτ294 : ∀ i, i ≠ 61 → τ294.2.2.1 i = τ289.2.2.1 i ∧ τ294.2.2.2 i = τ289.2.2.2 i := fun i h => by rw [eτ294]; exact ⟨va_up_ne _ _ h, va_up_ne _ _ h⟩
  clear eτ294
  subst hqτ294
  rw [show τ289.1 30 = τ294.1 30 from (haτ294 30 (by omega)).symm] at hl
  refine W.eq (g2 := F0 m 326 ls [.ref (τ294.1 61), .ref (τ294.1 30)]) (by rw [haτ294 30 (by omega)]) ?_
  replace hB := zBI.born (i := 61) (a' := 62) (b' := 208) hB (by omega) (by omega) hkτ294 hnτ294 hbτ294 ef295 eg296 (by decide) (by decide) (by decide)
  clear eg296 hkτ294 hnτ294 hbτ294
  replace hAd : ∀ i, i ≤ 30 → τ294.1 i = τ.1 i := fun i h => by rw [haτ294 i (by omega)]; exact hAd i h
  clear haτ294
  replace hV := hV.born ef295 (by omega)
  replace hQ24 : f295 30 24 = -1 := by rw [show f295 30 24 = f290 30 24 from by rw [ef295, va_up_ne _ _ (by omega)]]; exact hQ24
  clear ef295
  refine W.widen (k := 39) (n := 6272) (by decide) (by decide) ?_
  refine zPutFR (D := D) (ci := 12) (ty := .array .int) (C := RX12) (T := TX12) (N := 71) hx hb hts hiX12 tyX12 tyX12_ok nmX12 hown hH hS ((hB.1 30 (by omega)).1.trans (by decide : zkt 30 = 28)) rfl 57 (by decide) rfl hw45 (fun _ h9 => h9) rfl hin rfl (by rw [((hB.1 61 (by omega)).1.trans (by decide : zkt 61 = 1))]; decide)  (by decide +kernel) rfl rfl dX12_init_326 (fun H locs hH hS => ?_)
  obtain ⟨g297, eg297⟩ : ∃ f9 : zFr, f9 = zur g296 30 57 (some 61) := ⟨_, rfl⟩
  rw [← eg297] at hH
  replace hB := zBI.ref hB eg297 (by omega) (by omega) (by decide +kernel)
  clear eg297
  refine lv_aload_n hx hb dX12_init_329 rfl (lv_at hl 0 rfl) ?_
  refine lv_sipush (v := nI 480) hx hb dX12_init_330 (by decide) ?_
  refine zNewa (D := D) (atype := .int) (t := 1) (N' := 480) hx hb hw3 rfl (by decide) (by decide) rfl hH hS hA 62 (hB.2.1 62 (by omega)).1 (by decide) (by decide) (by first | decide | (simp only [zT, componentBytes]; omega)) (Nat.le_of_ble_eq_true rfl) (Nat.le_of_ble_eq_true rfl) dX12_init_333 (fun q9 c9 H hH8 hS => ?_)
  obtain ⟨τ299, eτ299⟩ : ∃ t9 : zTy, t9 = (va_up τ294.1 62 q9, va_up τ294.2.1 62 c9, va_up τ294.2.2.1 62 1, va_up τ294.2.2.2 62 480) := ⟨_, rfl⟩
  obtain ⟨f300, ef300⟩ : ∃ f9 : zFi, f9 = va_up f295 62 (fun _ => 0) := ⟨_, rfl⟩
  obtain ⟨g301, eg301⟩ : ∃ f9 : zFr, f9 = va_up g297 62 (fun _ => none) := ⟨_, rfl⟩
  replace hH : zH D A τ299 f300 g301 ol s H := by rw [eτ299, ef300, eg301]; exact hH8
  clear hH8
  have hqτ299 : τ299.1 62 = q9 := by rw [eτ299]; exact va_up_self τ294.1 62 q9
  have haτ299 : ∀ i, i ≠ 62 → τ299.1 i = τ294.1 i := fun i h => by rw [eτ299]; exact va_up_ne _ _ h
  have hkτ299 : τ299.2.2.1 62 = 1 := by rw [eτ299]; exact va_up_self τ294.2.2.1 62 1
  have hnτ299 : τ299.2.2.2 62 = 480 := by rw [eτ299]; exact va_up_self τ294.2.2.2 62 480
  have hbτ299 : ∀ i, i ≠ 62 → τ299.2.2.1 i = τ294.2.2.1 i ∧ τ299.2.2.2 i = τ294.2.2.2 i := fun i h => by rw [eτ299]; exact ⟨va_up_ne _ _ h, va_up_ne _ _ h⟩
  clear eτ299
  subst hqτ299
  rw [show τ294.1 30 = τ299.1 30 from (haτ299 30 (by omega)).symm] at hl
  refine W.eq (g2 := F0 m 335 ls [.ref (τ299.1 62), .ref (τ299.1 30)]) (by rw [haτ299 30 (by omega)]) ?_
  replace hB := zBI.born (i := 62) (a' := 63) (b' := 208) hB (by omega) (by omega) hkτ299 hnτ299 hbτ299 ef300 eg301 (by decide) (by decide) (by decide)
  clear eg301 hkτ299 hnτ299 hbτ299
  replace hAd : ∀ i, i ≤ 30 → τ299.1 i = τ.1 i := fun i h => by rw [haτ299 i (by omega)]; exact hAd i h
  clear haτ299
  replace hV := hV.born ef300 (by omega)
  replace hQ24 : f300 30 24 = -1 := by rw [show f300 30 24 = f295 30 24 from by rw [ef300, va_up_ne _ _ (by omega)]]; exact hQ24
  clear ef300
  refine W.widen (k := 40) (n := 6752) (by decide) (by decide) ?_
  refine zPutFR (D := D) (ci := 12) (ty := .array .int) (C := RX12) (T := TX12) (N := 71) hx hb hts hiX12 tyX12 tyX12_ok nmX12 hown hH hS ((hB.1 30 (by omega)).1.trans (by decide : zkt 30 = 28)) rfl 58 (by decide) rfl hw46 (fun _ h9 => h9) rfl hin rfl (by rw [((hB.1 62 (by omega)).1.trans (by decide : zkt 62 = 1))]; decide)  (by decide +kernel) rfl rfl dX12_init_335 (fun H locs hH hS => ?_)
  obtain ⟨g302, eg302⟩ : ∃ f9 : zFr, f9 = zur g301 30 58 (some 62) := ⟨_, rfl⟩
  rw [← eg302] at hH
  replace hB := zBI.ref hB eg302 (by omega) (by omega) (by decide +kernel)
  clear eg302
  refine lv_aload_n hx hb dX12_init_338 rfl (lv_at hl 0 rfl) ?_
  refine lv_sipush (v := nI 480) hx hb dX12_init_339 (by decide) ?_
  refine zNewa (D := D) (atype := .int) (t := 1) (N' := 480) hx hb hw3 rfl (by decide) (by decide) rfl hH hS hA 63 (hB.2.1 63 (by omega)).1 (by decide) (by decide) (by first | decide | (simp only [zT, componentBytes]; omega)) (Nat.le_of_ble_eq_true rfl) (Nat.le_of_ble_eq_true rfl) dX12_init_342 (fun q9 c9 H hH8 hS => ?_)
  obtain ⟨τ304, eτ304⟩ : ∃ t9 : zTy, t9 = (va_up τ299.1 63 q9, va_up τ299.2.1 63 c9, va_up τ299.2.2.1 63 1, va_up τ299.2.2.2 63 480) := ⟨_, rfl⟩
  obtain ⟨f305, ef305⟩ : ∃ f9 : zFi, f9 = va_up f300 63 (fun _ => 0) := ⟨_, rfl⟩
  obtain ⟨g306, eg306⟩ : ∃ f9 : zFr, f9 = va_up g302 63 (fun _ => none) := ⟨_, rfl⟩
  replace hH : zH D A τ304 f305 g306 ol s H := by rw [eτ304, ef305, eg306]; exact hH8
  clear hH8
  have hqτ304 : τ304.1 63 = q9 := by rw [eτ304]; exact va_up_self τ299.1 63 q9
  have haτ304 : ∀ i, i ≠ 63 → τ304.1 i = τ299.1 i := fun i h => by rw [eτ304]; exact va_up_ne _ _ h
  have hkτ304 : τ304.2.2.1 63 = 1 := by rw [eτ304]; exact va_up_self τ299.2.2.1 63 1
  have hnτ304 : τ304.2.2.2 63 = 480 := by rw [eτ304]; exact va_up_self τ299.2.2.2 63 480
  have hbτ304 : ∀ i, i ≠ 63 → τ304.2.2.1 i = τ299.2.2.1 i ∧ τ304.2.2.2 i = τ299.2.2.2 i := fun i h => by rw [eτ304]; exact ⟨va_up_ne _ _ h, va_up_ne _ _ h⟩
  clear eτ304
  subst hqτ304
  rw [show τ299.1 30 = τ304.1 30 from (haτ304 30 (by omega)).symm] at hl
  refine W.eq (g2 := F0 m 344 ls [.ref (τ304.1 63), .ref (τ304.1 30)]) (by rw [haτ304 30 (by omega)]) ?_
  replace hB := zBI.born (i := 63) (a' := 64) (b' := 208) hB (by omega) (by omega) hkτ304 hnτ304 hbτ304 ef305 eg306 (by decide) (by decide) (by decide)
  clear eg306 hkτ304 hnτ304 hbτ304
  replace hAd : ∀ i, i ≤ 30 → τ304.1 i = τ.1 i := fun i h => by rw [haτ304 i (by omega)]; exact hAd i h
  clear haτ304
  replace hV := hV.born ef305 (by omega)
  replace hQ24 : f305 30 24 = -1 := by rw [show f305 30 24 = f300 30 24 from by rw [ef305, va_up_ne _ _ (by omega)]]; exact hQ24
  clear ef305
  refine W.widen (k := 41) (n := 7232) (by decide) (by decide) ?_
  refine zPutFR (D := D) (ci := 12) (ty := .array .int) (C := RX12) (T := TX12) (N := 71) hx hb hts hiX12 tyX12 tyX12_ok nmX12 hown hH hS ((hB.1 30 (by omega)).1.trans (by decide : zkt 30 = 28)) rfl 59 (by decide) rfl hw47 (fun _ h9 => h9) rfl hin rfl (by rw [((hB.1 63 (by omega)).1.trans (by decide : zkt 63 = 1))]; decide)  (by decide +kernel) rfl rfl dX12_init_344 (fun H locs hH hS => ?_)
  obtain ⟨g307, eg307⟩ : ∃ f9 : zFr, f9 = zur g306 30 59 (some 63) := ⟨_, rfl⟩
  rw [← eg307] at hH
  replace hB := zBI.ref hB eg307 (by omega) (by omega) (by decide +kernel)
  clear eg307
  refine lv_aload_n hx hb dX12_init_347 rfl (lv_at hl 0 rfl) ?_
  refine lv_sipush (v := nI 480) hx hb dX12_init_348 (by decide) ?_
  refine zNewa (D := D) (atype := .int) (t := 1) (N' := 480) hx hb hw3 rfl (by decide) (by decide) rfl hH hS hA 64 (hB.2.1 64 (by omega)).1 (by decide) (by decide) (by first | decide | (simp only [zT, componentBytes]; omega)) (Nat.le_of_ble_eq_true rfl) (Nat.le_of_ble_eq_true rfl) dX12_init_351 (fun q9 c9 H hH8 hS => ?_)
  obtain ⟨τ309, eτ309⟩ : ∃ t9 : zTy, t9 = (va_up τ304.1 64 q9, va_up τ304.2.1 64 c9, va_up τ304.2.2.1 64 1, va_up τ304.2.2.2 64 480) := ⟨_, rfl⟩
  obtain ⟨f310, ef310⟩ : ∃ f9 : zFi, f9 = va_up f305 64 (fun _ => 0) := ⟨_, rfl⟩
  obtain ⟨g311, eg311⟩ : ∃ f9 : zFr, f9 = va_up g307 64 (fun _ => none) := ⟨_, rfl⟩
  replace hH : zH D A τ309 f310 g311 ol s H := by rw [eτ309, ef310, eg311]; exact hH8
  clear hH8
  have hqτ309 : τ309.1 64 = q9 := by rw [eτ309]; exact va_up_self τ304.1 64 q9
  have haτ309 : ∀ i, i ≠ 64 → τ309.1 i = τ304.1 i := fun i h => by rw [eτ309]; exact va_up_ne _ _ h
  have hkτ309 : τ309.2.2.1 64 = 1 := by rw [eτ309]; exact va_up_self τ304.2.2.1 64 1
  have hnτ309 : τ309.2.2.2 64 = 480 := by rw [eτ309]; exact va_up_self τ304.2.2.2 64 480
  have hbτ309 : ∀ i, i ≠ 64 → τ309.2.2.1 i = τ304.2.2.1 i ∧ τ309.2.2.2 i = τ304.2.2.2 i := fun i h => by rw [eτ309]; exact ⟨va_up_ne _ _ h, va_up_ne _ _ h⟩
  clear eτ309
  subst hqτ309
  rw [show τ304.1 30 = τ309.1 30 from (haτ309 30 (by omega)).symm] at hl
  refine W.eq (g2 := F0 m 353 ls [.ref (τ309.1 64), .ref (τ309.1 30)]) (by rw [haτ309 30 (by omega)]) ?_
  replace hB := zBI.born (i := 64) (a' := 65) (b' := 208) hB (by omega) (by omega) hkτ309 hnτ309 hbτ309 ef310 eg311 (by decide) (by decide) (by decide)
  clear eg311 hkτ309 hnτ309 hbτ309
  replace hAd : ∀ i, i ≤ 30 → τ309.1 i = τ.1 i := fun i h => by rw [haτ309 i (by omega)]; exact hAd i h
  clear haτ309
  replace hV := hV.born ef310 (by omega)
  replace hQ24 : f310 30 24 = -1 := by rw [show f310 30 24 = f305 30 24 from by rw [ef310, va_up_ne _ _ (by omega)]]; exact hQ24
  clear ef310
  refine W.widen (k := 42) (n := 7712) (by decide) (by decide) ?_
  refine zPutFR (D := D) (ci := 12) (ty := .array .int) (C := RX12) (T := TX12) (N := 71) hx hb hts hiX12 tyX12 tyX12_ok nmX12 hown hH hS ((hB.1 30 (by omega)).1.trans (by decide : zkt 30 = 28)) rfl 60 (by decide) rfl hw48 (fun _ h9 => h9) rfl hin rfl (by rw [((hB.1 64 (by omega)).1.trans (by decide : zkt 64 = 1))]; decide)  (by decide +kernel) rfl rfl dX12_init_353 (fun H locs hH hS => ?_)
  obtain ⟨g312, eg312⟩ : ∃ f9 : zFr, f9 = zur g311 30 60 (some 64) := ⟨_, rfl⟩
  rw [← eg312] at hH
  replace hB := zBI.ref hB eg312 (by omega) (by omega) (by decide +kernel)
  clear eg312
  refine lv_aload_n hx hb dX12_init_356 rfl (lv_at hl 0 rfl) ?_
  refine lv_sipush (v := nI 300) hx hb dX12_init_357 (by decide) ?_
  refine zNewa (D := D) (atype := .int) (t := 1) (N' := 300) hx hb hw3 rfl (by decide) (by decide) rfl hH hS hA 65 (hB.2.1 65 (by omega)).1 (by decide) (by decide) (by first | decide | (simp only [zT, componentBytes]; omega)) (Nat.le_of_ble_eq_true rfl) (Nat.le_of_ble_eq_true rfl) dX12_init_360 (fun q9 c9 H hH8 hS => ?_)
  obtain ⟨τ314, eτ314⟩ : ∃ t9 : zTy, t9 = (va_up τ309.1 65 q9, va_up τ309.2.1 65 c9, va_up τ309.2.2.1 65 1, va_up τ309.2.2.2 65 300) := ⟨_, rfl⟩
  obtain ⟨f315, ef315⟩ : ∃ f9 : zFi, f9 = va_up f310 65 (fun _ => 0) := ⟨_, rfl⟩
  obtain ⟨g316, eg316⟩ : ∃ f9 : zFr, f9 = va_up g312 65 (fun _ => none) := ⟨_, rfl⟩
  replace hH : zH D A τ314 f315 g316 ol s H := by rw [eτ314, ef315, eg316]; exact hH8
  clear hH8
  have hqτ314 : τ314.1 65 = q9 := by rw [eτ314]; exact va_up_self τ309.1 65 q9
  have haτ314 : ∀ i, i ≠ 65 → τ314.1 i = τ309.1 i := fun i h => by rw [eτ314]; exact va_up_ne _ _ h
  have hkτ314 : τ314.2.2.1 65 = 1 := by rw [eτ314]; exact va_up_self τ309.2.2.1 65 1
  have hnτ314 : τ314.2.2.2 65 = 300 := by rw [eτ314]; exact va_up_self τ309.2.2.2 65 300
  have hbτ314 : ∀ i, i ≠ 65 → τ314.2.2.1 i = τ309.2.2.1 i ∧ τ314.2.2.2 i = τ309.2.2.2 i := fun i h => by rw [eτ314]; exact ⟨va_up_ne _ _ h, va_up_ne _ _ h⟩
  clear eτ314
  subst hqτ314
  rw [show τ309.1 30 = τ314.1 30 from (haτ314 30 (by omega)).symm] at hl
  refine W.eq (g2 := F0 m 362 ls [.ref (τ314.1 65), .ref (τ314.1 30)]) (by rw [haτ314 30 (by omega)]) ?_
  replace hB := zBI.born (i := 65) (a' := 66) (b' := 208) hB (by omega) (by omega) hkτ314 hnτ314 hbτ314 ef315 eg316 (by decide) (by decide) (by decide)
  clear eg316 hkτ314 hnτ314 hbτ314
  replace hAd : ∀ i, i ≤ 30 → τ314.1 i = τ.1 i := fun i h => by rw [haτ314 i (by omega)]; exact hAd i h
  clear haτ314
  replace hV := hV.born ef315 (by omega)
  replace hQ24 : f315 30 24 = -1 := by rw [show f315 30 24 = f310 30 24 from by rw [ef315, va_up_ne _ _ (by omega)]]; exact hQ24
  clear ef315
  refine W.widen (k := 43) (n := 8012) (by decide) (by decide) ?_
  refine zPutFR (D := D) (ci := 12) (ty := .array .int) (C := RX12) (T := TX12) (N := 71) hx hb hts hiX12 tyX12 tyX12_ok nmX12 hown hH hS ((hB.1 30 (by omega)).1.trans (by decide : zkt 30 = 28)) rfl 62 (by decide) rfl hw49 (fun _ h9 => h9) rfl hin rfl (by rw [((hB.1 65 (by omega)).1.trans (by decide : zkt 65 = 1))]; decide)  (by decide +kernel) rfl rfl dX12_init_362 (fun H locs hH hS => ?_)
  obtain ⟨g317, eg317⟩ : ∃ f9 : zFr, f9 = zur g316 30 62 (some 65) := ⟨_, rfl⟩
  rw [← eg317] at hH
  replace hB := zBI.ref hB eg317 (by omega) (by omega) (by decide +kernel)
  clear eg317
  refine lv_aload_n hx hb dX12_init_365 rfl (lv_at hl 0 rfl) ?_
  refine lv_sipush (v := nI 300) hx hb dX12_init_366 (by decide) ?_
  refine zNewa (D := D) (atype := .int) (t := 1) (N' := 300) hx hb hw3 rfl (by decide) (by decide) rfl hH hS hA 66 (hB.2.1 66 (by omega)).1 (by decide) (by decide) (by first | decide | (simp only [zT, componentBytes]; omega)) (Nat.le_of_ble_eq_true rfl) (Nat.le_of_ble_eq_true rfl) dX12_init_369 (fun q9 c9 H hH8 hS => ?_)
  obtain ⟨τ319, eτ319⟩ : ∃ t9 : zTy, t9 = (va_up τ314.1 66 q9, va_up τ314.2.1 66 c9, va_up τ314.2.2.1 66 1, va_up τ314.2.2.2 66 300) := ⟨_, rfl⟩
  obtain ⟨f320, ef320⟩ : ∃ f9 : zFi, f9 = va_up f315 66 (fun _ => 0) := ⟨_, rfl⟩
  obtain ⟨g321, eg321⟩ : ∃ f9 : zFr, f9 = va_up g317 66 (fun _ => none) := ⟨_, rfl⟩
  replace hH : zH D A τ319 f320 g321 ol s H := by rw [eτ319, ef320, eg321]; exact hH8
  clear hH8
  have hqτ319 : τ319.1 66 = q9 := by rw [eτ319]; exact va_up_self τ314.1 66 q9
  have haτ319 : ∀ i, i ≠ 66 → τ319.1 i = τ314.1 i := fun i h => by rw [eτ319]; exact va_up_ne _ _ h
  have hkτ319 : τ319.2.2.1 66 = 1 := by rw [eτ319]; exact va_up_self τ314.2.2.1 66 1
  have hnτ319 : τ319.2.2.2 66 = 300 := by rw [eτ319]; exact va_up_self τ314.2.2.2 66 300
  have hbτ319 : ∀ i, i ≠ 66 → τ319.2.2.1 i = τ314.2.2.1 i ∧ τ319.2.2.2 i = τ314.2.2.2 i := fun i h => by rw [eτ319]; exact ⟨va_up_ne _ _ h, va_up_ne _ _ h⟩
  clear eτ319
  subst hqτ319
  rw [show τ314.1 30 = τ319.1 30 from (haτ319 30 (by omega)).symm] at hl
  refine W.eq (g2 := F0 m 371 ls [.ref (τ319.1 66), .ref (τ319.1 30)]) (by rw [haτ319 30 (by omega)]) ?_
  replace hB := zBI.born (i := 66) (a' := 67) (b' := 208) hB (by omega) (by omega) hkτ319 hnτ319 hbτ319 ef320 eg321 (by decide) (by decide) (by decide)
  clear eg321 hkτ319 hnτ319 hbτ319
  replace hAd : ∀ i, i ≤ 30 → τ319.1 i = τ.1 i := fun i h => by rw [haτ319 i (by omega)]; exact hAd i h
  clear haτ319
  replace hV := hV.born ef320 (by omega)
  replace hQ24 : f320 30 24 = -1 := by rw [show f320 30 24 = f315 30 24 from by rw [ef320, va_up_ne _ _ (by omega)]]; exact hQ24
  clear ef320
  refine W.widen (k := 44) (n := 8312) (by decide) (by decide) ?_
  refine zPutFR (D := D) (ci := 12) (ty := .array .int) (C := RX12) (T := TX12) (N := 71) hx hb hts hiX12 tyX12 tyX12_ok nmX12 hown hH hS ((hB.1 30 (by omega)).1.trans (by decide : zkt 30 = 28)) rfl 63 (by decide) rfl hw50 (fun _ h9 => h9) rfl hin rfl (by rw [((hB.1 66 (by omega)).1.trans (by decide : zkt 66 = 1))]; decide)  (by decide +kernel) rfl rfl dX12_init_371 (fun H locs hH hS => ?_)
  obtain ⟨g322, eg322⟩ : ∃ f9 : zFr, f9 = zur g321 30 63 (some 66) := ⟨_, rfl⟩
  rw [← eg322] at hH
  replace hB := zBI.ref hB eg322 (by omega) (by omega) (by decide +kernel)
  clear eg322
  refine lv_aload_n hx hb dX12_init_374 rfl (lv_at hl 0 rfl) ?_
  refine lv_sipush (v := nI 300) hx hb dX12_init_375 (by decide) ?_
  refine zNewa (D := D) (atype := .int) (t := 1) (N' := 300) hx hb hw3 rfl (by decide) (by decide) rfl hH hS hA 67 (hB.2.1 67 (by omega)).1 (by decide) (by decide) (by first | decide | (simp only [zT, componentBytes]; omega)) (Nat.le_of_ble_eq_true rfl) (Nat.le_of_ble_eq_true rfl) dX12_init_378 (fun q9 c9 H hH8 hS => ?_)
  obtain ⟨τ324, eτ324⟩ : ∃ t9 : zTy, t9 = (va_up τ319.1 67 q9, va_up τ319.2.1 67 c9, va_up τ319.2.2.1 67 1, va_up τ319.2.2.2 67 300) := ⟨_, rfl⟩
  obtain ⟨f325, ef325⟩ : ∃ f9 : zFi, f9 = va_up f320 67 (fun _ => 0) := ⟨_, rfl⟩
  obtain ⟨g326, eg326⟩ : ∃ f9 : zFr, f9 = va_up g322 67 (fun _ => none) := ⟨_, rfl⟩
  replace hH : zH D A τ324 f325 g326 ol s H := by rw [eτ324, ef325, eg326]; exact hH8
  clear hH8
  have hqτ324 : τ324.1 67 = q9 := by rw [eτ324]; exact va_up_self τ319.1 67 q9
  have haτ324 : ∀ i, i ≠ 67 → τ324.1 i = τ319.1 i := fun i h => by rw [eτ324]; exact va_up_ne _ _ h
  have hkτ324 : τ324.2.2.1 67 = 1 := by rw [eτ324]; exact va_up_self τ319.2.2.1 67 1
  have hnτ324 : τ324.2.2.2 67 = 300 := by rw [eτ324]; exact va_up_self τ319.2.2.2 67 300
  have hbτ324 : ∀ i, i ≠ 67 → τ324.2.2.1 i = τ319.2.2.1 i ∧ τ324.2.2.2 i = τ319.2.2.2 i := fun i h => by rw [eτ324]; exact ⟨va_up_ne _ _ h, va_up_ne _ _ h⟩
  clear eτ324
  subst hqτ324
  rw [show τ319.1 30 = τ324.1 30 from (haτ324 30 (by omega)).symm] at hl
  refine W.eq (g2 := F0 m 380 ls [.ref (τ324.1 67), .ref (τ324.1 30)]) (by rw [haτ324 30 (by omega)]) ?_
  replace hB := zBI.born (i := 67) (a' := 68) (b' := 208) hB (by omega) (by omega) hkτ324 hnτ324 hbτ324 ef325 eg326 (by decide) (by decide) (by decide)
  clear eg326 hkτ324 hnτ324 hbτ324
  replace hAd : ∀ i, i ≤ 30 → τ324.1 i = τ.1 i := fun i h => by rw [haτ324 i (by omega)]; exact hAd i h
  clear haτ324
  replace hV := hV.born ef325 (by omega)
  replace hQ24 : f325 30 24 = -1 := by rw [show f325 30 24 = f320 30 24 from by rw [ef325, va_up_ne _ _ (by omega)]]; exact hQ24
  clear ef325
  refine W.widen (k := 45) (n := 8612) (by decide) (by decide) ?_
  refine zPutFR (D := D) (ci := 12) (ty := .array .int) (C := RX12) (T := TX12) (N := 71) hx hb hts hiX12 tyX12 tyX12_ok nmX12 hown hH hS ((hB.1 30 (by omega)).1.trans (by decide : zkt 30 = 28)) rfl 64 (by decide) rfl hw51 (fun _ h9 => h9) rfl hin rfl (by rw [((hB.1 67 (by omega)).1.trans (by decide : zkt 67 = 1))]; decide)  (by decide +kernel) rfl rfl dX12_init_380 (fun H locs hH hS => ?_)
  obtain ⟨g327, eg327⟩ : ∃ f9 : zFr, f9 = zur g326 30 64 (some 67) := ⟨_, rfl⟩
  rw [← eg327] at hH
  replace hB := zBI.ref hB eg327 (by omega) (by omega) (by decide +kernel)
  clear eg327
  refine lv_aload_n hx hb dX12_init_383 rfl (lv_at hl 0 rfl) ?_
  refine lv_sipush (v := nI 300) hx hb dX12_init_384 (by decide) ?_
  refine zNewa (D := D) (atype := .int) (t := 1) (N' := 300) hx hb hw3 rfl (by decide) (by decide) rfl hH hS hA 68 (hB.2.1 68 (by omega)).1 (by decide) (by decide) (by first | decide | (simp only [zT, componentBytes]; omega)) (Nat.le_of_ble_eq_true rfl) (Nat.le_of_ble_eq_true rfl) dX12_init_387 (fun q9 c9 H hH8 hS => ?_)
  obtain ⟨τ329, eτ329⟩ : ∃ t9 : zTy, t9 = (va_up τ324.1 68 q9, va_up τ324.2.1 68 c9, va_up τ324.2.2.1 68 1, va_up τ324.2.2.2 68 300) := ⟨_, rfl⟩
  obtain ⟨f330, ef330⟩ : ∃ f9 : zFi, f9 = va_up f325 68 (fun _ => 0) := ⟨_, rfl⟩
  obtain ⟨g331, eg331⟩ : ∃ f9 : zFr, f9 = va_up g327 68 (fun _ => none) := ⟨_, rfl⟩
  replace hH : zH D A τ329 f330 g331 ol s H := by rw [eτ329, ef330, eg331]; exact hH8
  clear hH8
  have hqτ329 : τ329.1 68 = q9 := by rw [eτ329]; exact va_up_self τ324.1 68 q9
  have haτ329 : ∀ i, i ≠ 68 → τ329.1 i = τ324.1 i := fun i h => by rw [eτ329]; exact va_up_ne _ _ h
  have hkτ329 : τ329.2.2.1 68 = 1 := by rw [eτ329]; exact va_up_self τ324.2.2.1 68 1
  have hnτ329 : τ329.2.2.2 68 = 300 := by rw [eτ329]; exact va_up_self τ324.2.2.2 68 300
  have hbτ329 : ∀ i, i ≠ 68 → τ329.2.2.1 i = τ324.2.2.1 i ∧ τ329.2.2.2 i = τ324.2.2.2 i := fun i h => by rw [eτ329]; exact ⟨va_up_ne _ _ h, va_up_ne _ _ h⟩
  clear eτ329
  subst hqτ329
  rw [show τ324.1 30 = τ329.1 30 from (haτ329 30 (by omega)).symm] at hl
  refine W.eq (g2 := F0 m 389 ls [.ref (τ329.1 68), .ref (τ329.1 30)]) (by rw [haτ329 30 (by omega)]) ?_
  replace hB := zBI.born (i := 68) (a' := 69) (b' := 208) hB (by omega) (by omega) hkτ329 hnτ329 hbτ329 ef330 eg331 (by decide) (by decide) (by decide)
  clear eg331 hkτ329 hnτ329 hbτ329
  replace hAd : ∀ i, i ≤ 30 → τ329.1 i = τ.1 i := fun i h => by rw [haτ329 i (by omega)]; exact hAd i h
  clear haτ329
  replace hV := hV.born ef330 (by omega)
  replace hQ24 : f330 30 24 = -1 := by rw [show f330 30 24 = f325 30 24 from by rw [ef330, va_up_ne _ _ (by omega)]]; exact hQ24
  clear ef330
  refine W.widen (k := 46) (n := 8912) (by decide) (by decide) ?_
  refine zPutFR (D := D) (ci := 12) (ty := .array .int) (C := RX12) (T := TX12) (N := 71) hx hb hts hiX12 tyX12 tyX12_ok nmX12 hown hH hS ((hB.1 30 (by omega)).1.trans (by decide : zkt 30 = 28)) rfl 65 (by decide) rfl hw52 (fun _ h9 => h9) rfl hin rfl (by rw [((hB.1 68 (by omega)).1.trans (by decide : zkt 68 = 1))]; decide)  (by decide +kernel) rfl rfl dX12_init_389 (fun H locs hH hS => ?_)
  obtain ⟨g332, eg332⟩ : ∃ f9 : zFr, f9 = zur g331 30 65 (some 68) := ⟨_, rfl⟩
  rw [← eg332] at hH
  replace hB := zBI.ref hB eg332 (by omega) (by omega) (by decide +kernel)
  clear eg332
  refine lv_aload_n hx hb dX12_init_392 rfl (lv_at hl 0 rfl) ?_
  refine lv_bipush (v := nI 30) hx hb dX12_init_393 (by decide) ?_
  refine zNewa (D := D) (atype := .int) (t := 1) (N' := 30) hx hb hw3 rfl (by decide) (by decide) rfl hH hS hA 69 (hB.2.1 69 (by omega)).1 (by decide) (by decide) (by first | decide | (simp only [zT, componentBytes]; omega)) (Nat.le_of_ble_eq_true rfl) (Nat.le_of_ble_eq_true rfl) dX12_init_395 (fun q9 c9 H hH8 hS => ?_)
  obtain ⟨τ334, eτ334⟩ : ∃ t9 : zTy, t9 = (va_up τ329.1 69 q9, va_up τ329.2.1 69 c9, va_up τ329.2.2.1 69 1, va_up τ329.2.2.2 69 30) := ⟨_, rfl⟩
  obtain ⟨f335, ef335⟩ : ∃ f9 : zFi, f9 = va_up f330 69 (fun _ => 0) := ⟨_, rfl⟩
  obtain ⟨g336, eg336⟩ : ∃ f9 : zFr, f9 = va_up g332 69 (fun _ => none) := ⟨_, rfl⟩
  replace hH : zH D A τ334 f335 g336 ol s H := by rw [eτ334, ef335, eg336]; exact hH8
  clear hH8
  have hqτ334 : τ334.1 69 = q9 := by rw [eτ334]; exact va_up_self τ329.1 69 q9
  have haτ334 : ∀ i, i ≠ 69 → τ334.1 i = τ329.1 i := fun i h => by rw [eτ334]; exact va_up_ne _ _ h
  have hkτ334 : τ334.2.2.1 69 = 1 := by rw [eτ334]; exact va_up_self τ329.2.2.1 69 1
  have hnτ334 : τ334.2.2.2 69 = 30 := by rw [eτ334]; exact va_up_self τ329.2.2.2 69 30
  have hbτ334 : ∀ i, i ≠ 69 → τ334.2.2.1 i = τ329.2.2.1 i ∧ τ334.2.2.2 i = τ329.2.2.2 i := fun i h => by rw [eτ334]; exact ⟨va_up_ne _ _ h, va_up_ne _ _ h⟩
  clear eτ334
  subst hqτ334
  rw [show τ329.1 30 = τ334.1 30 from (haτ334 30 (by omega)).symm] at hl
  refine W.eq (g2 := F0 m 397 ls [.ref (τ334.1 69), .ref (τ334.1 30)]) (by rw [haτ334 30 (by omega)]) ?_
  replace hB := zBI.born (i := 69) (a' := 70) (b' := 208) hB (by omega) (by omega) hkτ334 hnτ334 hbτ334 ef335 eg336 (by decide) (by decide) (by decide)
  clear eg336 hkτ334 hnτ334 hbτ334
  replace hAd : ∀ i, i ≤ 30 → τ334.1 i = τ.1 i := fun i h => by rw [haτ334 i (by omega)]; exact hAd i h
  clear haτ334
  replace hV := hV.born ef335 (by omega)
  replace hQ24 : f335 30 24 = -1 := by rw [show f335 30 24 = f330 30 24 from by rw [ef335, va_up_ne _ _ (by omega)]]; exact hQ24
  clear ef335
  refine W.widen (k := 47) (n := 8942) (by decide) (by decide) ?_
  refine zPutFR (D := D) (ci := 12) (ty := .array .int) (C := RX12) (T := TX12) (N := 71) hx hb hts hiX12 tyX12 tyX12_ok nmX12 hown hH hS ((hB.1 30 (by omega)).1.trans (by decide : zkt 30 = 28)) rfl 66 (by decide) rfl hw53 (fun _ h9 => h9) rfl hin rfl (by rw [((hB.1 69 (by omega)).1.trans (by decide : zkt 69 = 1))]; decide)  (by decide +kernel) rfl rfl dX12_init_397 (fun H locs hH hS => ?_)
  obtain ⟨g337, eg337⟩ : ∃ f9 : zFr, f9 = zur g336 30 66 (some 69) := ⟨_, rfl⟩
  rw [← eg337] at hH
  replace hB := zBI.ref hB eg337 (by omega) (by omega) (by decide +kernel)
  clear eg337
  refine lv_aload_n hx hb dX12_init_400 rfl (lv_at hl 0 rfl) ?_
  refine lv_sipush (v := nI 800) hx hb dX12_init_401 (by decide) ?_
  refine zNewa (D := D) (atype := .int) (t := 1) (N' := 800) hx hb hw3 rfl (by decide) (by decide) rfl hH hS hA 70 (hB.2.1 70 (by omega)).1 (by decide) (by decide) (by first | decide | (simp only [zT, componentBytes]; omega)) (Nat.le_of_ble_eq_true rfl) (Nat.le_of_ble_eq_true rfl) dX12_init_404 (fun q9 c9 H hH8 hS => ?_)
  obtain ⟨τ339, eτ339⟩ : ∃ t9 : zTy, t9 = (va_up τ334.1 70 q9, va_up τ334.2.1 70 c9, va_up τ334.2.2.1 70 1, va_up τ334.2.2.2 70 800) := ⟨_, rfl⟩
  obtain ⟨f340, ef340⟩ : ∃ f9 : zFi, f9 = va_up f335 70 (fun _ => 0) := ⟨_, rfl⟩
  obtain ⟨g341, eg341⟩ : ∃ f9 : zFr, f9 = va_up g337 70 (fun _ => none) := ⟨_, rfl⟩
  replace hH : zH D A τ339 f340 g341 ol s H := by rw [eτ339, ef340, eg341]; exact hH8
  clear hH8
  have hqτ339 : τ339.1 70 = q9 := by rw [eτ339]; exact va_up_self τ334.1 70 q9
  have haτ339 : ∀ i, i ≠ 70 → τ339.1 i = τ334.1 i := fun i h => by rw [eτ339]; exact va_up_ne _ _ h
  have hkτ339 : τ339.2.2.1 70 = 1 := by rw [eτ339]; exact va_up_self τ334.2.2.1 70 1
  have hnτ339 : τ339.2.2.2 70 = 800 := by rw [eτ339]; exact va_up_self τ334.2.2.2 70 800
  have hbτ339 : ∀ i, i ≠ 70 → τ339.2.2.1 i = τ334.2.2.1 i ∧ τ339.2.2.2 i = τ334.2.2.2 i := fun i h => by rw [eτ339]; exact ⟨va_up_ne _ _ h, va_up_ne _ _ h⟩
  clear eτ339
  subst hqτ339
  rw [show τ334.1 30 = τ339.1 30 from (haτ339 30 (by omega)).symm] at hl
  refine W.eq (g2 := F0 m 406 ls [.ref (τ339.1 70), .ref (τ339.1 30)]) (by rw [haτ339 30 (by omega)]) ?_
  replace hB := zBI.born (i := 70) (a' := 71) (b' := 208) hB (by omega) (by omega) hkτ339 hnτ339 hbτ339 ef340 eg341 (by decide) (by decide) (by decide)
  clear eg341 hkτ339 hnτ339 hbτ339
  replace hAd : ∀ i, i ≤ 30 → τ339.1 i = τ.1 i := fun i h => by rw [haτ339 i (by omega)]; exact hAd i h
  clear haτ339
  replace hV := hV.born ef340 (by omega)
  replace hQ24 : f340 30 24 = -1 := by rw [show f340 30 24 = f335 30 24 from by rw [ef340, va_up_ne _ _ (by omega)]]; exact hQ24
  clear ef340
  refine W.widen (k := 48) (n := 9742) (by decide) (by decide) ?_
  refine zPutFR (D := D) (ci := 12) (ty := .array .int) (C := RX12) (T := TX12) (N := 71) hx hb hts hiX12 tyX12 tyX12_ok nmX12 hown hH hS ((hB.1 30 (by omega)).1.trans (by decide : zkt 30 = 28)) rfl 67 (by decide) rfl hw54 (fun _ h9 => h9) rfl hin rfl (by rw [((hB.1 70 (by omega)).1.trans (by decide : zkt 70 = 1))]; decide)  (by decide +kernel) rfl rfl dX12_init_406 (fun H locs hH hS => ?_)
  obtain ⟨g342, eg342⟩ : ∃ f9 : zFr, f9 = zur g341 30 67 (some 70) := ⟨_, rfl⟩
  rw [← eg342] at hH
  replace hB := zBI.ref hB eg342 (by omega) (by omega) (by decide +kernel)
  clear eg342
  refine lv_aload_n hx hb dX12_init_409 rfl (lv_at hl 0 rfl) ?_
  refine lv_bipush (v := nI 10) hx hb dX12_init_410 (by decide) ?_
  refine zNewa (D := D) (atype := .int) (t := 1) (N' := 10) hx hb hw3 rfl (by decide) (by decide) rfl hH hS hA 71 (hB.2.1 71 (by omega)).1 (by decide) (by decide) (by first | decide | (simp only [zT, componentBytes]; omega)) (Nat.le_of_ble_eq_true rfl) (Nat.le_of_ble_eq_true rfl) dX12_init_412 (fun q9 c9 H hH8 hS => ?_)
  obtain ⟨τ344, eτ344⟩ : ∃ t9 : zTy, t9 = (va_up τ339.1 71 q9, va_up τ339.2.1 71 c9, va_up τ339.2.2.1 71 1, va_up τ339.2.2.2 71 10) := ⟨_, rfl⟩
  obtain ⟨f345, ef345⟩ : ∃ f9 : zFi, f9 = va_up f340 71 (fun _ => 0) := ⟨_, rfl⟩
  obtain ⟨g346, eg346⟩ : ∃ f9 : zFr, f9 = va_up g342 71 (fun _ => none) := ⟨_, rfl⟩
  replace hH : zH D A τ344 f345 g346 ol s H := by rw [eτ344, ef345, eg346]; exact hH8
  clear hH8
  have hqτ344 : τ344.1 71 = q9 := by rw [eτ344]; exact va_up_self τ339.1 71 q9
  have haτ344 : ∀ i, i ≠ 71 → τ344.1 i = τ339.1 i := fun i h => by rw [eτ344]; exact va_up_ne _ _ h
  have hkτ344 : τ344.2.2.1 71 = 1 := by rw [eτ344]; exact va_up_self τ339.2.2.1 71 1
  have hnτ344 : τ344.2.2.2 71 = 10 := by rw [eτ344]; exact va_up_self τ339.2.2.2 71 10
  have hbτ344 : ∀ i, i ≠ 71 → τ344.2.2.1 i = τ339.2.2.1 i ∧ τ344.2.2.2 i = τ339.2.2.2 i := fun i h => by rw [eτ344]; exact ⟨va_up_ne _ _ h, va_up_ne _ _ h⟩
  clear eτ344
  subst hqτ344
  rw [show τ339.1 30 = τ344.1 30 from (haτ344 30 (by omega)).symm] at hl
  refine W.eq (g2 := F0 m 414 ls [.ref (τ344.1 71), .ref (τ344.1 30)]) (by rw [haτ344 30 (by omega)]) ?_
  replace hB := zBI.born (i := 71) (a' := 72) (b' := 208) hB (by omega) (by omega) hkτ344 hnτ344 hbτ344 ef345 eg346 (by decide) (by decide) (by decide)
  clear eg346 hkτ344 hnτ344 hbτ344
  replace hAd : ∀ i, i ≤ 30 → τ344.1 i = τ.1 i := fun i h => by rw [haτ344 i (by omega)]; exact hAd i h
  clear haτ344
  replace hV := hV.born ef345 (by omega)
  replace hQ24 : f345 30 24 = -1 := by rw [show f345 30 24 = f340 30 24 from by rw [ef345, va_up_ne _ _ (by omega)]]; exact hQ24
  clear ef345
  refine W.widen (k := 49) (n := 9752) (by decide) (by decide) ?_
  refine zPutFR (D := D) (ci := 12) (ty := .array .int) (C := RX12) (T := TX12) (N := 71) hx hb hts hiX12 tyX12 tyX12_ok nmX12 hown hH hS ((hB.1 30 (by omega)).1.trans (by decide : zkt 30 = 28)) rfl 69 (by decide) rfl hw55 (fun _ h9 => h9) rfl hin rfl (by rw [((hB.1 71 (by omega)).1.trans (by decide : zkt 71 = 1))]; decide)  (by decide +kernel) rfl rfl dX12_init_414 (fun H locs hH hS => ?_)
  obtain ⟨g347, eg347⟩ : ∃ f9 : zFr, f9 = zur g346 30 69 (some 71) := ⟨_, rfl⟩
  rw [← eg347] at hH
  replace hB := zBI.ref hB eg347 (by omega) (by omega) (by decide +kernel)
  clear eg347
  refine lv_aload_n hx hb dX12_init_417 rfl (lv_at hl 0 rfl) ?_
  refine lv_sipush (v := nI 10240) hx hb dX12_init_418 (by decide) ?_
  refine zNewa (D := D) (atype := .int) (t := 1) (N' := 10240) hx hb hw3 rfl (by decide) (by decide) rfl hH hS hA 72 (hB.2.1 72 (by omega)).1 (by decide) (by decide) (by first | decide | (simp only [zT, componentBytes]; omega)) (Nat.le_of_ble_eq_true rfl) (Nat.le_of_ble_eq_true rfl) dX12_init_421 (fun q9 c9 H hH8 hS => ?_)
  obtain ⟨τ349, eτ349⟩ : ∃ t9 : zTy, t9 = (va_up τ344.1 72 q9, va_up τ344.2.1 72 c9, va_up τ344.2.2.1 72 1, va_up τ344.2.2.2 72 10240) := ⟨_, rfl⟩
  obtain ⟨f350, ef350⟩ : ∃ f9 : zFi, f9 = va_up f345 72 (fun _ => 0) := ⟨_, rfl⟩
  obtain ⟨g351, eg351⟩ : ∃ f9 : zFr, f9 = va_up g347 72 (fun _ => none) := ⟨_, rfl⟩
  replace hH : zH D A τ349 f350 g351 ol s H := by rw [eτ349, ef350, eg351]; exact hH8
  clear hH8
  have hqτ349 : τ349.1 72 = q9 := by rw [eτ349]; exact va_up_self τ344.1 72 q9
  have haτ349 : ∀ i, i ≠ 72 → τ349.1 i = τ344.1 i := fun i h => by rw [eτ349]; exact va_up_ne _ _ h
  have hkτ349 : τ349.2.2.1 72 = 1 := by rw [eτ349]; exact va_up_self τ344.2.2.1 72 1
  have hnτ349 : τ349.2.2.2 72 = 10240 := by rw [eτ349]; exact va_up_self τ344.2.2.2 72 10240
  have hbτ349 : ∀ i, i ≠ 72 → τ349.2.2.1 i = τ344.2.2.1 i ∧ τ349.2.2.2 i = τ344.2.2.2 i := fun i h => by rw [eτ349]; exact ⟨va_up_ne _ _ h, va_up_ne _ _ h⟩
  clear eτ349
  subst hqτ349
  rw [show τ344.1 30 = τ349.1 30 from (haτ349 30 (by omega)).symm] at hl
  refine W.eq (g2 := F0 m 423 ls [.ref (τ349.1 72), .ref (τ349.1 30)]) (by rw [haτ349 30 (by omega)]) ?_
  replace hB := zBI.born (i := 72) (a' := 73) (b' := 208) hB (by omega) (by omega) hkτ349 hnτ349 hbτ349 ef350 eg351 (by decide) (by decide) (by decide)
  clear eg351 hkτ349 hnτ349 hbτ349
  replace hAd : ∀ i, i ≤ 30 → τ349.1 i = τ.1 i := fun i h => by rw [haτ349 i (by omega)]; exact hAd i h
  clear haτ349
  replace hV := hV.born ef350 (by omega)
  replace hQ24 : f350 30 24 = -1 := by rw [show f350 30 24 = f345 30 24 from by rw [ef350, va_up_ne _ _ (by omega)]]; exact hQ24
  clear ef350
  refine W.widen (k := 50) (n := 19992) (by decide) (by decide) ?_
  refine zPutFR (D := D) (ci := 12) (ty := .array .int) (C := RX12) (T := TX12) (N := 71) hx hb hts hiX12 tyX12 tyX12_ok nmX12 hown hH hS ((hB.1 30 (by omega)).1.trans (by decide : zkt 30 = 28)) rfl 70 (by decide) rfl hw56 (fun _ h9 => h9) rfl hin rfl (by rw [((hB.1 72 (by omega)).1.trans (by decide : zkt 72 = 1))]; decide)  (by decide +kernel) rfl rfl dX12_init_423 (fun H locs hH hS => ?_)
  obtain ⟨g352, eg352⟩ : ∃ f9 : zFr, f9 = zur g351 30 70 (some 72) := ⟨_, rfl⟩
  rw [← eg352] at hH
  replace hB := zBI.ref hB eg352 (by omega) (by omega) (by decide +kernel)
  clear eg352
  refine lv_aload_n hx hb dX12_init_426 rfl (lv_at hl 0 rfl) ?_
  refine zGetR (D := D) (ci := 12) (C := RX12) (T := TX12) (N := 71) hx hb hts hiX12 hown hH ((hB.1 30 (by omega)).1.trans (by decide : zkt 30 = 28)) rfl 17 (by decide) rfl hw18 (fun _ h9 => h9) dX12_init_427 (hB.2.2.1 (30, 17, 44) (by decide +kernel) (by decide)) ?_
  refine lv_iconst (v := nI 0) hx hb dX12_init_430 (by decide) ?_
  refine lv_bipush (v := nI 10) hx hb dX12_init_431 (by decide) ?_
  refine zIastN (D := D) hx hb hH hS ((hB.1 44 (by omega)).1.trans (by decide : zkt 44 = 1)) ((hB.1 44 (by omega)).2.trans (by decide : zkn 44 = 4)) (by omega) (by omega) dX12_init_433 (fun H locs hH hS => ?_)
  obtain ⟨f354, ef354⟩ : ∃ f9 : zFi, f9 = zu f350 44 0 (nI 10) := ⟨_, rfl⟩
  rw [← ef354] at hH
  have q355 : f354 44 0 = nI 10 := by rw [ef354]; exact zu_s
  replace hB := zBI.int hB ef354 (by unfold zXc; omega)
  replace hV := hV.int ef354 (by omega)
  replace hQ24 : f354 30 24 = -1 := by rw [show f354 30 24 = f350 30 24 from by rw [ef354, zu_n (by omega)]]; exact hQ24
  clear ef354
  refine lv_aload_n hx hb dX12_init_434 rfl (lv_at hl 0 rfl) ?_
  refine zGetR (D := D) (ci := 12) (C := RX12) (T := TX12) (N := 71) hx hb hts hiX12 hown hH ((hB.1 30 (by omega)).1.trans (by decide : zkt 30 = 28)) rfl 17 (by decide) rfl hw18 (fun _ h9 => h9) dX12_init_435 (hB.2.2.1 (30, 17, 44) (by decide +kernel) (by decide)) ?_
  refine lv_iconst (v := nI 1) hx hb dX12_init_438 (by decide) ?_
  refine lv_bipush (v := nI 50) hx hb dX12_init_439 (by decide) ?_
  refine zIastN (D := D) hx hb hH hS ((hB.1 44 (by omega)).1.trans (by decide : zkt 44 = 1)) ((hB.1 44 (by omega)).2.trans (by decide : zkn 44 = 4)) (by omega) (by omega) dX12_init_441 (fun H locs hH hS => ?_)
  obtain ⟨f356, ef356⟩ : ∃ f9 : zFi, f9 = zu f354 44 1 (nI 50) := ⟨_, rfl⟩
  rw [← ef356] at hH
  have q357 : f356 44 0 = nI 10 := by rw [ef356, zu_n (fun h9 => absurd h9.2 (by decide))]; exact q355
  have q358 : f356 44 1 = nI 50 := by rw [ef356]; exact zu_s
  replace hB := zBI.int hB ef356 (by unfold zXc; omega)
  replace hV := hV.int ef356 (by omega)
  replace hQ24 : f356 30 24 = -1 := by rw [show f356 30 24 = f354 30 24 from by rw [ef356, zu_n (by omega)]]; exact hQ24
  clear ef356
  refine lv_aload_n hx hb dX12_init_442 rfl (lv_at hl 0 rfl) ?_
  refine zGetR (D := D) (ci := 12) (C := RX12) (T := TX12) (N := 71) hx hb hts hiX12 hown hH ((hB.1 30 (by omega)).1.trans (by decide : zkt 30 = 28)) rfl 17 (by decide) rfl hw18 (fun _ h9 => h9) dX12_init_443 (hB.2.2.1 (30, 17, 44) (by decide +kernel) (by decide)) ?_
  refine lv_iconst (v := nI 2) hx hb dX12_init_446 (by decide) ?_
  refine lv_sipush (v := nI 10000) hx hb dX12_init_447 (by decide) ?_
  refine zIastN (D := D) hx hb hH hS ((hB.1 44 (by omega)).1.trans (by decide : zkt 44 = 1)) ((hB.1 44 (by omega)).2.trans (by decide : zkn 44 = 4)) (by omega) (by omega) dX12_init_450 (fun H locs hH hS => ?_)
  obtain ⟨f359, ef359⟩ : ∃ f9 : zFi, f9 = zu f356 44 2 (nI 10000) := ⟨_, rfl⟩
  rw [← ef359] at hH
  have q360 : f359 44 0 = nI 10 := by rw [ef359, zu_n (fun h9 => absurd h9.2 (by decide))]; exact q357
  have q361 : f359 44 1 = nI 50 := by rw [ef359, zu_n (fun h9 => absurd h9.2 (by decide))]; exact q358
  have q362 : f359 44 2 = nI 10000 := by rw [ef359]; exact zu_s
  replace hB := zBI.int hB ef359 (by unfold zXc; omega)
  replace hV := hV.int ef359 (by omega)
  replace hQ24 : f359 30 24 = -1 := by rw [show f359 30 24 = f356 30 24 from by rw [ef359, zu_n (by omega)]]; exact hQ24
  clear ef359
  refine lv_aload_n hx hb dX12_init_451 rfl (lv_at hl 0 rfl) ?_
  refine zGetR (D := D) (ci := 12) (C := RX12) (T := TX12) (N := 71) hx hb hts hiX12 hown hH ((hB.1 30 (by omega)).1.trans (by decide : zkt 30 = 28)) rfl 17 (by decide) rfl hw18 (fun _ h9 => h9) dX12_init_452 (hB.2.2.1 (30, 17, 44) (by decide +kernel) (by decide)) ?_
  refine lv_iconst (v := nI 3) hx hb dX12_init_455 (by decide) ?_
  refine lv_bipush (v := nI 14) hx hb dX12_init_456 (by decide) ?_
  refine zIastN (D := D) hx hb hH hS ((hB.1 44 (by omega)).1.trans (by decide : zkt 44 = 1)) ((hB.1 44 (by omega)).2.trans (by decide : zkn 44 = 4)) (by omega) (by omega) dX12_init_458 (fun H locs hH hS => ?_)
  obtain ⟨f363, ef363⟩ : ∃ f9 : zFi, f9 = zu f359 44 3 (nI 14) := ⟨_, rfl⟩
  rw [← ef363] at hH
  have q364 : f363 44 0 = nI 10 := by rw [ef363, zu_n (fun h9 => absurd h9.2 (by decide))]; exact q360
  have q365 : f363 44 1 = nI 50 := by rw [ef363, zu_n (fun h9 => absurd h9.2 (by decide))]; exact q361
  have q366 : f363 44 2 = nI 10000 := by rw [ef363, zu_n (fun h9 => absurd h9.2 (by decide))]; exact q362
  have q367 : f363 44 3 = nI 14 := by rw [ef363]; exact zu_s
  replace hB := zBI.int hB ef363 (by unfold zXc; omega)
  replace hV := hV.int ef363 (by omega)
  replace hQ24 : f363 30 24 = -1 := by rw [show f363 30 24 = f359 30 24 from by rw [ef363, zu_n (by omega)]]; exact hQ24
  clear ef363
  refine lv_iconst (v := nI 0) hx hb dX12_init_459 (by decide) ?_
  refine lv_istore_n (lv' := [(1, .int (nI 0)), (0, .ref (τ349.1 30))]) hx hb dX12_init_460 rfl hl (by decide) rfl (fun ls hl => ?_)
  refine zLp (σ := Nat × zFi) (fun x9 k9 H locs ls => (fun (i : Nat) (f : zFi) => k9 = 30 - i ∧ (i ≤ 30 ∧ zIV fi f 30 ∧ (f 44 0 = nI 10 ∧ f 44 1 = nI 50 ∧ f 44 2 = nI 10000 ∧ f 44 3 = nI 14) ∧ f 30 24 = -1 ∧ (∀ t, t < i → f 40 t = -1) ∧ ∀ a k, ¬ zXc a k → f a k = 0) ∧ zH D A τ349 f g352 ol s H ∧ va_S A s.heap H locs ∧ lv_has ls 2 [(0, .ref (τ349.1 30)), (1, .int (nI i))]) x9.1 x9.2) (0, f363) (30 - 0) (show 30 - 0 = 30 - 0 ∧ (0 ≤ 30 ∧ zIV fi f363 30 ∧ (f363 44 0 = nI 10 ∧ f363 44 1 = nI 50 ∧ f363 44 2 = nI 10000 ∧ f363 44 3 = nI 14) ∧ f363 30 24 = -1 ∧ (∀ t, t < 0 → f363 40 t = -1) ∧ ∀ a k, ¬ zXc a k → f363 a k = 0) ∧ zH D A τ349 f363 g352 ol s _ ∧ va_S A s.heap _ _ ∧ lv_has _ 2 [(0, .ref (τ349.1 30)), (1, .int (nI 0))] from ⟨rfl, ⟨Nat.zero_le _, hV, ⟨q364, q365, q366, q367⟩, hQ24, fun t h => absurd h (by omega), hB.2.2.2⟩, hH, hS, lv_sub hl [1, 0] rfl⟩) (fun k9 ih x9 H locs ls hv9 => ?_)
  obtain ⟨i, f⟩ := x9
  have hv9 : k9 = 30 - i ∧ (i ≤ 30 ∧ zIV fi f 30 ∧ (f 44 0 = nI 10 ∧ f 44 1 = nI 50 ∧ f 44 2 = nI 10000 ∧ f 44 3 = nI 14) ∧ f 30 24 = -1 ∧ (∀ t, t < i → f 40 t = -1) ∧ ∀ a k, ¬ zXc a k → f a k = 0) ∧ zH D A τ349 f g352 ol s H ∧ va_S A s.heap H locs ∧ lv_has ls 2 [(0, .ref (τ349.1 30)), (1, .int (nI i))] := hv9
  obtain ⟨hkih368, hv9, hH, hS, hl⟩ := hv9
  obtain ⟨h1, hV, ⟨k0, k1, k2, k3⟩, hQ24, hOt, hz0⟩ := hv9
  have ih368 := ih
  clear ih
  replace hB := zBI.mk0 hB hz0
  refine lv_iload_n hx hb dX12_init_461 rfl (lv_at hl 1 rfl) ?_
  refine lv_bipush (v := nI 30) hx hb dX12_init_462 (by decide) ?_
  refine lv_icmp_ge (tgt := 480) hx hb dX12_init_464 (by decide) (fun c369 => ?_) (fun c369 => ?_)
  · have zc369 := c369
    replace zc369 := zc_le (nI_toInt (by omega)) (nI_toInt (by omega)) zc369
    have hOt : ∀ t, t < 30 → f 40 t = -1 := fun t h => hOt t (by omega)
    refine W.widen (k := 50) (n := 19992) (by decide) (by decide) ?_
    exact W.vret hx hb hr (fun t9 ht9 hW9 => ⟨⟨(τ349, f, g352), rfl, (show zBI τ349 f g352 73 208 10 30 71 ∧ (∀ i, i ≤ 30 → τ349.1 i = τ.1 i) ∧ zIV fi f 30 ∧ (∀ t, t < 30 → f 40 t = -1) ∧ zRv f 44 40 ∧ f 30 24 = -1 from ⟨hB, hAd, hV, hOt, ⟨⟨k0, k1, k2, k3⟩, hOt⟩, hQ24⟩), zEnd1 hH ht9 hW9⟩, hS.F ht9⟩) hS.2.2 dX12_init_480
  · have zc369 := c369
    replace zc369 := zc_nle (nI_toInt (by omega)) (nI_toInt (by omega)) zc369
    refine lv_aload_n hx hb dX12_init_467 rfl (lv_at hl 0 rfl) ?_
    refine zGetR (D := D) (ci := 12) (C := RX12) (T := TX12) (N := 71) hx hb hts hiX12 hown hH ((hB.1 30 (by omega)).1.trans (by decide : zkt 30 = 28)) rfl 12 (by decide) rfl hw14 (fun _ h9 => h9) dX12_init_468 (hB.2.2.1 (30, 12, 40) (by decide +kernel) (by decide)) ?_
    refine lv_iload_n hx hb dX12_init_471 rfl (lv_at hl 1 rfl) ?_
    refine lv_iconst (v := (-1)) hx hb dX12_init_472 (by decide) ?_
    refine zIastN (D := D) hx hb hH hS ((hB.1 40 (by omega)).1.trans (by decide : zkt 40 = 1)) ((hB.1 40 (by omega)).2.trans (by decide : zkn 40 = 30)) (by omega) (by omega) dX12_init_473 (fun H locs hH hS => ?_)
    obtain ⟨f370, ef370⟩ : ∃ f9 : zFi, f9 = zu f 40 i ((-1)) := ⟨_, rfl⟩
    rw [← ef370] at hH
    have q371 : f370 40 i = (-1) := by rw [ef370]; exact zu_s
    have hB := zBI.int hB ef370 (by unfold zXc; omega)
    have hV := hV.int ef370 (by omega)
    have hQ24 : f370 30 24 = -1 := by rw [show f370 30 24 = f 30 24 from by rw [ef370, zu_n (by omega)]]; exact hQ24
    refine lv_iinc (v := nI (i + 1)) (lv' := [(1, .int (nI (i + 1))), (0, .ref (τ349.1 30))]) hx hb dX12_init_474 hl (k := 1) rfl (by rw [show (Int32.ofInt 1 : Int32) = nI 1 from by decide, nI_add]) (by decide) rfl (fun ls hl => ?_)
    refine lv_goto (tgt := 461) hx hb dX12_init_477 (by decide) ?_
    exact ih368 (30 - (i + 1)) (by omega) (i + 1, f370) _ _ _ (show 30 - (i + 1) = 30 - (i + 1) ∧ ((i + 1) ≤ 30 ∧ zIV fi f370 30 ∧ (f370 44 0 = nI 10 ∧ f370 44 1 = nI 50 ∧ f370 44 2 = nI 10000 ∧ f370 44 3 = nI 14) ∧ f370 30 24 = -1 ∧ (∀ t, t < (i + 1) → f370 40 t = -1) ∧ ∀ a k, ¬ zXc a k → f370 a k = 0) ∧ zH D A τ349 f370 g352 ol s _ ∧ va_S A s.heap _ _ ∧ lv_has _ 2 [(0, .ref (τ349.1 30)), (1, .int (nI (i + 1)))] from ⟨rfl, ⟨by omega, hV, ⟨by rw [ef370, zu_n (by omega)]; exact k0, by rw [ef370, zu_n (by omega)]; exact k1, by rw [ef370, zu_n (by omega)]; exact k2, by rw [ef370, zu_n (by omega)]; exact k3⟩, hQ24, fun t h => by by_cases h7 : t = i; (subst h7; rw [ef370, zu_s]); (rw [ef370, zu_n (by omega)]; exact hOt t (by omega)), hB.2.2.2⟩, hH, hS, lv_sub hl [1, 0] rfl⟩)
