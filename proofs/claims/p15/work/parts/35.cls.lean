def zThNew (τ : zTy) (fi : zFi) (fr : zFr) (t : Nat) (x0 x1 x2 x3 x4 : Int32) (τ' : zTy) (fi' : zFi) (fr' : zFr) : Prop :=
  (∀ i, i ≠ 340 + t → i ≠ 380 + t → i ≠ 420 + t → τ'.1 i = τ.1 i ∧ τ'.2.2.1 i = τ.2.2.1 i ∧ τ'.2.2.2 i = τ.2.2.2 i) ∧
  ((τ'.2.2.1 (340 + t) = 1 ∧ τ'.2.2.1 (380 + t) = 1 ∧ τ'.2.2.1 (420 + t) = 1) ∧ τ'.2.2.2 (340 + t) = 4 ∧ τ'.2.2.2 (380 + t) = 4 ∧ τ'.2.2.2 (420 + t) = 4) ∧
  zFix τ' fr' ∧ (fi' (300 + t) 0 = x0 ∧ fi' (300 + t) 1 = x1 ∧ fi' (300 + t) 2 = x2 ∧ fi' (300 + t) 3 = x3 ∧ fi' (300 + t) 4 = x4) ∧
  (∀ i k, i ≠ 340 + t → i ≠ 380 + t → i ≠ 420 + t → ¬ (i = 300 + t ∧ k < 5) → fi' i k = fi i k) ∧
  (fr' (300 + t) 7 = some (340 + t) ∧ fr' (300 + t) 8 = some (380 + t) ∧ fr' (300 + t) 9 = some (420 + t)) ∧
  (∀ i k, i ≠ 340 + t → i ≠ 380 + t → i ≠ 420 + t → ¬ (i = 300 + t ∧ 7 ≤ k) → fr' i k = fr i k)
set_option maxHeartbeats 4000000 in
set_option maxRecDepth 100000 in
/-- Thing -/
theorem c_Thing_init (l : Launch) (hl0 : l.stackTraces = false) (D : va_G) (A : Nat → Prop) (sad : Nat → Nat) (τ : zTy) (fi : zFi) (fr : zFr) (ol : Int64) (hF : zFix τ fr) (t : Nat) (hk : τ.2.2.1 (300 + t) = 24) (hd : τ.2.2.1 (340 + t) = 0 ∧ τ.2.2.1 (380 + t) = 0 ∧ τ.2.2.1 (420 + t) = 0) (ht30 : t < 30) (x0 x1 x2 x3 x4 : Int32) : Met l yX8_init wsX8_init ({ frames := 1, cells := 3, slots := 12, locals := 12 }) (va_Pc [.ref (τ.1 (300 + t)), .int x0, .int x1, .int x2, .int x3, .int x4] (zQc D A sad τ fi fr ol)) (va_Qv (fun (u : zTy × zFi × zFr) => zThNew τ fi fr t x0 x1 x2 x3 x4 u.1 u.2.1 u.2.2) (fun (u : zTy × zFi × zFr) (t : State) => zH D A u.1 u.2.1 u.2.2 ol t t.heap) A) 3 12 A := by
  refine Met.ofW (cc := cX8_init) (maxL := 6) (ret := none) (by decide) rfl ?_
  intro p9 e9 s m args below meth c9 s₁ B hml hv
  obtain ⟨rfl, hz, hH, hA⟩ := hv
  have hx := B.exec
  have hb := B.bytes
  have hr := B.returns
  have hts := atoms_spec (ws := wsX8_init) B.pre
  have hown : s.vm.findClass RX8 = some m.cls := findClass_of_methodNamed B.named
  have hlocks := B.notSynchronized
  have hin : meth.name = "<init>" := (name_of_methodNamed B.named B.method).1
  have hS : va_S A s.heap s.heap [] := va_S.rf
  have hl := lv_entry ([.ref (τ.1 (300 + t)), .int x0, .int x1, .int x2, .int x3, .int x4]) (n := 6) (Nat.le_of_ble_eq_true rfl)
  rw [lg_entry_eq]
  generalize (lg_sl ([.ref (τ.1 (300 + t)), .int x0, .int x1, .int x2, .int x3, .int x4]) ++ List.replicate (6 - (lg_sl ([.ref (τ.1 (300 + t)), .int x0, .int x1, .int x2, .int x3, .int x4])).length) Slot.unset).toArray = ls at hl ⊢
  have hl : lv_has ls 6 [(0, .ref (τ.1 (300 + t))), (1, .int x0), (2, .int x1), (3, .int x2), (4, .int x3), (5, .int x4)] := hl
  have hw0 := hts (.methodLink RX8 3 objectInit) (by decide +kernel)
  have hw1 := hts (.instanceMethod objectInit) (by decide +kernel)
  have hw2 := hts (.code objectInit ⟨#[0xb1]⟩ 1 none) (by decide +kernel)
  have hw3 := hts (.arrayClass .int) (by decide +kernel)
  have hw4 := hts (.fieldLink RX8 9 "PostHouse$Thing" "moneys" "[I") (by decide +kernel)
  have hiX8 : ∀ w ∈ u_ws RX8 TX8 10, w ∈ wsX8_init := fun _ h => List.mem_cons_of_mem _ (List.mem_append_right _ h)
  have hw6 := hts (.fieldLink RX8 15 "PostHouse$Thing" "froms" "[I") (by decide +kernel)
  have hw7 := hts (.fieldLink RX8 18 "PostHouse$Thing" "tos" "[I") (by decide +kernel)
  have hw8 := hts (.fieldLink RX8 21 "PostHouse$Thing" "number" "I") (by decide +kernel)
  have hw9 := hts (.fieldLink RX8 25 "PostHouse$Thing" "code" "I") (by decide +kernel)
  have hw10 := hts (.fieldLink RX8 28 "PostHouse$Thing" "weight" "I") (by decide +kernel)
  have hw11 := hts (.fieldLink RX8 31 "PostHouse$Thing" "street" "I") (by decide +kernel)
  have hw12 := hts (.fieldLink RX8 34 "PostHouse$Thing" "place" "I") (by decide +kernel)
  refine lv_aload_n hx hb dX8_init_0 rfl (lv_at hl 0 rfl) ?_
  refine W.objInit hx hb hown hw0 hw1 hw2 rfl (by rw [hml]; exact hl.1) rfl dX8_init_1 (Nat.le_of_ble_eq_true rfl) (Nat.le_of_ble_eq_true rfl) ?_
  refine W.eq (g2 := F0 m 4 ls []) rfl ?_
  refine lv_aload_n hx hb dX8_init_4 rfl (lv_at hl 0 rfl) ?_
  refine lv_iconst (v := nI 4) hx hb dX8_init_5 (by decide) ?_
  refine zNewa (D := D) (atype := .int) (t := 1) (N' := 4) hx hb hw3 rfl (by decide) (by decide) rfl hH hS hA (340 + t) hd.1 (by decide) (by decide) (by first | decide | (simp only [zT, componentBytes]; omega)) (Nat.le_of_ble_eq_true rfl) (Nat.le_of_ble_eq_true rfl) dX8_init_6 (fun q9 c9 H hH8 hS => ?_)
  obtain ⟨τ101, eτ101⟩ : ∃ t9 : zTy, t9 = (va_up τ.1 (340 + t) q9, va_up τ.2.1 (340 + t) c9, va_up τ.2.2.1 (340 + t) 1, va_up τ.2.2.2 (340 + t) 4) := ⟨_, rfl⟩
  obtain ⟨f102, ef102⟩ : ∃ f9 : zFi, f9 = va_up fi (340 + t) (fun _ => 0) := ⟨_, rfl⟩
  obtain ⟨g103, eg103⟩ : ∃ f9 : zFr, f9 = va_up fr (340 + t) (fun _ => none) := ⟨_, rfl⟩
  have hH : zH D A τ101 f102 g103 ol s H := by rw [eτ101, ef102, eg103]; exact hH8
  clear hH8
  have hqτ101 : τ101.1 (340 + t) = q9 := by rw [eτ101]; exact va_up_self _ _ _
  have haτ101 : ∀ i, i ≠ 340 + t → τ101.1 i = τ.1 i := fun i h => by rw [eτ101]; exact va_up_ne _ _ h
  have hkτ101 : τ101.2.2.1 (340 + t) = 1 := by rw [eτ101]; exact va_up_self _ _ _
  have hnτ101 : τ101.2.2.2 (340 + t) = 4 := by rw [eτ101]; exact va_up_self _ _ _
  have hbτ101 : ∀ i, i ≠ 340 + t → τ101.2.2.1 i = τ.2.2.1 i ∧ τ101.2.2.2 i = τ.2.2.2 i := fun i h => by rw [eτ101]; exact ⟨va_up_ne _ _ h, va_up_ne _ _ h⟩
  have hFτ101 : zFix τ101 g103 := by rw [eτ101, eg103]; exact hF.up (by omega)
  clear eτ101
  subst hqτ101
  rw [show τ.1 (300 + t) = τ101.1 (300 + t) from (haτ101 (300 + t) (by omega)).symm] at hl
  refine W.eq (g2 := F0 m 8 ls [.ref (τ101.1 (340 + t)), .ref (τ101.1 (300 + t))]) (by rw [haτ101 (300 + t) (by omega)]) ?_
  refine W.widen (k := 1) (n := 4) (by decide) (by decide) ?_
  refine zPutFR (D := D) (ci := 8) (ty := .array .int) (C := RX8) (T := TX8) (N := 10) hx hb hts hiX8 tyX8 tyX8_ok nmX8 hown hH hS (by rw [(hbτ101 (300 + t) (by omega)).1]; exact hk) rfl 7 (by decide) rfl hw4 (fun _ h9 => h9) rfl hin rfl (by rw [hkτ101]; decide)  (by decide +kernel) rfl rfl dX8_init_8 (fun H locs hH hS => ?_)
  obtain ⟨g104, eg104⟩ : ∃ f9 : zFr, f9 = zur g103 (300 + t) 7 (some (340 + t)) := ⟨_, rfl⟩
  rw [← eg104] at hH
  have hF105 : zFix τ101 g104 := by rw [eg104]; exact hFτ101.ur (by omega)
  refine lv_aload_n hx hb dX8_init_11 rfl (lv_at hl 0 rfl) ?_
  refine lv_iconst (v := nI 4) hx hb dX8_init_12 (by decide) ?_
  refine zNewa (D := D) (atype := .int) (t := 1) (N' := 4) hx hb hw3 rfl (by decide) (by decide) rfl hH hS hA (380 + t) (by rw [(hbτ101 (380 + t) (by omega)).1]; exact hd.2.1) (by decide) (by decide) (by first | decide | (simp only [zT, componentBytes]; omega)) (Nat.le_of_ble_eq_true rfl) (Nat.le_of_ble_eq_true rfl) dX8_init_13 (fun q9 c9 H hH8 hS => ?_)
  obtain ⟨τ106, eτ106⟩ : ∃ t9 : zTy, t9 = (va_up τ101.1 (380 + t) q9, va_up τ101.2.1 (380 + t) c9, va_up τ101.2.2.1 (380 + t) 1, va_up τ101.2.2.2 (380 + t) 4) := ⟨_, rfl⟩
  obtain ⟨f107, ef107⟩ : ∃ f9 : zFi, f9 = va_up f102 (380 + t) (fun _ => 0) := ⟨_, rfl⟩
  obtain ⟨g108, eg108⟩ : ∃ f9 : zFr, f9 = va_up g104 (380 + t) (fun _ => none) := ⟨_, rfl⟩
  have hH : zH D A τ106 f107 g108 ol s H := by rw [eτ106, ef107, eg108]; exact hH8
  clear hH8
  have hqτ106 : τ106.1 (380 + t) = q9 := by rw [eτ106]; exact va_up_self _ _ _
  have haτ106 : ∀ i, i ≠ 380 + t → τ106.1 i = τ101.1 i := fun i h => by rw [eτ106]; exact va_up_ne _ _ h
  have hkτ106 : τ106.2.2.1 (380 + t) = 1 := by rw [eτ106]; exact va_up_self _ _ _
  have hnτ106 : τ106.2.2.2 (380 + t) = 4 := by rw [eτ106]; exact va_up_self _ _ _
  have hbτ106 : ∀ i, i ≠ 380 + t → τ106.2.2.1 i = τ101.2.2.1 i ∧ τ106.2.2.2 i = τ101.2.2.2 i := fun i h => by rw [eτ106]; exact ⟨va_up_ne _ _ h, va_up_ne _ _ h⟩
  have hFτ106 : zFix τ106 g108 := by rw [eτ106, eg108]; exact hF105.up (by omega)
  clear eτ106
  subst hqτ106
  rw [show τ101.1 (300 + t) = τ106.1 (300 + t) from (haτ106 (300 + t) (by omega)).symm] at hl
  refine W.eq (g2 := F0 m 15 ls [.ref (τ106.1 (380 + t)), .ref (τ106.1 (300 + t))]) (by rw [haτ106 (300 + t) (by omega)]) ?_
  refine W.widen (k := 2) (n := 8) (by decide) (by decide) ?_
  refine zPutFR (D := D) (ci := 8) (ty := .array .int) (C := RX8) (T := TX8) (N := 10) hx hb hts hiX8 tyX8 tyX8_ok nmX8 hown hH hS (by rw [(hbτ106 (300 + t) (by omega)).1]; exact (by rw [(hbτ101 (300 + t) (by omega)).1]; exact hk)) rfl 8 (by decide) rfl hw6 (fun _ h9 => h9) rfl hin rfl (by rw [hkτ106]; decide)  (by decide +kernel) rfl rfl dX8_init_15 (fun H locs hH hS => ?_)
  obtain ⟨g109, eg109⟩ : ∃ f9 : zFr, f9 = zur g108 (300 + t) 8 (some (380 + t)) := ⟨_, rfl⟩
  rw [← eg109] at hH
  have hF110 : zFix τ106 g109 := by rw [eg109]; exact hFτ106.ur (by omega)
  refine lv_aload_n hx hb dX8_init_18 rfl (lv_at hl 0 rfl) ?_
  refine lv_iconst (v := nI 4) hx hb dX8_init_19 (by decide) ?_
  refine zNewa (D := D) (atype := .int) (t := 1) (N' := 4) hx hb hw3 rfl (by decide) (by decide) rfl hH hS hA (420 + t) (by rw [(hbτ106 (420 + t) (by omega)).1]; exact (by rw [(hbτ101 (420 + t) (by omega)).1]; exact hd.2.2)) (by decide) (by decide) (by first | decide | (simp only [zT, componentBytes]; omega)) (Nat.le_of_ble_eq_true rfl) (Nat.le_of_ble_eq_true rfl) dX8_init_20 (fun q9 c9 H hH8 hS => ?_)
  obtain ⟨τ111, eτ111⟩ : ∃ t9 : zTy, t9 = (va_up τ106.1 (420 + t) q9, va_up τ106.2.1 (420 + t) c9, va_up τ106.2.2.1 (420 + t) 1, va_up τ106.2.2.2 (420 + t) 4) := ⟨_, rfl⟩
  obtain ⟨f112, ef112⟩ : ∃ f9 : zFi, f9 = va_up f107 (420 + t) (fun _ => 0) := ⟨_, rfl⟩
  obtain ⟨g113, eg113⟩ : ∃ f9 : zFr, f9 = va_up g109 (420 + t) (fun _ => none) := ⟨_, rfl⟩
  have hH : zH D A τ111 f112 g113 ol s H := by rw [eτ111, ef112, eg113]; exact hH8
  clear hH8
  have hqτ111 : τ111.1 (420 + t) = q9 := by rw [eτ111]; exact va_up_self _ _ _
  have haτ111 : ∀ i, i ≠ 420 + t → τ111.1 i = τ106.1 i := fun i h => by rw [eτ111]; exact va_up_ne _ _ h
  have hkτ111 : τ111.2.2.1 (420 + t) = 1 := by rw [eτ111]; exact va_up_self _ _ _
  have hnτ111 : τ111.2.2.2 (420 + t) = 4 := by rw [eτ111]; exact va_up_self _ _ _
  have hbτ111 : ∀ i, i ≠ 420 + t → τ111.2.2.1 i = τ106.2.2.1 i ∧ τ111.2.2.2 i = τ106.2.2.2 i := fun i h => by rw [eτ111]; exact ⟨va_up_ne _ _ h, va_up_ne _ _ h⟩
  have hFτ111 : zFix τ111 g113 := by rw [eτ111, eg113]; exact hF110.up (by omega)
  clear eτ111
  subst hqτ111
  rw [show τ106.1 (300 + t) = τ111.1 (300 + t) from (haτ111 (300 + t) (by omega)).symm] at hl
  refine W.eq (g2 := F0 m 22 ls [.ref (τ111.1 (420 + t)), .ref (τ111.1 (300 + t))]) (by rw [haτ111 (300 + t) (by omega)]) ?_
  refine W.widen (k := 3) (n := 12) (by decide) (by decide) ?_
  refine zPutFR (D := D) (ci := 8) (ty := .array .int) (C := RX8) (T := TX8) (N := 10) hx hb hts hiX8 tyX8 tyX8_ok nmX8 hown hH hS (by rw [(hbτ111 (300 + t) (by omega)).1]; exact (by rw [(hbτ106 (300 + t) (by omega)).1]; exact (by rw [(hbτ101 (300 + t) (by omega)).1]; exact hk))) rfl 9 (by decide) rfl hw7 (fun _ h9 => h9) rfl hin rfl (by rw [hkτ111]; decide)  (by decide +kernel) rfl rfl dX8_init_22 (fun H locs hH hS => ?_)
  obtain ⟨g114, eg114⟩ : ∃ f9 : zFr, f9 = zur g113 (300 + t) 9 (some (420 + t)) := ⟨_, rfl⟩
  rw [← eg114] at hH
  have hF115 : zFix τ111 g114 := by rw [eg114]; exact hFτ111.ur (by omega)
  refine lv_aload_n hx hb dX8_init_25 rfl (lv_at hl 0 rfl) ?_
  refine lv_iload_n hx hb dX8_init_26 rfl (lv_at hl 1 rfl) ?_
  refine zPutFI (D := D) (ci := 8) (ty := .int) (C := RX8) (T := TX8) (N := 10) hx hb hts hiX8 tyX8 tyX8_ok nmX8 hown hH hS (by rw [(hbτ111 (300 + t) (by omega)).1]; exact (by rw [(hbτ106 (300 + t) (by omega)).1]; exact (by rw [(hbτ101 (300 + t) (by omega)).1]; exact hk))) rfl 0 (by decide) rfl hw8 (fun _ h9 => h9) rfl hin rfl (by decide +kernel) rfl rfl dX8_init_27 (fun H locs hH hS => ?_)
  obtain ⟨f116, ef116⟩ : ∃ f9 : zFi, f9 = zu f112 (300 + t) 0 x0 := ⟨_, rfl⟩
  rw [← ef116] at hH
  have q117 : f116 (300 + t) 0 = x0 := by rw [ef116]; exact zu_s
  refine lv_aload_n hx hb dX8_init_30 rfl (lv_at hl 0 rfl) ?_
  refine lv_iload_n hx hb dX8_init_31 rfl (lv_at hl 2 rfl) ?_
  refine zPutFI (D := D) (ci := 8) (ty := .int) (C := RX8) (T := TX8) (N := 10) hx hb hts hiX8 tyX8 tyX8_ok nmX8 hown hH hS (by rw [(hbτ111 (300 + t) (by omega)).1]; exact (by rw [(hbτ106 (300 + t) (by omega)).1]; exact (by rw [(hbτ101 (300 + t) (by omega)).1]; exact hk))) rfl 1 (by decide) rfl hw9 (fun _ h9 => h9) rfl hin rfl (by decide +kernel) rfl rfl dX8_init_32 (fun H locs hH hS => ?_)
  obtain ⟨f118, ef118⟩ : ∃ f9 : zFi, f9 = zu f116 (300 + t) 1 x1 := ⟨_, rfl⟩
  rw [← ef118] at hH
  have q119 : f118 (300 + t) 0 = x0 := by rw [ef118, zu_n (fun h9 => absurd h9.2 (by decide))]; exact q117
  have q120 : f118 (300 + t) 1 = x1 := by rw [ef118]; exact zu_s
  refine lv_aload_n hx hb dX8_init_35 rfl (lv_at hl 0 rfl) ?_
  refine lv_iload_n hx hb dX8_init_36 rfl (lv_at hl 3 rfl) ?_
  refine zPutFI (D := D) (ci := 8) (ty := .int) (C := RX8) (T := TX8) (N := 10) hx hb hts hiX8 tyX8 tyX8_ok nmX8 hown hH hS (by rw [(hbτ111 (300 + t) (by omega)).1]; exact (by rw [(hbτ106 (300 + t) (by omega)).1]; exact (by rw [(hbτ101 (300 + t) (by omega)).1]; exact hk))) rfl 2 (by decide) rfl hw10 (fun _ h9 => h9) rfl hin rfl (by decide +kernel) rfl rfl dX8_init_37 (fun H locs hH hS => ?_)
  obtain ⟨f121, ef121⟩ : ∃ f9 : zFi, f9 = zu f118 (300 + t) 2 x2 := ⟨_, rfl⟩
  rw [← ef121] at hH
  have q122 : f121 (300 + t) 0 = x0 := by rw [ef121, zu_n (fun h9 => absurd h9.2 (by decide))]; exact q119
  have q123 : f121 (300 + t) 1 = x1 := by rw [ef121, zu_n (fun h9 => absurd h9.2 (by decide))]; exact q120
  have q124 : f121 (300 + t) 2 = x2 := by rw [ef121]; exact zu_s
  refine lv_aload_n hx hb dX8_init_40 rfl (lv_at hl 0 rfl) ?_
  refine lv_iload hx hb dX8_init_41 (lv_at hl 4 rfl) ?_
  refine zPutFI (D := D) (ci := 8) (ty := .int) (C := RX8) (T := TX8) (N := 10) hx hb hts hiX8 tyX8 tyX8_ok nmX8 hown hH hS (by rw [(hbτ111 (300 + t) (by omega)).1]; exact (by rw [(hbτ106 (300 + t) (by omega)).1]; exact (by rw [(hbτ101 (300 + t) (by omega)).1]; exact hk))) rfl 3 (by decide) rfl hw11 (fun _ h9 => h9) rfl hin rfl (by decide +kernel) rfl rfl dX8_init_43 (fun H locs hH hS => ?_)
  obtain ⟨f125, ef125⟩ : ∃ f9 : zFi, f9 = zu f121 (300 + t) 3 x3 := ⟨_, rfl⟩
  rw [← ef125] at hH
  have q126 : f125 (300 + t) 0 = x0 := by rw [ef125, zu_n (fun h9 => absurd h9.2 (by decide))]; exact q122
  have q127 : f125 (300 + t) 1 = x1 := by rw [ef125, zu_n (fun h9 => absurd h9.2 (by decide))]; exact q123
  have q128 : f125 (300 + t) 2 = x2 := by rw [ef125, zu_n (fun h9 => absurd h9.2 (by decide))]; exact q124
  have q129 : f125 (300 + t) 3 = x3 := by rw [ef125]; exact zu_s
  refine lv_aload_n hx hb dX8_init_46 rfl (lv_at hl 0 rfl) ?_
  refine lv_iload hx hb dX8_init_47 (lv_at hl 5 rfl) ?_
  refine zPutFI (D := D) (ci := 8) (ty := .int) (C := RX8) (T := TX8) (N := 10) hx hb hts hiX8 tyX8 tyX8_ok nmX8 hown hH hS (by rw [(hbτ111 (300 + t) (by omega)).1]; exact (by rw [(hbτ106 (300 + t) (by omega)).1]; exact (by rw [(hbτ101 (300 + t) (by omega)).1]; exact hk))) rfl 4 (by decide) rfl hw12 (fun _ h9 => h9) rfl hin rfl (by decide +kernel) rfl rfl dX8_init_49 (fun H locs hH hS => ?_)
  obtain ⟨f130, ef130⟩ : ∃ f9 : zFi, f9 = zu f125 (300 + t) 4 x4 := ⟨_, rfl⟩
  rw [← ef130] at hH
  have q131 : f130 (300 + t) 0 = x0 := by rw [ef130, zu_n (fun h9 => absurd h9.2 (by decide))]; exact q126
  have q132 : f130 (300 + t) 1 = x1 := by rw [ef130, zu_n (fun h9 => absurd h9.2 (by decide))]; exact q127
  have q133 : f130 (300 + t) 2 = x2 := by rw [ef130, zu_n (fun h9 => absurd h9.2 (by decide))]; exact q128
  have q134 : f130 (300 + t) 3 = x3 := by rw [ef130, zu_n (fun h9 => absurd h9.2 (by decide))]; exact q129
  have q135 : f130 (300 + t) 4 = x4 := by rw [ef130]; exact zu_s
  refine W.widen (k := 3) (n := 12) (by decide) (by decide) ?_
  exact W.vret hx hb hr (fun t9 ht9 hW9 => ⟨⟨(τ111, f130, g114), rfl, (show zThNew τ fi fr t x0 x1 x2 x3 x4 τ111 f130 g114 from ⟨fun i h1 h2 h3 => ⟨by rw [haτ111 i (by omega), haτ106 i (by omega), haτ101 i (by omega)], by rw [(hbτ111 i (by omega)).1, (hbτ106 i (by omega)).1, (hbτ101 i (by omega)).1], by rw [(hbτ111 i (by omega)).2, (hbτ106 i (by omega)).2, (hbτ101 i (by omega)).2]⟩, ⟨⟨(by rw [(hbτ111 (340 + t) (by omega)).1]; exact (by rw [(hbτ106 (340 + t) (by omega)).1]; exact hkτ101)), (by rw [(hbτ111 (380 + t) (by omega)).1]; exact hkτ106), hkτ111⟩, (by rw [(hbτ111 (340 + t) (by omega)).2]; exact (by rw [(hbτ106 (340 + t) (by omega)).2]; exact hnτ101)), (by rw [(hbτ111 (380 + t) (by omega)).2]; exact hnτ106), hnτ111⟩, hF115, ⟨by rw [ef130, zu_n (by omega), ef125, zu_n (by omega), ef121, zu_n (by omega), ef118, zu_n (by omega), ef116, zu_s], by rw [ef130, zu_n (by omega), ef125, zu_n (by omega), ef121, zu_n (by omega), ef118, zu_s], by rw [ef130, zu_n (by omega), ef125, zu_n (by omega), ef121, zu_s], by rw [ef130, zu_n (by omega), ef125, zu_s], by rw [ef130, zu_s]⟩, fun i k h1 h2 h3 h4 => by rw [ef130, zu_n (by omega), ef125, zu_n (by omega), ef121, zu_n (by omega), ef118, zu_n (by omega), ef116, zu_n (by omega), ef112, va_up_ne _ _ (by omega), ef107, va_up_ne _ _ (by omega), ef102, va_up_ne _ _ (by omega)], ⟨by rw [eg114, zur_n (by omega), eg113, va_up_ne _ _ (by omega), eg109, zur_n (by omega), eg108, va_up_ne _ _ (by omega), eg104, zur_s], by rw [eg114, zur_n (by omega), eg113, va_up_ne _ _ (by omega), eg109, zur_s], by rw [eg114, zur_s]⟩, fun i k h1 h2 h3 h4 => by rw [eg114, zur_n (by omega), eg113, va_up_ne _ _ (by omega), eg109, zur_n (by omega), eg108, va_up_ne _ _ (by omega), eg104, zur_n (by omega), eg103, va_up_ne _ _ (by omega)]⟩), zEnd1 hH ht9 hW9⟩, hS.F ht9⟩) hS.2.2 dX8_init_52
