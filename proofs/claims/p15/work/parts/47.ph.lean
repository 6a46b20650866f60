set_option maxHeartbeats 4000000 in
set_option maxRecDepth 100000 in
/-- Want -/
theorem c_Want_init (l : Launch) (hl0 : l.stackTraces = false) (D : va_G) (A : Nat → Prop) (sad : Nat → Nat) (τ : zTy) (fi : zFi) (fr : zFr) (ol : Int64) (hF : zFix τ fr) (n : Nat) (hT : zTh τ fi fr n) (w t : Nat) (hwk : τ.2.2.1 w = 26) (hwb : 1000 ≤ w) (ht : t < n) (y z : Int32) : Met l yX10_init wsX10_init ({ frames := 1, cells := 0, slots := 0, locals := 12 }) (va_Pc [.ref (τ.1 w), .ref (τ.1 (300 + t)), .int y, .int z] (zQc D A sad τ fi fr ol)) (va_Qv (fun (u : zFi × zFr) => u.1 = zu (zu (zu fi w 8 (-1)) w 1 y) w 2 z ∧ u.2 = zur fr w 0 (some (300 + t))) (fun (u : zFi × zFr) (t : State) => zH D A τ u.1 u.2 ol t t.heap) A) 0 0 A := by
  refine Met.ofW (cc := cX10_init) (maxL := 4) (ret := none) (by decide) rfl ?_
  intro p9 e9 s m args below meth c9 s₁ B hml hv
  obtain ⟨rfl, hz, hH, hA⟩ := hv
  have hx := B.exec
  have hb := B.bytes
  have hr := B.returns
  have hts := atoms_spec (ws := wsX10_init) B.pre
  have hown : s.vm.findClass RX10 = some m.cls := findClass_of_methodNamed B.named
  have hlocks := B.notSynchronized
  have hin : meth.name = "<init>" := (name_of_methodNamed B.named B.method).1
  have hS : va_S A s.heap s.heap [] := va_S.rf
  have hl := lv_entry ([.ref (τ.1 w), .ref (τ.1 (300 + t)), .int y, .int z]) (n := 4) (Nat.le_of_ble_eq_true rfl)
  rw [lg_entry_eq]
  generalize (lg_sl ([.ref (τ.1 w), .ref (τ.1 (300 + t)), .int y, .int z]) ++ List.replicate (4 - (lg_sl ([.ref (τ.1 w), .ref (τ.1 (300 + t)), .int y, .int z])).length) Slot.unset).toArray = ls at hl ⊢
  have hl : lv_has ls 4 [(0, .ref (τ.1 w)), (1, .ref (τ.1 (300 + t))), (2, .int y), (3, .int z)] := hl
  have hn30 := hT.1
  have hw0 := hts (.methodLink RX10 3 objectInit) (by decide +kernel)
  have hw1 := hts (.instanceMethod objectInit) (by decide +kernel)
  have hw2 := hts (.code objectInit ⟨#[0xb1]⟩ 1 none) (by decide +kernel)
  have hw3 := hts (.fieldLink RX10 9 "PostHouse$Want" "cameLast" "I") (by decide +kernel)
  have hiX10 : ∀ w ∈ u_ws RX10 TX10 10, w ∈ wsX10_init := fun _ h => List.mem_cons_of_mem _ (List.mem_append_right _ h)
  have hw5 := hts (.fieldLink RX10 15 "PostHouse$Want" "thing" "LPostHouse$Thing;") (by decide +kernel)
  have hw6 := hts (.fieldLink RX10 19 "PostHouse$Want" "many" "I") (by decide +kernel)
  have hw7 := hts (.fieldLink RX10 22 "PostHouse$Want" "price" "I") (by decide +kernel)
  refine lv_aload_n hx hb dX10_init_0 rfl (lv_at hl 0 rfl) ?_
  refine W.objInit hx hb hown hw0 hw1 hw2 rfl (by rw [hml]; exact hl.1) rfl dX10_init_1 (Nat.le_of_ble_eq_true rfl) (Nat.le_of_ble_eq_true rfl) ?_
  refine W.eq (g2 := F0 m 4 ls []) rfl ?_
  refine lv_aload_n hx hb dX10_init_4 rfl (lv_at hl 0 rfl) ?_
  refine lv_iconst (v := (-1)) hx hb dX10_init_5 (by decide) ?_
  refine zPutI (D := D) (ci := 10) (ty := .int) (C := RX10) (T := TX10) (N := 10) hx hb hts hiX10 tyX10 tyX10_ok nmX10 hown hH hS hwk rfl 8 (by decide) rfl hw3 (fun _ h9 => h9) rfl (by decide +kernel) rfl rfl dX10_init_6 (fun H locs hH hS => ?_)
  obtain ⟨f101, ef101⟩ : ∃ f9 : zFi, f9 = zu fi w 8 ((-1)) := ⟨_, rfl⟩
  rw [← ef101] at hH
  have q102 : f101 w 8 = (-1) := by rw [ef101]; exact zu_s
  refine lv_aload_n hx hb dX10_init_9 rfl (lv_at hl 0 rfl) ?_
  refine lv_aload_n hx hb dX10_init_10 rfl (lv_at hl 1 rfl) ?_
  refine zPutFR (D := D) (ci := 10) (ty := .object "PostHouse$Thing") (C := RX10) (T := TX10) (N := 10) hx hb hts hiX10 tyX10 tyX10_ok nmX10 hown hH hS hwk rfl 0 (by decide) rfl hw5 (fun _ h9 => h9) rfl hin rfl (by rw [(hT.2.2.1 t (by omega)).1.1]; decide)  (by decide +kernel) rfl rfl dX10_init_11 (fun H locs hH hS => ?_)
  obtain ⟨g103, eg103⟩ : ∃ f9 : zFr, f9 = zur fr w 0 (some (300 + t)) := ⟨_, rfl⟩
  rw [← eg103] at hH
  have hF104 : zFix τ g103 := by rw [eg103]; exact hF.ur (by omega)
  refine lv_aload_n hx hb dX10_init_14 rfl (lv_at hl 0 rfl) ?_
  refine lv_iload_n hx hb dX10_init_15 rfl (lv_at hl 2 rfl) ?_
  refine zPutFI (D := D) (ci := 10) (ty := .int) (C := RX10) (T := TX10) (N := 10) hx hb hts hiX10 tyX10 tyX10_ok nmX10 hown hH hS hwk rfl 1 (by decide) rfl hw6 (fun _ h9 => h9) rfl hin rfl (by decide +kernel) rfl rfl dX10_init_16 (fun H locs hH hS => ?_)
  obtain ⟨f105, ef105⟩ : ∃ f9 : zFi, f9 = zu f101 w 1 y := ⟨_, rfl⟩
  rw [← ef105] at hH
  have q106 : f105 w 8 = (-1) := by rw [ef105, zu_n (fun h9 => absurd h9.2 (by decide))]; exact q102
  have q107 : f105 w 1 = y := by rw [ef105]; exact zu_s
  refine lv_aload_n hx hb dX10_init_19 rfl (lv_at hl 0 rfl) ?_
  refine lv_iload_n hx hb dX10_init_20 rfl (lv_at hl 3 rfl) ?_
  refine zPutFI (D := D) (ci := 10) (ty := .int) (C := RX10) (T := TX10) (N := 10) hx hb hts hiX10 tyX10 tyX10_ok nmX10 hown hH hS hwk rfl 2 (by decide) rfl hw7 (fun _ h9 => h9) rfl hin rfl (by decide +kernel) rfl rfl dX10_init_21 (fun H locs hH hS => ?_)
  obtain ⟨f108, ef108⟩ : ∃ f9 : zFi, f9 = zu f105 w 2 z := ⟨_, rfl⟩
  rw [← ef108] at hH
  have q109 : f108 w 8 = (-1) := by rw [ef108, zu_n (fun h9 => absurd h9.2 (by decide))]; exact q106
  have q110 : f108 w 1 = y := by rw [ef108, zu_n (fun h9 => absurd h9.2 (by decide))]; exact q107
  have q111 : f108 w 2 = z := by rw [ef108]; exact zu_s
  refine W.widen (k := 0) (n := 0) (by decide) (by decide) ?_
  exact W.vret hx hb hr (fun t9 ht9 hW9 => ⟨⟨(f108, g103), rfl, (show f108 = zu (zu (zu fi w 8 (-1)) w 1 y) w 2 z ∧ g103 = zur fr w 0 (some (300 + t)) from ⟨by rw [ef108, ef105, ef101], by rw [eg103]⟩), zEnd1 hH ht9 hW9⟩, hS.F ht9⟩) hS.2.2 dX10_init_24
set_option maxHeartbeats 4000000 in
set_option maxRecDepth 100000 in
/-- Sending -/
theorem c_Send_init (l : Launch) (hl0 : l.stackTraces = false) (D : va_G) (A : Nat → Prop) (sad : Nat → Nat) (τ : zTy) (fi : zFi) (fr : zFr) (ol : Int64) (w : Nat) (hwk : τ.2.2.1 w = 22) (x y z v : Int32) : Met l yX6_init wsX6_init ({ frames := 1, cells := 0, slots := 0, locals := 12 }) (va_Pc [.ref (τ.1 w), .int x, .int y, .int z, .int v] (zQc D A sad τ fi fr ol)) (va_Qv (fun (u : zFi) => ∀ a b, a ≠ w → u a b = fi a b) (fun (u : zFi) (t : State) => zH D A τ u fr ol t t.heap) A) 0 0 A := by
  refine Met.ofW (cc := cX6_init) (maxL := 5) (ret := none) (by decide) rfl ?_
  intro p9 e9 s m args below meth c9 s₁ B hml hv
  obtain ⟨rfl, hz, hH, hA⟩ := hv
  have hx := B.exec
  have hb := B.bytes
  have hr := B.returns
  have hts := atoms_spec (ws := wsX6_init) B.pre
  have hown : s.vm.findClass RX6 = some m.cls := findClass_of_methodNamed B.named
  have hlocks := B.notSynchronized
  have hin : meth.name = "<init>" := (name_of_methodNamed B.named B.method).1
  have hS : va_S A s.heap s.heap [] := va_S.rf
  have hl := lv_entry ([.ref (τ.1 w), .int x, .int y, .int z, .int v]) (n := 5) (Nat.le_of_ble_eq_true rfl)
  rw [lg_entry_eq]
  generalize (lg_sl ([.ref (τ.1 w), .int x, .int y, .int z, .int v]) ++ List.replicate (5 - (lg_sl ([.ref (τ.1 w), .int x, .int y, .int z, .int v])).length) Slot.unset).toArray = ls at hl ⊢
  have hl : lv_has ls 5 [(0, .ref (τ.1 w)), (1, .int x), (2, .int y), (3, .int z), (4, .int v)] := hl
  have hw0 := hts (.methodLink RX6 1 objectInit) (by decide +kernel)
  have hw1 := hts (.instanceMethod objectInit) (by decide +kernel)
  have hw2 := hts (.code objectInit ⟨#[0xb1]⟩ 1 none) (by decide +kernel)
  have hw3 := hts (.fieldLink RX6 7 "PostHouse$Sending" "order" "I") (by decide +kernel)
  have hiX6 : ∀ w ∈ u_ws RX6 TX6 4, w ∈ wsX6_init := fun _ h => List.mem_cons_of_mem _ (List.mem_append_right _ h)
  have hw5 := hts (.fieldLink RX6 13 "PostHouse$Sending" "day" "I") (by decide +kernel)
  have hw6 := hts (.fieldLink RX6 16 "PostHouse$Sending" "pieces" "I") (by decide +kernel)
  have hw7 := hts (.fieldLink RX6 19 "PostHouse$Sending" "parcels" "I") (by decide +kernel)
  refine lv_aload_n hx hb dX6_init_0 rfl (lv_at hl 0 rfl) ?_
  refine W.objInit hx hb hown hw0 hw1 hw2 rfl (by rw [hml]; exact hl.1) rfl dX6_init_1 (Nat.le_of_ble_eq_true rfl) (Nat.le_of_ble_eq_true rfl) ?_
  refine W.eq (g2 := F0 m 4 ls []) rfl ?_
  refine lv_aload_n hx hb dX6_init_4 rfl (lv_at hl 0 rfl) ?_
  refine lv_iload_n hx hb dX6_init_5 rfl (lv_at hl 1 rfl) ?_
  refine zPutFI (D := D) (ci := 6) (ty := .int) (C := RX6) (T := TX6) (N := 4) hx hb hts hiX6 tyX6 tyX6_ok nmX6 hown hH hS hwk rfl 0 (by decide) rfl hw3 (fun _ h9 => h9) rfl hin rfl (by decide +kernel) rfl rfl dX6_init_6 (fun H locs hH hS => ?_)
  obtain ⟨f101, ef101⟩ : ∃ f9 : zFi, f9 = zu fi w 0 x := ⟨_, rfl⟩
  rw [← ef101] at hH
  have q102 : f101 w 0 = x := by rw [ef101]; exact zu_s
  refine lv_aload_n hx hb dX6_init_9 rfl (lv_at hl 0 rfl) ?_
  refine lv_iload_n hx hb dX6_init_10 rfl (lv_at hl 2 rfl) ?_
  refine zPutFI (D := D) (ci := 6) (ty := .int) (C := RX6) (T := TX6) (N := 4) hx hb hts hiX6 tyX6 tyX6_ok nmX6 hown hH hS hwk rfl 1 (by decide) rfl hw5 (fun _ h9 => h9) rfl hin rfl (by decide +kernel) rfl rfl dX6_init_11 (fun H locs hH hS => ?_)
  obtain ⟨f103, ef103⟩ : ∃ f9 : zFi, f9 = zu f101 w 1 y := ⟨_, rfl⟩
  rw [← ef103] at hH
  have q104 : f103 w 0 = x := by rw [ef103, zu_n (fun h9 => absurd h9.2 (by decide))]; exact q102
  have q105 : f103 w 1 = y := by rw [ef103]; exact zu_s
  refine lv_aload_n hx hb dX6_init_14 rfl (lv_at hl 0 rfl) ?_
  refine lv_iload_n hx hb dX6_init_15 rfl (lv_at hl 3 rfl) ?_
  refine zPutFI (D := D) (ci := 6) (ty := .int) (C := RX6) (T := TX6) (N := 4) hx hb hts hiX6 tyX6 tyX6_ok nmX6 hown hH hS hwk rfl 2 (by decide) rfl hw6 (fun _ h9 => h9) rfl hin rfl (by decide +kernel) rfl rfl dX6_init_16 (fun H locs hH hS => ?_)
  obtain ⟨f106, ef106⟩ : ∃ f9 : zFi, f9 = zu f103 w 2 z := ⟨_, rfl⟩
  rw [← ef106] at hH
  have q107 : f106 w 0 = x := by rw [ef106, zu_n (fun h9 => absurd h9.2 (by decide))]; exact q104
  have q108 : f106 w 1 = y := by rw [ef106, zu_n (fun h9 => absurd h9.2 (by decide))]; exact q105
  have q109 : f106 w 2 = z := by rw [ef106]; exact zu_s
  refine lv_aload_n hx hb dX6_init_19 rfl (lv_at hl 0 rfl) ?_
  refine lv_iload hx hb dX6_init_20 (lv_at hl 4 rfl) ?_
  refine zPutFI (D := D) (ci := 6) (ty := .int) (C := RX6) (T := TX6) (N := 4) hx hb hts hiX6 tyX6 tyX6_ok nmX6 hown hH hS hwk rfl 3 (by decide) rfl hw7 (fun _ h9 => h9) rfl hin rfl (by decide +kernel) rfl rfl dX6_init_22 (fun H locs hH hS => ?_)
  obtain ⟨f110, ef110⟩ : ∃ f9 : zFi, f9 = zu f106 w 3 v := ⟨_, rfl⟩
  rw [← ef110] at hH
  have q111 : f110 w 0 = x := by rw [ef110, zu_n (fun h9 => absurd h9.2 (by decide))]; exact q107
  have q112 : f110 w 1 = y := by rw [ef110, zu_n (fun h9 => absurd h9.2 (by decide))]; exact q108
  have q113 : f110 w 2 = z := by rw [ef110, zu_n (fun h9 => absurd h9.2 (by decide))]; exact q109
  have q114 : f110 w 3 = v := by rw [ef110]; exact zu_s
  refine W.widen (k := 0) (n := 0) (by decide) (by decide) ?_
  exact W.vret hx hb hr (fun t9 ht9 hW9 => ⟨⟨f110, rfl, fun a b h => by rw [ef110, zu_n (by omega), ef106, zu_n (by omega), ef103, zu_n (by omega), ef101, zu_n (by omega)], zEnd1 hH ht9 hW9⟩, hS.F ht9⟩) hS.2.2 dX6_init_25
def zOI (τ : zTy) (fi : zFi) (fr : zFr) (o : Nat) (τ' : zTy) (fi' : zFi) (fr' : zFr) : Prop :=
  (∀ i, i ≠ 600 + o → τ'.1 i = τ.1 i ∧ τ'.2.2.1 i = τ.2.2.1 i ∧ τ'.2.2.2 i = τ.2.2.2 i) ∧ (τ'.2.2.1 (600 + o) = 9 ∧ τ'.2.2.2 (600 + o) = 8) ∧ zFix τ' fr' ∧
  (∀ i k, i ≠ 600 + o → ¬ (i = 500 + o ∧ k ≠ 5) → fi' i k = fi i k) ∧ fr' (500 + o) 3 = some (600 + o) ∧ (∀ i k, i ≠ 600 + o → ¬ (i = 500 + o ∧ k = 3) → fr' i k = fr i k) ∧ ∀ k, fr' (600 + o) k = none
/-- what is told newly is no letter -/
def zNr (τ : zTy) (fr : zFr) (τ' : zTy) (fr' : zFr) : Prop := ∀ i k r, τ'.2.2.1 i ≠ 0 → fr' i k = some r → r < 3000 ∨ (τ.2.2.1 i ≠ 0 ∧ fr i k = some r)
/-- an order that is being made: its wants so far -/
def zMk (τ : zTy) (fi : zFi) (fr : zFr) (n o w : Nat) : Prop := w ≤ 8 ∧ (τ.2.2.1 (500 + o) = 19 ∧ τ.2.2.1 (600 + o) = 9 ∧ τ.2.2.2 (600 + o) = 8) ∧ fr (500 + o) 3 = some (600 + o) ∧ fi (500 + o) 5 = nI w ∧
  (∀ j, j < w → τ.2.2.1 (1000 + 8 * o + j) = 26 ∧ fr (600 + o) j = some (1000 + 8 * o + j) ∧ (∃ t, t < n ∧ fr (1000 + 8 * o + j) 0 = some (300 + t)) ∧ fr (1000 + 8 * o + j) 9 = none) ∧ ∀ j, w ≤ j → j < 8 → τ.2.2.1 (1000 + 8 * o + j) = 0
/-- nothing but an order's cells is another -/
def zOF (τ : zTy) (fi : zFi) (fr : zFr) (o : Nat) (τ' : zTy) (fi' : zFi) (fr' : zFr) : Prop :=
  (∀ i, ¬ (i = 500 + o ∨ i = 600 + o ∨ (1000 + 8 * o ≤ i ∧ i < 1008 + 8 * o)) → τ'.1 i = τ.1 i ∧ τ'.2.2.1 i = τ.2.2.1 i ∧ τ'.2.2.2 i = τ.2.2.2 i) ∧ (∀ i k, ¬ (i = 500 + o ∨ i = 600 + o ∨ (1000 + 8 * o ≤ i ∧ i < 1008 + 8 * o)) → fi' i k = fi i k) ∧ (∀ i k, ¬ (i = 500 + o ∨ i = 600 + o ∨ (1000 + 8 * o ≤ i ∧ i < 1008 + 8 * o)) → fr' i k = fr i k) ∧ zNr τ fr τ' fr'
theorem zMk.start {τ τ1 τ2 : zTy} {fi f1 f2 : zFi} {fr g1 g2 : zFr} {n o : Nat} (hO : zOr τ fi fr n o) (ho : o < 60) (ha : ∀ i, i ≠ 500 + o → τ1.1 i = τ.1 i) (hk : τ1.2.2.1 (500 + o) = 19) (hb : ∀ i, i ≠ 500 + o → τ1.2.2.1 i = τ.2.2.1 i ∧ τ1.2.2.2 i = τ.2.2.2 i) (ef : f1 = va_up fi (500 + o) (fun _ => 0)) (eg : g1 = va_up fr (500 + o) (fun _ => none)) (hN : zOI τ1 f1 g1 o τ2 f2 g2) : zMk τ2 f2 g2 n o 0 ∧ zOF τ fi fr o τ2 f2 g2 := by
  obtain ⟨n1, ⟨n2, n3⟩, -, n4, n5, n6, n7⟩ := hN
  refine ⟨⟨by omega, ⟨by rw [(n1 _ (by omega)).2.1]; exact hk, n2, n3⟩, n5, by rw [n4 _ _ (by omega) (by omega), ef, va_up_self]; decide, fun j h => absurd h (by omega), fun j h1 h2 => ?_⟩, fun i h => ?_, fun i k h => ?_, fun i k h => ?_, fun i k r h1 h2 => ?_⟩
  · rw [(n1 _ (by omega)).2.1, (hb _ (by omega)).1]
    exact (hO.2.2.2 o (by omega) ho).2.2 j h2
  · obtain ⟨q1, q2, q3⟩ := n1 i (by omega)
    exact ⟨by rw [q1, ha i (by omega)], by rw [q2, (hb i (by omega)).1], by rw [q3, (hb i (by omega)).2]⟩
  · rw [n4 i k (by omega) (by omega), ef, va_up_ne _ _ (by omega)]
  · rw [n6 i k (by omega) (by omega), eg, va_up_ne _ _ (by omega)]
  · by_cases h6 : i = 600 + o
    · subst h6; rw [n7] at h2; cases h2
    · by_cases h5 : i = 500 + o
      · subst h5
        by_cases h3 : k = 3
        · subst h3; rw [n5] at h2; cases h2; exact Or.inl (by omega)
        · rw [n6 _ _ (by omega) (by omega), eg, va_up_self] at h2; cases h2
      · rw [n6 _ _ (by omega) (by omega), eg, va_up_ne _ _ h5] at h2
        rw [(n1 i h6).2.1, (hb i h5).1] at h1
        exact Or.inr ⟨h1, h2⟩
theorem zMk.step {τ0 τ τ1 : zTy} {f0 fi f1 f2 f3 : zFi} {g0 fr g1 g2 g3 : zFr} {n o w t : Nat} {y z : Int32} (h : zMk τ fi fr n o w) (hO : zOF τ0 f0 g0 o τ fi fr) (hw : w < 8) (ho : o < 60) (ht : t < n) (hn : n ≤ 30) (ha : ∀ i, i ≠ 1000 + 8 * o + w → τ1.1 i = τ.1 i) (hk : τ1.2.2.1 (1000 + 8 * o + w) = 26) (hb : ∀ i, i ≠ 1000 + 8 * o + w → τ1.2.2.1 i = τ.2.2.1 i ∧ τ1.2.2.2 i = τ.2.2.2 i) (ef : f1 = va_up fi (1000 + 8 * o + w) (fun _ => 0)) (eg : g1 = va_up fr (1000 + 8 * o + w) (fun _ => none))
    (e2 : f2 = zu (zu (zu f1 (1000 + 8 * o + w) 8 (-1)) (1000 + 8 * o + w) 1 y) (1000 + 8 * o + w) 2 z ∧ g2 = zur g1 (1000 + 8 * o + w) 0 (some (300 + t))) (e3 : f3 = zu f2 (500 + o) 5 (nI (w + 1)) ∧ g3 = zur g2 (600 + o) w (some (1000 + 8 * o + w))) : zMk τ1 f3 g3 n o (w + 1) ∧ zOF τ0 f0 g0 o τ1 f3 g3 := by
  obtain ⟨h1, ⟨h2, h3, h4⟩, h5, h6, h7, h8⟩ := h
  obtain ⟨o1, o2, o3, o4⟩ := hO
  obtain ⟨e2, e2'⟩ := e2
  obtain ⟨e3, e3'⟩ := e3
  have F : ∀ i k, i ≠ 1000 + 8 * o + w → ¬ (i = 500 + o ∧ k = 5) → f3 i k = fi i k := fun i k a b => by rw [e3, zu_n (by omega), e2, zu_n (by omega), zu_n (by omega), zu_n (by omega), ef, va_up_ne _ _ a]
  have G : ∀ i k, i ≠ 1000 + 8 * o + w → ¬ (i = 600 + o ∧ k = w) → g3 i k = fr i k := fun i k a b => by rw [e3', zur_n (by omega), e2', zur_n (by omega), eg, va_up_ne _ _ a]
  refine ⟨⟨by omega, ⟨by rw [(hb _ (by omega)).1]; exact h2, by rw [(hb _ (by omega)).1]; exact h3, by rw [(hb _ (by omega)).2]; exact h4⟩, by rw [G _ _ (by omega) (by omega)]; exact h5, by rw [e3]; exact zu_s, fun j hj => ?_, fun j a b => by rw [(hb _ (by omega)).1]; exact h8 j (by omega) b⟩, fun i hi => ?_, fun i k hi => by rw [F i k (by omega) (by omega)]; exact o2 i k hi, fun i k hi => by rw [G i k (by omega) (by omega)]; exact o3 i k hi, fun i k r q1 q2 => ?_⟩
  · by_cases hjw : j = w
    · subst hjw
      exact ⟨hk, by rw [e3']; exact zur_s, ⟨t, ht, by rw [e3', zur_n (by omega), e2']; exact zur_s⟩, by rw [e3', zur_n (by omega), e2', zur_n (by omega), eg, va_up_self]⟩
    · obtain ⟨a1, a2, ⟨t2, a3, a4⟩, a5⟩ := h7 j (by omega)
      exact ⟨by rw [(hb _ (by omega)).1]; exact a1, by rw [G _ _ (by omega) (by omega)]; exact a2, ⟨t2, a3, by rw [G _ _ (by omega) (by omega)]; exact a4⟩, by rw [G _ _ (by omega) (by omega)]; exact a5⟩
  · obtain ⟨q1, q2, q3⟩ := o1 i hi
    exact ⟨by rw [ha i (by omega), q1], by rw [(hb i (by omega)).1, q2], by rw [(hb i (by omega)).2, q3]⟩
  · by_cases a : i = 1000 + 8 * o + w
    · subst a
      by_cases b : k = 0
      · subst b; rw [e3', zur_n (by omega), e2', zur_s] at q2; cases q2; exact Or.inl (by omega)
      · rw [e3', zur_n (by omega), e2', zur_n (by omega), eg, va_up_self] at q2; cases q2
    · by_cases b : i = 600 + o ∧ k = w
      · obtain ⟨b1, b2⟩ := b; subst b1; subst b2; rw [e3', zur_s] at q2; cases q2; exact Or.inl (by omega)
      · rw [G i k a b] at q2; rw [(hb i a).1] at q1; exact o4 i k r q1 q2
/-- an order more -/
def zNO (τ : zTy) (fi : zFi) (fr : zFr) (n o : Nat) (τ' : zTy) (fi' : zFi) (fr' : zFr) : Prop := zOr τ' fi' fr' n (o + 1) ∧ zFix τ' fr' ∧
  (∀ i, ¬ (i = 500 + o ∨ i = 600 + o ∨ (1000 + 8 * o ≤ i ∧ i < 1008 + 8 * o)) → τ'.1 i = τ.1 i ∧ τ'.2.2.1 i = τ.2.2.1 i ∧ τ'.2.2.2 i = τ.2.2.2 i) ∧ (∀ i k, ¬ (i = 500 + o ∨ i = 600 + o ∨ (1000 + 8 * o ≤ i ∧ i < 1008 + 8 * o) ∨ (i = 0 ∧ k = 11)) → fi' i k = fi i k) ∧ (∀ i k, ¬ (i = 500 + o ∨ i = 600 + o ∨ (1000 + 8 * o ≤ i ∧ i < 1008 + 8 * o) ∨ (i = 16 ∧ k = o)) → fr' i k = fr i k) ∧ zNr τ fr τ' fr' ∧ ∀ i, 1000 + 8 * o ≤ i → i < 1008 + 8 * o → τ'.2.2.1 i = 0 ∨ τ'.2.2.1 i = 26
theorem zMk.done {τ τ1 : zTy} {fi f1 f2 : zFi} {fr g1 g2 : zFr} {n o w : Nat} (hO : zOr τ fi fr n o) (ho : o < 60) (hm : zMk τ1 f1 g1 n o w) (hf : zOF τ fi fr o τ1 f1 g1) (eg : g2 = zur g1 16 o (some (500 + o))) (ef : f2 = zu f1 0 11 (nI (o + 1))) (hF : zFix τ1 g2) : zNO τ fi fr n o τ1 f2 g2 := by
  obtain ⟨h1, ⟨h2, h3, h4⟩, h5, h6, h7, h8⟩ := hm
  obtain ⟨o1, o2, o3, o4⟩ := hf
  have F : ∀ i k, ¬ (i = 500 + o ∨ i = 600 + o ∨ (1000 + 8 * o ≤ i ∧ i < 1008 + 8 * o) ∨ (i = 0 ∧ k = 11)) → f2 i k = fi i k := fun i k a => by rw [ef, zu_n (by omega)]; exact o2 i k (by omega)
  have G : ∀ i k, ¬ (i = 500 + o ∨ i = 600 + o ∨ (1000 + 8 * o ≤ i ∧ i < 1008 + 8 * o) ∨ (i = 16 ∧ k = o)) → g2 i k = fr i k := fun i k a => by rw [eg, zur_n (by omega)]; exact o3 i k (by omega)
  have G1 : ∀ i k, i ≠ 16 → g2 i k = g1 i k := fun i k a => by rw [eg, zur_n (by omega)]
  have F1 : ∀ i k, i ≠ 0 → f2 i k = f1 i k := fun i k a => by rw [ef, zu_n (by omega)]
  refine ⟨⟨by omega, by rw [ef]; exact zu_s, fun k hk => ?_, fun k a b => ?_⟩, hF, o1, F, G, fun i k r q1 q2 => ?_, fun i q1 q2 => ?_⟩
  · by_cases hko : k = o
    · subst hko
      refine ⟨⟨h2, h3, h4⟩, ⟨by rw [eg]; exact zur_s, by rw [G1 _ _ (by omega)]; exact h5⟩, w, h1, by rw [F1 _ _ (by omega)]; exact h6, fun j hj => ?_⟩
      obtain ⟨a1, a2, ⟨t, a3, a4⟩, a5⟩ := h7 j hj
      exact ⟨a1, by rw [G1 _ _ (by omega)]; exact a2, ⟨t, a3, by rw [G1 _ _ (by omega)]; exact a4⟩, Or.inl (by rw [G1 _ _ (by omega)]; exact a5)⟩
    · obtain ⟨⟨a1, a2, a3⟩, ⟨b1, b2⟩, w2, c1, c2, c3⟩ := hO.2.2.1 k (by omega)
      refine ⟨⟨by rw [(o1 _ (by omega)).2.1]; exact a1, by rw [(o1 _ (by omega)).2.1]; exact a2, by rw [(o1 _ (by omega)).2.2]; exact a3⟩, ⟨by rw [G _ _ (by omega)]; exact b1, by rw [G _ _ (by omega)]; exact b2⟩, w2, c1, by rw [F _ _ (by omega)]; exact c2, fun j hj => ?_⟩
      obtain ⟨d1, d2, ⟨t, d3, d4⟩, d5⟩ := c3 j hj
      refine ⟨by rw [(o1 _ (by omega)).2.1]; exact d1, by rw [G _ _ (by omega)]; exact d2, ⟨t, d3, by rw [G _ _ (by omega)]; exact d4⟩, ?_⟩
      rw [G _ _ (by omega)]
      exact d5
  · obtain ⟨a1, a2, a3⟩ := hO.2.2.2 k (by omega) b
    exact ⟨by rw [(o1 _ (by omega)).2.1]; exact a1, by rw [(o1 _ (by omega)).2.1]; exact a2, fun j hj => by rw [(o1 _ (by omega)).2.1]; exact a3 j hj⟩
  · by_cases b : i = 16 ∧ k = o
    · obtain ⟨b1, b2⟩ := b; subst b1; subst b2; rw [eg, zur_s] at q2; cases q2; exact Or.inl (by omega)
    · rw [eg, zur_n b] at q2; exact o4 i k r q1 q2
  · by_cases hj : i - (1000 + 8 * o) < w
    · have h9 := (h7 (i - (1000 + 8 * o)) hj).1
      rw [show 1000 + 8 * o + (i - (1000 + 8 * o)) = i by omega] at h9
      exact Or.inr h9
    · have h9 := h8 (i - (1000 + 8 * o)) (by omega) (by omega)
      rw [show 1000 + 8 * o + (i - (1000 + 8 * o)) = i by omega] at h9
      exact Or.inl h9
theorem zLk.cg {τ τ' : zTy} {fr fr' : zFr} {q : Nat} (h : zLk τ fr q) (hr : ∀ k, fr' (3000 + q) k = fr (3000 + q) k) (ht : ∀ i, i = 3000 + q ∨ i = 4000 + q ∨ i = 5000 + q → τ'.2.2.1 i = τ.2.2.1 i ∧ τ'.2.2.2 i = τ.2.2.2 i) : zLk τ' fr' q := by
  obtain ⟨⟨a1, a2, a3⟩, ⟨a4, a5⟩, b1, b2⟩ := h
  exact ⟨⟨by rw [(ht _ (by omega)).1]; exact a1, by rw [(ht _ (by omega)).1]; exact a2, by rw [(ht _ (by omega)).1]; exact a3⟩, ⟨by rw [(ht _ (by omega)).2]; exact a4, by rw [(ht _ (by omega)).2]; exact a5⟩, by rw [hr]; exact b1, by rw [hr]; exact b2⟩
set_option maxHeartbeats 4000000 in
set_option maxRecDepth 100000 in
/-- Order -/
theorem c_Order_init (l : Launch) (hl0 : l.stackTraces = false) (D : va_G) (A : Nat → Prop) (sad : Nat → Nat) (τ : zTy) (fi : zFi) (fr : zFr) (ol : Int64) (hF : zFix τ fr) (o : Nat) (hok : τ.2.2.1 (500 + o) = 19) (hod : τ.2.2.1 (600 + o) = 0) (ho6 : o < 60) (x1 x2 x3 x4 : Int32) : Met l yX3_init wsX3_init ({ frames := 1, cells := 1, slots := 8, locals := 12 }) (va_Pc [.ref (τ.1 (500 + o)), .int x1, .int x2, .int x3, .int x4] (zQc D A sad τ fi fr ol)) (va_Qv (fun (u : zTy × zFi × zFr) => zOI τ fi fr o u.1 u.2.1 u.2.2) (fun (u : zTy × zFi × zFr) (t : State) => zH D A u.1 u.2.1 u.2.2 ol t t.heap) A) 1 8 A := by
  refine Met.ofW (cc := cX3_init) (maxL := 5) (ret := none) (by decide) rfl ?_
  intro p9 e9 s m args below meth c9 s₁ B hml hv
  obtain ⟨rfl, hz, hH, hA⟩ := hv
  have hx := B.exec
  have hb := B.bytes
  have hr := B.returns
  have hts := atoms_spec (ws := wsX3_init) B.pre
  have hown : s.vm.findClass RX3 = some m.cls := findClass_of_methodNamed B.named
  have hlocks := B.notSynchronized
  have hin : meth.name = "<init>" := (name_of_methodNamed B.named B.method).1
  have hS : va_S A s.heap s.heap [] := va_S.rf
  have hl := lv_entry ([.ref (τ.1 (500 + o)), .int x1, .int x2, .int x3, .int x4]) (n := 5) (Nat.le_of_ble_eq_true rfl)
  rw [lg_entry_eq]
  generalize (lg_sl ([.ref (τ.1 (500 + o)), .int x1, .int x2, .int x3, .int x4]) ++ List.replicate (5 - (lg_sl ([.ref (τ.1 (500 + o)), .int x1, .int x2, .int x3, .int x4])).length) Slot.unset).toArray = ls at hl ⊢
  have hl : lv_has ls 5 [(0, .ref (τ.1 (500 + o))), (1, .int x1), (2, .int x2), (3, .int x3), (4, .int x4)] := hl
  have hw0 := hts (.methodLink RX3 3 objectInit) (by decide +kernel)
  have hw1 := hts (.instanceMethod objectInit) (by decide +kernel)
  have hw2 := hts (.code objectInit ⟨#[0xb1]⟩ 1 none) (by decide +kernel)
  have hw3 := hts (.classLink RX3 9 RX10) (by decide +kernel)
  have hw4 := hts (.fieldLink RX3 11 "PostHouse$Order" "wants" "[LPostHouse$Want;") (by decide +kernel)
  have hiX3 : ∀ w ∈ u_ws RX3 TX3 6, w ∈ wsX3_init := fun _ h => List.mem_cons_of_mem _ (List.mem_append_right _ h)
  have hw6 := hts (.fieldLink RX3 17 "PostHouse$Order" "day" "I") (by decide +kernel)
  have hw7 := hts (.fieldLink RX3 21 "PostHouse$Order" "money" "I") (by decide +kernel)
  have hw8 := hts (.fieldLink RX3 24 "PostHouse$Order" "post" "I") (by decide +kernel)
  have hw9 := hts (.fieldLink RX3 27 "PostHouse$Order" "credit" "I") (by decide +kernel)
  refine lv_aload_n hx hb dX3_init_0 rfl (lv_at hl 0 rfl) ?_
  refine W.objInit hx hb hown hw0 hw1 hw2 rfl (by rw [hml]; exact hl.1) rfl dX3_init_1 (Nat.le_of_ble_eq_true rfl) (Nat.le_of_ble_eq_true rfl) ?_
  refine W.eq (g2 := F0 m 4 ls []) rfl ?_
  refine lv_aload_n hx hb dX3_init_4 rfl (lv_at hl 0 rfl) ?_
  refine lv_bipush (v := nI 8) hx hb dX3_init_5 (by decide) ?_
  refine zNewq (D := D) (C := RX10) (t := 9) (N' := 8) hx hb hown hw3 (hz.1.2.2.2.2.2.2.1 _ (List.mem_of_getElem? (i := 4) rfl)) rfl (by decide) (by decide) hH hS hA (600 + o) hod (by decide) (by decide) (by decide) (Nat.le_of_ble_eq_true rfl) (Nat.le_of_ble_eq_true rfl) dX3_init_7 (fun q9 c9 H hH8 hS => ?_)
  obtain ⟨τ101, eτ101⟩ : ∃ t9 : zTy, t9 = (va_up τ.1 (600 + o) q9, va_up τ.2.1 (600 + o) c9, va_up τ.2.2.1 (600 + o) 9, va_up τ.2.2.2 (600 + o) 8) := ⟨_, rfl⟩
  obtain ⟨f102, ef102⟩ : ∃ f9 : zFi, f9 = va_up fi (600 + o) (fun _ => 0) := ⟨_, rfl⟩
  obtain ⟨g103, eg103⟩ : ∃ f9 : zFr, f9 = va_up fr (600 + o) (fun _ => none) := ⟨_, rfl⟩
  have hH : zH D A τ101 f102 g103 ol s H := by rw [eτ101, ef102, eg103]; exact hH8
  clear hH8
  have hqτ101 : τ101.1 (600 + o) = q9 := by rw [eτ101]; exact va_up_self _ _ _
  have haτ101 : ∀ i, i ≠ 600 + o → τ101.1 i = τ.1 i := fun i h => by rw [eτ101]; exact va_up_ne _ _ h
  have hkτ101 : τ101.2.2.1 (600 + o) = 9 := by rw [eτ101]; exact va_up_self _ _ _
  have hnτ101 : τ101.2.2.2 (600 + o) = 8 := by rw [eτ101]; exact va_up_self _ _ _
  have hbτ101 : ∀ i, i ≠ 600 + o → τ101.2.2.1 i = τ.2.2.1 i ∧ τ101.2.2.2 i = τ.2.2.2 i := fun i h => by rw [eτ101]; exact ⟨va_up_ne _ _ h, va_up_ne _ _ h⟩
  have hFτ101 : zFix τ101 g103 := by rw [eτ101, eg103]; exact hF.up (by omega)
  clear eτ101
  subst hqτ101
  rw [show τ.1 (500 + o) = τ101.1 (500 + o) from (haτ101 (500 + o) (by omega)).symm] at hl
  refine W.eq (g2 := F0 m 10 ls [.ref (τ101.1 (600 + o)), .ref (τ101.1 (500 + o))]) (by rw [haτ101 (500 + o) (by omega)]) ?_
  refine W.widen (k := 1) (n := 8) (by decide) (by decide) ?_
  refine zPutFR (D := D) (ci := 3) (ty := .array (.object "PostHouse$Want")) (C := RX3) (T := TX3) (N := 6) hx hb hts hiX3 tyX3 tyX3_ok nmX3 hown hH hS (by rw [(hbτ101 (500 + o) (by omega)).1]; exact hok) rfl 3 (by decide) rfl hw4 (fun _ h9 => h9) rfl hin rfl (by rw [hkτ101]; decide)  (by decide +kernel) rfl rfl dX3_init_10 (fun H locs hH hS => ?_)
  obtain ⟨g104, eg104⟩ : ∃ f9 : zFr, f9 = zur g103 (500 + o) 3 (some (600 + o)) := ⟨_, rfl⟩
  rw [← eg104] at hH
  have hF105 : zFix τ101 g104 := by rw [eg104]; exact hFτ101.ur (by omega)
  refine lv_aload_n hx hb dX3_init_13 rfl (lv_at hl 0 rfl) ?_
  refine lv_iload_n hx hb dX3_init_14 rfl (lv_at hl 1 rfl) ?_
  refine zPutFI (D := D) (ci := 3) (ty := .int) (C := RX3) (T := TX3) (N := 6) hx hb hts hiX3 tyX3 tyX3_ok nmX3 hown hH hS (by rw [(hbτ101 (500 + o) (by omega)).1]; exact hok) rfl 0 (by decide) rfl hw6 (fun _ h9 => h9) rfl hin rfl (by decide +kernel) rfl rfl dX3_init_15 (fun H locs hH hS => ?_)
  obtain ⟨f106, ef106⟩ : ∃ f9 : zFi, f9 = zu f102 (500 + o) 0 x1 := ⟨_, rfl⟩
  rw [← ef106] at hH
  have q107 : f106 (500 + o) 0 = x1 := by rw [ef106]; exact zu_s
  refine lv_aload_n hx hb dX3_init_18 rfl (lv_at hl 0 rfl) ?_
  refine lv_iload_n hx hb dX3_init_19 rfl (lv_at hl 2 rfl) ?_
  refine zPutFI (D := D) (ci := 3) (ty := .int) (C := RX3) (T := TX3) (N := 6) hx hb hts hiX3 tyX3 tyX3_ok nmX3 hown hH hS (by rw [(hbτ101 (500 + o) (by omega)).1]; exact hok) rfl 1 (by decide) rfl hw7 (fun _ h9 => h9) rfl hin rfl (by decide +kernel) rfl rfl dX3_init_20 (fun H locs hH hS => ?_)
  obtain ⟨f108, ef108⟩ : ∃ f9 : zFi, f9 = zu f106 (500 + o) 1 x2 := ⟨_, rfl⟩
  rw [← ef108] at hH
  have q109 : f108 (500 + o) 0 = x1 := by rw [ef108, zu_n (fun h9 => absurd h9.2 (by decide))]; exact q107
  have q110 : f108 (500 + o) 1 = x2 := by rw [ef108]; exact zu_s
  refine lv_aload_n hx hb dX3_init_23 rfl (lv_at hl 0 rfl) ?_
  refine lv_iload_n hx hb dX3_init_24 rfl (lv_at hl 3 rfl) ?_
  refine zPutFI (D := D) (ci := 3) (ty := .int) (C := RX3) (T := TX3) (N := 6) hx hb hts hiX3 tyX3 tyX3_ok nmX3 hown hH hS (by rw [(hbτ101 (500 + o) (by omega)).1]; exact hok) rfl 2 (by decide) rfl hw8 (fun _ h9 => h9) rfl hin rfl (by decide +kernel) rfl rfl dX3_init_25 (fun H locs hH hS => ?_)
  obtain ⟨f111, ef111⟩ : ∃ f9 : zFi, f9 = zu f108 (500 + o) 2 x3 := ⟨_, rfl⟩
  rw [← ef111] at hH
  have q112 : f111 (500 + o) 0 = x1 := by rw [ef111, zu_n (fun h9 => absurd h9.2 (by decide))]; exact q109
  have q113 : f111 (500 + o) 1 = x2 := by rw [ef111, zu_n (fun h9 => absurd h9.2 (by decide))]; exact q110
  have q114 : f111 (500 + o) 2 = x3 := by rw [ef111]; exact zu_s
  refine lv_aload_n hx hb dX3_init_28 rfl (lv_at hl 0 rfl) ?_
  refine lv_iload_n hx hb dX3_init_29 rfl (lv_at hl 2 rfl) ?_
  refine lv_iload hx hb dX3_init_30 (lv_at hl 4 rfl) ?_
  refine lv_isub hx hb dX3_init_32 ?_
  refine lv_topi (fun v115 ev115 => ?_)
  refine lv_iload_n hx hb dX3_init_33 rfl (lv_at hl 3 rfl) ?_
  refine lv_isub hx hb dX3_init_34 ?_
  refine lv_topi (fun v116 ev116 => ?_)
  refine zPutI (D := D) (ci := 3) (ty := .int) (C := RX3) (T := TX3) (N := 6) hx hb hts hiX3 tyX3 tyX3_ok nmX3 hown hH hS (by rw [(hbτ101 (500 + o) (by omega)).1]; exact hok) rfl 4 (by decide) rfl hw9 (fun _ h9 => h9) rfl (by decide +kernel) rfl rfl dX3_init_35 (fun H locs hH hS => ?_)
  obtain ⟨f117, ef117⟩ : ∃ f9 : zFi, f9 = zu f111 (500 + o) 4 v116 := ⟨_, rfl⟩
  rw [← ef117] at hH
  have q118 : f117 (500 + o) 0 = x1 := by rw [ef117, zu_n (fun h9 => absurd h9.2 (by decide))]; exact q112
  have q119 : f117 (500 + o) 1 = x2 := by rw [ef117, zu_n (fun h9 => absurd h9.2 (by decide))]; exact q113
  have q120 : f117 (500 + o) 2 = x3 := by rw [ef117, zu_n (fun h9 => absurd h9.2 (by decide))]; exact q114
  have q121 : f117 (500 + o) 4 = v116 := by rw [ef117]; exact zu_s
  refine W.widen (k := 1) (n := 8) (by decide) (by decide) ?_
  exact W.vret hx hb hr (fun t9 ht9 hW9 => ⟨⟨(τ101, f117, g104), rfl, (show zOI τ fi fr o τ101 f117 g104 from ⟨fun i h => ⟨haτ101 i h, (hbτ101 i h).1, (hbτ101 i h).2⟩, ⟨hkτ101, hnτ101⟩, hF105, fun i k h1 h2 => by rw [ef117, zu_n (by omega), ef111, zu_n (by omega), ef108, zu_n (by omega), ef106, zu_n (by omega), ef102, va_up_ne _ _ (by omega)], by rw [eg104, zur_s], fun i k h1 h2 => by rw [eg104, zur_n (by omega), eg103, va_up_ne _ _ (by omega)], fun k => by rw [eg104, zur_n (by omega), eg103, va_up_self]⟩), zEnd1 hH ht9 hW9⟩, hS.F ht9⟩) hS.2.2 dX3_init_38
set_option maxHeartbeats 4000000 in
set_option maxRecDepth 100000 in
/-- Order.add -/
theorem c_oadd (l : Launch) (hl0 : l.stackTraces = false) (D : va_G) (A : Nat → Prop) (sad : Nat → Nat) (τ : zTy) (fi : zFi) (fr : zFr) (ol : Int64) (hF : zFix τ fr) (o w : Nat) (hok : τ.2.2.1 (500 + o) = 19 ∧ τ.2.2.1 (600 + o) = 9 ∧ τ.2.2.2 (600 + o) = 8) (hor : fr (500 + o) 3 = some (600 + o)) (how : fi (500 + o) 5 = nI w) (hw8 : w < 8) (v : Nat) (hvk : τ.2.2.1 v = 26) (ho6 : o < 60) : Met l yX3_add wsX3_add ({ frames := 0, cells := 0, slots := 0, locals := 0 }) (va_Pc [.ref (τ.1 (500 + o)), .ref (τ.1 v)] (zQc D A sad τ fi fr ol)) (va_Qv (fun (u : zFi × zFr) => u.1 = zu fi (500 + o) 5 (nI (w + 1)) ∧ u.2 = zur fr (600 + o) w (some v)) (fun (u : zFi × zFr) (t : State) => zH D A τ u.1 u.2 ol t t.heap) A) 0 0 A := by
  refine Met.ofW (cc := cX3_add) (maxL := 2) (ret := none) (by decide) rfl ?_
  intro p9 e9 s m args below meth c9 s₁ B hml hv
  obtain ⟨rfl, hz, hH, hA⟩ := hv
  have hx := B.exec
  have hb := B.bytes
  have hr := B.returns
  have hts := atoms_spec (ws := wsX3_add) B.pre
  have hown : s.vm.findClass RX3 = some m.cls := findClass_of_methodNamed B.named
  have hlocks := B.notSynchronized
  have hS : va_S A s.heap s.heap [] := va_S.rf
  have hl := lv_entry ([.ref (τ.1 (500 + o)), .ref (τ.1 v)]) (n := 2) (Nat.le_of_ble_eq_true rfl)
  rw [lg_entry_eq]
  generalize (lg_sl ([.ref (τ.1 (500 + o)), .ref (τ.1 v)]) ++ List.replicate (2 - (lg_sl ([.ref (τ.1 (500 + o)), .ref (τ.1 v)])).length) Slot.unset).toArray = ls at hl ⊢
  have hl : lv_has ls 2 [(0, .ref (τ.1 (500 + o))), (1, .ref (τ.1 v))] := hl
  have hiX3 : ∀ w ∈ u_ws RX3 TX3 6, w ∈ wsX3_add := fun _ h => List.mem_cons_of_mem _ (List.mem_append_right _ h)
  have hw1 := hts (.fieldLink RX3 30 "PostHouse$Order" "size" "I") (by decide +kernel)
  have hw2 := hts (.fieldLink RX3 11 "PostHouse$Order" "wants" "[LPostHouse$Want;") (by decide +kernel)
  refine lv_aload_n hx hb dX3_add_0 rfl (lv_at hl 0 rfl) ?_
  refine zGetI (D := D) (ci := 3) (C := RX3) (T := TX3) (N := 6) hx hb hts hiX3 hown hH hok.1 rfl 5 (by decide) rfl hw1 (fun _ h9 => h9) dX3_add_1 how ?_
  refine lv_bipush (v := nI 8) hx hb dX3_add_4 (by decide) ?_
  refine lv_icmp_ge (tgt := 29) hx hb dX3_add_6 (by decide) (fun c101 => False.elim (by have zc101 := zc_le (nI_toInt (by omega)) (nI_toInt (by omega)) c101; omega)) (fun c101 => ?_)
  refine lv_aload_n hx hb dX3_add_9 rfl (lv_at hl 0 rfl) ?_
  refine zGetR (D := D) (ci := 3) (C := RX3) (T := TX3) (N := 6) hx hb hts hiX3 hown hH hok.1 rfl 3 (by decide) rfl hw2 (fun _ h9 => h9) dX3_add_10 hor ?_
  refine lv_aload_n hx hb dX3_add_13 rfl (lv_at hl 0 rfl) ?_
  refine zGetI (D := D) (ci := 3) (C := RX3) (T := TX3) (N := 6) hx hb hts hiX3 hown hH hok.1 rfl 5 (by decide) rfl hw1 (fun _ h9 => h9) dX3_add_14 how ?_
  refine lv_aload_n hx hb dX3_add_17 rfl (lv_at hl 1 rfl) ?_
  refine zAastS (D := D) (rr := (RX10, TX10, 10)) hx hb hH hS hok.2.1 (by decide) (by decide) rfl hvk rfl hok.2.2 (by omega) (by omega) dX3_add_18 (fun H locs hH hS => ?_)
  obtain ⟨g102, eg102⟩ : ∃ f9 : zFr, f9 = zur fr (600 + o) w (some v) := ⟨_, rfl⟩
  rw [← eg102] at hH
  have hF103 : zFix τ g102 := by rw [eg102]; exact hF.ur (by omega)
  refine lv_aload_n hx hb dX3_add_19 rfl (lv_at hl 0 rfl) ?_
  refine lv_dup hx hb dX3_add_20 rfl ?_
  refine zGetI (D := D) (ci := 3) (C := RX3) (T := TX3) (N := 6) hx hb hts hiX3 hown hH hok.1 rfl 5 (by decide) rfl hw1 (fun _ h9 => h9) dX3_add_21 how ?_
  refine lv_iconst (v := nI 1) hx hb dX3_add_24 (by decide) ?_
  refine lv_iadd hx hb dX3_add_25 ?_
  refine lv_topi (fun v104 ev104 => ?_)
  obtain rfl : v104 = nI (w + 1) := ev104.trans (nI_add _ _)
  refine zPutI (D := D) (ci := 3) (ty := .int) (C := RX3) (T := TX3) (N := 6) hx hb hts hiX3 tyX3 tyX3_ok nmX3 hown hH hS hok.1 rfl 5 (by decide) rfl hw1 (fun _ h9 => h9) rfl (by decide +kernel) rfl rfl dX3_add_26 (fun H locs hH hS => ?_)
  obtain ⟨f105, ef105⟩ : ∃ f9 : zFi, f9 = zu fi (500 + o) 5 (nI (w + 1)) := ⟨_, rfl⟩
  rw [← ef105] at hH
  have q106 : f105 (500 + o) 5 = nI (w + 1) := by rw [ef105]; exact zu_s
  refine W.widen (k := 0) (n := 0) (by decide) (by decide) ?_
  exact W.vret hx hb hr (fun t9 ht9 hW9 => ⟨⟨(f105, g102), rfl, (show f105 = zu fi (500 + o) 5 (nI (w + 1)) ∧ g102 = zur fr (600 + o) w (some v) from ⟨by rw [ef105], by rw [eg102]⟩), zEnd1 hH ht9 hW9⟩, hS.F ht9⟩) hS.2.2 dX3_add_29
def zLN (τ : zTy) (fi : zFi) (fr : zFr) (q : Nat) (τ' : zTy) (fi' : zFi) (fr' : zFr) : Prop :=
  (∀ i, i ≠ 4000 + q → i ≠ 5000 + q → τ'.1 i = τ.1 i ∧ τ'.2.2.1 i = τ.2.2.1 i ∧ τ'.2.2.2 i = τ.2.2.2 i) ∧ zLk τ' fr' q ∧ zFix τ' fr' ∧
  (∀ i k, i ≠ 4000 + q → i ≠ 5000 + q → fi' i k = fi i k) ∧ (∀ i k, i ≠ 4000 + q → i ≠ 5000 + q → i ≠ 3000 + q → fr' i k = fr i k) ∧ ∀ k, fr' (4000 + q) k = none ∧ fr' (5000 + q) k = none
set_option maxHeartbeats 4000000 in
set_option maxRecDepth 100000 in
/-- Letter -/
theorem c_Letter_init (l : Launch) (hl0 : l.stackTraces = false) (D : va_G) (A : Nat → Prop) (sad : Nat → Nat) (τ : zTy) (fi : zFi) (fr : zFr) (ol : Int64) (hF : zFix τ fr) (q : Nat) (hqk : τ.2.2.1 (3000 + q) = 18) (hqd : τ.2.2.1 (4000 + q) = 0 ∧ τ.2.2.1 (5000 + q) = 0) (hq5 : q ≤ 512) : Met l yX2_init wsX2_init ({ frames := 1, cells := 2, slots := 16, locals := 12 }) (va_Pc [.ref (τ.1 (3000 + q))] (zQc D A sad τ fi fr ol)) (va_Qv (fun (u : zTy × zFi × zFr) => zLN τ fi fr q u.1 u.2.1 u.2.2) (fun (u : zTy × zFi × zFr) (t : State) => zH D A u.1 u.2.1 u.2.2 ol t t.heap) A) 2 16 A := by
  refine Met.ofW (cc := cX2_init) (maxL := 1) (ret := none) (by decide) rfl ?_
  intro p9 e9 s m args below meth c9 s₁ B hml hv
  obtain ⟨rfl, hz, hH, hA⟩ := hv
  have hx := B.exec
  have hb := B.bytes
  have hr := B.returns
  have hts := atoms_spec (ws := wsX2_init) B.pre
  have hown : s.vm.findClass RX2 = some m.cls := findClass_of_methodNamed B.named
  have hlocks := B.notSynchronized
  have hin : meth.name = "<init>" := (name_of_methodNamed B.named B.method).1
  have hS : va_S A s.heap s.heap [] := va_S.rf
  have hl := lv_entry ([.ref (τ.1 (3000 + q))]) (n := 1) (Nat.le_of_ble_eq_true rfl)
  rw [lg_entry_eq]
  generalize (lg_sl ([.ref (τ.1 (3000 + q))]) ++ List.replicate (1 - (lg_sl ([.ref (τ.1 (3000 + q))])).length) Slot.unset).toArray = ls at hl ⊢
  have hl : lv_has ls 1 [(0, .ref (τ.1 (3000 + q)))] := hl
  have hw0 := hts (.methodLink RX2 3 objectInit) (by decide +kernel)
  have hw1 := hts (.instanceMethod objectInit) (by decide +kernel)
  have hw2 := hts (.code objectInit ⟨#[0xb1]⟩ 1 none) (by decide +kernel)
  have hw3 := hts (.arrayClass .int) (by decide +kernel)
  have hw4 := hts (.fieldLink RX2 9 "PostHouse$Letter" "codes" "[I") (by decide +kernel)
  have hiX2 : ∀ w ∈ u_ws RX2 TX2 10, w ∈ wsX2_init := fun _ h => List.mem_cons_of_mem _ (List.mem_append_right _ h)
  have hw6 := hts (.fieldLink RX2 15 "PostHouse$Letter" "pieces" "[I") (by decide +kernel)
  refine lv_aload_n hx hb dX2_init_0 rfl (lv_at hl 0 rfl) ?_
  refine W.objInit hx hb hown hw0 hw1 hw2 rfl (by rw [hml]; exact hl.1) rfl dX2_init_1 (Nat.le_of_ble_eq_true rfl) (Nat.le_of_ble_eq_true rfl) ?_
  refine W.eq (g2 := F0 m 4 ls []) rfl ?_
  refine lv_aload_n hx hb dX2_init_4 rfl (lv_at hl 0 rfl) ?_
  refine lv_bipush (v := nI 8) hx hb dX2_init_5 (by decide) ?_
  refine zNewa (D := D) (atype := .int) (t := 1) (N' := 8) hx hb hw3 rfl (by decide) (by decide) rfl hH hS hA (4000 + q) hqd.1 (by decide) (by decide) (by first | decide | (simp only [zT, componentBytes]; omega)) (Nat.le_of_ble_eq_true rfl) (Nat.le_of_ble_eq_true rfl) dX2_init_7 (fun q9 c9 H hH8 hS => ?_)
  obtain ⟨τ101, eτ101⟩ : ∃ t9 : zTy, t9 = (va_up τ.1 (4000 + q) q9, va_up τ.2.1 (4000 + q) c9, va_up τ.2.2.1 (4000 + q) 1, va_up τ.2.2.2 (4000 + q) 8) := ⟨_, rfl⟩
  obtain ⟨f102, ef102⟩ : ∃ f9 : zFi, f9 = va_up fi (4000 + q) (fun _ => 0) := ⟨_, rfl⟩
  obtain ⟨g103, eg103⟩ : ∃ f9 : zFr, f9 = va_up fr (4000 + q) (fun _ => none) := ⟨_, rfl⟩
  have hH : zH D A τ101 f102 g103 ol s H := by rw [eτ101, ef102, eg103]; exact hH8
  clear hH8
  have hqτ101 : τ101.1 (4000 + q) = q9 := by rw [eτ101]; exact va_up_self _ _ _
  have haτ101 : ∀ i, i ≠ 4000 + q → τ101.1 i = τ.1 i := fun i h => by rw [eτ101]; exact va_up_ne _ _ h
  have hkτ101 : τ101.2.2.1 (4000 + q) = 1 := by rw [eτ101]; exact va_up_self _ _ _
  have hnτ101 : τ101.2.2.2 (4000 + q) = 8 := by rw [eτ101]; exact va_up_self _ _ _
  have hbτ101 : ∀ i, i ≠ 4000 + q → τ101.2.2.1 i = τ.2.2.1 i ∧ τ101.2.2.2 i = τ.2.2.2 i := fun i h => by rw [eτ101]; exact ⟨va_up_ne _ _ h, va_up_ne _ _ h⟩
  have hFτ101 : zFix τ101 g103 := by rw [eτ101, eg103]; exact hF.up (by omega)
  clear eτ101
  subst hqτ101
  rw [show τ.1 (3000 + q) = τ101.1 (3000 + q) from (haτ101 (3000 + q) (by omega)).symm] at hl
  refine W.eq (g2 := F0 m 9 ls [.ref (τ101.1 (4000 + q)), .ref (τ101.1 (3000 + q))]) (by rw [haτ101 (3000 + q) (by omega)]) ?_
  refine W.widen (k := 1) (n := 8) (by decide) (by decide) ?_
  refine zPutFR (D := D) (ci := 2) (ty := .array .int) (C := RX2) (T := TX2) (N := 10) hx hb hts hiX2 tyX2 tyX2_ok nmX2 hown hH hS (by rw [(hbτ101 (3000 + q) (by omega)).1]; exact hqk) rfl 0 (by decide) rfl hw4 (fun _ h9 => h9) rfl hin rfl (by rw [hkτ101]; decide)  (by decide +kernel) rfl rfl dX2_init_9 (fun H locs hH hS => ?_)
  obtain ⟨g104, eg104⟩ : ∃ f9 : zFr, f9 = zur g103 (3000 + q) 0 (some (4000 + q)) := ⟨_, rfl⟩
  rw [← eg104] at hH
  have hF105 : zFix τ101 g104 := by rw [eg104]; exact hFτ101.ur (by omega)
  refine lv_aload_n hx hb dX2_init_12 rfl (lv_at hl 0 rfl) ?_
  refine lv_bipush (v := nI 8) hx hb dX2_init_13 (by decide) ?_
  refine zNewa (D := D) (atype := .int) (t := 1) (N' := 8) hx hb hw3 rfl (by decide) (by decide) rfl hH hS hA (5000 + q) (by rw [(hbτ101 (5000 + q) (by omega)).1]; exact hqd.2) (by decide) (by decide) (by first | decide | (simp only [zT, componentBytes]; omega)) (Nat.le_of_ble_eq_true rfl) (Nat.le_of_ble_eq_true rfl) dX2_init_15 (fun q9 c9 H hH8 hS => ?_)
  obtain ⟨τ106, eτ106⟩ : ∃ t9 : zTy, t9 = (va_up τ101.1 (5000 + q) q9, va_up τ101.2.1 (5000 + q) c9, va_up τ101.2.2.1 (5000 + q) 1, va_up τ101.2.2.2 (5000 + q) 8) := ⟨_, rfl⟩
  obtain ⟨f107, ef107⟩ : ∃ f9 : zFi, f9 = va_up f102 (5000 + q) (fun _ => 0) := ⟨_, rfl⟩
  obtain ⟨g108, eg108⟩ : ∃ f9 : zFr, f9 = va_up g104 (5000 + q) (fun _ => none) := ⟨_, rfl⟩
  have hH : zH D A τ106 f107 g108 ol s H := by rw [eτ106, ef107, eg108]; exact hH8
  clear hH8
  have hqτ106 : τ106.1 (5000 + q) = q9 := by rw [eτ106]; exact va_up_self _ _ _
  have haτ106 : ∀ i, i ≠ 5000 + q → τ106.1 i = τ101.1 i := fun i h => by rw [eτ106]; exact va_up_ne _ _ h
  have hkτ106 : τ106.2.2.1 (5000 + q) = 1 := by rw [eτ106]; exact va_up_self _ _ _
  have hnτ106 : τ106.2.2.2 (5000 + q) = 8 := by rw [eτ106]; exact va_up_self _ _ _
  have hbτ106 : ∀ i, i ≠ 5000 + q → τ106.2.2.1 i = τ101.2.2.1 i ∧ τ106.2.2.2 i = τ101.2.2.2 i := fun i h => by rw [eτ106]; exact ⟨va_up_ne _ _ h, va_up_ne _ _ h⟩
  have hFτ106 : zFix τ106 g108 := by rw [eτ106, eg108]; exact hF105.up (by omega)
  clear eτ106
  subst hqτ106
  rw [show τ101.1 (3000 + q) = τ106.1 (3000 + q) from (haτ106 (3000 + q) (by omega)).symm] at hl
  refine W.eq (g2 := F0 m 17 ls [.ref (τ106.1 (5000 + q)), .ref (τ106.1 (3000 + q))]) (by rw [haτ106 (3000 + q) (by omega)]) ?_
  refine W.widen (k := 2) (n := 16) (by decide) (by decide) ?_
  refine zPutFR (D := D) (ci := 2) (ty := .array .int) (C := RX2) (T := TX2) (N := 10) hx hb hts hiX2 tyX2 tyX2_ok nmX2 hown hH hS (by rw [(hbτ106 (3000 + q) (by omega)).1]; exact (by rw [(hbτ101 (3000 + q) (by omega)).1]; exact hqk)) rfl 1 (by decide) rfl hw6 (fun _ h9 => h9) rfl hin rfl (by rw [hkτ106]; decide)  (by decide +kernel) rfl rfl dX2_init_17 (fun H locs hH hS => ?_)
  obtain ⟨g109, eg109⟩ : ∃ f9 : zFr, f9 = zur g108 (3000 + q) 1 (some (5000 + q)) := ⟨_, rfl⟩
  rw [← eg109] at hH
  have hF110 : zFix τ106 g109 := by rw [eg109]; exact hFτ106.ur (by omega)
  refine W.widen (k := 2) (n := 16) (by decide) (by decide) ?_
  exact W.vret hx hb hr (fun t9 ht9 hW9 => ⟨⟨(τ106, f107, g109), rfl, (show zLN τ fi fr q τ106 f107 g109 from ⟨fun i h1 h2 => ⟨by rw [haτ106 i (by omega), haτ101 i (by omega)], by rw [(hbτ106 i (by omega)).1, (hbτ101 i (by omega)).1], by rw [(hbτ106 i (by omega)).2, (hbτ101 i (by omega)).2]⟩, ⟨⟨(by rw [(hbτ106 (3000 + q) (by omega)).1]; exact (by rw [(hbτ101 (3000 + q) (by omega)).1]; exact hqk)), (by rw [(hbτ106 (4000 + q) (by omega)).1]; exact hkτ101), hkτ106⟩, ⟨(by rw [(hbτ106 (4000 + q) (by omega)).2]; exact hnτ101), hnτ106⟩, by rw [eg109, zur_n (by omega), eg108, va_up_ne _ _ (by omega), eg104, zur_s], by rw [eg109, zur_s]⟩, hF110, fun i k h1 h2 => by rw [ef107, va_up_ne _ _ (by omega), ef102, va_up_ne _ _ (by omega)], fun i k h1 h2 h3 => by rw [eg109, zur_n (by omega), eg108, va_up_ne _ _ (by omega), eg104, zur_n (by omega), eg103, va_up_ne _ _ (by omega)], fun k => ⟨by rw [eg109, zur_n (by omega), eg108, va_up_ne _ _ (by omega), eg104, zur_n (by omega), eg103, va_up_self], by rw [eg109, zur_n (by omega), eg108, va_up_self]⟩⟩), zEnd1 hH ht9 hW9⟩, hS.F ht9⟩) hS.2.2 dX2_init_20
