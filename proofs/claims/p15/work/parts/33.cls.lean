set_option maxHeartbeats 4000000 in
set_option maxRecDepth 100000 in
/-- Want.left -/
theorem c_left (l : Launch) (hl0 : l.stackTraces = false) (D : va_G) (A : Nat → Prop) (sad : Nat → Nat) (τ : zTy) (fi : zFi) (fr : zFr) (ol : Int64) (w : Nat) (hw : τ.2.2.1 w = 26) : Met l yX10_left wsX10_left ({ frames := 0, cells := 0, slots := 0, locals := 0 }) (va_Pc [.ref (τ.1 w)] (zQc D A sad τ fi fr ol)) (va_Qi (fun (r : Int32) (u : Unit) => r = fi w 1 - fi w 3 - fi w 4 - fi w 5) (fun (u : Unit) (t : State) => zH D A τ fi fr ol t t.heap) A) 0 0 A := by
  refine Met.ofW (cc := cX10_left) (maxL := 1) (ret := (some .int)) (by decide) rfl ?_
  intro p9 e9 s m args below meth c9 s₁ B hml hv
  obtain ⟨rfl, hz, hH, hA⟩ := hv
  have hx := B.exec
  have hb := B.bytes
  have hr := B.returns
  have hts := atoms_spec (ws := wsX10_left) B.pre
  have hown : s.vm.findClass RX10 = some m.cls := findClass_of_methodNamed B.named
  have hlocks := B.notSynchronized
  have hS : va_S A s.heap s.heap [] := va_S.rf
  have hl := lv_entry ([.ref (τ.1 w)]) (n := 1) (Nat.le_of_ble_eq_true rfl)
  rw [lg_entry_eq]
  generalize (lg_sl ([.ref (τ.1 w)]) ++ List.replicate (1 - (lg_sl ([.ref (τ.1 w)])).length) Slot.unset).toArray = ls at hl ⊢
  have hl : lv_has ls 1 [(0, .ref (τ.1 w))] := hl
  have hiX10 : ∀ w ∈ u_ws RX10 TX10 10, w ∈ wsX10_left := fun _ h => List.mem_cons_of_mem _ (List.mem_append_right _ h)
  have hw1 := hts (.fieldLink RX10 19 "PostHouse$Want" "many" "I") (by decide +kernel)
  have hw2 := hts (.fieldLink RX10 25 "PostHouse$Want" "sent" "I") (by decide +kernel)
  have hw3 := hts (.fieldLink RX10 28 "PostHouse$Want" "placed" "I") (by decide +kernel)
  have hw4 := hts (.fieldLink RX10 31 "PostHouse$Want" "cancelled" "I") (by decide +kernel)
  refine lv_aload_n hx hb dX10_left_0 rfl (lv_at hl 0 rfl) ?_
  refine zGetI (D := D) (ci := 10) (C := RX10) (T := TX10) (N := 10) hx hb hts hiX10 hown hH hw rfl 1 (by decide) rfl hw1 (fun _ h9 => h9) dX10_left_1 rfl ?_
  refine lv_aload_n hx hb dX10_left_4 rfl (lv_at hl 0 rfl) ?_
  refine zGetI (D := D) (ci := 10) (C := RX10) (T := TX10) (N := 10) hx hb hts hiX10 hown hH hw rfl 3 (by decide) rfl hw2 (fun _ h9 => h9) dX10_left_5 rfl ?_
  refine lv_isub hx hb dX10_left_8 ?_
  refine lv_topi (fun v101 ev101 => ?_)
  refine lv_aload_n hx hb dX10_left_9 rfl (lv_at hl 0 rfl) ?_
  refine zGetI (D := D) (ci := 10) (C := RX10) (T := TX10) (N := 10) hx hb hts hiX10 hown hH hw rfl 4 (by decide) rfl hw3 (fun _ h9 => h9) dX10_left_10 rfl ?_
  refine lv_isub hx hb dX10_left_13 ?_
  refine lv_topi (fun v102 ev102 => ?_)
  refine lv_aload_n hx hb dX10_left_14 rfl (lv_at hl 0 rfl) ?_
  refine zGetI (D := D) (ci := 10) (C := RX10) (T := TX10) (N := 10) hx hb hts hiX10 hown hH hw rfl 5 (by decide) rfl hw4 (fun _ h9 => h9) dX10_left_15 rfl ?_
  refine lv_isub hx hb dX10_left_18 ?_
  refine lv_topi (fun v103 ev103 => ?_)
  refine W.widen (k := 0) (n := 0) (by decide) (by decide) ?_
  exact W.iret (v := v103) hx hb hr (fun t9 ht9 hW9 => ⟨⟨v103, (), rfl, by subst ev101 ev102 ev103; rfl, zEnd1 hH ht9 hW9⟩, hS.F ht9⟩) hS.2.2 dX10_left_19
set_option maxHeartbeats 4000000 in
set_option maxRecDepth 100000 in
/-- Want.piecesOut -/
theorem c_piecesOut (l : Launch) (hl0 : l.stackTraces = false) (D : va_G) (A : Nat → Prop) (sad : Nat → Nat) (τ : zTy) (fi : zFi) (fr : zFr) (ol : Int64) (w : Nat) (hw : τ.2.2.1 w = 26) : Met l yX10_piecesOut wsX10_piecesOut ({ frames := 0, cells := 0, slots := 0, locals := 0 }) (va_Pc [.ref (τ.1 w)] (zQc D A sad τ fi fr ol)) (va_Qi (fun (r : Int32) (u : Unit) => True) (fun (u : Unit) (t : State) => zH D A τ fi fr ol t t.heap) A) 0 0 A := by
  refine Met.ofW (cc := cX10_piecesOut) (maxL := 1) (ret := (some .int)) (by decide) rfl ?_
  intro p9 e9 s m args below meth c9 s₁ B hml hv
  obtain ⟨rfl, hz, hH, hA⟩ := hv
  have hx := B.exec
  have hb := B.bytes
  have hr := B.returns
  have hts := atoms_spec (ws := wsX10_piecesOut) B.pre
  have hown : s.vm.findClass RX10 = some m.cls := findClass_of_methodNamed B.named
  have hlocks := B.notSynchronized
  have hS : va_S A s.heap s.heap [] := va_S.rf
  have hl := lv_entry ([.ref (τ.1 w)]) (n := 1) (Nat.le_of_ble_eq_true rfl)
  rw [lg_entry_eq]
  generalize (lg_sl ([.ref (τ.1 w)]) ++ List.replicate (1 - (lg_sl ([.ref (τ.1 w)])).length) Slot.unset).toArray = ls at hl ⊢
  have hl : lv_has ls 1 [(0, .ref (τ.1 w))] := hl
  have hiX10 : ∀ w ∈ u_ws RX10 TX10 10, w ∈ wsX10_piecesOut := fun _ h => List.mem_cons_of_mem _ (List.mem_append_right _ h)
  have hw1 := hts (.fieldLink RX10 25 "PostHouse$Want" "sent" "I") (by decide +kernel)
  have hw2 := hts (.fieldLink RX10 28 "PostHouse$Want" "placed" "I") (by decide +kernel)
  have hw3 := hts (.fieldLink RX10 34 "PostHouse$Want" "sentBack" "I") (by decide +kernel)
  have hw4 := hts (.fieldLink RX10 37 "PostHouse$Want" "placedBack" "I") (by decide +kernel)
  refine lv_aload_n hx hb dX10_piecesOut_0 rfl (lv_at hl 0 rfl) ?_
  refine zGetI (D := D) (ci := 10) (C := RX10) (T := TX10) (N := 10) hx hb hts hiX10 hown hH hw rfl 3 (by decide) rfl hw1 (fun _ h9 => h9) dX10_piecesOut_1 rfl ?_
  refine lv_aload_n hx hb dX10_piecesOut_4 rfl (lv_at hl 0 rfl) ?_
  refine zGetI (D := D) (ci := 10) (C := RX10) (T := TX10) (N := 10) hx hb hts hiX10 hown hH hw rfl 4 (by decide) rfl hw2 (fun _ h9 => h9) dX10_piecesOut_5 rfl ?_
  refine lv_iadd hx hb dX10_piecesOut_8 ?_
  refine lv_topi (fun v101 ev101 => ?_)
  refine lv_aload_n hx hb dX10_piecesOut_9 rfl (lv_at hl 0 rfl) ?_
  refine zGetI (D := D) (ci := 10) (C := RX10) (T := TX10) (N := 10) hx hb hts hiX10 hown hH hw rfl 6 (by decide) rfl hw3 (fun _ h9 => h9) dX10_piecesOut_10 rfl ?_
  refine lv_isub hx hb dX10_piecesOut_13 ?_
  refine lv_topi (fun v102 ev102 => ?_)
  refine lv_aload_n hx hb dX10_piecesOut_14 rfl (lv_at hl 0 rfl) ?_
  refine zGetI (D := D) (ci := 10) (C := RX10) (T := TX10) (N := 10) hx hb hts hiX10 hown hH hw rfl 7 (by decide) rfl hw4 (fun _ h9 => h9) dX10_piecesOut_15 rfl ?_
  refine lv_isub hx hb dX10_piecesOut_18 ?_
  refine lv_topi (fun v103 ev103 => ?_)
  refine W.widen (k := 0) (n := 0) (by decide) (by decide) ?_
  exact W.iret (v := v103) hx hb hr (fun t9 ht9 hW9 => ⟨⟨v103, (), rfl, trivial, zEnd1 hH ht9 hW9⟩, hS.F ht9⟩) hS.2.2 dX10_piecesOut_19
set_option maxHeartbeats 4000000 in
set_option maxRecDepth 100000 in
/-- Want.takeBack -/
theorem c_takeBack (l : Launch) (hl0 : l.stackTraces = false) (D : va_G) (A : Nat → Prop) (sad : Nat → Nat) (τ : zTy) (fi : zFi) (fr : zFr) (ol : Int64) (x : Int32) (n : Nat) (hT : zTh τ fi fr n) (w t : Nat) (hw : τ.2.2.1 w = 26) (ht : t < n) (hw0 : fr w 0 = some (300 + t)) (hw9 : fr w 9 = none ∨ ∃ t2, t2 < n ∧ fr w 9 = some (300 + t2)) (hwn : 1000 ≤ w ∧ w < 1480) : Met l yX10_takeBack wsX10_takeBack ({ frames := 1, cells := 0, slots := 0, locals := 13 }) (va_Pc [.ref (τ.1 w), .int x] (zQc D A sad τ fi fr ol)) (va_Qv (fun (u : zFi) => ∀ i k, ¬ ((i = w ∧ (k = 6 ∨ k = 7)) ∨ (300 ≤ i ∧ i < 330 ∧ k = 5)) → u i k = fi i k) (fun (u : zFi) (t : State) => zH D A τ u fr ol t t.heap) A) 0 0 A := by
  refine Met.ofW (cc := cX10_takeBack) (maxL := 3) (ret := none) (by decide) rfl ?_
  intro p9 e9 s m args below meth c9 s₁ B hml hv
  obtain ⟨rfl, hz, hH, hA⟩ := hv
  have hx := B.exec
  have hb := B.bytes
  have hr := B.returns
  have hts := atoms_spec (ws := wsX10_takeBack) B.pre
  have hown : s.vm.findClass RX10 = some m.cls := findClass_of_methodNamed B.named
  have hlocks := B.notSynchronized
  have hS : va_S A s.heap s.heap [] := va_S.rf
  have hl := lv_entry ([.ref (τ.1 w), .int x]) (n := 3) (Nat.le_of_ble_eq_true rfl)
  rw [lg_entry_eq]
  generalize (lg_sl ([.ref (τ.1 w), .int x]) ++ List.replicate (3 - (lg_sl ([.ref (τ.1 w), .int x])).length) Slot.unset).toArray = ls at hl ⊢
  have hl : lv_has ls 3 [(0, .ref (τ.1 w)), (1, .int x)] := hl
  have hn30 := hT.1
  have hiX10 : ∀ w ∈ u_ws RX10 TX10 10, w ∈ wsX10_takeBack := fun _ h => List.mem_cons_of_mem _ (List.mem_append_left _ (List.mem_append_right _ h))
  have hw1 := hts (.fieldLink RX10 28 "PostHouse$Want" "placed" "I") (by decide +kernel)
  have hw2 := hts (.fieldLink RX10 37 "PostHouse$Want" "placedBack" "I") (by decide +kernel)
  have hw3 := hts (.methodLink RX10 40 Lib.Math.min.name) (by decide +kernel)
  have hw4 := hts (.static Lib.Math.min.name) (by decide +kernel)
  have hw5 := hts (.initialized "java/lang/Math") (by decide +kernel)
  have hw6 := hts (.code Lib.Math.min.name Lib.Math.min.code 2 (some .int)) (by decide +kernel)
  have hw7 := hts (.fieldLink RX10 46 "PostHouse$Want" "other" "LPostHouse$Thing;") (by decide +kernel)
  have hw8 := hts (.fieldLink RX10 15 "PostHouse$Want" "thing" "LPostHouse$Thing;") (by decide +kernel)
  have hiX8 : ∀ w ∈ u_ws RX8 TX8 10, w ∈ wsX10_takeBack := fun _ h => List.mem_cons_of_mem _ (List.mem_append_right _ h)
  have hw10 := hts (.fieldLink RX10 49 "PostHouse$Thing" "stock" "I") (by decide +kernel)
  have hw11 := hts (.fieldLink RX10 34 "PostHouse$Want" "sentBack" "I") (by decide +kernel)
  refine lv_iload_n hx hb dX10_takeBack_0 rfl (lv_at hl 1 rfl) ?_
  refine lv_aload_n hx hb dX10_takeBack_1 rfl (lv_at hl 0 rfl) ?_
  refine zGetI (D := D) (ci := 10) (C := RX10) (T := TX10) (N := 10) hx hb hts hiX10 hown hH hw rfl 4 (by decide) rfl hw1 (fun _ h9 => h9) dX10_takeBack_2 rfl ?_
  refine lv_aload_n hx hb dX10_takeBack_5 rfl (lv_at hl 0 rfl) ?_
  refine zGetI (D := D) (ci := 10) (C := RX10) (T := TX10) (N := 10) hx hb hts hiX10 hown hH hw rfl 7 (by decide) rfl hw2 (fun _ h9 => h9) dX10_takeBack_6 rfl ?_
  refine lv_isub hx hb dX10_takeBack_9 ?_
  refine lv_topi (fun v101 ev101 => ?_)
  refine va_mmin hx hb (by rw [hml]; exact hl.1.symm) hown hw3 hw4 hw5 hw6 (Nat.le_of_ble_eq_true rfl) (Nat.le_of_ble_eq_true rfl) (Nat.le_of_ble_eq_true rfl) (Nat.le_of_ble_eq_true rfl) dX10_takeBack_10 ?_
  refine lv_topi (fun v102 ev102 => ?_)
  refine lv_istore_n (lv' := [(2, .int v102), (0, .ref (τ.1 w)), (1, .int x)]) hx hb dX10_takeBack_13 rfl hl (by decide) rfl (fun ls hl => ?_)
  rcases hw9 with hw9 | ⟨t2, ht2, hw9⟩
  · skip
    refine lv_aload_n hx hb dX10_takeBack_14 rfl (lv_at hl 1 rfl) ?_
    refine zGetN (D := D) (ci := 10) (C := RX10) (T := TX10) (N := 10) hx hb hts hiX10 hown hH hw rfl 9 (by decide) rfl hw7 (fun _ h9 => h9) dX10_takeBack_15 hw9 ?_
    refine lv_ifnullN (tgt := 34) hx hb dX10_takeBack_18 (by decide) ?_
    refine lv_aload_n hx hb dX10_takeBack_34 rfl (lv_at hl 1 rfl) ?_
    refine lv_dup hx hb dX10_takeBack_35 rfl ?_
    refine zGetI (D := D) (ci := 10) (C := RX10) (T := TX10) (N := 10) hx hb hts hiX10 hown hH hw rfl 7 (by decide) rfl hw2 (fun _ h9 => h9) dX10_takeBack_36 rfl ?_
    refine lv_iload_n hx hb dX10_takeBack_39 rfl (lv_at hl 0 rfl) ?_
    refine lv_iadd hx hb dX10_takeBack_40 ?_
    refine lv_topi (fun v103 ev103 => ?_)
    refine zPutI (D := D) (ci := 10) (ty := .int) (C := RX10) (T := TX10) (N := 10) hx hb hts hiX10 tyX10 tyX10_ok nmX10 hown hH hS hw rfl 7 (by decide) rfl hw2 (fun _ h9 => h9) rfl (by decide +kernel) rfl rfl dX10_takeBack_41 (fun H locs hH hS => ?_)
    obtain ⟨f104, ef104⟩ : ∃ f9 : zFi, f9 = zu fi w 7 v103 := ⟨_, rfl⟩
    rw [← ef104] at hH
    have q105 : f104 w 7 = v103 := by rw [ef104]; exact zu_s
    refine lv_aload_n hx hb dX10_takeBack_44 rfl (lv_at hl 1 rfl) ?_
    refine zGetR (D := D) (ci := 10) (C := RX10) (T := TX10) (N := 10) hx hb hts hiX10 hown hH hw rfl 0 (by decide) rfl hw8 (fun _ h9 => h9) dX10_takeBack_45 hw0 ?_
    refine lv_dup hx hb dX10_takeBack_48 rfl ?_
    refine zGetI (D := D) (ci := 8) (C := RX8) (T := TX8) (N := 10) hx hb hts hiX8 hown hH (hT.2.2.1 t (by omega)).1.1 rfl 5 (by decide) rfl hw10 (fun _ h9 => h9) dX10_takeBack_49 rfl ?_
    refine lv_iload_n hx hb dX10_takeBack_52 rfl (lv_at hl 2 rfl) ?_
    refine lv_iload_n hx hb dX10_takeBack_53 rfl (lv_at hl 0 rfl) ?_
    refine lv_isub hx hb dX10_takeBack_54 ?_
    refine lv_topi (fun v106 ev106 => ?_)
    refine lv_iadd hx hb dX10_takeBack_55 ?_
    refine lv_topi (fun v107 ev107 => ?_)
    refine zPutI (D := D) (ci := 8) (ty := .int) (C := RX8) (T := TX8) (N := 10) hx hb hts hiX8 tyX8 tyX8_ok nmX8 hown hH hS (hT.2.2.1 t (by omega)).1.1 rfl 5 (by decide) rfl hw10 (fun _ h9 => h9) rfl (by decide +kernel) rfl rfl dX10_takeBack_56 (fun H locs hH hS => ?_)
    obtain ⟨f108, ef108⟩ : ∃ f9 : zFi, f9 = zu f104 (300 + t) 5 v107 := ⟨_, rfl⟩
    rw [← ef108] at hH
    have q109 : f108 w 7 = v103 := by rw [ef108, zu_n (fun h9 => by omega)]; exact q105
    have q110 : f108 (300 + t) 5 = v107 := by rw [ef108]; exact zu_s
    refine lv_aload_n hx hb dX10_takeBack_59 rfl (lv_at hl 1 rfl) ?_
    refine lv_dup hx hb dX10_takeBack_60 rfl ?_
    refine zGetI (D := D) (ci := 10) (C := RX10) (T := TX10) (N := 10) hx hb hts hiX10 hown hH hw rfl 6 (by decide) rfl hw11 (fun _ h9 => h9) dX10_takeBack_61 rfl ?_
    refine lv_iload_n hx hb dX10_takeBack_64 rfl (lv_at hl 2 rfl) ?_
    refine lv_iload_n hx hb dX10_takeBack_65 rfl (lv_at hl 0 rfl) ?_
    refine lv_isub hx hb dX10_takeBack_66 ?_
    refine lv_topi (fun v111 ev111 => ?_)
    refine lv_iadd hx hb dX10_takeBack_67 ?_
    refine lv_topi (fun v112 ev112 => ?_)
    refine zPutI (D := D) (ci := 10) (ty := .int) (C := RX10) (T := TX10) (N := 10) hx hb hts hiX10 tyX10 tyX10_ok nmX10 hown hH hS hw rfl 6 (by decide) rfl hw11 (fun _ h9 => h9) rfl (by decide +kernel) rfl rfl dX10_takeBack_68 (fun H locs hH hS => ?_)
    obtain ⟨f113, ef113⟩ : ∃ f9 : zFi, f9 = zu f108 w 6 v112 := ⟨_, rfl⟩
    rw [← ef113] at hH
    have q114 : f113 w 7 = v103 := by rw [ef113, zu_n (fun h9 => absurd h9.2 (by decide))]; exact q109
    have q115 : f113 (300 + t) 5 = v107 := by rw [ef113, zu_n (fun h9 => by omega)]; exact q110
    have q116 : f113 w 6 = v112 := by rw [ef113]; exact zu_s
    refine W.widen (k := 0) (n := 0) (by decide) (by decide) ?_
    exact W.vret hx hb hr (fun t9 ht9 hW9 => ⟨⟨f113, rfl, fun i k h => by rw [ef113, zu_n (by omega), ef108, zu_n (by omega), ef104, zu_n (by omega)], zEnd1 hH ht9 hW9⟩, hS.F ht9⟩) hS.2.2 dX10_takeBack_71
  · skip
    refine lv_aload_n hx hb dX10_takeBack_14 rfl (lv_at hl 1 rfl) ?_
    refine zGetR (D := D) (ci := 10) (C := RX10) (T := TX10) (N := 10) hx hb hts hiX10 hown hH hw rfl 9 (by decide) rfl hw7 (fun _ h9 => h9) dX10_takeBack_15 hw9 ?_
    refine lv_ifnull hx hb dX10_takeBack_18 ?_
    refine lv_aload_n hx hb dX10_takeBack_21 rfl (lv_at hl 1 rfl) ?_
    refine zGetR (D := D) (ci := 10) (C := RX10) (T := TX10) (N := 10) hx hb hts hiX10 hown hH hw rfl 9 (by decide) rfl hw7 (fun _ h9 => h9) dX10_takeBack_22 hw9 ?_
    refine lv_dup hx hb dX10_takeBack_25 rfl ?_
    refine zGetI (D := D) (ci := 8) (C := RX8) (T := TX8) (N := 10) hx hb hts hiX8 hown hH (hT.2.2.1 t2 (by omega)).1.1 rfl 5 (by decide) rfl hw10 (fun _ h9 => h9) dX10_takeBack_26 rfl ?_
    refine lv_iload_n hx hb dX10_takeBack_29 rfl (lv_at hl 0 rfl) ?_
    refine lv_iadd hx hb dX10_takeBack_30 ?_
    refine lv_topi (fun v117 ev117 => ?_)
    refine zPutI (D := D) (ci := 8) (ty := .int) (C := RX8) (T := TX8) (N := 10) hx hb hts hiX8 tyX8 tyX8_ok nmX8 hown hH hS (hT.2.2.1 t2 (by omega)).1.1 rfl 5 (by decide) rfl hw10 (fun _ h9 => h9) rfl (by decide +kernel) rfl rfl dX10_takeBack_31 (fun H locs hH hS => ?_)
    obtain ⟨f118, ef118⟩ : ∃ f9 : zFi, f9 = zu fi (300 + t2) 5 v117 := ⟨_, rfl⟩
    rw [← ef118] at hH
    have q119 : f118 (300 + t2) 5 = v117 := by rw [ef118]; exact zu_s
    refine lv_aload_n hx hb dX10_takeBack_34 rfl (lv_at hl 1 rfl) ?_
    refine lv_dup hx hb dX10_takeBack_35 rfl ?_
    refine zGetI (D := D) (ci := 10) (C := RX10) (T := TX10) (N := 10) hx hb hts hiX10 hown hH hw rfl 7 (by decide) rfl hw2 (fun _ h9 => h9) dX10_takeBack_36 rfl ?_
    refine lv_iload_n hx hb dX10_takeBack_39 rfl (lv_at hl 0 rfl) ?_
    refine lv_iadd hx hb dX10_takeBack_40 ?_
    refine lv_topi (fun v120 ev120 => ?_)
    refine zPutI (D := D) (ci := 10) (ty := .int) (C := RX10) (T := TX10) (N := 10) hx hb hts hiX10 tyX10 tyX10_ok nmX10 hown hH hS hw rfl 7 (by decide) rfl hw2 (fun _ h9 => h9) rfl (by decide +kernel) rfl rfl dX10_takeBack_41 (fun H locs hH hS => ?_)
    obtain ⟨f121, ef121⟩ : ∃ f9 : zFi, f9 = zu f118 w 7 v120 := ⟨_, rfl⟩
    rw [← ef121] at hH
    have q122 : f121 (300 + t2) 5 = v117 := by rw [ef121, zu_n (fun h9 => by omega)]; exact q119
    have q123 : f121 w 7 = v120 := by rw [ef121]; exact zu_s
    refine lv_aload_n hx hb dX10_takeBack_44 rfl (lv_at hl 1 rfl) ?_
    refine zGetR (D := D) (ci := 10) (C := RX10) (T := TX10) (N := 10) hx hb hts hiX10 hown hH hw rfl 0 (by decide) rfl hw8 (fun _ h9 => h9) dX10_takeBack_45 hw0 ?_
    refine lv_dup hx hb dX10_takeBack_48 rfl ?_
    refine zGetI (D := D) (ci := 8) (C := RX8) (T := TX8) (N := 10) hx hb hts hiX8 hown hH (hT.2.2.1 t (by omega)).1.1 rfl 5 (by decide) rfl hw10 (fun _ h9 => h9) dX10_takeBack_49 rfl ?_
    refine lv_iload_n hx hb dX10_takeBack_52 rfl (lv_at hl 2 rfl) ?_
    refine lv_iload_n hx hb dX10_takeBack_53 rfl (lv_at hl 0 rfl) ?_
    refine lv_isub hx hb dX10_takeBack_54 ?_
    refine lv_topi (fun v124 ev124 => ?_)
    refine lv_iadd hx hb dX10_takeBack_55 ?_
    refine lv_topi (fun v125 ev125 => ?_)
    refine zPutI (D := D) (ci := 8) (ty := .int) (C := RX8) (T := TX8) (N := 10) hx hb hts hiX8 tyX8 tyX8_ok nmX8 hown hH hS (hT.2.2.1 t (by omega)).1.1 rfl 5 (by decide) rfl hw10 (fun _ h9 => h9) rfl (by decide +kernel) rfl rfl dX10_takeBack_56 (fun H locs hH hS => ?_)
    obtain ⟨f126, ef126⟩ : ∃ f9 : zFi, f9 = zu f121 (300 + t) 5 v125 := ⟨_, rfl⟩
    rw [← ef126] at hH
    have q127 : f126 w 7 = v120 := by rw [ef126, zu_n (fun h9 => by omega)]; exact q123
    have q128 : f126 (300 + t) 5 = v125 := by rw [ef126]; exact zu_s
    refine lv_aload_n hx hb dX10_takeBack_59 rfl (lv_at hl 1 rfl) ?_
    refine lv_dup hx hb dX10_takeBack_60 rfl ?_
    refine zGetI (D := D) (ci := 10) (C := RX10) (T := TX10) (N := 10) hx hb hts hiX10 hown hH hw rfl 6 (by decide) rfl hw11 (fun _ h9 => h9) dX10_takeBack_61 rfl ?_
    refine lv_iload_n hx hb dX10_takeBack_64 rfl (lv_at hl 2 rfl) ?_
    refine lv_iload_n hx hb dX10_takeBack_65 rfl (lv_at hl 0 rfl) ?_
    refine lv_isub hx hb dX10_takeBack_66 ?_
    refine lv_topi (fun v129 ev129 => ?_)
    refine lv_iadd hx hb dX10_takeBack_67 ?_
    refine lv_topi (fun v130 ev130 => ?_)
    refine zPutI (D := D) (ci := 10) (ty := .int) (C := RX10) (T := TX10) (N := 10) hx hb hts hiX10 tyX10 tyX10_ok nmX10 hown hH hS hw rfl 6 (by decide) rfl hw11 (fun _ h9 => h9) rfl (by decide +kernel) rfl rfl dX10_takeBack_68 (fun H locs hH hS => ?_)
    obtain ⟨f131, ef131⟩ : ∃ f9 : zFi, f9 = zu f126 w 6 v130 := ⟨_, rfl⟩
    rw [← ef131] at hH
    have q132 : f131 w 7 = v120 := by rw [ef131, zu_n (fun h9 => absurd h9.2 (by decide))]; exact q127
    have q133 : f131 (300 + t) 5 = v125 := by rw [ef131, zu_n (fun h9 => by omega)]; exact q128
    have q134 : f131 w 6 = v130 := by rw [ef131]; exact zu_s
    refine W.widen (k := 0) (n := 0) (by decide) (by decide) ?_
    exact W.vret hx hb hr (fun t9 ht9 hW9 => ⟨⟨f131, rfl, fun i k h => by rw [ef131, zu_n (by omega), ef126, zu_n (by omega), ef121, zu_n (by omega), ef118, zu_n (by omega)], zEnd1 hH ht9 hW9⟩, hS.F ht9⟩) hS.2.2 dX10_takeBack_71
set_option maxHeartbeats 4000000 in
set_option maxRecDepth 100000 in
/-- Order.piecesLeft -/
theorem c_piecesLeft (l : Launch) (hl0 : l.stackTraces = false) (D : va_G) (A : Nat → Prop) (sad : Nat → Nat) (τ : zTy) (fi : zFi) (fr : zFr) (ol : Int64) (n o : Nat) (hO : zOr τ fi fr n o) (q : Nat) (hq : q < o) : Met l yX3_piecesLeft wsX3_piecesLeft ({ frames := 1, cells := 0, slots := 0, locals := 20 }) (va_Pc [.ref (τ.1 (500 + q))] (zQc D A sad τ fi fr ol)) (va_Qi (fun (r : Int32) (u : Unit) => True) (fun (u : Unit) (t : State) => zH D A τ fi fr ol t t.heap) A) 0 0 A := by
  refine Met.ofW (cc := cX3_piecesLeft) (maxL := 3) (ret := (some .int)) (by decide) rfl ?_
  intro p9 e9 s m args below meth c9 s₁ B hml hv
  obtain ⟨rfl, hz, hH, hA⟩ := hv
  have hx := B.exec
  have hb := B.bytes
  have hr := B.returns
  have hts := atoms_spec (ws := wsX3_piecesLeft) B.pre
  have hown : s.vm.findClass RX3 = some m.cls := findClass_of_methodNamed B.named
  have hlocks := B.notSynchronized
  have hS : va_S A s.heap s.heap [] := va_S.rf
  have hl := lv_entry ([.ref (τ.1 (500 + q))]) (n := 3) (Nat.le_of_ble_eq_true rfl)
  rw [lg_entry_eq]
  generalize (lg_sl ([.ref (τ.1 (500 + q))]) ++ List.replicate (3 - (lg_sl ([.ref (τ.1 (500 + q))])).length) Slot.unset).toArray = ls at hl ⊢
  have hl : lv_has ls 3 [(0, .ref (τ.1 (500 + q)))] := hl
  have ho60 := hO.1
  obtain ⟨wn, hwn, hws5, hws⟩ := (hO.2.2.1 q hq).2.2
  have hiX3 : ∀ w ∈ u_ws RX3 TX3 6, w ∈ wsX3_piecesLeft := fun _ h => List.mem_cons_of_mem _ (List.mem_append_left _ (List.mem_append_right _ h))
  have hw1 := hts (.fieldLink RX3 30 "PostHouse$Order" "size" "I") (by decide +kernel)
  have hw2 := hts (.fieldLink RX3 11 "PostHouse$Order" "wants" "[LPostHouse$Want;") (by decide +kernel)
  refine lv_iconst (v := nI 0) hx hb dX3_piecesLeft_0 (by decide) ?_
  refine lv_istore_n (lv' := [(1, .int (nI 0)), (0, .ref (τ.1 (500 + q)))]) hx hb dX3_piecesLeft_1 rfl hl (by decide) rfl (fun ls hl => ?_)
  refine lv_iconst (v := nI 0) hx hb dX3_piecesLeft_2 (by decide) ?_
  refine lv_istore_n (lv' := [(2, .int (nI 0)), (1, .int (nI 0)), (0, .ref (τ.1 (500 + q)))]) hx hb dX3_piecesLeft_3 rfl hl (by decide) rfl (fun ls hl => ?_)
  refine zLp (σ := Nat × Int32) (fun x9 k9 H locs ls => (fun (i : Nat) (y : Int32) => k9 = wn - i ∧ (i ≤ wn) ∧ zH D A τ fi fr ol s H ∧ va_S A s.heap H locs ∧ lv_has ls 3 [(0, .ref (τ.1 (500 + q))), (1, .int y), (2, .int (nI i))]) x9.1 x9.2) (0, nI 0) (wn - 0) (show wn - 0 = wn - 0 ∧ (0 ≤ wn) ∧ zH D A τ fi fr ol s _ ∧ va_S A s.heap _ _ ∧ lv_has _ 3 [(0, .ref (τ.1 (500 + q))), (1, .int (nI 0)), (2, .int (nI 0))] from ⟨rfl, Nat.zero_le _, hH, hS, lv_sub hl [2, 1, 0] rfl⟩) (fun k9 ih x9 H locs ls hv9 => ?_)
  obtain ⟨i, y⟩ := x9
  have hv9 : k9 = wn - i ∧ (i ≤ wn) ∧ zH D A τ fi fr ol s H ∧ va_S A s.heap H locs ∧ lv_has ls 3 [(0, .ref (τ.1 (500 + q))), (1, .int y), (2, .int (nI i))] := hv9
  obtain ⟨hkih101, hv9, hH, hS, hl⟩ := hv9
  obtain h1 := hv9
  have ih101 := ih
  clear ih
  refine lv_iload_n hx hb dX3_piecesLeft_4 rfl (lv_at hl 2 rfl) ?_
  refine lv_aload_n hx hb dX3_piecesLeft_5 rfl (lv_at hl 0 rfl) ?_
  refine zGetI (D := D) (ci := 3) (C := RX3) (T := TX3) (N := 6) hx hb hts hiX3 hown hH (hO.2.2.1 q (by omega)).1.1 rfl 5 (by decide) rfl hw1 (fun _ h9 => h9) dX3_piecesLeft_6 hws5 ?_
  refine lv_icmp_ge (tgt := 30) hx hb dX3_piecesLeft_9 (by decide) (fun c102 => ?_) (fun c102 => ?_)
  · have zc102 := c102
    replace zc102 := zc_le (nI_toInt (by omega)) (nI_toInt (by omega)) zc102
    refine lv_iload_n hx hb dX3_piecesLeft_30 rfl (lv_at hl 1 rfl) ?_
    refine W.widen (k := 0) (n := 0) (by decide) (by decide) ?_
    exact W.iret (v := y) hx hb hr (fun t9 ht9 hW9 => ⟨⟨y, (), rfl, trivial, zEnd1 hH ht9 hW9⟩, hS.F ht9⟩) hS.2.2 dX3_piecesLeft_31
  · have zc102 := c102
    replace zc102 := zc_nle (nI_toInt (by omega)) (nI_toInt (by omega)) zc102
    refine lv_iload_n hx hb dX3_piecesLeft_12 rfl (lv_at hl 1 rfl) ?_
    refine lv_aload_n hx hb dX3_piecesLeft_13 rfl (lv_at hl 0 rfl) ?_
    refine zGetR (D := D) (ci := 3) (C := RX3) (T := TX3) (N := 6) hx hb hts hiX3 hown hH (hO.2.2.1 q (by omega)).1.1 rfl 3 (by decide) rfl hw2 (fun _ h9 => h9) dX3_piecesLeft_14 (hO.2.2.1 q (by omega)).2.1.2 ?_
    refine lv_iload_n hx hb dX3_piecesLeft_17 rfl (lv_at hl 2 rfl) ?_
    refine zAaldS (D := D) hx hb hH (hO.2.2.1 q (by omega)).1.2.1 (by decide) (by decide) rfl (hO.2.2.1 q (by omega)).1.2.2 (by omega) (by omega) (hws i (by omega)).2.1 dX3_piecesLeft_18 ?_
    refine va_calli (va_runV (As := []) (rest := [.int y]) ⟨hx, hb, hml, hown, hts⟩ (c_left l hl0 D A sad τ fi fr ol (1000 + 8 * q + i) ((hws i (by omega)).1)) (cwV 0 hts gX3_piecesLeft_X10_left rfl rfl rfl (by decide +kernel) ⟨Nat.le_of_ble_eq_true rfl, Nat.le_of_ble_eq_true rfl⟩) ⟨zQc_bl, zRecv hH (hws i (by omega)).1 rfl, zQc_at hz hS hA hH⟩ rfl rfl hl.1 rfl (lv_room (Nat.le_of_ble_eq_true rfl)) dX3_piecesLeft_19 ⟨Nat.le_of_ble_eq_true rfl, Nat.le_of_ble_eq_true rfl⟩) hS (fun q _ h => h) (fun q h => h) (fun r103 u9 t9 H1 locs ht9 hvm9 hw hB hz1 hk1 hS => ?_)
    have hH := zMv ht9 hvm9 hB
    generalize H1 = H at hH hS ⊢
    refine lv_iadd hx hb dX3_piecesLeft_22 ?_
    refine lv_topi (fun v104 ev104 => ?_)
    refine lv_istore_n (lv' := [(1, .int v104), (0, .ref (τ.1 (500 + q))), (2, .int (nI i))]) hx hb dX3_piecesLeft_23 rfl hl (by decide) rfl (fun ls hl => ?_)
    refine lv_iinc (v := nI (i + 1)) (lv' := [(2, .int (nI (i + 1))), (1, .int v104), (0, .ref (τ.1 (500 + q)))]) hx hb dX3_piecesLeft_24 hl (k := 2) rfl (by rw [show (Int32.ofInt 1 : Int32) = nI 1 from by decide, nI_add]) (by decide) rfl (fun ls hl => ?_)
    refine lv_goto (tgt := 4) hx hb dX3_piecesLeft_27 (by decide) ?_
    exact ih101 (wn - (i + 1)) (by omega) (i + 1, _) _ _ _ (show wn - (i + 1) = wn - (i + 1) ∧ ((i + 1) ≤ wn) ∧ zH D A τ fi fr ol s _ ∧ va_S A s.heap _ _ ∧ lv_has _ 3 [(0, .ref (τ.1 (500 + q))), (1, .int _), (2, .int (nI (i + 1)))] from ⟨rfl, (by omega), hH, hS, lv_sub hl [2, 1, 0] rfl⟩)
set_option maxHeartbeats 4000000 in
set_option maxRecDepth 100000 in
/-- Order.manyOf -/
theorem c_manyOf (l : Launch) (hl0 : l.stackTraces = false) (D : va_G) (A : Nat → Prop) (sad : Nat → Nat) (τ : zTy) (fi : zFi) (fr : zFr) (ol : Int64) (n o : Nat) (hO : zOr τ fi fr n o) (q : Nat) (hq : q < o) (t : Nat) (ht : t < n) : Met l yX3_manyOf wsX3_manyOf ({ frames := 0, cells := 0, slots := 0, locals := 0 }) (va_Pc [.ref (τ.1 (500 + q)), .ref (τ.1 (300 + t))] (zQc D A sad τ fi fr ol)) (va_Qi (fun (r : Int32) (u : Unit) => True) (fun (u : Unit) (t : State) => zH D A τ fi fr ol t t.heap) A) 0 0 A := by
  refine Met.ofW (cc := cX3_manyOf) (maxL := 4) (ret := (some .int)) (by decide) rfl ?_
  intro p9 e9 s m args below meth c9 s₁ B hml hv
  obtain ⟨rfl, hz, hH, hA⟩ := hv
  have hx := B.exec
  have hb := B.bytes
  have hr := B.returns
  have hts := atoms_spec (ws := wsX3_manyOf) B.pre
  have hown : s.vm.findClass RX3 = some m.cls := findClass_of_methodNamed B.named
  have hlocks := B.notSynchronized
  have hS : va_S A s.heap s.heap [] := va_S.rf
  have hl := lv_entry ([.ref (τ.1 (500 + q)), .ref (τ.1 (300 + t))]) (n := 4) (Nat.le_of_ble_eq_true rfl)
  rw [lg_entry_eq]
  generalize (lg_sl ([.ref (τ.1 (500 + q)), .ref (τ.1 (300 + t))]) ++ List.replicate (4 - (lg_sl ([.ref (τ.1 (500 + q)), .ref (τ.1 (300 + t))])).length) Slot.unset).toArray = ls at hl ⊢
  have hl : lv_has ls 4 [(0, .ref (τ.1 (500 + q))), (1, .ref (τ.1 (300 + t)))] := hl
  have ho60 := hO.1
  obtain ⟨wn, hwn, hws5, hws⟩ := (hO.2.2.1 q hq).2.2
  have hiX3 : ∀ w ∈ u_ws RX3 TX3 6, w ∈ wsX3_manyOf := fun _ h => List.mem_cons_of_mem _ (List.mem_append_left _ (List.mem_append_right _ h))
  have hw1 := hts (.fieldLink RX3 30 "PostHouse$Order" "size" "I") (by decide +kernel)
  have hw2 := hts (.fieldLink RX3 11 "PostHouse$Order" "wants" "[LPostHouse$Want;") (by decide +kernel)
  have hiX10 : ∀ w ∈ u_ws RX10 TX10 10, w ∈ wsX3_manyOf := fun _ h => List.mem_cons_of_mem _ (List.mem_append_right _ h)
  have hw4 := hts (.fieldLink RX3 37 "PostHouse$Want" "thing" "LPostHouse$Thing;") (by decide +kernel)
  have hw5 := hts (.fieldLink RX3 41 "PostHouse$Want" "many" "I") (by decide +kernel)
  refine lv_iconst (v := nI 0) hx hb dX3_manyOf_0 (by decide) ?_
  refine lv_istore_n (lv' := [(2, .int (nI 0)), (0, .ref (τ.1 (500 + q))), (1, .ref (τ.1 (300 + t)))]) hx hb dX3_manyOf_1 rfl hl (by decide) rfl (fun ls hl => ?_)
  refine lv_iconst (v := nI 0) hx hb dX3_manyOf_2 (by decide) ?_
  refine lv_istore_n (lv' := [(3, .int (nI 0)), (2, .int (nI 0)), (0, .ref (τ.1 (500 + q))), (1, .ref (τ.1 (300 + t)))]) hx hb dX3_manyOf_3 rfl hl (by decide) rfl (fun ls hl => ?_)
  refine zLp (σ := Nat × Int32) (fun x9 k9 H locs ls => (fun (i : Nat) (y : Int32) => k9 = wn - i ∧ (i ≤ wn) ∧ zH D A τ fi fr ol s H ∧ va_S A s.heap H locs ∧ lv_has ls 4 [(0, .ref (τ.1 (500 + q))), (1, .ref (τ.1 (300 + t))), (2, .int y), (3, .int (nI i))]) x9.1 x9.2) (0, nI 0) (wn - 0) (show wn - 0 = wn - 0 ∧ (0 ≤ wn) ∧ zH D A τ fi fr ol s _ ∧ va_S A s.heap _ _ ∧ lv_has _ 4 [(0, .ref (τ.1 (500 + q))), (1, .ref (τ.1 (300 + t))), (2, .int (nI 0)), (3, .int (nI 0))] from ⟨rfl, Nat.zero_le _, hH, hS, lv_sub hl [2, 3, 1, 0] rfl⟩) (fun k9 ih x9 H locs ls hv9 => ?_)
  obtain ⟨i, y⟩ := x9
  have hv9 : k9 = wn - i ∧ (i ≤ wn) ∧ zH D A τ fi fr ol s H ∧ va_S A s.heap H locs ∧ lv_has ls 4 [(0, .ref (τ.1 (500 + q))), (1, .ref (τ.1 (300 + t))), (2, .int y), (3, .int (nI i))] := hv9
  obtain ⟨hkih101, hv9, hH, hS, hl⟩ := hv9
  obtain h1 := hv9
  have ih101 := ih
  clear ih
  refine lv_iload_n hx hb dX3_manyOf_4 rfl (lv_at hl 3 rfl) ?_
  refine lv_aload_n hx hb dX3_manyOf_5 rfl (lv_at hl 0 rfl) ?_
  refine zGetI (D := D) (ci := 3) (C := RX3) (T := TX3) (N := 6) hx hb hts hiX3 hown hH (hO.2.2.1 q (by omega)).1.1 rfl 5 (by decide) rfl hw1 (fun _ h9 => h9) dX3_manyOf_6 hws5 ?_
  refine lv_icmp_ge (tgt := 43) hx hb dX3_manyOf_9 (by decide) (fun c102 => ?_) (fun c102 => ?_)
  · have zc102 := c102
    replace zc102 := zc_le (nI_toInt (by omega)) (nI_toInt (by omega)) zc102
    refine lv_iload_n hx hb dX3_manyOf_43 rfl (lv_at hl 2 rfl) ?_
    refine W.widen (k := 0) (n := 0) (by decide) (by decide) ?_
    exact W.iret (v := y) hx hb hr (fun t9 ht9 hW9 => ⟨⟨y, (), rfl, trivial, zEnd1 hH ht9 hW9⟩, hS.F ht9⟩) hS.2.2 dX3_manyOf_44
  · have zc102 := c102
    replace zc102 := zc_nle (nI_toInt (by omega)) (nI_toInt (by omega)) zc102
    refine lv_aload_n hx hb dX3_manyOf_12 rfl (lv_at hl 0 rfl) ?_
    refine zGetR (D := D) (ci := 3) (C := RX3) (T := TX3) (N := 6) hx hb hts hiX3 hown hH (hO.2.2.1 q (by omega)).1.1 rfl 3 (by decide) rfl hw2 (fun _ h9 => h9) dX3_manyOf_13 (hO.2.2.1 q (by omega)).2.1.2 ?_
    refine lv_iload_n hx hb dX3_manyOf_16 rfl (lv_at hl 3 rfl) ?_
    obtain ⟨tt, htt, htt2⟩ := (hws i (by omega)).2.2.1
    refine zAaldS (D := D) hx hb hH (hO.2.2.1 q (by omega)).1.2.1 (by decide) (by decide) rfl (hO.2.2.1 q (by omega)).1.2.2 (by omega) (by omega) (hws i (by omega)).2.1 dX3_manyOf_17 ?_
    refine zGetR (D := D) (ci := 10) (C := RX10) (T := TX10) (N := 10) hx hb hts hiX10 hown hH (hws i (by omega)).1 rfl 0 (by decide) rfl hw4 (fun _ h9 => h9) dX3_manyOf_18 htt2 ?_
    refine lv_aload_n hx hb dX3_manyOf_21 rfl (lv_at hl 1 rfl) ?_
    refine lv_acmp_ne (rx := some (τ.1 (300 + tt))) (ry := some (τ.1 (300 + t))) (tgt := 37) hx hb dX3_manyOf_22 (by decide) (fun c103 => ?_) (fun c103 => ?_)
    · have zc103 := c103
      refine lv_iinc (v := nI (i + 1)) (lv' := [(3, .int (nI (i + 1))), (0, .ref (τ.1 (500 + q))), (1, .ref (τ.1 (300 + t))), (2, .int y)]) hx hb dX3_manyOf_37 hl (k := 3) rfl (by rw [show (Int32.ofInt 1 : Int32) = nI 1 from by decide, nI_add]) (by decide) rfl (fun ls hl => ?_)
      refine lv_goto (tgt := 4) hx hb dX3_manyOf_40 (by decide) ?_
      exact ih101 (wn - (i + 1)) (by omega) (i + 1, _) _ _ _ (show wn - (i + 1) = wn - (i + 1) ∧ ((i + 1) ≤ wn) ∧ zH D A τ fi fr ol s _ ∧ va_S A s.heap _ _ ∧ lv_has _ 4 [(0, .ref (τ.1 (500 + q))), (1, .ref (τ.1 (300 + t))), (2, .int _), (3, .int (nI (i + 1)))] from ⟨rfl, (by omega), hH, hS, lv_sub hl [1, 2, 3, 0] rfl⟩)
    · have zc103 := c103
      refine lv_iload_n hx hb dX3_manyOf_25 rfl (lv_at hl 2 rfl) ?_
      refine lv_aload_n hx hb dX3_manyOf_26 rfl (lv_at hl 0 rfl) ?_
      refine zGetR (D := D) (ci := 3) (C := RX3) (T := TX3) (N := 6) hx hb hts hiX3 hown hH (hO.2.2.1 q (by omega)).1.1 rfl 3 (by decide) rfl hw2 (fun _ h9 => h9) dX3_manyOf_27 (hO.2.2.1 q (by omega)).2.1.2 ?_
      refine lv_iload_n hx hb dX3_manyOf_30 rfl (lv_at hl 3 rfl) ?_
      obtain ⟨tt, htt, htt2⟩ := (hws i (by omega)).2.2.1
      refine zAaldS (D := D) hx hb hH (hO.2.2.1 q (by omega)).1.2.1 (by decide) (by decide) rfl (hO.2.2.1 q (by omega)).1.2.2 (by omega) (by omega) (hws i (by omega)).2.1 dX3_manyOf_31 ?_
      refine zGetI (D := D) (ci := 10) (C := RX10) (T := TX10) (N := 10) hx hb hts hiX10 hown hH (hws i (by omega)).1 rfl 1 (by decide) rfl hw5 (fun _ h9 => h9) dX3_manyOf_32 rfl ?_
      refine lv_iadd hx hb dX3_manyOf_35 ?_
      refine lv_topi (fun v104 ev104 => ?_)
      refine lv_istore_n (lv' := [(2, .int v104), (0, .ref (τ.1 (500 + q))), (1, .ref (τ.1 (300 + t))), (3, .int (nI i))]) hx hb dX3_manyOf_36 rfl hl (by decide) rfl (fun ls hl => ?_)
      refine lv_iinc (v := nI (i + 1)) (lv' := [(3, .int (nI (i + 1))), (2, .int v104), (0, .ref (τ.1 (500 + q))), (1, .ref (τ.1 (300 + t)))]) hx hb dX3_manyOf_37 hl (k := 3) rfl (by rw [show (Int32.ofInt 1 : Int32) = nI 1 from by decide, nI_add]) (by decide) rfl (fun ls hl => ?_)
      refine lv_goto (tgt := 4) hx hb dX3_manyOf_40 (by decide) ?_
      exact ih101 (wn - (i + 1)) (by omega) (i + 1, _) _ _ _ (show wn - (i + 1) = wn - (i + 1) ∧ ((i + 1) ≤ wn) ∧ zH D A τ fi fr ol s _ ∧ va_S A s.heap _ _ ∧ lv_has _ 4 [(0, .ref (τ.1 (500 + q))), (1, .ref (τ.1 (300 + t))), (2, .int _), (3, .int (nI (i + 1)))] from ⟨rfl, (by omega), hH, hS, lv_sub hl [2, 3, 1, 0] rfl⟩)
set_option maxHeartbeats 4000000 in
set_option maxRecDepth 100000 in
/-- Walk.add -/
theorem c_wadd (l : Launch) (hl0 : l.stackTraces = false) (D : va_G) (A : Nat → Prop) (sad : Nat → Nat) (τ : zTy) (fi : zFi) (fr : zFr) (ol : Int64) (hF : zFix τ fr) (n : Nat) (hT : zTh τ fi fr n) (p : Nat) (hP : zPk fi fr n p) (t : Nat) (ht : t < n) : Met l yX9_add wsX9_add ({ frames := 0, cells := 0, slots := 0, locals := 0 }) (va_Pc [.ref (τ.1 22), .ref (τ.1 (300 + t))] (zQc D A sad τ fi fr ol)) (va_Qi (fun (r : Int32) (u : zFi × zFr) => (r = -1 ∧ u.1 = fi ∧ u.2 = fr ∧ ((∃ j, j < p ∧ fr 23 j = some (300 + t)) ∨ p = 10)) ∨ (p < 10 ∧ (∀ j, j < p → ¬ fr 23 j = some (300 + t)) ∧ r = nI (p + 1) ∧ u.1 = zu fi 22 1 (nI (p + 1)) ∧ u.2 = zur fr 23 p (some (300 + t)))) (fun (u : zFi × zFr) (t : State) => zH D A τ u.1 u.2 ol t t.heap) A) 0 0 A := by
  refine Met.ofW (cc := cX9_add) (maxL := 3) (ret := (some .int)) (by decide) rfl ?_
  intro p9 e9 s m args below meth c9 s₁ B hml hv
  obtain ⟨rfl, hz, hH, hA⟩ := hv
  have hx := B.exec
  have hb := B.bytes
  have hr := B.returns
  have hts := atoms_spec (ws := wsX9_add) B.pre
  have hown : s.vm.findClass RX9 = some m.cls := findClass_of_methodNamed B.named
  have hlocks := B.notSynchronized
  have hS : va_S A s.heap s.heap [] := va_S.rf
  have hl := lv_entry ([.ref (τ.1 22), .ref (τ.1 (300 + t))]) (n := 3) (Nat.le_of_ble_eq_true rfl)
  rw [lg_entry_eq]
  generalize (lg_sl ([.ref (τ.1 22), .ref (τ.1 (300 + t))]) ++ List.replicate (3 - (lg_sl ([.ref (τ.1 22), .ref (τ.1 (300 + t))])).length) Slot.unset).toArray = ls at hl ⊢
  have hl : lv_has ls 3 [(0, .ref (τ.1 22)), (1, .ref (τ.1 (300 + t)))] := hl
  have hn30 := hT.1
  have hp10 := hP.1
  have hiX9 : ∀ w ∈ u_ws RX9 TX9 6, w ∈ wsX9_add := fun _ h => List.mem_cons_of_mem _ (List.mem_append_right _ h)
  have hw1 := hts (.fieldLink RX9 31 "PostHouse$Walk" "size" "I") (by decide +kernel)
  have hw2 := hts (.fieldLink RX9 11 "PostHouse$Walk" "picks" "[LPostHouse$Thing;") (by decide +kernel)
  refine lv_iconst (v := nI 0) hx hb dX9_add_0 (by decide) ?_
  refine lv_istore_n (lv' := [(2, .int (nI 0)), (0, .ref (τ.1 22)), (1, .ref (τ.1 (300 + t)))]) hx hb dX9_add_1 rfl hl (by decide) rfl (fun ls hl => ?_)
  refine zLp (σ := Nat) (fun x9 k9 H locs ls => (fun (i : Nat) => k9 = p - i ∧ (i ≤ p ∧ ∀ j, j < i → ¬ fr 23 j = some (300 + t)) ∧ zH D A τ fi fr ol s H ∧ va_S A s.heap H locs ∧ lv_has ls 3 [(0, .ref (τ.1 22)), (1, .ref (τ.1 (300 + t))), (2, .int (nI i))]) x9) 0 (p - 0) (show p - 0 = p - 0 ∧ (0 ≤ p ∧ ∀ j, j < 0 → ¬ fr 23 j = some (300 + t)) ∧ zH D A τ fi fr ol s _ ∧ va_S A s.heap _ _ ∧ lv_has _ 3 [(0, .ref (τ.1 22)), (1, .ref (τ.1 (300 + t))), (2, .int (nI 0))] from ⟨rfl, ⟨Nat.zero_le _, fun j h => absurd h (by omega)⟩, hH, hS, lv_sub hl [1, 2, 0] rfl⟩) (fun k9 ih x9 H locs ls hv9 => ?_)
  generalize x9 = i at hv9
  have hv9 : k9 = p - i ∧ (i ≤ p ∧ ∀ j, j < i → ¬ fr 23 j = some (300 + t)) ∧ zH D A τ fi fr ol s H ∧ va_S A s.heap H locs ∧ lv_has ls 3 [(0, .ref (τ.1 22)), (1, .ref (τ.1 (300 + t))), (2, .int (nI i))] := hv9
  obtain ⟨hkih101, hv9, hH, hS, hl⟩ := hv9
  obtain ⟨h1, hj⟩ := hv9
  have ih101 := ih
  clear ih
  refine lv_iload_n hx hb dX9_add_2 rfl (lv_at hl 2 rfl) ?_
  refine lv_aload_n hx hb dX9_add_3 rfl (lv_at hl 0 rfl) ?_
  refine zGetI (D := D) (ci := 9) (C := RX9) (T := TX9) (N := 6) hx hb hts hiX9 hown hH (zk_22 hF) rfl 1 (by decide) rfl hw1 (fun _ h9 => h9) dX9_add_4 hP.2.1 ?_
  refine lv_icmp_ge (tgt := 28) hx hb dX9_add_7 (by decide) (fun c102 => ?_) (fun c102 => ?_)
  · have zc102 := c102
    replace zc102 := zc_le (nI_toInt (by omega)) (nI_toInt (by omega)) zc102
    refine lv_aload_n hx hb dX9_add_28 rfl (lv_at hl 0 rfl) ?_
    refine zGetI (D := D) (ci := 9) (C := RX9) (T := TX9) (N := 6) hx hb hts hiX9 hown hH (zk_22 hF) rfl 1 (by decide) rfl hw1 (fun _ h9 => h9) dX9_add_29 hP.2.1 ?_
    refine lv_bipush (v := nI 10) hx hb dX9_add_32 (by decide) ?_
    refine lv_icmp_lt (tgt := 39) hx hb dX9_add_34 (by decide) (fun c103 => ?_) (fun c103 => ?_)
    · have zc103 := c103
      replace zc103 := zc_lt (nI_toInt (by omega)) (nI_toInt (by omega)) zc103
      refine lv_aload_n hx hb dX9_add_39 rfl (lv_at hl 0 rfl) ?_
      refine zGetR (D := D) (ci := 9) (C := RX9) (T := TX9) (N := 6) hx hb hts hiX9 hown hH (zk_22 hF) rfl 0 (by decide) rfl hw2 (fun _ h9 => h9) dX9_add_40 (zr_22_0 hF) ?_
      refine lv_aload_n hx hb dX9_add_43 rfl (lv_at hl 0 rfl) ?_
      refine zGetI (D := D) (ci := 9) (C := RX9) (T := TX9) (N := 6) hx hb hts hiX9 hown hH (zk_22 hF) rfl 1 (by decide) rfl hw1 (fun _ h9 => h9) dX9_add_44 hP.2.1 ?_
      refine lv_aload_n hx hb dX9_add_47 rfl (lv_at hl 1 rfl) ?_
      refine zAastS (D := D) (rr := (RX8, TX8, 10)) hx hb hH hS (zk_23 hF) (by decide) (by decide) rfl (hT.2.2.1 t (by omega)).1.1 rfl (zn_23 hF) (by omega) (by omega) dX9_add_48 (fun H locs hH hS => ?_)
      obtain ⟨g104, eg104⟩ : ∃ f9 : zFr, f9 = zur fr 23 p (some (300 + t)) := ⟨_, rfl⟩
      rw [← eg104] at hH
      have hF105 : zFix τ g104 := by rw [eg104]; exact hF.ur (by omega)
      refine lv_aload_n hx hb dX9_add_49 rfl (lv_at hl 0 rfl) ?_
      refine lv_dup hx hb dX9_add_50 rfl ?_
      refine zGetI (D := D) (ci := 9) (C := RX9) (T := TX9) (N := 6) hx hb hts hiX9 hown hH (zk_22 hF105) rfl 1 (by decide) rfl hw1 (fun _ h9 => h9) dX9_add_51 hP.2.1 ?_
      refine lv_iconst (v := nI 1) hx hb dX9_add_54 (by decide) ?_
      refine lv_iadd hx hb dX9_add_55 ?_
      refine lv_topi (fun v106 ev106 => ?_)
      obtain rfl : v106 = nI (p + 1) := ev106.trans (nI_add _ _)
      refine zPutI (D := D) (ci := 9) (ty := .int) (C := RX9) (T := TX9) (N := 6) hx hb hts hiX9 tyX9 tyX9_ok nmX9 hown hH hS (zk_22 hF105) rfl 1 (by decide) rfl hw1 (fun _ h9 => h9) rfl (by decide +kernel) rfl rfl dX9_add_56 (fun H locs hH hS => ?_)
      obtain ⟨f107, ef107⟩ : ∃ f9 : zFi, f9 = zu fi 22 1 (nI (p + 1)) := ⟨_, rfl⟩
      rw [← ef107] at hH
      have q108 : f107 22 1 = nI (p + 1) := by rw [ef107]; exact zu_s
      refine lv_aload_n hx hb dX9_add_59 rfl (lv_at hl 0 rfl) ?_
      refine zGetI (D := D) (ci := 9) (C := RX9) (T := TX9) (N := 6) hx hb hts hiX9 hown hH (zk_22 hF105) rfl 1 (by decide) rfl hw1 (fun _ h9 => h9) dX9_add_60 q108 ?_
      refine W.widen (k := 0) (n := 0) (by decide) (by decide) ?_
      exact W.iret (v := nI (p + 1)) hx hb hr (fun t9 ht9 hW9 => ⟨⟨nI (p + 1), (f107, g104), rfl, (show ((nI (p + 1)) = -1 ∧ f107 = fi ∧ g104 = fr ∧ ((∃ j, j < p ∧ fr 23 j = some (300 + t)) ∨ p = 10)) ∨ (p < 10 ∧ (∀ j, j < p → ¬ fr 23 j = some (300 + t)) ∧ (nI (p + 1)) = nI (p + 1) ∧ f107 = zu fi 22 1 (nI (p + 1)) ∧ g104 = zur fr 23 p (some (300 + t))) from Or.inr ⟨by omega, fun j h => hj j (by omega), rfl, ef107, eg104⟩), zEnd1 hH ht9 hW9⟩, hS.F ht9⟩) hS.2.2 dX9_add_63
    · have zc103 := c103
      replace zc103 := zc_nlt (nI_toInt (by omega)) (nI_toInt (by omega)) zc103
      refine lv_iconst (v := (-1)) hx hb dX9_add_37 (by decide) ?_
      refine W.widen (k := 0) (n := 0) (by decide) (by decide) ?_
      exact W.iret (v := (-1)) hx hb hr (fun t9 ht9 hW9 => ⟨⟨(-1), (fi, fr), rfl, (show (((-1)) = -1 ∧ fi = fi ∧ fr = fr ∧ ((∃ j, j < p ∧ fr 23 j = some (300 + t)) ∨ p = 10)) ∨ (p < 10 ∧ (∀ j, j < p → ¬ fr 23 j = some (300 + t)) ∧ ((-1)) = nI (p + 1) ∧ fi = zu fi 22 1 (nI (p + 1)) ∧ fr = zur fr 23 p (some (300 + t))) from Or.inl ⟨rfl, rfl, rfl, Or.inr (by omega)⟩), zEnd1 hH ht9 hW9⟩, hS.F ht9⟩) hS.2.2 dX9_add_38
  · have zc102 := c102
    replace zc102 := zc_nle (nI_toInt (by omega)) (nI_toInt (by omega)) zc102
    refine lv_aload_n hx hb dX9_add_10 rfl (lv_at hl 0 rfl) ?_
    refine zGetR (D := D) (ci := 9) (C := RX9) (T := TX9) (N := 6) hx hb hts hiX9 hown hH (zk_22 hF) rfl 0 (by decide) rfl hw2 (fun _ h9 => h9) dX9_add_11 (zr_22_0 hF) ?_
    refine lv_iload_n hx hb dX9_add_14 rfl (lv_at hl 2 rfl) ?_
    obtain ⟨t109, ht109, gt109⟩ := hP.2.2 i (by omega)
    refine zAaldS (D := D) hx hb hH (zk_23 hF) (by decide) (by decide) rfl (zn_23 hF) (by omega) (by omega) gt109 dX9_add_15 ?_
    refine lv_aload_n hx hb dX9_add_16 rfl (lv_at hl 1 rfl) ?_
    refine lv_acmp_ne (rx := some (τ.1 (300 + t109))) (ry := some (τ.1 (300 + t))) (tgt := 22) hx hb dX9_add_17 (by decide) (fun c110 => ?_) (fun c110 => ?_)
    · have zc110 : ¬ t109 = t := fun h8 => c110 (by rw [h8])
      refine lv_iinc (v := nI (i + 1)) (lv' := [(2, .int (nI (i + 1))), (0, .ref (τ.1 22)), (1, .ref (τ.1 (300 + t)))]) hx hb dX9_add_22 hl (k := 2) rfl (by rw [show (Int32.ofInt 1 : Int32) = nI 1 from by decide, nI_add]) (by decide) rfl (fun ls hl => ?_)
      refine lv_goto (tgt := 2) hx hb dX9_add_25 (by decide) ?_
      exact ih101 (p - (i + 1)) (by omega) (i + 1) _ _ _ (show p - (i + 1) = p - (i + 1) ∧ ((i + 1) ≤ p ∧ ∀ j, j < (i + 1) → ¬ fr 23 j = some (300 + t)) ∧ zH D A τ fi fr ol s _ ∧ va_S A s.heap _ _ ∧ lv_has _ 3 [(0, .ref (τ.1 22)), (1, .ref (τ.1 (300 + t))), (2, .int (nI (i + 1)))] from ⟨rfl, ⟨by omega, fun j h => by by_cases h7 : j = i; (subst h7; exact (fun h8 => zc110 (by rw [gt109] at h8; have := Option.some.inj h8; omega))); exact hj j (by omega)⟩, hH, hS, lv_sub hl [1, 2, 0] rfl⟩)
    · have zc110 : t109 = t := by have h8 := hH.inj (i := 300 + t109) (j := 300 + t) (by rw [(hT.2.2.1 t109 (by omega)).1.1]; decide) (by rw [(hT.2.2.1 t (by omega)).1.1]; decide) (Option.some.inj c110); omega
      refine lv_iconst (v := (-1)) hx hb dX9_add_20 (by decide) ?_
      refine W.widen (k := 0) (n := 0) (by decide) (by decide) ?_
      exact W.iret (v := (-1)) hx hb hr (fun t9 ht9 hW9 => ⟨⟨(-1), (fi, fr), rfl, (show (((-1)) = -1 ∧ fi = fi ∧ fr = fr ∧ ((∃ j, j < p ∧ fr 23 j = some (300 + t)) ∨ p = 10)) ∨ (p < 10 ∧ (∀ j, j < p → ¬ fr 23 j = some (300 + t)) ∧ ((-1)) = nI (p + 1) ∧ fi = zu fi 22 1 (nI (p + 1)) ∧ fr = zur fr 23 p (some (300 + t))) from Or.inl ⟨rfl, rfl, rfl, Or.inl ⟨i, by omega, by rw [gt109, zc110]⟩⟩), zEnd1 hH ht9 hW9⟩, hS.F ht9⟩) hS.2.2 dX9_add_21
set_option maxHeartbeats 4000000 in
set_option maxRecDepth 100000 in
/-- Walk.lastStreet -/
theorem c_lastStreet (l : Launch) (hl0 : l.stackTraces = false) (D : va_G) (A : Nat → Prop) (sad : Nat → Nat) (τ : zTy) (fi : zFi) (fr : zFr) (ol : Int64) (hF : zFix τ fr) (n : Nat) (hT : zTh τ fi fr n) (p : Nat) (hP : zPk fi fr n p) : Met l yX9_lastStreet wsX9_lastStreet ({ frames := 1, cells := 0, slots := 0, locals := 13 }) (va_Pc [.ref (τ.1 22)] (zQc D A sad τ fi fr ol)) (va_Qi (fun (r : Int32) (u : Unit) => True) (fun (u : Unit) (t : State) => zH D A τ fi fr ol t t.heap) A) 0 0 A := by
  refine Met.ofW (cc := cX9_lastStreet) (maxL := 3) (ret := (some .int)) (by decide) rfl ?_
  intro p9 e9 s m args below meth c9 s₁ B hml hv
  obtain ⟨rfl, hz, hH, hA⟩ := hv
  have hx := B.exec
  have hb := B.bytes
  have hr := B.returns
  have hts := atoms_spec (ws := wsX9_lastStreet) B.pre
  have hown : s.vm.findClass RX9 = some m.cls := findClass_of_methodNamed B.named
  have hlocks := B.notSynchronized
  have hS : va_S A s.heap s.heap [] := va_S.rf
  have hl := lv_entry ([.ref (τ.1 22)]) (n := 3) (Nat.le_of_ble_eq_true rfl)
  rw [lg_entry_eq]
  generalize (lg_sl ([.ref (τ.1 22)]) ++ List.replicate (3 - (lg_sl ([.ref (τ.1 22)])).length) Slot.unset).toArray = ls at hl ⊢
  have hl : lv_has ls 3 [(0, .ref (τ.1 22))] := hl
  have hn30 := hT.1
  have hp10 := hP.1
  have hiX9 : ∀ w ∈ u_ws RX9 TX9 6, w ∈ wsX9_lastStreet := fun _ h => List.mem_cons_of_mem _ (List.mem_append_left _ (List.mem_append_right _ h))
  have hw1 := hts (.fieldLink RX9 31 "PostHouse$Walk" "size" "I") (by decide +kernel)
  have hw2 := hts (.fieldLink RX9 11 "PostHouse$Walk" "picks" "[LPostHouse$Thing;") (by decide +kernel)
  have hiX8 : ∀ w ∈ u_ws RX8 TX8 10, w ∈ wsX9_lastStreet := fun _ h => List.mem_cons_of_mem _ (List.mem_append_right _ h)
  have hw4 := hts (.fieldLink RX9 51 "PostHouse$Thing" "street" "I") (by decide +kernel)
  have hw5 := hts (.methodLink RX9 54 Lib.Math.max.name) (by decide +kernel)
  have hw6 := hts (.static Lib.Math.max.name) (by decide +kernel)
  have hw7 := hts (.initialized "java/lang/Math") (by decide +kernel)
  have hw8 := hts (.code Lib.Math.max.name Lib.Math.max.code 2 (some .int)) (by decide +kernel)
  refine lv_iconst (v := nI 0) hx hb dX9_lastStreet_0 (by decide) ?_
  refine lv_istore_n (lv' := [(1, .int (nI 0)), (0, .ref (τ.1 22))]) hx hb dX9_lastStreet_1 rfl hl (by decide) rfl (fun ls hl => ?_)
  refine lv_iconst (v := nI 0) hx hb dX9_lastStreet_2 (by decide) ?_
  refine lv_istore_n (lv' := [(2, .int (nI 0)), (1, .int (nI 0)), (0, .ref (τ.1 22))]) hx hb dX9_lastStreet_3 rfl hl (by decide) rfl (fun ls hl => ?_)
  refine zLp (σ := Nat × Int32) (fun x9 k9 H locs ls => (fun (i : Nat) (y : Int32) => k9 = p - i ∧ (i ≤ p) ∧ zH D A τ fi fr ol s H ∧ va_S A s.heap H locs ∧ lv_has ls 3 [(0, .ref (τ.1 22)), (1, .int y), (2, .int (nI i))]) x9.1 x9.2) (0, nI 0) (p - 0) (show p - 0 = p - 0 ∧ (0 ≤ p) ∧ zH D A τ fi fr ol s _ ∧ va_S A s.heap _ _ ∧ lv_has _ 3 [(0, .ref (τ.1 22)), (1, .int (nI 0)), (2, .int (nI 0))] from ⟨rfl, Nat.zero_le _, hH, hS, lv_sub hl [2, 1, 0] rfl⟩) (fun k9 ih x9 H locs ls hv9 => ?_)
  obtain ⟨i, y⟩ := x9
  have hv9 : k9 = p - i ∧ (i ≤ p) ∧ zH D A τ fi fr ol s H ∧ va_S A s.heap H locs ∧ lv_has ls 3 [(0, .ref (τ.1 22)), (1, .int y), (2, .int (nI i))] := hv9
  obtain ⟨hkih101, hv9, hH, hS, hl⟩ := hv9
  obtain h1 := hv9
  have ih101 := ih
  clear ih
  refine lv_iload_n hx hb dX9_lastStreet_4 rfl (lv_at hl 2 rfl) ?_
  refine lv_aload_n hx hb dX9_lastStreet_5 rfl (lv_at hl 0 rfl) ?_
  refine zGetI (D := D) (ci := 9) (C := RX9) (T := TX9) (N := 6) hx hb hts hiX9 hown hH (zk_22 hF) rfl 1 (by decide) rfl hw1 (fun _ h9 => h9) dX9_lastStreet_6 hP.2.1 ?_
  refine lv_icmp_ge (tgt := 32) hx hb dX9_lastStreet_9 (by decide) (fun c102 => ?_) (fun c102 => ?_)
  · have zc102 := c102
    replace zc102 := zc_le (nI_toInt (by omega)) (nI_toInt (by omega)) zc102
    refine lv_iload_n hx hb dX9_lastStreet_32 rfl (lv_at hl 1 rfl) ?_
    refine W.widen (k := 0) (n := 0) (by decide) (by decide) ?_
    exact W.iret (v := y) hx hb hr (fun t9 ht9 hW9 => ⟨⟨y, (), rfl, trivial, zEnd1 hH ht9 hW9⟩, hS.F ht9⟩) hS.2.2 dX9_lastStreet_33
  · have zc102 := c102
    replace zc102 := zc_nle (nI_toInt (by omega)) (nI_toInt (by omega)) zc102
    refine lv_iload_n hx hb dX9_lastStreet_12 rfl (lv_at hl 1 rfl) ?_
    refine lv_aload_n hx hb dX9_lastStreet_13 rfl (lv_at hl 0 rfl) ?_
    refine zGetR (D := D) (ci := 9) (C := RX9) (T := TX9) (N := 6) hx hb hts hiX9 hown hH (zk_22 hF) rfl 0 (by decide) rfl hw2 (fun _ h9 => h9) dX9_lastStreet_14 (zr_22_0 hF) ?_
    refine lv_iload_n hx hb dX9_lastStreet_17 rfl (lv_at hl 2 rfl) ?_
    obtain ⟨t103, ht103, gt103⟩ := hP.2.2 i (by omega)
    refine zAaldS (D := D) hx hb hH (zk_23 hF) (by decide) (by decide) rfl (zn_23 hF) (by omega) (by omega) gt103 dX9_lastStreet_18 ?_
    refine zGetI (D := D) (ci := 8) (C := RX8) (T := TX8) (N := 10) hx hb hts hiX8 hown hH (hT.2.2.1 t103 (by omega)).1.1 rfl 3 (by decide) rfl hw4 (fun _ h9 => h9) dX9_lastStreet_19 rfl ?_
    refine va_mmax hx hb (by rw [hml]; exact hl.1.symm) hown hw5 hw6 hw7 hw8 (Nat.le_of_ble_eq_true rfl) (Nat.le_of_ble_eq_true rfl) (Nat.le_of_ble_eq_true rfl) (Nat.le_of_ble_eq_true rfl) dX9_lastStreet_22 ?_
    refine lv_topi (fun v104 ev104 => ?_)
    refine lv_istore_n (lv' := [(1, .int v104), (0, .ref (τ.1 22)), (2, .int (nI i))]) hx hb dX9_lastStreet_25 rfl hl (by decide) rfl (fun ls hl => ?_)
    refine lv_iinc (v := nI (i + 1)) (lv' := [(2, .int (nI (i + 1))), (1, .int v104), (0, .ref (τ.1 22))]) hx hb dX9_lastStreet_26 hl (k := 2) rfl (by rw [show (Int32.ofInt 1 : Int32) = nI 1 from by decide, nI_add]) (by decide) rfl (fun ls hl => ?_)
    refine lv_goto (tgt := 4) hx hb dX9_lastStreet_29 (by decide) ?_
    exact ih101 (p - (i + 1)) (by omega) (i + 1, _) _ _ _ (show p - (i + 1) = p - (i + 1) ∧ ((i + 1) ≤ p) ∧ zH D A τ fi fr ol s _ ∧ va_S A s.heap _ _ ∧ lv_has _ 3 [(0, .ref (τ.1 22)), (1, .int _), (2, .int (nI (i + 1)))] from ⟨rfl, (by omega), hH, hS, lv_sub hl [2, 1, 0] rfl⟩)
