theorem zNew_I (n : Nat) : ∀ cA : ClassId, vp_cell cA (n, .inl (fun _ => 0)) = arrV cA n (fun _ => defaultValue .int) := fun _ => rfl
theorem zNew_B (n : Nat) : ∀ cA : ClassId, vp_cell cA (n, .inl (fun _ => 0)) = arrV cA n (fun _ => defaultValue .byte) := fun _ => rfl
theorem zNew_Z (n : Nat) : ∀ cA : ClassId, vp_cell cA (n, .inl (fun _ => 0)) = arrV cA n (fun _ => defaultValue .boolean) := fun _ => rfl
theorem zNew_J (n : Nat) : ∀ cA : ClassId, vp_cell cA (n, .inr (.inl (fun _ => 0))) = arrV cA n (fun _ => defaultValue .long) := fun _ => rfl
set_option maxHeartbeats 4000000 in
set_option maxRecDepth 100000 in
/-- c_Tape_init -/
theorem c_Tape_init (l : Launch) (hl0 : l.stackTraces = false) (dC : Nat → ClassId) (dI : Nat → Nat → Nat) (A0 : Nat → Prop) (ad : Nat → Nat) (sz : Nat) (h0 : Nat) (hA0 : ∀ q, va_A [(h0, .inr (7, [.null, .int 0, .int 0, .int 0]))] sz q → A0 q) : Met l yX7_init wsX7_init ({ frames := 1, cells := 1, slots := 400, locals := 12 }) (va_Pc [.ref h0] (zPc A0 ad (dC, dI) [(h0, .inr (7, [.null, .int 0, .int 0, .int 0]))] [] sz)) (va_Qv (fun (_ : Unit) => True) (fun (_ : Unit) (t : State) => ∃ (q1 : Nat), ∃ (k1 : ClassId), zB (dC, dI) (va_A [(h0, .inr (7, [.null, .int 0, .int 0, .int 0]))] sz) [(h0, .inr (7, [.ref q1, .int 0, .int 0, .int ((-1))])), (q1, .inl (k1, 400, .inl (fun _ => 0)))] [(k1, .byte)] t) (va_A [(h0, .inr (7, [.null, .int 0, .int 0, .int 0]))] sz)) 1 400 (va_A [(h0, .inr (7, [.null, .int 0, .int 0, .int 0]))] sz) := by
  refine Met.ofW (cc := cX7_init) (maxL := 1) (ret := none) (by decide) rfl ?_
  intro p e s m args below meth c s₁ B hml hv
  obtain ⟨rfl, hsz, hz, hP, hK, hD0⟩ := hv
  have hx := B.exec
  have hb := B.bytes
  have hr := B.returns
  have hts := atoms_spec (ws := wsX7_init) B.pre
  have hown : s.vm.findClass RX7 = some m.cls := findClass_of_methodNamed B.named
  have hlocks := B.notSynchronized
  have hin : meth.name = "<init>" := (name_of_methodNamed B.named B.method).1
  subst hsz
  have hD := hD0.self (sz := s.heap.size)
  generalize hAe : va_A [(h0, .inr (7, [.null, .int 0, .int 0, .int 0]))] s.heap.size = A at hD hA0 ⊢
  have hA : ∀ q : Nat, s.heap.size ≤ q → A q := fun q h => by rw [← hAe]; exact Or.inr h
  have hS : va_S A s.heap s.heap [] := va_S.rf
  have hl := lv_entry ([.ref h0]) (n := 1) (Nat.le_of_ble_eq_true rfl)
  rw [lg_entry_eq]
  generalize (lg_sl ([.ref h0]) ++ List.replicate (1 - (lg_sl ([.ref h0])).length) Slot.unset).toArray = ls at hl ⊢
  have hl : lv_has ls 1 [(0, .ref h0)] := hl
  have hP : va_P (dC, dI) vwCl [(h0, .inr (7, [.null, .int 0, .int 0, .int 0]))] s.heap := hP
  have hw0 := hts (.methodLink RX7 3 objectInit) (by decide +kernel)
  have hw1 := hts (.instanceMethod objectInit) (by decide +kernel)
  have hw2 := hts (.code objectInit ⟨#[0xb1]⟩ 1 none) (by decide +kernel)
  have hw3 := hts (.arrayClass .byte) (by decide +kernel)
  have hiX7 : ∀ w ∈ u_ws RX7 TX7 4, w ∈ wsX7_init := fun _ h => List.mem_cons_of_mem _ (List.mem_append_right _ h)
  have hw5 := hts (.fieldLink RX7 11 "PostHouse$Tape" "bytes" "[B") (by decide +kernel)
  have hw6 := hts (.fieldLink RX7 15 "PostHouse$Tape" "wrong" "I") (by decide +kernel)
  refine lv_aload_n hx hb dX7_init_0 rfl (lv_at hl 0 rfl) ?_
  refine W.objInit hx hb hown hw0 hw1 hw2 rfl (by rw [hml]; exact hl.1) rfl dX7_init_1 (Nat.le_of_ble_eq_true rfl) (Nat.le_of_ble_eq_true rfl) ?_
  refine W.eq (g2 := F0 m 4 ls []) rfl ?_
  refine lv_aload_n hx hb dX7_init_4 rfl (lv_at hl 0 rfl) ?_
  refine lv_sipush (v := 400) hx hb dX7_init_5 (by decide) ?_
  refine va_newa (D := (dC, dI)) (atype := .byte) (N' := 400) (a0 := (400, .inl (fun _ => 0))) (ty := .byte) hx hb hw3 rfl hK hP hD hS hA (zNew_B 400) (by decide) (by decide) (by decide) (Nat.le_of_ble_eq_true rfl) (Nat.le_of_ble_eq_true rfl) dX7_init_8 (fun q1 cq1 H hK hP hD hS => ?_)
  have hP : va_P (dC, dI) vwCl [(h0, .inr (7, [.null, .int 0, .int 0, .int 0])), (q1, .inl (cq1, 400, .inl (fun _ => 0)))] H := hP
  have hD : va_D A [(h0, .inr (7, [.null, .int 0, .int 0, .int 0])), (q1, .inl (cq1, 400, .inl (fun _ => 0)))] := hD
  have hK : va_K (dC, dI) vwCl [(cq1, .byte)] s := hK
  refine W.widen (k := 1) (n := 400) (by decide) (by decide) ?_
  refine va_putF (D := (dC, dI)) (ci := 7) (v := .ref q1) (ty := .array .byte) (C := RX7) (T := TX7) (N := 4) hx hb hts hiX7 tyX7 tyX7_ok nmX7 hown hK hP hD hS 0 rfl rfl 0 (by decide) hw5 (fun _ h9 => h9) rfl hin rfl (by decide +kernel) rfl rfl (Nat.le_of_ble_eq_true rfl) dX7_init_10 (fun H locs hP hD hS => ?_)
  have hP : va_P (dC, dI) vwCl [(h0, .inr (7, [.ref q1, .int 0, .int 0, .int 0])), (q1, .inl (cq1, 400, .inl (fun _ => 0)))] H := hP
  have hD : va_D A [(h0, .inr (7, [.ref q1, .int 0, .int 0, .int 0])), (q1, .inl (cq1, 400, .inl (fun _ => 0)))] := hD
  refine lv_aload_n hx hb dX7_init_13 rfl (lv_at hl 0 rfl) ?_
  refine lv_iconst (v := (-1)) hx hb dX7_init_14 (by decide) ?_
  refine va_put (D := (dC, dI)) (ci := 7) (v := .int ((-1))) (ty := .int) (C := RX7) (T := TX7) (N := 4) hx hb hts hiX7 tyX7 tyX7_ok nmX7 hown hK hP hD hS 0 rfl rfl 3 (by decide) hw6 (fun _ h9 => h9) rfl (by decide +kernel) rfl rfl (Nat.le_of_ble_eq_true rfl) dX7_init_15 (fun H locs hP hD hS => ?_)
  have hP : va_P (dC, dI) vwCl [(h0, .inr (7, [.ref q1, .int 0, .int 0, .int ((-1))])), (q1, .inl (cq1, 400, .inl (fun _ => 0)))] H := hP
  have hD : va_D A [(h0, .inr (7, [.ref q1, .int 0, .int 0, .int ((-1))])), (q1, .inl (cq1, 400, .inl (fun _ => 0)))] := hD
  have hP9 := hP.sub (ws' := [(h0, .inr (7, [.ref q1, .int 0, .int 0, .int ((-1))])), (q1, .inl (cq1, 400, .inl (fun _ => 0)))]) [0, 1] rfl
  have hD9 := hD.sub (ws' := [(h0, .inr (7, [.ref q1, .int 0, .int 0, .int ((-1))])), (q1, .inl (cq1, 400, .inl (fun _ => 0)))]) [0, 1] (by decide) rfl
  have hK9 := hK.sub (tys' := [(cq1, .byte)]) [0] rfl
  refine W.widen (k := 1) (n := 400) (by decide) (by decide) ?_
  exact W.vret hx hb hr (fun t ht hW => ⟨⟨(), rfl, trivial, ⟨q1, cq1, ⟨by rw [ht]; exact hP9, va_K.moved hW.alike hK9, hD9⟩⟩⟩, hS.F ht⟩) hS.2.2 dX7_init_18
set_option maxHeartbeats 4000000 in
set_option maxRecDepth 100000 in
/-- c_Book_init -/
theorem c_Book_init (l : Launch) (hl0 : l.stackTraces = false) (dC : Nat → ClassId) (dI : Nat → Nat → Nat) (A0 : Nat → Prop) (ad : Nat → Nat) (sz : Nat) (h0 : Nat) (hA0 : ∀ q, va_A [(h0, .inr (0, [.null, .int 0]))] sz q → A0 q) : Met l yX0_init wsX0_init ({ frames := 1, cells := 1, slots := 30, locals := 12 }) (va_Pc [.ref h0] (zPc A0 ad (dC, dI) [(h0, .inr (0, [.null, .int 0]))] [] sz)) (va_Qv (fun (_ : Unit) => True) (fun (_ : Unit) (t : State) => ∃ (q1 : Nat), ∃ (k1 : ClassId), zB (dC, dI) (va_A [(h0, .inr (0, [.null, .int 0]))] sz) [(h0, .inr (0, [.ref q1, .int 0])), (q1, .inl (k1, 30, .inr (.inr (.inr (.inr (fun _ => none))))))] [(k1, .object "PostHouse$Thing")] t) (va_A [(h0, .inr (0, [.null, .int 0]))] sz)) 1 30 (va_A [(h0, .inr (0, [.null, .int 0]))] sz) := by
  refine Met.ofW (cc := cX0_init) (maxL := 1) (ret := none) (by decide) rfl ?_
  intro p e s m args below meth c s₁ B hml hv
  obtain ⟨rfl, hsz, hz, hP, hK, hD0⟩ := hv
  have hx := B.exec
  have hb := B.bytes
  have hr := B.returns
  have hts := atoms_spec (ws := wsX0_init) B.pre
  have hown : s.vm.findClass RX0 = some m.cls := findClass_of_methodNamed B.named
  have hlocks := B.notSynchronized
  have hin : meth.name = "<init>" := (name_of_methodNamed B.named B.method).1
  subst hsz
  have hD := hD0.self (sz := s.heap.size)
  generalize hAe : va_A [(h0, .inr (0, [.null, .int 0]))] s.heap.size = A at hD hA0 ⊢
  have hA : ∀ q : Nat, s.heap.size ≤ q → A q := fun q h => by rw [← hAe]; exact Or.inr h
  have hS : va_S A s.heap s.heap [] := va_S.rf
  have hl := lv_entry ([.ref h0]) (n := 1) (Nat.le_of_ble_eq_true rfl)
  rw [lg_entry_eq]
  generalize (lg_sl ([.ref h0]) ++ List.replicate (1 - (lg_sl ([.ref h0])).length) Slot.unset).toArray = ls at hl ⊢
  have hl : lv_has ls 1 [(0, .ref h0)] := hl
  have hP : va_P (dC, dI) vwCl [(h0, .inr (0, [.null, .int 0]))] s.heap := hP
  have hw0 := hts (.methodLink RX0 3 objectInit) (by decide +kernel)
  have hw1 := hts (.instanceMethod objectInit) (by decide +kernel)
  have hw2 := hts (.code objectInit ⟨#[0xb1]⟩ 1 none) (by decide +kernel)
  have hw3 := hts (.classLink RX0 9 RX8) (by decide +kernel)
  have hiX0 : ∀ w ∈ u_ws RX0 TX0 2, w ∈ wsX0_init := fun _ h => List.mem_cons_of_mem _ (List.mem_append_right _ h)
  have hw5 := hts (.fieldLink RX0 11 "PostHouse$Book" "things" "[LPostHouse$Thing;") (by decide +kernel)
  refine lv_aload_n hx hb dX0_init_0 rfl (lv_at hl 0 rfl) ?_
  refine W.objInit hx hb hown hw0 hw1 hw2 rfl (by rw [hml]; exact hl.1) rfl dX0_init_1 (Nat.le_of_ble_eq_true rfl) (Nat.le_of_ble_eq_true rfl) ?_
  refine W.eq (g2 := F0 m 4 ls []) rfl ?_
  refine lv_aload_n hx hb dX0_init_4 rfl (lv_at hl 0 rfl) ?_
  refine lv_bipush (v := 30) hx hb dX0_init_5 (by decide) ?_
  refine va_newq (D := (dC, dI)) (C := RX8) (N' := 30) hx hb hown hw3 (hz.2.2.2.2.2.2.1 _ (List.mem_of_getElem? (i := 3) rfl)) hK hP hD hS hA (by decide) (by decide) (by decide) (Nat.le_of_ble_eq_true rfl) (Nat.le_of_ble_eq_true rfl) dX0_init_7 (fun q1 cq1 H hK hP hD hS => ?_)
  have hP : va_P (dC, dI) vwCl [(h0, .inr (0, [.null, .int 0])), (q1, .inl (cq1, 30, .inr (.inr (.inr (.inr (fun _ => none))))))] H := hP
  have hD : va_D A [(h0, .inr (0, [.null, .int 0])), (q1, .inl (cq1, 30, .inr (.inr (.inr (.inr (fun _ => none))))))] := hD
  have hK : va_K (dC, dI) vwCl [(cq1, .object "PostHouse$Thing")] s := hK
  refine W.widen (k := 1) (n := 30) (by decide) (by decide) ?_
  refine va_putF (D := (dC, dI)) (ci := 0) (v := .ref q1) (ty := .array (.object "PostHouse$Thing")) (C := RX0) (T := TX0) (N := 2) hx hb hts hiX0 tyX0 tyX0_ok nmX0 hown hK hP hD hS 0 rfl rfl 0 (by decide) hw5 (fun _ h9 => h9) rfl hin rfl (by decide +kernel) rfl rfl (Nat.le_of_ble_eq_true rfl) dX0_init_10 (fun H locs hP hD hS => ?_)
  have hP : va_P (dC, dI) vwCl [(h0, .inr (0, [.ref q1, .int 0])), (q1, .inl (cq1, 30, .inr (.inr (.inr (.inr (fun _ => none))))))] H := hP
  have hD : va_D A [(h0, .inr (0, [.ref q1, .int 0])), (q1, .inl (cq1, 30, .inr (.inr (.inr (.inr (fun _ => none))))))] := hD
  have hP9 := hP.sub (ws' := [(h0, .inr (0, [.ref q1, .int 0])), (q1, .inl (cq1, 30, .inr (.inr (.inr (.inr (fun _ => none))))))]) [0, 1] rfl
  have hD9 := hD.sub (ws' := [(h0, .inr (0, [.ref q1, .int 0])), (q1, .inl (cq1, 30, .inr (.inr (.inr (.inr (fun _ => none))))))]) [0, 1] (by decide) rfl
  have hK9 := hK.sub (tys' := [(cq1, .object "PostHouse$Thing")]) [0] rfl
  refine W.widen (k := 1) (n := 30) (by decide) (by decide) ?_
  exact W.vret hx hb hr (fun t ht hW => ⟨⟨(), rfl, trivial, ⟨q1, cq1, ⟨by rw [ht]; exact hP9, va_K.moved hW.alike hK9, hD9⟩⟩⟩, hS.F ht⟩) hS.2.2 dX0_init_13
set_option maxHeartbeats 4000000 in
set_option maxRecDepth 100000 in
/-- c_Comings_init -/
theorem c_Comings_init (l : Launch) (hl0 : l.stackTraces = false) (dC : Nat → ClassId) (dI : Nat → Nat → Nat) (A0 : Nat → Prop) (ad : Nat → Nat) (sz : Nat) (h0 : Nat) (hA0 : ∀ q, va_A [(h0, .inr (1, [.null, .null, .null, .int 0]))] sz q → A0 q) : Met l yX1_init wsX1_init ({ frames := 1, cells := 3, slots := 180, locals := 12 }) (va_Pc [.ref h0] (zPc A0 ad (dC, dI) [(h0, .inr (1, [.null, .null, .null, .int 0]))] [] sz)) (va_Qv (fun (_ : Unit) => True) (fun (_ : Unit) (t : State) => ∃ (q0 : Nat), ∃ (q1 : Nat), ∃ (q2 : Nat), zB (dC, dI) (va_A [(h0, .inr (1, [.null, .null, .null, .int 0]))] sz) [(h0, .inr (1, [.ref q0, .ref q1, .ref q2, .int 0]))] [] t) (va_A [(h0, .inr (1, [.null, .null, .null, .int 0]))] sz)) 3 180 (va_A [(h0, .inr (1, [.null, .null, .null, .int 0]))] sz) := by
  refine Met.ofW (cc := cX1_init) (maxL := 1) (ret := none) (by decide) rfl ?_
  intro p e s m args below meth c s₁ B hml hv
  obtain ⟨rfl, hsz, hz, hP, hK, hD0⟩ := hv
  have hx := B.exec
  have hb := B.bytes
  have hr := B.returns
  have hts := atoms_spec (ws := wsX1_init) B.pre
  have hown : s.vm.findClass RX1 = some m.cls := findClass_of_methodNamed B.named
  have hlocks := B.notSynchronized
  have hin : meth.name = "<init>" := (name_of_methodNamed B.named B.method).1
  subst hsz
  have hD := hD0.self (sz := s.heap.size)
  generalize hAe : va_A [(h0, .inr (1, [.null, .null, .null, .int 0]))] s.heap.size = A at hD hA0 ⊢
  have hA : ∀ q : Nat, s.heap.size ≤ q → A q := fun q h => by rw [← hAe]; exact Or.inr h
  have hS : va_S A s.heap s.heap [] := va_S.rf
  have hl := lv_entry ([.ref h0]) (n := 1) (Nat.le_of_ble_eq_true rfl)
  rw [lg_entry_eq]
  generalize (lg_sl ([.ref h0]) ++ List.replicate (1 - (lg_sl ([.ref h0])).length) Slot.unset).toArray = ls at hl ⊢
  have hl : lv_has ls 1 [(0, .ref h0)] := hl
  have hP : va_P (dC, dI) vwCl [(h0, .inr (1, [.null, .null, .null, .int 0]))] s.heap := hP
  have hw0 := hts (.methodLink RX1 3 objectInit) (by decide +kernel)
  have hw1 := hts (.instanceMethod objectInit) (by decide +kernel)
  have hw2 := hts (.code objectInit ⟨#[0xb1]⟩ 1 none) (by decide +kernel)
  have hw3 := hts (.classLink RX1 9 RX8) (by decide +kernel)
  have hiX1 : ∀ w ∈ u_ws RX1 TX1 4, w ∈ wsX1_init := fun _ h => List.mem_cons_of_mem _ (List.mem_append_right _ h)
  have hw5 := hts (.fieldLink RX1 11 "PostHouse$Comings" "things" "[LPostHouse$Thing;") (by decide +kernel)
  have hw6 := hts (.arrayClass .int) (by decide +kernel)
  have hw7 := hts (.fieldLink RX1 17 "PostHouse$Comings" "days" "[I") (by decide +kernel)
  have hw8 := hts (.fieldLink RX1 21 "PostHouse$Comings" "pieces" "[I") (by decide +kernel)
  refine lv_aload_n hx hb dX1_init_0 rfl (lv_at hl 0 rfl) ?_
  refine W.objInit hx hb hown hw0 hw1 hw2 rfl (by rw [hml]; exact hl.1) rfl dX1_init_1 (Nat.le_of_ble_eq_true rfl) (Nat.le_of_ble_eq_true rfl) ?_
  refine W.eq (g2 := F0 m 4 ls []) rfl ?_
  refine lv_aload_n hx hb dX1_init_4 rfl (lv_at hl 0 rfl) ?_
  refine lv_bipush (v := 60) hx hb dX1_init_5 (by decide) ?_
  refine va_newq (D := (dC, dI)) (C := RX8) (N' := 60) hx hb hown hw3 (hz.2.2.2.2.2.2.1 _ (List.mem_of_getElem? (i := 3) rfl)) hK hP hD hS hA (by decide) (by decide) (by decide) (Nat.le_of_ble_eq_true rfl) (Nat.le_of_ble_eq_true rfl) dX1_init_7 (fun q1 cq1 H hK hP hD hS => ?_)
  have hP := hP.sub (ws' := [(h0, .inr (1, [.null, .null, .null, .int 0]))]) [0] rfl
  have hD := hD.sub (ws' := [(h0, .inr (1, [.null, .null, .null, .int 0]))]) [0] (by decide) rfl
  have hK := hK.sub (tys' := []) [] rfl
  refine W.widen (k := 1) (n := 60) (by decide) (by decide) ?_
  refine va_putF (D := (dC, dI)) (ci := 1) (v := .ref q1) (ty := .array (.object "PostHouse$Thing")) (C := RX1) (T := TX1) (N := 4) hx hb hts hiX1 tyX1 tyX1_ok nmX1 hown hK hP hD hS 0 rfl rfl 0 (by decide) hw5 (fun _ h9 => h9) rfl hin rfl (by decide +kernel) rfl rfl (Nat.le_of_ble_eq_true rfl) dX1_init_10 (fun H locs hP hD hS => ?_)
  have hP : va_P (dC, dI) vwCl [(h0, .inr (1, [.ref q1, .null, .null, .int 0]))] H := hP
  have hD : va_D A [(h0, .inr (1, [.ref q1, .null, .null, .int 0]))] := hD
  refine lv_aload_n hx hb dX1_init_13 rfl (lv_at hl 0 rfl) ?_
  refine lv_bipush (v := 60) hx hb dX1_init_14 (by decide) ?_
  refine va_newa (D := (dC, dI)) (atype := .int) (N' := 60) (a0 := (60, .inl (fun _ => 0))) (ty := .int) hx hb hw6 rfl hK hP hD hS hA (zNew_I 60) (by decide) (by decide) (by decide) (Nat.le_of_ble_eq_true rfl) (Nat.le_of_ble_eq_true rfl) dX1_init_16 (fun q2 cq2 H hK hP hD hS => ?_)
  have hP := hP.sub (ws' := [(h0, .inr (1, [.ref q1, .null, .null, .int 0]))]) [0] rfl
  have hD := hD.sub (ws' := [(h0, .inr (1, [.ref q1, .null, .null, .int 0]))]) [0] (by decide) rfl
  have hK := hK.sub (tys' := []) [] rfl
  refine W.widen (k := 2) (n := 120) (by decide) (by decide) ?_
  refine va_putF (D := (dC, dI)) (ci := 1) (v := .ref q2) (ty := .array .int) (C := RX1) (T := TX1) (N := 4) hx hb hts hiX1 tyX1 tyX1_ok nmX1 hown hK hP hD hS 0 rfl rfl 1 (by decide) hw7 (fun _ h9 => h9) rfl hin rfl (by decide +kernel) rfl rfl (Nat.le_of_ble_eq_true rfl) dX1_init_18 (fun H locs hP hD hS => ?_)
  have hP : va_P (dC, dI) vwCl [(h0, .inr (1, [.ref q1, .ref q2, .null, .int 0]))] H := hP
  have hD : va_D A [(h0, .inr (1, [.ref q1, .ref q2, .null, .int 0]))] := hD
  refine lv_aload_n hx hb dX1_init_21 rfl (lv_at hl 0 rfl) ?_
  refine lv_bipush (v := 60) hx hb dX1_init_22 (by decide) ?_
  refine va_newa (D := (dC, dI)) (atype := .int) (N' := 60) (a0 := (60, .inl (fun _ => 0))) (ty := .int) hx hb hw6 rfl hK hP hD hS hA (zNew_I 60) (by decide) (by decide) (by decide) (Nat.le_of_ble_eq_true rfl) (Nat.le_of_ble_eq_true rfl) dX1_init_24 (fun q3 cq3 H hK hP hD hS => ?_)
  have hP := hP.sub (ws' := [(h0, .inr (1, [.ref q1, .ref q2, .null, .int 0]))]) [0] rfl
  have hD := hD.sub (ws' := [(h0, .inr (1, [.ref q1, .ref q2, .null, .int 0]))]) [0] (by decide) rfl
  have hK := hK.sub (tys' := []) [] rfl
  refine W.widen (k := 3) (n := 180) (by decide) (by decide) ?_
  refine va_putF (D := (dC, dI)) (ci := 1) (v := .ref q3) (ty := .array .int) (C := RX1) (T := TX1) (N := 4) hx hb hts hiX1 tyX1 tyX1_ok nmX1 hown hK hP hD hS 0 rfl rfl 2 (by decide) hw8 (fun _ h9 => h9) rfl hin rfl (by decide +kernel) rfl rfl (Nat.le_of_ble_eq_true rfl) dX1_init_26 (fun H locs hP hD hS => ?_)
  have hP : va_P (dC, dI) vwCl [(h0, .inr (1, [.ref q1, .ref q2, .ref q3, .int 0]))] H := hP
  have hD : va_D A [(h0, .inr (1, [.ref q1, .ref q2, .ref q3, .int 0]))] := hD
  have hP9 := hP.sub (ws' := [(h0, .inr (1, [.ref q1, .ref q2, .ref q3, .int 0]))]) [0] rfl
  have hD9 := hD.sub (ws' := [(h0, .inr (1, [.ref q1, .ref q2, .ref q3, .int 0]))]) [0] (by decide) rfl
  have hK9 := hK.sub (tys' := []) [] rfl
  refine W.widen (k := 3) (n := 180) (by decide) (by decide) ?_
  exact W.vret hx hb hr (fun t ht hW => ⟨⟨(), rfl, trivial, ⟨q1, q2, q3, ⟨by rw [ht]; exact hP9, va_K.moved hW.alike hK9, hD9⟩⟩⟩, hS.F ht⟩) hS.2.2 dX1_init_29
set_option maxHeartbeats 4000000 in
set_option maxRecDepth 100000 in
/-- c_Packing_init -/
theorem c_Packing_init (l : Launch) (hl0 : l.stackTraces = false) (dC : Nat → ClassId) (dI : Nat → Nat → Nat) (A0 : Nat → Prop) (ad : Nat → Nat) (sz : Nat) (h0 : Nat) (hA0 : ∀ q, va_A [(h0, .inr (4, [.null, .null, .null, .int 0, .int 0]))] sz q → A0 q) : Met l yX4_init wsX4_init ({ frames := 1, cells := 3, slots := 824, locals := 12 }) (va_Pc [.ref h0] (zPc A0 ad (dC, dI) [(h0, .inr (4, [.null, .null, .null, .int 0, .int 0]))] [] sz)) (va_Qv (fun (_ : Unit) => True) (fun (_ : Unit) (t : State) => ∃ (q0 : Nat), ∃ (q1 : Nat), ∃ (q2 : Nat), zB (dC, dI) (va_A [(h0, .inr (4, [.null, .null, .null, .int 0, .int 0]))] sz) [(h0, .inr (4, [.ref q0, .ref q1, .ref q2, .int 0, .int 0]))] [] t) (va_A [(h0, .inr (4, [.null, .null, .null, .int 0, .int 0]))] sz)) 3 824 (va_A [(h0, .inr (4, [.null, .null, .null, .int 0, .int 0]))] sz) := by
  refine Met.ofW (cc := cX4_init) (maxL := 1) (ret := none) (by decide) rfl ?_
  intro p e s m args below meth c s₁ B hml hv
  obtain ⟨rfl, hsz, hz, hP, hK, hD0⟩ := hv
  have hx := B.exec
  have hb := B.bytes
  have hr := B.returns
  have hts := atoms_spec (ws := wsX4_init) B.pre
  have hown : s.vm.findClass RX4 = some m.cls := findClass_of_methodNamed B.named
  have hlocks := B.notSynchronized
  have hin : meth.name = "<init>" := (name_of_methodNamed B.named B.method).1
  subst hsz
  have hD := hD0.self (sz := s.heap.size)
  generalize hAe : va_A [(h0, .inr (4, [.null, .null, .null, .int 0, .int 0]))] s.heap.size = A at hD hA0 ⊢
  have hA : ∀ q : Nat, s.heap.size ≤ q → A q := fun q h => by rw [← hAe]; exact Or.inr h
  have hS : va_S A s.heap s.heap [] := va_S.rf
  have hl := lv_entry ([.ref h0]) (n := 1) (Nat.le_of_ble_eq_true rfl)
  rw [lg_entry_eq]
  generalize (lg_sl ([.ref h0]) ++ List.replicate (1 - (lg_sl ([.ref h0])).length) Slot.unset).toArray = ls at hl ⊢
  have hl : lv_has ls 1 [(0, .ref h0)] := hl
  have hP : va_P (dC, dI) vwCl [(h0, .inr (4, [.null, .null, .null, .int 0, .int 0]))] s.heap := hP
  have hw0 := hts (.methodLink RX4 3 objectInit) (by decide +kernel)
  have hw1 := hts (.instanceMethod objectInit) (by decide +kernel)
  have hw2 := hts (.code objectInit ⟨#[0xb1]⟩ 1 none) (by decide +kernel)
  have hw3 := hts (.arrayClass .int) (by decide +kernel)
  have hiX4 : ∀ w ∈ u_ws RX4 TX4 5, w ∈ wsX4_init := fun _ h => List.mem_cons_of_mem _ (List.mem_append_right _ h)
  have hw5 := hts (.fieldLink RX4 11 "PostHouse$Packing" "weights" "[I") (by decide +kernel)
  have hw6 := hts (.fieldLink RX4 15 "PostHouse$Packing" "counts" "[I") (by decide +kernel)
  have hw7 := hts (.fieldLink RX4 18 "PostHouse$Packing" "loads" "[I") (by decide +kernel)
  refine lv_aload_n hx hb dX4_init_0 rfl (lv_at hl 0 rfl) ?_
  refine W.objInit hx hb hown hw0 hw1 hw2 rfl (by rw [hml]; exact hl.1) rfl dX4_init_1 (Nat.le_of_ble_eq_true rfl) (Nat.le_of_ble_eq_true rfl) ?_
  refine W.eq (g2 := F0 m 4 ls []) rfl ?_
  refine lv_aload_n hx hb dX4_init_4 rfl (lv_at hl 0 rfl) ?_
  refine lv_bipush (v := 16) hx hb dX4_init_5 (by decide) ?_
  refine va_newa (D := (dC, dI)) (atype := .int) (N' := 16) (a0 := (16, .inl (fun _ => 0))) (ty := .int) hx hb hw3 rfl hK hP hD hS hA (zNew_I 16) (by decide) (by decide) (by decide) (Nat.le_of_ble_eq_true rfl) (Nat.le_of_ble_eq_true rfl) dX4_init_7 (fun q1 cq1 H hK hP hD hS => ?_)
  have hP := hP.sub (ws' := [(h0, .inr (4, [.null, .null, .null, .int 0, .int 0]))]) [0] rfl
  have hD := hD.sub (ws' := [(h0, .inr (4, [.null, .null, .null, .int 0, .int 0]))]) [0] (by decide) rfl
  have hK := hK.sub (tys' := []) [] rfl
  refine W.widen (k := 1) (n := 16) (by decide) (by decide) ?_
  refine va_putF (D := (dC, dI)) (ci := 4) (v := .ref q1) (ty := .array .int) (C := RX4) (T := TX4) (N := 5) hx hb hts hiX4 tyX4 tyX4_ok nmX4 hown hK hP hD hS 0 rfl rfl 0 (by decide) hw5 (fun _ h9 => h9) rfl hin rfl (by decide +kernel) rfl rfl (Nat.le_of_ble_eq_true rfl) dX4_init_9 (fun H locs hP hD hS => ?_)
  have hP : va_P (dC, dI) vwCl [(h0, .inr (4, [.ref q1, .null, .null, .int 0, .int 0]))] H := hP
  have hD : va_D A [(h0, .inr (4, [.ref q1, .null, .null, .int 0, .int 0]))] := hD
  refine lv_aload_n hx hb dX4_init_12 rfl (lv_at hl 0 rfl) ?_
  refine lv_bipush (v := 16) hx hb dX4_init_13 (by decide) ?_
  refine va_newa (D := (dC, dI)) (atype := .int) (N' := 16) (a0 := (16, .inl (fun _ => 0))) (ty := .int) hx hb hw3 rfl hK hP hD hS hA (zNew_I 16) (by decide) (by decide) (by decide) (Nat.le_of_ble_eq_true rfl) (Nat.le_of_ble_eq_true rfl) dX4_init_15 (fun q2 cq2 H hK hP hD hS => ?_)
  have hP := hP.sub (ws' := [(h0, .inr (4, [.ref q1, .null, .null, .int 0, .int 0]))]) [0] rfl
  have hD := hD.sub (ws' := [(h0, .inr (4, [.ref q1, .null, .null, .int 0, .int 0]))]) [0] (by decide) rfl
  have hK := hK.sub (tys' := []) [] rfl
  refine W.widen (k := 2) (n := 32) (by decide) (by decide) ?_
  refine va_putF (D := (dC, dI)) (ci := 4) (v := .ref q2) (ty := .array .int) (C := RX4) (T := TX4) (N := 5) hx hb hts hiX4 tyX4 tyX4_ok nmX4 hown hK hP hD hS 0 rfl rfl 1 (by decide) hw6 (fun _ h9 => h9) rfl hin rfl (by decide +kernel) rfl rfl (Nat.le_of_ble_eq_true rfl) dX4_init_17 (fun H locs hP hD hS => ?_)
  have hP : va_P (dC, dI) vwCl [(h0, .inr (4, [.ref q1, .ref q2, .null, .int 0, .int 0]))] H := hP
  have hD : va_D A [(h0, .inr (4, [.ref q1, .ref q2, .null, .int 0, .int 0]))] := hD
  refine lv_aload_n hx hb dX4_init_20 rfl (lv_at hl 0 rfl) ?_
  refine lv_sipush (v := 792) hx hb dX4_init_21 (by decide) ?_
  refine va_newa (D := (dC, dI)) (atype := .int) (N' := 792) (a0 := (792, .inl (fun _ => 0))) (ty := .int) hx hb hw3 rfl hK hP hD hS hA (zNew_I 792) (by decide) (by decide) (by decide) (Nat.le_of_ble_eq_true rfl) (Nat.le_of_ble_eq_true rfl) dX4_init_24 (fun q3 cq3 H hK hP hD hS => ?_)
  have hP := hP.sub (ws' := [(h0, .inr (4, [.ref q1, .ref q2, .null, .int 0, .int 0]))]) [0] rfl
  have hD := hD.sub (ws' := [(h0, .inr (4, [.ref q1, .ref q2, .null, .int 0, .int 0]))]) [0] (by decide) rfl
  have hK := hK.sub (tys' := []) [] rfl
  refine W.widen (k := 3) (n := 824) (by decide) (by decide) ?_
  refine va_putF (D := (dC, dI)) (ci := 4) (v := .ref q3) (ty := .array .int) (C := RX4) (T := TX4) (N := 5) hx hb hts hiX4 tyX4 tyX4_ok nmX4 hown hK hP hD hS 0 rfl rfl 2 (by decide) hw7 (fun _ h9 => h9) rfl hin rfl (by decide +kernel) rfl rfl (Nat.le_of_ble_eq_true rfl) dX4_init_26 (fun H locs hP hD hS => ?_)
  have hP : va_P (dC, dI) vwCl [(h0, .inr (4, [.ref q1, .ref q2, .ref q3, .int 0, .int 0]))] H := hP
  have hD : va_D A [(h0, .inr (4, [.ref q1, .ref q2, .ref q3, .int 0, .int 0]))] := hD
  have hP9 := hP.sub (ws' := [(h0, .inr (4, [.ref q1, .ref q2, .ref q3, .int 0, .int 0]))]) [0] rfl
  have hD9 := hD.sub (ws' := [(h0, .inr (4, [.ref q1, .ref q2, .ref q3, .int 0, .int 0]))]) [0] (by decide) rfl
  have hK9 := hK.sub (tys' := []) [] rfl
  refine W.widen (k := 3) (n := 824) (by decide) (by decide) ?_
  exact W.vret hx hb hr (fun t ht hW => ⟨⟨(), rfl, trivial, ⟨q1, q2, q3, ⟨by rw [ht]; exact hP9, va_K.moved hW.alike hK9, hD9⟩⟩⟩, hS.F ht⟩) hS.2.2 dX4_init_29
set_option maxHeartbeats 4000000 in
set_option maxRecDepth 100000 in
/-- c_Walk_init -/
theorem c_Walk_init (l : Launch) (hl0 : l.stackTraces = false) (dC : Nat → ClassId) (dI : Nat → Nat → Nat) (A0 : Nat → Prop) (ad : Nat → Nat) (sz : Nat) (h0 : Nat) (hA0 : ∀ q, va_A [(h0, .inr (9, [.null, .int 0, .null, .null, .null, .null]))] sz q → A0 q) : Met l yX9_init wsX9_init ({ frames := 1, cells := 5, slots := 49, locals := 12 }) (va_Pc [.ref h0] (zPc A0 ad (dC, dI) [(h0, .inr (9, [.null, .int 0, .null, .null, .null, .null]))] [] sz)) (va_Qv (fun (_ : Unit) => True) (fun (_ : Unit) (t : State) => ∃ (q0 : Nat), ∃ (q2 : Nat), ∃ (q3 : Nat), ∃ (q4 : Nat), ∃ (q5 : Nat), zB (dC, dI) (va_A [(h0, .inr (9, [.null, .int 0, .null, .null, .null, .null]))] sz) [(h0, .inr (9, [.ref q0, .int 0, .ref q2, .ref q3, .ref q4, .ref q5]))] [] t) (va_A [(h0, .inr (9, [.null, .int 0, .null, .null, .null, .null]))] sz)) 5 49 (va_A [(h0, .inr (9, [.null, .int 0, .null, .null, .null, .null]))] sz) := by
  refine Met.ofW (cc := cX9_init) (maxL := 1) (ret := none) (by decide) rfl ?_
  intro p e s m args below meth c s₁ B hml hv
  obtain ⟨rfl, hsz, hz, hP, hK, hD0⟩ := hv
  have hx := B.exec
  have hb := B.bytes
  have hr := B.returns
  have hts := atoms_spec (ws := wsX9_init) B.pre
  have hown : s.vm.findClass RX9 = some m.cls := findClass_of_methodNamed B.named
  have hlocks := B.notSynchronized
  have hin : meth.name = "<init>" := (name_of_methodNamed B.named B.method).1
  subst hsz
  have hD := hD0.self (sz := s.heap.size)
  generalize hAe : va_A [(h0, .inr (9, [.null, .int 0, .null, .null, .null, .null]))] s.heap.size = A at hD hA0 ⊢
  have hA : ∀ q : Nat, s.heap.size ≤ q → A q := fun q h => by rw [← hAe]; exact Or.inr h
  have hS : va_S A s.heap s.heap [] := va_S.rf
  have hl := lv_entry ([.ref h0]) (n := 1) (Nat.le_of_ble_eq_true rfl)
  rw [lg_entry_eq]
  generalize (lg_sl ([.ref h0]) ++ List.replicate (1 - (lg_sl ([.ref h0])).length) Slot.unset).toArray = ls at hl ⊢
  have hl : lv_has ls 1 [(0, .ref h0)] := hl
  have hP : va_P (dC, dI) vwCl [(h0, .inr (9, [.null, .int 0, .null, .null, .null, .null]))] s.heap := hP
  have hw0 := hts (.methodLink RX9 3 objectInit) (by decide +kernel)
  have hw1 := hts (.instanceMethod objectInit) (by decide +kernel)
  have hw2 := hts (.code objectInit ⟨#[0xb1]⟩ 1 none) (by decide +kernel)
  have hw3 := hts (.classLink RX9 9 RX8) (by decide +kernel)
  have hiX9 : ∀ w ∈ u_ws RX9 TX9 6, w ∈ wsX9_init := fun _ h => List.mem_cons_of_mem _ (List.mem_append_right _ h)
  have hw5 := hts (.fieldLink RX9 11 "PostHouse$Walk" "picks" "[LPostHouse$Thing;") (by decide +kernel)
  have hw6 := hts (.arrayClass .boolean) (by decide +kernel)
  have hw7 := hts (.fieldLink RX9 17 "PostHouse$Walk" "marked" "[Z") (by decide +kernel)
  have hw8 := hts (.arrayClass .int) (by decide +kernel)
  have hw9 := hts (.fieldLink RX9 21 "PostHouse$Walk" "waySteps" "[I") (by decide +kernel)
  have hw10 := hts (.fieldLink RX9 25 "PostHouse$Walk" "best" "[I") (by decide +kernel)
  have hw11 := hts (.fieldLink RX9 28 "PostHouse$Walk" "nextBest" "[I") (by decide +kernel)
  refine lv_aload_n hx hb dX9_init_0 rfl (lv_at hl 0 rfl) ?_
  refine W.objInit hx hb hown hw0 hw1 hw2 rfl (by rw [hml]; exact hl.1) rfl dX9_init_1 (Nat.le_of_ble_eq_true rfl) (Nat.le_of_ble_eq_true rfl) ?_
  refine W.eq (g2 := F0 m 4 ls []) rfl ?_
  refine lv_aload_n hx hb dX9_init_4 rfl (lv_at hl 0 rfl) ?_
  refine lv_bipush (v := 10) hx hb dX9_init_5 (by decide) ?_
  refine va_newq (D := (dC, dI)) (C := RX8) (N' := 10) hx hb hown hw3 (hz.2.2.2.2.2.2.1 _ (List.mem_of_getElem? (i := 3) rfl)) hK hP hD hS hA (by decide) (by decide) (by decide) (Nat.le_of_ble_eq_true rfl) (Nat.le_of_ble_eq_true rfl) dX9_init_7 (fun q1 cq1 H hK hP hD hS => ?_)
  have hP := hP.sub (ws' := [(h0, .inr (9, [.null, .int 0, .null, .null, .null, .null]))]) [0] rfl
  have hD := hD.sub (ws' := [(h0, .inr (9, [.null, .int 0, .null, .null, .null, .null]))]) [0] (by decide) rfl
  have hK := hK.sub (tys' := []) [] rfl
  refine W.widen (k := 1) (n := 10) (by decide) (by decide) ?_
  refine va_putF (D := (dC, dI)) (ci := 9) (v := .ref q1) (ty := .array (.object "PostHouse$Thing")) (C := RX9) (T := TX9) (N := 6) hx hb hts hiX9 tyX9 tyX9_ok nmX9 hown hK hP hD hS 0 rfl rfl 0 (by decide) hw5 (fun _ h9 => h9) rfl hin rfl (by decide +kernel) rfl rfl (Nat.le_of_ble_eq_true rfl) dX9_init_10 (fun H locs hP hD hS => ?_)
  have hP : va_P (dC, dI) vwCl [(h0, .inr (9, [.ref q1, .int 0, .null, .null, .null, .null]))] H := hP
  have hD : va_D A [(h0, .inr (9, [.ref q1, .int 0, .null, .null, .null, .null]))] := hD
  refine lv_aload_n hx hb dX9_init_13 rfl (lv_at hl 0 rfl) ?_
  refine lv_bipush (v := 21) hx hb dX9_init_14 (by decide) ?_
  refine va_newa (D := (dC, dI)) (atype := .boolean) (N' := 21) (a0 := (21, .inl (fun _ => 0))) (ty := .boolean) hx hb hw6 rfl hK hP hD hS hA (zNew_Z 21) (by decide) (by decide) (by decide) (Nat.le_of_ble_eq_true rfl) (Nat.le_of_ble_eq_true rfl) dX9_init_16 (fun q2 cq2 H hK hP hD hS => ?_)
  have hP := hP.sub (ws' := [(h0, .inr (9, [.ref q1, .int 0, .null, .null, .null, .null]))]) [0] rfl
  have hD := hD.sub (ws' := [(h0, .inr (9, [.ref q1, .int 0, .null, .null, .null, .null]))]) [0] (by decide) rfl
  have hK := hK.sub (tys' := []) [] rfl
  refine W.widen (k := 2) (n := 31) (by decide) (by decide) ?_
  refine va_putF (D := (dC, dI)) (ci := 9) (v := .ref q2) (ty := .array .boolean) (C := RX9) (T := TX9) (N := 6) hx hb hts hiX9 tyX9 tyX9_ok nmX9 hown hK hP hD hS 0 rfl rfl 2 (by decide) hw7 (fun _ h9 => h9) rfl hin rfl (by decide +kernel) rfl rfl (Nat.le_of_ble_eq_true rfl) dX9_init_18 (fun H locs hP hD hS => ?_)
  have hP : va_P (dC, dI) vwCl [(h0, .inr (9, [.ref q1, .int 0, .ref q2, .null, .null, .null]))] H := hP
  have hD : va_D A [(h0, .inr (9, [.ref q1, .int 0, .ref q2, .null, .null, .null]))] := hD
  refine lv_aload_n hx hb dX9_init_21 rfl (lv_at hl 0 rfl) ?_
  refine lv_bipush (v := 6) hx hb dX9_init_22 (by decide) ?_
  refine va_newa (D := (dC, dI)) (atype := .int) (N' := 6) (a0 := (6, .inl (fun _ => 0))) (ty := .int) hx hb hw8 rfl hK hP hD hS hA (zNew_I 6) (by decide) (by decide) (by decide) (Nat.le_of_ble_eq_true rfl) (Nat.le_of_ble_eq_true rfl) dX9_init_24 (fun q3 cq3 H hK hP hD hS => ?_)
  have hP := hP.sub (ws' := [(h0, .inr (9, [.ref q1, .int 0, .ref q2, .null, .null, .null]))]) [0] rfl
  have hD := hD.sub (ws' := [(h0, .inr (9, [.ref q1, .int 0, .ref q2, .null, .null, .null]))]) [0] (by decide) rfl
  have hK := hK.sub (tys' := []) [] rfl
  refine W.widen (k := 3) (n := 37) (by decide) (by decide) ?_
  refine va_putF (D := (dC, dI)) (ci := 9) (v := .ref q3) (ty := .array .int) (C := RX9) (T := TX9) (N := 6) hx hb hts hiX9 tyX9 tyX9_ok nmX9 hown hK hP hD hS 0 rfl rfl 3 (by decide) hw9 (fun _ h9 => h9) rfl hin rfl (by decide +kernel) rfl rfl (Nat.le_of_ble_eq_true rfl) dX9_init_26 (fun H locs hP hD hS => ?_)
  have hP : va_P (dC, dI) vwCl [(h0, .inr (9, [.ref q1, .int 0, .ref q2, .ref q3, .null, .null]))] H := hP
  have hD : va_D A [(h0, .inr (9, [.ref q1, .int 0, .ref q2, .ref q3, .null, .null]))] := hD
  refine lv_aload_n hx hb dX9_init_29 rfl (lv_at hl 0 rfl) ?_
  refine lv_bipush (v := 6) hx hb dX9_init_30 (by decide) ?_
  refine va_newa (D := (dC, dI)) (atype := .int) (N' := 6) (a0 := (6, .inl (fun _ => 0))) (ty := .int) hx hb hw8 rfl hK hP hD hS hA (zNew_I 6) (by decide) (by decide) (by decide) (Nat.le_of_ble_eq_true rfl) (Nat.le_of_ble_eq_true rfl) dX9_init_32 (fun q4 cq4 H hK hP hD hS => ?_)
  have hP := hP.sub (ws' := [(h0, .inr (9, [.ref q1, .int 0, .ref q2, .ref q3, .null, .null]))]) [0] rfl
  have hD := hD.sub (ws' := [(h0, .inr (9, [.ref q1, .int 0, .ref q2, .ref q3, .null, .null]))]) [0] (by decide) rfl
  have hK := hK.sub (tys' := []) [] rfl
  refine W.widen (k := 4) (n := 43) (by decide) (by decide) ?_
  refine va_putF (D := (dC, dI)) (ci := 9) (v := .ref q4) (ty := .array .int) (C := RX9) (T := TX9) (N := 6) hx hb hts hiX9 tyX9 tyX9_ok nmX9 hown hK hP hD hS 0 rfl rfl 4 (by decide) hw10 (fun _ h9 => h9) rfl hin rfl (by decide +kernel) rfl rfl (Nat.le_of_ble_eq_true rfl) dX9_init_34 (fun H locs hP hD hS => ?_)
  have hP : va_P (dC, dI) vwCl [(h0, .inr (9, [.ref q1, .int 0, .ref q2, .ref q3, .ref q4, .null]))] H := hP
  have hD : va_D A [(h0, .inr (9, [.ref q1, .int 0, .ref q2, .ref q3, .ref q4, .null]))] := hD
  refine lv_aload_n hx hb dX9_init_37 rfl (lv_at hl 0 rfl) ?_
  refine lv_bipush (v := 6) hx hb dX9_init_38 (by decide) ?_
  refine va_newa (D := (dC, dI)) (atype := .int) (N' := 6) (a0 := (6, .inl (fun _ => 0))) (ty := .int) hx hb hw8 rfl hK hP hD hS hA (zNew_I 6) (by decide) (by decide) (by decide) (Nat.le_of_ble_eq_true rfl) (Nat.le_of_ble_eq_true rfl) dX9_init_40 (fun q5 cq5 H hK hP hD hS => ?_)
  have hP := hP.sub (ws' := [(h0, .inr (9, [.ref q1, .int 0, .ref q2, .ref q3, .ref q4, .null]))]) [0] rfl
  have hD := hD.sub (ws' := [(h0, .inr (9, [.ref q1, .int 0, .ref q2, .ref q3, .ref q4, .null]))]) [0] (by decide) rfl
  have hK := hK.sub (tys' := []) [] rfl
  refine W.widen (k := 5) (n := 49) (by decide) (by decide) ?_
  refine va_putF (D := (dC, dI)) (ci := 9) (v := .ref q5) (ty := .array .int) (C := RX9) (T := TX9) (N := 6) hx hb hts hiX9 tyX9 tyX9_ok nmX9 hown hK hP hD hS 0 rfl rfl 5 (by decide) hw11 (fun _ h9 => h9) rfl hin rfl (by decide +kernel) rfl rfl (Nat.le_of_ble_eq_true rfl) dX9_init_42 (fun H locs hP hD hS => ?_)
  have hP : va_P (dC, dI) vwCl [(h0, .inr (9, [.ref q1, .int 0, .ref q2, .ref q3, .ref q4, .ref q5]))] H := hP
  have hD : va_D A [(h0, .inr (9, [.ref q1, .int 0, .ref q2, .ref q3, .ref q4, .ref q5]))] := hD
  have hP9 := hP.sub (ws' := [(h0, .inr (9, [.ref q1, .int 0, .ref q2, .ref q3, .ref q4, .ref q5]))]) [0] rfl
  have hD9 := hD.sub (ws' := [(h0, .inr (9, [.ref q1, .int 0, .ref q2, .ref q3, .ref q4, .ref q5]))]) [0] (by decide) rfl
  have hK9 := hK.sub (tys' := []) [] rfl
  refine W.widen (k := 5) (n := 49) (by decide) (by decide) ?_
  exact W.vret hx hb hr (fun t ht hW => ⟨⟨(), rfl, trivial, ⟨q1, q2, q3, q4, q5, ⟨by rw [ht]; exact hP9, va_K.moved hW.alike hK9, hD9⟩⟩⟩, hS.F ht⟩) hS.2.2 dX9_init_45
set_option maxHeartbeats 4000000 in
set_option maxRecDepth 100000 in
/-- Rules() -/
theorem c_Rules_init (l : Launch) (hl0 : l.stackTraces = false) (dC : Nat → ClassId) (dI : Nat → Nat → Nat) (A0 : Nat → Prop) (ad : Nat → Nat) (sz : Nat) (h0 : Nat) (hA0 : ∀ q, va_A [(h0, .inr (5, [.null, .null]))] sz q → A0 q) : Met l yX5_init wsX5_init ({ frames := 1, cells := 2, slots := 34, locals := 12 }) (va_Pc [.ref h0] (zPc A0 ad (dC, dI) [(h0, .inr (5, [.null, .null]))] [] sz)) (va_Qv (fun (_ : Unit) => True) (fun (_ : Unit) (t : State) => ∃ (q1 : Nat), ∃ (k1 : ClassId), ∃ (q2 : Nat), ∃ (k2 : ClassId), ∃ (fp : Nat → Int32), zB (dC, dI) (va_A [(h0, .inr (5, [.null, .null]))] sz) [(h0, .inr (5, [.ref q1, .ref q2])), (q1, .inl (k1, 4, .inl (upd (upd (upd (upd (fun _ => 0) (0 : Int32).toNatClampNeg 10) (1 : Int32).toNatClampNeg 50) (2 : Int32).toNatClampNeg 10000) (3 : Int32).toNatClampNeg 14))), (q2, .inl (k2, 30, .inl fp))] [(k1, .int), (k2, .int)] t) (va_A [(h0, .inr (5, [.null, .null]))] sz)) 2 34 (va_A [(h0, .inr (5, [.null, .null]))] sz) := by
  refine Met.ofW (cc := cX5_init) (maxL := 2) (ret := none) (by decide) rfl ?_
  intro p e s m args below meth c s₁ B hml hv
  obtain ⟨rfl, hsz, hz, hP, hK, hD0⟩ := hv
  have hx := B.exec
  have hb := B.bytes
  have hr := B.returns
  have hts := atoms_spec (ws := wsX5_init) B.pre
  have hown : s.vm.findClass RX5 = some m.cls := findClass_of_methodNamed B.named
  have hlocks := B.notSynchronized
  have hin : meth.name = "<init>" := (name_of_methodNamed B.named B.method).1
  subst hsz
  have hD := hD0.self (sz := s.heap.size)
  generalize hAe : va_A [(h0, .inr (5, [.null, .null]))] s.heap.size = A at hD hA0 ⊢
  have hA : ∀ q : Nat, s.heap.size ≤ q → A q := fun q h => by rw [← hAe]; exact Or.inr h
  have hS : va_S A s.heap s.heap [] := va_S.rf
  have hl := lv_entry ([.ref h0]) (n := 2) (Nat.le_of_ble_eq_true rfl)
  rw [lg_entry_eq]
  generalize (lg_sl ([.ref h0]) ++ List.replicate (2 - (lg_sl ([.ref h0])).length) Slot.unset).toArray = ls at hl ⊢
  have hl : lv_has ls 2 [(0, .ref h0)] := hl
  have hP : va_P (dC, dI) vwCl [(h0, .inr (5, [.null, .null]))] s.heap := hP
  have hw0 := hts (.methodLink RX5 3 objectInit) (by decide +kernel)
  have hw1 := hts (.instanceMethod objectInit) (by decide +kernel)
  have hw2 := hts (.code objectInit ⟨#[0xb1]⟩ 1 none) (by decide +kernel)
  have hw3 := hts (.arrayClass .int) (by decide +kernel)
  have hiX5 : ∀ w ∈ u_ws RX5 TX5 2, w ∈ wsX5_init := fun _ h => List.mem_cons_of_mem _ (List.mem_append_right _ h)
  have hw5 := hts (.fieldLink RX5 9 "PostHouse$Rules" "numbers" "[I") (by decide +kernel)
  have hw6 := hts (.fieldLink RX5 15 "PostHouse$Rules" "places" "[I") (by decide +kernel)
  refine lv_aload_n hx hb dX5_init_0 rfl (lv_at hl 0 rfl) ?_
  refine W.objInit hx hb hown hw0 hw1 hw2 rfl (by rw [hml]; exact hl.1) rfl dX5_init_1 (Nat.le_of_ble_eq_true rfl) (Nat.le_of_ble_eq_true rfl) ?_
  refine W.eq (g2 := F0 m 4 ls []) rfl ?_
  refine lv_aload_n hx hb dX5_init_4 rfl (lv_at hl 0 rfl) ?_
  refine lv_iconst (v := 4) hx hb dX5_init_5 (by decide) ?_
  refine va_newa (D := (dC, dI)) (atype := .int) (N' := 4) (a0 := (4, .inl (fun _ => 0))) (ty := .int) hx hb hw3 rfl hK hP hD hS hA (zNew_I 4) (by decide) (by decide) (by decide) (Nat.le_of_ble_eq_true rfl) (Nat.le_of_ble_eq_true rfl) dX5_init_6 (fun q1 cq1 H hK hP hD hS => ?_)
  have hP : va_P (dC, dI) vwCl [(h0, .inr (5, [.null, .null])), (q1, .inl (cq1, 4, .inl (fun _ => 0)))] H := hP
  have hD : va_D A [(h0, .inr (5, [.null, .null])), (q1, .inl (cq1, 4, .inl (fun _ => 0)))] := hD
  have hK : va_K (dC, dI) vwCl [(cq1, .int)] s := hK
  refine W.widen (k := 1) (n := 4) (by decide) (by decide) ?_
  refine lv_dup hx hb dX5_init_8 rfl ?_
  refine lv_iconst (v := 0) hx hb dX5_init_9 (by decide) ?_
  refine lv_bipush (v := 10) hx hb dX5_init_10 (by decide) ?_
  refine va_iast (D := (dC, dI)) hx hb hK hP hD hS 1 0 rfl rfl (zIn (by decide) (by decide)) dX5_init_12 (fun H locs hP hD hS => ?_)
  have hP : va_P (dC, dI) vwCl [(h0, .inr (5, [.null, .null])), (q1, .inl (cq1, 4, .inl (upd (fun _ => 0) (0 : Int32).toNatClampNeg 10)))] H := hP
  have hD : va_D A [(h0, .inr (5, [.null, .null])), (q1, .inl (cq1, 4, .inl (upd (fun _ => 0) (0 : Int32).toNatClampNeg 10)))] := hD
  refine lv_dup hx hb dX5_init_13 rfl ?_
  refine lv_iconst (v := 1) hx hb dX5_init_14 (by decide) ?_
  refine lv_bipush (v := 50) hx hb dX5_init_15 (by decide) ?_
  refine va_iast (D := (dC, dI)) hx hb hK hP hD hS 1 0 rfl rfl (zIn (by decide) (by decide)) dX5_init_17 (fun H locs hP hD hS => ?_)
  have hP : va_P (dC, dI) vwCl [(h0, .inr (5, [.null, .null])), (q1, .inl (cq1, 4, .inl (upd (upd (fun _ => 0) (0 : Int32).toNatClampNeg 10) (1 : Int32).toNatClampNeg 50)))] H := hP
  have hD : va_D A [(h0, .inr (5, [.null, .null])), (q1, .inl (cq1, 4, .inl (upd (upd (fun _ => 0) (0 : Int32).toNatClampNeg 10) (1 : Int32).toNatClampNeg 50)))] := hD
  refine lv_dup hx hb dX5_init_18 rfl ?_
  refine lv_iconst (v := 2) hx hb dX5_init_19 (by decide) ?_
  refine lv_sipush (v := 10000) hx hb dX5_init_20 (by decide) ?_
  refine va_iast (D := (dC, dI)) hx hb hK hP hD hS 1 0 rfl rfl (zIn (by decide) (by decide)) dX5_init_23 (fun H locs hP hD hS => ?_)
  have hP : va_P (dC, dI) vwCl [(h0, .inr (5, [.null, .null])), (q1, .inl (cq1, 4, .inl (upd (upd (upd (fun _ => 0) (0 : Int32).toNatClampNeg 10) (1 : Int32).toNatClampNeg 50) (2 : Int32).toNatClampNeg 10000)))] H := hP
  have hD : va_D A [(h0, .inr (5, [.null, .null])), (q1, .inl (cq1, 4, .inl (upd (upd (upd (fun _ => 0) (0 : Int32).toNatClampNeg 10) (1 : Int32).toNatClampNeg 50) (2 : Int32).toNatClampNeg 10000)))] := hD
  refine lv_dup hx hb dX5_init_24 rfl ?_
  refine lv_iconst (v := 3) hx hb dX5_init_25 (by decide) ?_
  refine lv_bipush (v := 14) hx hb dX5_init_26 (by decide) ?_
  refine va_iast (D := (dC, dI)) hx hb hK hP hD hS 1 0 rfl rfl (zIn (by decide) (by decide)) dX5_init_28 (fun H locs hP hD hS => ?_)
  have hP : va_P (dC, dI) vwCl [(h0, .inr (5, [.null, .null])), (q1, .inl (cq1, 4, .inl (upd (upd (upd (upd (fun _ => 0) (0 : Int32).toNatClampNeg 10) (1 : Int32).toNatClampNeg 50) (2 : Int32).toNatClampNeg 10000) (3 : Int32).toNatClampNeg 14)))] H := hP
  have hD : va_D A [(h0, .inr (5, [.null, .null])), (q1, .inl (cq1, 4, .inl (upd (upd (upd (upd (fun _ => 0) (0 : Int32).toNatClampNeg 10) (1 : Int32).toNatClampNeg 50) (2 : Int32).toNatClampNeg 10000) (3 : Int32).toNatClampNeg 14)))] := hD
  refine va_putF (D := (dC, dI)) (ci := 5) (v := .ref q1) (ty := .array .int) (C := RX5) (T := TX5) (N := 2) hx hb hts hiX5 tyX5 tyX5_ok nmX5 hown hK hP hD hS 0 rfl rfl 0 (by decide) hw5 (fun _ h9 => h9) rfl hin rfl (by decide +kernel) rfl rfl (Nat.le_of_ble_eq_true rfl) dX5_init_29 (fun H locs hP hD hS => ?_)
  have hP : va_P (dC, dI) vwCl [(h0, .inr (5, [.ref q1, .null])), (q1, .inl (cq1, 4, .inl (upd (upd (upd (upd (fun _ => 0) (0 : Int32).toNatClampNeg 10) (1 : Int32).toNatClampNeg 50) (2 : Int32).toNatClampNeg 10000) (3 : Int32).toNatClampNeg 14)))] H := hP
  have hD : va_D A [(h0, .inr (5, [.ref q1, .null])), (q1, .inl (cq1, 4, .inl (upd (upd (upd (upd (fun _ => 0) (0 : Int32).toNatClampNeg 10) (1 : Int32).toNatClampNeg 50) (2 : Int32).toNatClampNeg 10000) (3 : Int32).toNatClampNeg 14)))] := hD
  refine lv_aload_n hx hb dX5_init_32 rfl (lv_at hl 0 rfl) ?_
  refine lv_bipush (v := 30) hx hb dX5_init_33 (by decide) ?_
  refine va_newa (D := (dC, dI)) (atype := .int) (N' := 30) (a0 := (30, .inl (fun _ => 0))) (ty := .int) hx hb hw3 rfl hK hP hD hS hA (zNew_I 30) (by decide) (by decide) (by decide) (Nat.le_of_ble_eq_true rfl) (Nat.le_of_ble_eq_true rfl) dX5_init_35 (fun q2 cq2 H hK hP hD hS => ?_)
  have hP : va_P (dC, dI) vwCl [(h0, .inr (5, [.ref q1, .null])), (q1, .inl (cq1, 4, .inl (upd (upd (upd (upd (fun _ => 0) (0 : Int32).toNatClampNeg 10) (1 : Int32).toNatClampNeg 50) (2 : Int32).toNatClampNeg 10000) (3 : Int32).toNatClampNeg 14))), (q2, .inl (cq2, 30, .inl (fun _ => 0)))] H := hP
  have hD : va_D A [(h0, .inr (5, [.ref q1, .null])), (q1, .inl (cq1, 4, .inl (upd (upd (upd (upd (fun _ => 0) (0 : Int32).toNatClampNeg 10) (1 : Int32).toNatClampNeg 50) (2 : Int32).toNatClampNeg 10000) (3 : Int32).toNatClampNeg 14))), (q2, .inl (cq2, 30, .inl (fun _ => 0)))] := hD
  have hK : va_K (dC, dI) vwCl [(cq1, .int), (cq2, .int)] s := hK
  refine W.widen (k := 2) (n := 34) (by decide) (by decide) ?_
  refine va_putF (D := (dC, dI)) (ci := 5) (v := .ref q2) (ty := .array .int) (C := RX5) (T := TX5) (N := 2) hx hb hts hiX5 tyX5 tyX5_ok nmX5 hown hK hP hD hS 0 rfl rfl 1 (by decide) hw6 (fun _ h9 => h9) rfl hin rfl (by decide +kernel) rfl rfl (Nat.le_of_ble_eq_true rfl) dX5_init_37 (fun H locs hP hD hS => ?_)
  have hP : va_P (dC, dI) vwCl [(h0, .inr (5, [.ref q1, .ref q2])), (q1, .inl (cq1, 4, .inl (upd (upd (upd (upd (fun _ => 0) (0 : Int32).toNatClampNeg 10) (1 : Int32).toNatClampNeg 50) (2 : Int32).toNatClampNeg 10000) (3 : Int32).toNatClampNeg 14))), (q2, .inl (cq2, 30, .inl (fun _ => 0)))] H := hP
  have hD : va_D A [(h0, .inr (5, [.ref q1, .ref q2])), (q1, .inl (cq1, 4, .inl (upd (upd (upd (upd (fun _ => 0) (0 : Int32).toNatClampNeg 10) (1 : Int32).toNatClampNeg 50) (2 : Int32).toNatClampNeg 10000) (3 : Int32).toNatClampNeg 14))), (q2, .inl (cq2, 30, .inl (fun _ => 0)))] := hD
  refine lv_iconst (v := 0) hx hb dX5_init_40 (by decide) ?_
  refine lv_istore_n (lv' := [(1, .int 0), (0, .ref h0)]) hx hb dX5_init_41 rfl hl (by decide) rfl (fun ls hl => ?_)
  refine lv_iload_n hx hb dX5_init_42 rfl (lv_at hl 0 rfl) ?_
  refine lv_bipush (v := 30) hx hb dX5_init_43 (by decide) ?_
  refine lv_icmp_ge (tgt := 61) hx hb dX5_init_45 (by decide) (fun c3 => absurd c3 (by decide)) (fun c3 => ?_)
  refine lv_aload_n hx hb dX5_init_48 rfl (lv_at hl 1 rfl) ?_
  refine va_get (D := (dC, dI)) (ci := 5) (v := .ref q2) (C := RX5) (T := TX5) (N := 2) hx hb hts hiX5 hown hK hP 0 rfl rfl 1 (by decide) hw6 (fun _ h9 => h9) rfl dX5_init_49 ?_
  refine lv_iload_n hx hb dX5_init_52 rfl (lv_at hl 0 rfl) ?_
  refine lv_iconst (v := (-1)) hx hb dX5_init_53 (by decide) ?_
  refine va_iast (D := (dC, dI)) hx hb hK hP hD hS 2 1 rfl rfl (zIn (by decide) (by decide)) dX5_init_54 (fun H locs hP hD hS => ?_)
  have hP : va_P (dC, dI) vwCl [(h0, .inr (5, [.ref q1, .ref q2])), (q1, .inl (cq1, 4, .inl (upd (upd (upd (upd (fun _ => 0) (0 : Int32).toNatClampNeg 10) (1 : Int32).toNatClampNeg 50) (2 : Int32).toNatClampNeg 10000) (3 : Int32).toNatClampNeg 14))), (q2, .inl (cq2, 30, .inl (upd (fun _ => 0) (0 : Int32).toNatClampNeg ((-1)))))] H := hP
  have hD : va_D A [(h0, .inr (5, [.ref q1, .ref q2])), (q1, .inl (cq1, 4, .inl (upd (upd (upd (upd (fun _ => 0) (0 : Int32).toNatClampNeg 10) (1 : Int32).toNatClampNeg 50) (2 : Int32).toNatClampNeg 10000) (3 : Int32).toNatClampNeg 14))), (q2, .inl (cq2, 30, .inl (upd (fun _ => 0) (0 : Int32).toNatClampNeg ((-1)))))] := hD
  generalize (upd (fun _ => 0) (0 : Int32).toNatClampNeg ((-1))) = f4 at hP hD
  refine lv_iinc (v := 1) (lv' := [(1, .int 1), (0, .ref h0)]) hx hb dX5_init_55 hl (k := 0) rfl (by decide) (by decide) rfl (fun ls hl => ?_)
  refine lv_goto (tgt := 42) hx hb dX5_init_58 (by decide) ?_
  refine lv_iload_n hx hb dX5_init_42 rfl (lv_at hl 0 rfl) ?_
  refine lv_bipush (v := 30) hx hb dX5_init_43 (by decide) ?_
  refine lv_icmp_ge (tgt := 61) hx hb dX5_init_45 (by decide) (fun c5 => absurd c5 (by decide)) (fun c5 => ?_)
  refine lv_aload_n hx hb dX5_init_48 rfl (lv_at hl 1 rfl) ?_
  refine va_get (D := (dC, dI)) (ci := 5) (v := .ref q2) (C := RX5) (T := TX5) (N := 2) hx hb hts hiX5 hown hK hP 0 rfl rfl 1 (by decide) hw6 (fun _ h9 => h9) rfl dX5_init_49 ?_
  refine lv_iload_n hx hb dX5_init_52 rfl (lv_at hl 0 rfl) ?_
  refine lv_iconst (v := (-1)) hx hb dX5_init_53 (by decide) ?_
  refine va_iast (D := (dC, dI)) hx hb hK hP hD hS 2 1 rfl rfl (zIn (by decide) (by decide)) dX5_init_54 (fun H locs hP hD hS => ?_)
  have hP : va_P (dC, dI) vwCl [(h0, .inr (5, [.ref q1, .ref q2])), (q1, .inl (cq1, 4, .inl (upd (upd (upd (upd (fun _ => 0) (0 : Int32).toNatClampNeg 10) (1 : Int32).toNatClampNeg 50) (2 : Int32).toNatClampNeg 10000) (3 : Int32).toNatClampNeg 14))), (q2, .inl (cq2, 30, .inl (upd f4 (1 : Int32).toNatClampNeg ((-1)))))] H := hP
  have hD : va_D A [(h0, .inr (5, [.ref q1, .ref q2])), (q1, .inl (cq1, 4, .inl (upd (upd (upd (upd (fun _ => 0) (0 : Int32).toNatClampNeg 10) (1 : Int32).toNatClampNeg 50) (2 : Int32).toNatClampNeg 10000) (3 : Int32).toNatClampNeg 14))), (q2, .inl (cq2, 30, .inl (upd f4 (1 : Int32).toNatClampNeg ((-1)))))] := hD
  generalize (upd f4 (1 : Int32).toNatClampNeg ((-1))) = f6 at hP hD
  refine lv_iinc (v := 2) (lv' := [(1, .int 2), (0, .ref h0)]) hx hb dX5_init_55 hl (k := 0) rfl (by decide) (by decide) rfl (fun ls hl => ?_)
  refine lv_goto (tgt := 42) hx hb dX5_init_58 (by decide) ?_
  refine lv_iload_n hx hb dX5_init_42 rfl (lv_at hl 0 rfl) ?_
  refine lv_bipush (v := 30) hx hb dX5_init_43 (by decide) ?_
  refine lv_icmp_ge (tgt := 61) hx hb dX5_init_45 (by decide) (fun c7 => absurd c7 (by decide)) (fun c7 => ?_)
  refine lv_aload_n hx hb dX5_init_48 rfl (lv_at hl 1 rfl) ?_
  refine va_get (D := (dC, dI)) (ci := 5) (v := .ref q2) (C := RX5) (T := TX5) (N := 2) hx hb hts hiX5 hown hK hP 0 rfl rfl 1 (by decide) hw6 (fun _ h9 => h9) rfl dX5_init_49 ?_
  refine lv_iload_n hx hb dX5_init_52 rfl (lv_at hl 0 rfl) ?_
  refine lv_iconst (v := (-1)) hx hb dX5_init_53 (by decide) ?_
  refine va_iast (D := (dC, dI)) hx hb hK hP hD hS 2 1 rfl rfl (zIn (by decide) (by decide)) dX5_init_54 (fun H locs hP hD hS => ?_)
  have hP : va_P (dC, dI) vwCl [(h0, .inr (5, [.ref q1, .ref q2])), (q1, .inl (cq1, 4, .inl (upd (upd (upd (upd (fun _ => 0) (0 : Int32).toNatClampNeg 10) (1 : Int32).toNatClampNeg 50) (2 : Int32).toNatClampNeg 10000) (3 : Int32).toNatClampNeg 14))), (q2, .inl (cq2, 30, .inl (upd f6 (2 : Int32).toNatClampNeg ((-1)))))] H := hP
  have hD : va_D A [(h0, .inr (5, [.ref q1, .ref q2])), (q1, .inl (cq1, 4, .inl (upd (upd (upd (upd (fun _ => 0) (0 : Int32).toNatClampNeg 10) (1 : Int32).toNatClampNeg 50) (2 : Int32).toNatClampNeg 10000) (3 : Int32).toNatClampNeg 14))), (q2, .inl (cq2, 30, .inl (upd f6 (2 : Int32).toNatClampNeg ((-1)))))] := hD
  generalize (upd f6 (2 : Int32).toNatClampNeg ((-1))) = f8 at hP hD
  refine lv_iinc (v := 3) (lv' := [(1, .int 3), (0, .ref h0)]) hx hb dX5_init_55 hl (k := 0) rfl (by decide) (by decide) rfl (fun ls hl => ?_)
  refine lv_goto (tgt := 42) hx hb dX5_init_58 (by decide) ?_
  refine lv_iload_n hx hb dX5_init_42 rfl (lv_at hl 0 rfl) ?_
  refine lv_bipush (v := 30) hx hb dX5_init_43 (by decide) ?_
  refine lv_icmp_ge (tgt := 61) hx hb dX5_init_45 (by decide) (fun c9 => absurd c9 (by decide)) (fun c9 => ?_)
  refine lv_aload_n hx hb dX5_init_48 rfl (lv_at hl 1 rfl) ?_
  refine va_get (D := (dC, dI)) (ci := 5) (v := .ref q2) (C := RX5) (T := TX5) (N := 2) hx hb hts hiX5 hown hK hP 0 rfl rfl 1 (by decide) hw6 (fun _ h9 => h9) rfl dX5_init_49 ?_
  refine lv_iload_n hx hb dX5_init_52 rfl (lv_at hl 0 rfl) ?_
  refine lv_iconst (v := (-1)) hx hb dX5_init_53 (by decide) ?_
  refine va_iast (D := (dC, dI)) hx hb hK hP hD hS 2 1 rfl rfl (zIn (by decide) (by decide)) dX5_init_54 (fun H locs hP hD hS => ?_)
  have hP : va_P (dC, dI) vwCl [(h0, .inr (5, [.ref q1, .ref q2])), (q1, .inl (cq1, 4, .inl (upd (upd (upd (upd (fun _ => 0) (0 : Int32).toNatClampNeg 10) (1 : Int32).toNatClampNeg 50) (2 : Int32).toNatClampNeg 10000) (3 : Int32).toNatClampNeg 14))), (q2, .inl (cq2, 30, .inl (upd f8 (3 : Int32).toNatClampNeg ((-1)))))] H := hP
  have hD : va_D A [(h0, .inr (5, [.ref q1, .ref q2])), (q1, .inl (cq1, 4, .inl (upd (upd (upd (upd (fun _ => 0) (0 : Int32).toNatClampNeg 10) (1 : Int32).toNatClampNeg 50) (2 : Int32).toNatClampNeg 10000) (3 : Int32).toNatClampNeg 14))), (q2, .inl (cq2, 30, .inl (upd f8 (3 : Int32).toNatClampNeg ((-1)))))] := hD
  generalize (upd f8 (3 : Int32).toNatClampNeg ((-1))) = f10 at hP hD
  refine lv_iinc (v := 4) (lv' := [(1, .int 4), (0, .ref h0)]) hx hb dX5_init_55 hl (k := 0) rfl (by decide) (by decide) rfl (fun ls hl => ?_)
  refine lv_goto (tgt := 42) hx hb dX5_init_58 (by decide) ?_
  refine lv_iload_n hx hb dX5_init_42 rfl (lv_at hl 0 rfl) ?_
  refine lv_bipush (v := 30) hx hb dX5_init_43 (by decide) ?_
  refine lv_icmp_ge (tgt := 61) hx hb dX5_init_45 (by decide) (fun c11 => absurd c11 (by decide)) (fun c11 => ?_)
  refine lv_aload_n hx hb dX5_init_48 rfl (lv_at hl 1 rfl) ?_
  refine va_get (D := (dC, dI)) (ci := 5) (v := .ref q2) (C := RX5) (T := TX5) (N := 2) hx hb hts hiX5 hown hK hP 0 rfl rfl 1 (by decide) hw6 (fun _ h9 => h9) rfl dX5_init_49 ?_
  refine lv_iload_n hx hb dX5_init_52 rfl (lv_at hl 0 rfl) ?_
  refine lv_iconst (v := (-1)) hx hb dX5_init_53 (by decide) ?_
  refine va_iast (D := (dC, dI)) hx hb hK hP hD hS 2 1 rfl rfl (zIn (by decide) (by decide)) dX5_init_54 (fun H locs hP hD hS => ?_)
  have hP : va_P (dC, dI) vwCl [(h0, .inr (5, [.ref q1, .ref q2])), (q1, .inl (cq1, 4, .inl (upd (upd (upd (upd (fun _ => 0) (0 : Int32).toNatClampNeg 10) (1 : Int32).toNatClampNeg 50) (2 : Int32).toNatClampNeg 10000) (3 : Int32).toNatClampNeg 14))), (q2, .inl (cq2, 30, .inl (upd f10 (4 : Int32).toNatClampNeg ((-1)))))] H := hP
  have hD : va_D A [(h0, .inr (5, [.ref q1, .ref q2])), (q1, .inl (cq1, 4, .inl (upd (upd (upd (upd (fun _ => 0) (0 : Int32).toNatClampNeg 10) (1 : Int32).toNatClampNeg 50) (2 : Int32).toNatClampNeg 10000) (3 : Int32).toNatClampNeg 14))), (q2, .inl (cq2, 30, .inl (upd f10 (4 : Int32).toNatClampNeg ((-1)))))] := hD
  generalize (upd f10 (4 : Int32).toNatClampNeg ((-1))) = f12 at hP hD
  refine lv_iinc (v := 5) (lv' := [(1, .int 5), (0, .ref h0)]) hx hb dX5_init_55 hl (k := 0) rfl (by decide) (by decide) rfl (fun ls hl => ?_)
  refine lv_goto (tgt := 42) hx hb dX5_init_58 (by decide) ?_
  refine lv_iload_n hx hb dX5_init_42 rfl (lv_at hl 0 rfl) ?_
  refine lv_bipush (v := 30) hx hb dX5_init_43 (by decide) ?_
  refine lv_icmp_ge (tgt := 61) hx hb dX5_init_45 (by decide) (fun c13 => absurd c13 (by decide)) (fun c13 => ?_)
  refine lv_aload_n hx hb dX5_init_48 rfl (lv_at hl 1 rfl) ?_
  refine va_get (D := (dC, dI)) (ci := 5) (v := .ref q2) (C := RX5) (T := TX5) (N := 2) hx hb hts hiX5 hown hK hP 0 rfl rfl 1 (by decide) hw6 (fun _ h9 => h9) rfl dX5_init_49 ?_
  refine lv_iload_n hx hb dX5_init_52 rfl (lv_at hl 0 rfl) ?_
  refine lv_iconst (v := (-1)) hx hb dX5_init_53 (by decide) ?_
  refine va_iast (D := (dC, dI)) hx hb hK hP hD hS 2 1 rfl rfl (zIn (by decide) (by decide)) dX5_init_54 (fun H locs hP hD hS => ?_)
  have hP : va_P (dC, dI) vwCl [(h0, .inr (5, [.ref q1, .ref q2])), (q1, .inl (cq1, 4, .inl (upd (upd (upd (upd (fun _ => 0) (0 : Int32).toNatClampNeg 10) (1 : Int32).toNatClampNeg 50) (2 : Int32).toNatClampNeg 10000) (3 : Int32).toNatClampNeg 14))), (q2, .inl (cq2, 30, .inl (upd f12 (5 : Int32).toNatClampNeg ((-1)))))] H := hP
  have hD : va_D A [(h0, .inr (5, [.ref q1, .ref q2])), (q1, .inl (cq1, 4, .inl (upd (upd (upd (upd (fun _ => 0) (0 : Int32).toNatClampNeg 10) (1 : Int32).toNatClampNeg 50) (2 : Int32).toNatClampNeg 10000) (3 : Int32).toNatClampNeg 14))), (q2, .inl (cq2, 30, .inl (upd f12 (5 : Int32).toNatClampNeg ((-1)))))] := hD
  generalize (upd f12 (5 : Int32).toNatClampNeg ((-1))) = f14 at hP hD
  refine lv_iinc (v := 6) (lv' := [(1, .int 6), (0, .ref h0)]) hx hb dX5_init_55 hl (k := 0) rfl (by decide) (by decide) rfl (fun ls hl => ?_)
  refine lv_goto (tgt := 42) hx hb dX5_init_58 (by decide) ?_
  refine lv_iload_n hx hb dX5_init_42 rfl (lv_at hl 0 rfl) ?_
  refine lv_bipush (v := 30) hx hb dX5_init_43 (by decide) ?_
  refine lv_icmp_ge (tgt := 61) hx hb dX5_init_45 (by decide) (fun c15 => absurd c15 (by decide)) (fun c15 => ?_)
  refine lv_aload_n hx hb dX5_init_48 rfl (lv_at hl 1 rfl) ?_
  refine va_get (D := (dC, dI)) (ci := 5) (v := .ref q2) (C := RX5) (T := TX5) (N := 2) hx hb hts hiX5 hown hK hP 0 rfl rfl 1 (by decide) hw6 (fun _ h9 => h9) rfl dX5_init_49 ?_
  refine lv_iload_n hx hb dX5_init_52 rfl (lv_at hl 0 rfl) ?_
  refine lv_iconst (v := (-1)) hx hb dX5_init_53 (by decide) ?_
  refine va_iast (D := (dC, dI)) hx hb hK hP hD hS 2 1 rfl rfl (zIn (by decide) (by decide)) dX5_init_54 (fun H locs hP hD hS => ?_)
  have hP : va_P (dC, dI) vwCl [(h0, .inr (5, [.ref q1, .ref q2])), (q1, .inl (cq1, 4, .inl (upd (upd (upd (upd (fun _ => 0) (0 : Int32).toNatClampNeg 10) (1 : Int32).toNatClampNeg 50) (2 : Int32).toNatClampNeg 10000) (3 : Int32).toNatClampNeg 14))), (q2, .inl (cq2, 30, .inl (upd f14 (6 : Int32).toNatClampNeg ((-1)))))] H := hP
  have hD : va_D A [(h0, .inr (5, [.ref q1, .ref q2])), (q1, .inl (cq1, 4, .inl (upd (upd (upd (upd (fun _ => 0) (0 : Int32).toNatClampNeg 10) (1 : Int32).toNatClampNeg 50) (2 : Int32).toNatClampNeg 10000) (3 : Int32).toNatClampNeg 14))), (q2, .inl (cq2, 30, .inl (upd f14 (6 : Int32).toNatClampNeg ((-1)))))] := hD
  generalize (upd f14 (6 : Int32).toNatClampNeg ((-1))) = f16 at hP hD
  refine lv_iinc (v := 7) (lv' := [(1, .int 7), (0, .ref h0)]) hx hb dX5_init_55 hl (k := 0) rfl (by decide) (by decide) rfl (fun ls hl => ?_)
  refine lv_goto (tgt := 42) hx hb dX5_init_58 (by decide) ?_
  refine lv_iload_n hx hb dX5_init_42 rfl (lv_at hl 0 rfl) ?_
  refine lv_bipush (v := 30) hx hb dX5_init_43 (by decide) ?_
  refine lv_icmp_ge (tgt := 61) hx hb dX5_init_45 (by decide) (fun c17 => absurd c17 (by decide)) (fun c17 => ?_)
  refine lv_aload_n hx hb dX5_init_48 rfl (lv_at hl 1 rfl) ?_
  refine va_get (D := (dC, dI)) (ci := 5) (v := .ref q2) (C := RX5) (T := TX5) (N := 2) hx hb hts hiX5 hown hK hP 0 rfl rfl 1 (by decide) hw6 (fun _ h9 => h9) rfl dX5_init_49 ?_
  refine lv_iload_n hx hb dX5_init_52 rfl (lv_at hl 0 rfl) ?_
  refine lv_iconst (v := (-1)) hx hb dX5_init_53 (by decide) ?_
  refine va_iast (D := (dC, dI)) hx hb hK hP hD hS 2 1 rfl rfl (zIn (by decide) (by decide)) dX5_init_54 (fun H locs hP hD hS => ?_)
  have hP : va_P (dC, dI) vwCl [(h0, .inr (5, [.ref q1, .ref q2])), (q1, .inl (cq1, 4, .inl (upd (upd (upd (upd (fun _ => 0) (0 : Int32).toNatClampNeg 10) (1 : Int32).toNatClampNeg 50) (2 : Int32).toNatClampNeg 10000) (3 : Int32).toNatClampNeg 14))), (q2, .inl (cq2, 30, .inl (upd f16 (7 : Int32).toNatClampNeg ((-1)))))] H := hP
  have hD : va_D A [(h0, .inr (5, [.ref q1, .ref q2])), (q1, .inl (cq1, 4, .inl (upd (upd (upd (upd (fun _ => 0) (0 : Int32).toNatClampNeg 10) (1 : Int32).toNatClampNeg 50) (2 : Int32).toNatClampNeg 10000) (3 : Int32).toNatClampNeg 14))), (q2, .inl (cq2, 30, .inl (upd f16 (7 : Int32).toNatClampNeg ((-1)))))] := hD
  generalize (upd f16 (7 : Int32).toNatClampNeg ((-1))) = f18 at hP hD
  refine lv_iinc (v := 8) (lv' := [(1, .int 8), (0, .ref h0)]) hx hb dX5_init_55 hl (k := 0) rfl (by decide) (by decide) rfl (fun ls hl => ?_)
  refine lv_goto (tgt := 42) hx hb dX5_init_58 (by decide) ?_
  refine lv_iload_n hx hb dX5_init_42 rfl (lv_at hl 0 rfl) ?_
  refine lv_bipush (v := 30) hx hb dX5_init_43 (by decide) ?_
  refine lv_icmp_ge (tgt := 61) hx hb dX5_init_45 (by decide) (fun c19 => absurd c19 (by decide)) (fun c19 => ?_)
  refine lv_aload_n hx hb dX5_init_48 rfl (lv_at hl 1 rfl) ?_
  refine va_get (D := (dC, dI)) (ci := 5) (v := .ref q2) (C := RX5) (T := TX5) (N := 2) hx hb hts hiX5 hown hK hP 0 rfl rfl 1 (by decide) hw6 (fun _ h9 => h9) rfl dX5_init_49 ?_
  refine lv_iload_n hx hb dX5_init_52 rfl (lv_at hl 0 rfl) ?_
  refine lv_iconst (v := (-1)) hx hb dX5_init_53 (by decide) ?_
  refine va_iast (D := (dC, dI)) hx hb hK hP hD hS 2 1 rfl rfl (zIn (by decide) (by decide)) dX5_init_54 (fun H locs hP hD hS => ?_)
  have hP : va_P (dC, dI) vwCl [(h0, .inr (5, [.ref q1, .ref q2])), (q1, .inl (cq1, 4, .inl (upd (upd (upd (upd (fun _ => 0) (0 : Int32).toNatClampNeg 10) (1 : Int32).toNatClampNeg 50) (2 : Int32).toNatClampNeg 10000) (3 : Int32).toNatClampNeg 14))), (q2, .inl (cq2, 30, .inl (upd f18 (8 : Int32).toNatClampNeg ((-1)))))] H := hP
  have hD : va_D A [(h0, .inr (5, [.ref q1, .ref q2])), (q1, .inl (cq1, 4, .inl (upd (upd (upd (upd (fun _ => 0) (0 : Int32).toNatClampNeg 10) (1 : Int32).toNatClampNeg 50) (2 : Int32).toNatClampNeg 10000) (3 : Int32).toNatClampNeg 14))), (q2, .inl (cq2, 30, .inl (upd f18 (8 : Int32).toNatClampNeg ((-1)))))] := hD
  generalize (upd f18 (8 : Int32).toNatClampNeg ((-1))) = f20 at hP hD
  refine lv_iinc (v := 9) (lv' := [(1, .int 9), (0, .ref h0)]) hx hb dX5_init_55 hl (k := 0) rfl (by decide) (by decide) rfl (fun ls hl => ?_)
  refine lv_goto (tgt := 42) hx hb dX5_init_58 (by decide) ?_
  refine lv_iload_n hx hb dX5_init_42 rfl (lv_at hl 0 rfl) ?_
  refine lv_bipush (v := 30) hx hb dX5_init_43 (by decide) ?_
  refine lv_icmp_ge (tgt := 61) hx hb dX5_init_45 (by decide) (fun c21 => absurd c21 (by decide)) (fun c21 => ?_)
  refine lv_aload_n hx hb dX5_init_48 rfl (lv_at hl 1 rfl) ?_
  refine va_get (D := (dC, dI)) (ci := 5) (v := .ref q2) (C := RX5) (T := TX5) (N := 2) hx hb hts hiX5 hown hK hP 0 rfl rfl 1 (by decide) hw6 (fun _ h9 => h9) rfl dX5_init_49 ?_
  refine lv_iload_n hx hb dX5_init_52 rfl (lv_at hl 0 rfl) ?_
  refine lv_iconst (v := (-1)) hx hb dX5_init_53 (by decide) ?_
  refine va_iast (D := (dC, dI)) hx hb hK hP hD hS 2 1 rfl rfl (zIn (by decide) (by decide)) dX5_init_54 (fun H locs hP hD hS => ?_)
  have hP : va_P (dC, dI) vwCl [(h0, .inr (5, [.ref q1, .ref q2])), (q1, .inl (cq1, 4, .inl (upd (upd (upd (upd (fun _ => 0) (0 : Int32).toNatClampNeg 10) (1 : Int32).toNatClampNeg 50) (2 : Int32).toNatClampNeg 10000) (3 : Int32).toNatClampNeg 14))), (q2, .inl (cq2, 30, .inl (upd f20 (9 : Int32).toNatClampNeg ((-1)))))] H := hP
  have hD : va_D A [(h0, .inr (5, [.ref q1, .ref q2])), (q1, .inl (cq1, 4, .inl (upd (upd (upd (upd (fun _ => 0) (0 : Int32).toNatClampNeg 10) (1 : Int32).toNatClampNeg 50) (2 : Int32).toNatClampNeg 10000) (3 : Int32).toNatClampNeg 14))), (q2, .inl (cq2, 30, .inl (upd f20 (9 : Int32).toNatClampNeg ((-1)))))] := hD
  generalize (upd f20 (9 : Int32).toNatClampNeg ((-1))) = f22 at hP hD
  refine lv_iinc (v := 10) (lv' := [(1, .int 10), (0, .ref h0)]) hx hb dX5_init_55 hl (k := 0) rfl (by decide) (by decide) rfl (fun ls hl => ?_)
  refine lv_goto (tgt := 42) hx hb dX5_init_58 (by decide) ?_
  refine lv_iload_n hx hb dX5_init_42 rfl (lv_at hl 0 rfl) ?_
  refine lv_bipush (v := 30) hx hb dX5_init_43 (by decide) ?_
  refine lv_icmp_ge (tgt := 61) hx hb dX5_init_45 (by decide) (fun c23 => absurd c23 (by decide)) (fun c23 => ?_)
  refine lv_aload_n hx hb dX5_init_48 rfl (lv_at hl 1 rfl) ?_
  refine va_get (D := (dC, dI)) (ci := 5) (v := .ref q2) (C := RX5) (T := TX5) (N := 2) hx hb hts hiX5 hown hK hP 0 rfl rfl 1 (by decide) hw6 (fun _ h9 => h9) rfl dX5_init_49 ?_
  refine lv_iload_n hx hb dX5_init_52 rfl (lv_at hl 0 rfl) ?_
  refine lv_iconst (v := (-1)) hx hb dX5_init_53 (by decide) ?_
  refine va_iast (D := (dC, dI)) hx hb hK hP hD hS 2 1 rfl rfl (zIn (by decide) (by decide)) dX5_init_54 (fun H locs hP hD hS => ?_)
  have hP : va_P (dC, dI) vwCl [(h0, .inr (5, [.ref q1, .ref q2])), (q1, .inl (cq1, 4, .inl (upd (upd (upd (upd (fun _ => 0) (0 : Int32).toNatClampNeg 10) (1 : Int32).toNatClampNeg 50) (2 : Int32).toNatClampNeg 10000) (3 : Int32).toNatClampNeg 14))), (q2, .inl (cq2, 30, .inl (upd f22 (10 : Int32).toNatClampNeg ((-1)))))] H := hP
  have hD : va_D A [(h0, .inr (5, [.ref q1, .ref q2])), (q1, .inl (cq1, 4, .inl (upd (upd (upd (upd (fun _ => 0) (0 : Int32).toNatClampNeg 10) (1 : Int32).toNatClampNeg 50) (2 : Int32).toNatClampNeg 10000) (3 : Int32).toNatClampNeg 14))), (q2, .inl (cq2, 30, .inl (upd f22 (10 : Int32).toNatClampNeg ((-1)))))] := hD
  generalize (upd f22 (10 : Int32).toNatClampNeg ((-1))) = f24 at hP hD
  refine lv_iinc (v := 11) (lv' := [(1, .int 11), (0, .ref h0)]) hx hb dX5_init_55 hl (k := 0) rfl (by decide) (by decide) rfl (fun ls hl => ?_)
  refine lv_goto (tgt := 42) hx hb dX5_init_58 (by decide) ?_
  refine lv_iload_n hx hb dX5_init_42 rfl (lv_at hl 0 rfl) ?_
  refine lv_bipush (v := 30) hx hb dX5_init_43 (by decide) ?_
  refine lv_icmp_ge (tgt := 61) hx hb dX5_init_45 (by decide) (fun c25 => absurd c25 (by decide)) (fun c25 => ?_)
  refine lv_aload_n hx hb dX5_init_48 rfl (lv_at hl 1 rfl) ?_
  refine va_get (D := (dC, dI)) (ci := 5) (v := .ref q2) (C := RX5) (T := TX5) (N := 2) hx hb hts hiX5 hown hK hP 0 rfl rfl 1 (by decide) hw6 (fun _ h9 => h9) rfl dX5_init_49 ?_
  refine lv_iload_n hx hb dX5_init_52 rfl (lv_at hl 0 rfl) ?_
  refine lv_iconst (v := (-1)) hx hb dX5_init_53 (by decide) ?_
  refine va_iast (D := (dC, dI)) hx hb hK hP hD hS 2 1 rfl rfl (zIn (by decide) (by decide)) dX5_init_54 (fun H locs hP hD hS => ?_)
  have hP : va_P (dC, dI) vwCl [(h0, .inr (5, [.ref q1, .ref q2])), (q1, .inl (cq1, 4, .inl (upd (upd (upd (upd (fun _ => 0) (0 : Int32).toNatClampNeg 10) (1 : Int32).toNatClampNeg 50) (2 : Int32).toNatClampNeg 10000) (3 : Int32).toNatClampNeg 14))), (q2, .inl (cq2, 30, .inl (upd f24 (11 : Int32).toNatClampNeg ((-1)))))] H := hP
  have hD : va_D A [(h0, .inr (5, [.ref q1, .ref q2])), (q1, .inl (cq1, 4, .inl (upd (upd (upd (upd (fun _ => 0) (0 : Int32).toNatClampNeg 10) (1 : Int32).toNatClampNeg 50) (2 : Int32).toNatClampNeg 10000) (3 : Int32).toNatClampNeg 14))), (q2, .inl (cq2, 30, .inl (upd f24 (11 : Int32).toNatClampNeg ((-1)))))] := hD
  generalize (upd f24 (11 : Int32).toNatClampNeg ((-1))) = f26 at hP hD
  refine lv_iinc (v := 12) (lv' := [(1, .int 12), (0, .ref h0)]) hx hb dX5_init_55 hl (k := 0) rfl (by decide) (by decide) rfl (fun ls hl => ?_)
  refine lv_goto (tgt := 42) hx hb dX5_init_58 (by decide) ?_
  refine lv_iload_n hx hb dX5_init_42 rfl (lv_at hl 0 rfl) ?_
  refine lv_bipush (v := 30) hx hb dX5_init_43 (by decide) ?_
  refine lv_icmp_ge (tgt := 61) hx hb dX5_init_45 (by decide) (fun c27 => absurd c27 (by decide)) (fun c27 => ?_)
  refine lv_aload_n hx hb dX5_init_48 rfl (lv_at hl 1 rfl) ?_
  refine va_get (D := (dC, dI)) (ci := 5) (v := .ref q2) (C := RX5) (T := TX5) (N := 2) hx hb hts hiX5 hown hK hP 0 rfl rfl 1 (by decide) hw6 (fun _ h9 => h9) rfl dX5_init_49 ?_
  refine lv_iload_n hx hb dX5_init_52 rfl (lv_at hl 0 rfl) ?_
  refine lv_iconst (v := (-1)) hx hb dX5_init_53 (by decide) ?_
  refine va_iast (D := (dC, dI)) hx hb hK hP hD hS 2 1 rfl rfl (zIn (by decide) (by decide)) dX5_init_54 (fun H locs hP hD hS => ?_)
  have hP : va_P (dC, dI) vwCl [(h0, .inr (5, [.ref q1, .ref q2])), (q1, .inl (cq1, 4, .inl (upd (upd (upd (upd (fun _ => 0) (0 : Int32).toNatClampNeg 10) (1 : Int32).toNatClampNeg 50) (2 : Int32).toNatClampNeg 10000) (3 : Int32).toNatClampNeg 14))), (q2, .inl (cq2, 30, .inl (upd f26 (12 : Int32).toNatClampNeg ((-1)))))] H := hP
  have hD : va_D A [(h0, .inr (5, [.ref q1, .ref q2])), (q1, .inl (cq1, 4, .inl (upd (upd (upd (upd (fun _ => 0) (0 : Int32).toNatClampNeg 10) (1 : Int32).toNatClampNeg 50) (2 : Int32).toNatClampNeg 10000) (3 : Int32).toNatClampNeg 14))), (q2, .inl (cq2, 30, .inl (upd f26 (12 : Int32).toNatClampNeg ((-1)))))] := hD
  generalize (upd f26 (12 : Int32).toNatClampNeg ((-1))) = f28 at hP hD
  refine lv_iinc (v := 13) (lv' := [(1, .int 13), (0, .ref h0)]) hx hb dX5_init_55 hl (k := 0) rfl (by decide) (by decide) rfl (fun ls hl => ?_)
  refine lv_goto (tgt := 42) hx hb dX5_init_58 (by decide) ?_
  refine lv_iload_n hx hb dX5_init_42 rfl (lv_at hl 0 rfl) ?_
  refine lv_bipush (v := 30) hx hb dX5_init_43 (by decide) ?_
  refine lv_icmp_ge (tgt := 61) hx hb dX5_init_45 (by decide) (fun c29 => absurd c29 (by decide)) (fun c29 => ?_)
  refine lv_aload_n hx hb dX5_init_48 rfl (lv_at hl 1 rfl) ?_
  refine va_get (D := (dC, dI)) (ci := 5) (v := .ref q2) (C := RX5) (T := TX5) (N := 2) hx hb hts hiX5 hown hK hP 0 rfl rfl 1 (by decide) hw6 (fun _ h9 => h9) rfl dX5_init_49 ?_
  refine lv_iload_n hx hb dX5_init_52 rfl (lv_at hl 0 rfl) ?_
  refine lv_iconst (v := (-1)) hx hb dX5_init_53 (by decide) ?_
  refine va_iast (D := (dC, dI)) hx hb hK hP hD hS 2 1 rfl rfl (zIn (by decide) (by decide)) dX5_init_54 (fun H locs hP hD hS => ?_)
  have hP : va_P (dC, dI) vwCl [(h0, .inr (5, [.ref q1, .ref q2])), (q1, .inl (cq1, 4, .inl (upd (upd (upd (upd (fun _ => 0) (0 : Int32).toNatClampNeg 10) (1 : Int32).toNatClampNeg 50) (2 : Int32).toNatClampNeg 10000) (3 : Int32).toNatClampNeg 14))), (q2, .inl (cq2, 30, .inl (upd f28 (13 : Int32).toNatClampNeg ((-1)))))] H := hP
  have hD : va_D A [(h0, .inr (5, [.ref q1, .ref q2])), (q1, .inl (cq1, 4, .inl (upd (upd (upd (upd (fun _ => 0) (0 : Int32).toNatClampNeg 10) (1 : Int32).toNatClampNeg 50) (2 : Int32).toNatClampNeg 10000) (3 : Int32).toNatClampNeg 14))), (q2, .inl (cq2, 30, .inl (upd f28 (13 : Int32).toNatClampNeg ((-1)))))] := hD
  generalize (upd f28 (13 : Int32).toNatClampNeg ((-1))) = f30 at hP hD
  refine lv_iinc (v := 14) (lv' := [(1, .int 14), (0, .ref h0)]) hx hb dX5_init_55 hl (k := 0) rfl (by decide) (by decide) rfl (fun ls hl => ?_)
  refine lv_goto (tgt := 42) hx hb dX5_init_58 (by decide) ?_
  refine lv_iload_n hx hb dX5_init_42 rfl (lv_at hl 0 rfl) ?_
  refine lv_bipush (v := 30) hx hb dX5_init_43 (by decide) ?_
  refine lv_icmp_ge (tgt := 61) hx hb dX5_init_45 (by decide) (fun c31 => absurd c31 (by decide)) (fun c31 => ?_)
  refine lv_aload_n hx hb dX5_init_48 rfl (lv_at hl 1 rfl) ?_
  refine va_get (D := (dC, dI)) (ci := 5) (v := .ref q2) (C := RX5) (T := TX5) (N := 2) hx hb hts hiX5 hown hK hP 0 rfl rfl 1 (by decide) hw6 (fun _ h9 => h9) rfl dX5_init_49 ?_
  refine lv_iload_n hx hb dX5_init_52 rfl (lv_at hl 0 rfl) ?_
  refine lv_iconst (v := (-1)) hx hb dX5_init_53 (by decide) ?_
  refine va_iast (D := (dC, dI)) hx hb hK hP hD hS 2 1 rfl rfl (zIn (by decide) (by decide)) dX5_init_54 (fun H locs hP hD hS => ?_)
  have hP : va_P (dC, dI) vwCl [(h0, .inr (5, [.ref q1, .ref q2])), (q1, .inl (cq1, 4, .inl (upd (upd (upd (upd (fun _ => 0) (0 : Int32).toNatClampNeg 10) (1 : Int32).toNatClampNeg 50) (2 : Int32).toNatClampNeg 10000) (3 : Int32).toNatClampNeg 14))), (q2, .inl (cq2, 30, .inl (upd f30 (14 : Int32).toNatClampNeg ((-1)))))] H := hP
  have hD : va_D A [(h0, .inr (5, [.ref q1, .ref q2])), (q1, .inl (cq1, 4, .inl (upd (upd (upd (upd (fun _ => 0) (0 : Int32).toNatClampNeg 10) (1 : Int32).toNatClampNeg 50) (2 : Int32).toNatClampNeg 10000) (3 : Int32).toNatClampNeg 14))), (q2, .inl (cq2, 30, .inl (upd f30 (14 : Int32).toNatClampNeg ((-1)))))] := hD
  generalize (upd f30 (14 : Int32).toNatClampNeg ((-1))) = f32 at hP hD
  refine lv_iinc (v := 15) (lv' := [(1, .int 15), (0, .ref h0)]) hx hb dX5_init_55 hl (k := 0) rfl (by decide) (by decide) rfl (fun ls hl => ?_)
  refine lv_goto (tgt := 42) hx hb dX5_init_58 (by decide) ?_
  refine lv_iload_n hx hb dX5_init_42 rfl (lv_at hl 0 rfl) ?_
  refine lv_bipush (v := 30) hx hb dX5_init_43 (by decide) ?_
  refine lv_icmp_ge (tgt := 61) hx hb dX5_init_45 (by decide) (fun c33 => absurd c33 (by decide)) (fun c33 => ?_)
  refine lv_aload_n hx hb dX5_init_48 rfl (lv_at hl 1 rfl) ?_
  refine va_get (D := (dC, dI)) (ci := 5) (v := .ref q2) (C := RX5) (T := TX5) (N := 2) hx hb hts hiX5 hown hK hP 0 rfl rfl 1 (by decide) hw6 (fun _ h9 => h9) rfl dX5_init_49 ?_
  refine lv_iload_n hx hb dX5_init_52 rfl (lv_at hl 0 rfl) ?_
  refine lv_iconst (v := (-1)) hx hb dX5_init_53 (by decide) ?_
  refine va_iast (D := (dC, dI)) hx hb hK hP hD hS 2 1 rfl rfl (zIn (by decide) (by decide)) dX5_init_54 (fun H locs hP hD hS => ?_)
  have hP : va_P (dC, dI) vwCl [(h0, .inr (5, [.ref q1, .ref q2])), (q1, .inl (cq1, 4, .inl (upd (upd (upd (upd (fun _ => 0) (0 : Int32).toNatClampNeg 10) (1 : Int32).toNatClampNeg 50) (2 : Int32).toNatClampNeg 10000) (3 : Int32).toNatClampNeg 14))), (q2, .inl (cq2, 30, .inl (upd f32 (15 : Int32).toNatClampNeg ((-1)))))] H := hP
  have hD : va_D A [(h0, .inr (5, [.ref q1, .ref q2])), (q1, .inl (cq1, 4, .inl (upd (upd (upd (upd (fun _ => 0) (0 : Int32).toNatClampNeg 10) (1 : Int32).toNatClampNeg 50) (2 : Int32).toNatClampNeg 10000) (3 : Int32).toNatClampNeg 14))), (q2, .inl (cq2, 30, .inl (upd f32 (15 : Int32).toNatClampNeg ((-1)))))] := hD
  generalize (upd f32 (15 : Int32).toNatClampNeg ((-1))) = f34 at hP hD
  refine lv_iinc (v := 16) (lv' := [(1, .int 16), (0, .ref h0)]) hx hb dX5_init_55 hl (k := 0) rfl (by decide) (by decide) rfl (fun ls hl => ?_)
  refine lv_goto (tgt := 42) hx hb dX5_init_58 (by decide) ?_
  refine lv_iload_n hx hb dX5_init_42 rfl (lv_at hl 0 rfl) ?_
  refine lv_bipush (v := 30) hx hb dX5_init_43 (by decide) ?_
  refine lv_icmp_ge (tgt := 61) hx hb dX5_init_45 (by decide) (fun c35 => absurd c35 (by decide)) (fun c35 => ?_)
  refine lv_aload_n hx hb dX5_init_48 rfl (lv_at hl 1 rfl) ?_
  refine va_get (D := (dC, dI)) (ci := 5) (v := .ref q2) (C := RX5) (T := TX5) (N := 2) hx hb hts hiX5 hown hK hP 0 rfl rfl 1 (by decide) hw6 (fun _ h9 => h9) rfl dX5_init_49 ?_
  refine lv_iload_n hx hb dX5_init_52 rfl (lv_at hl 0 rfl) ?_
  refine lv_iconst (v := (-1)) hx hb dX5_init_53 (by decide) ?_
  refine va_iast (D := (dC, dI)) hx hb hK hP hD hS 2 1 rfl rfl (zIn (by decide) (by decide)) dX5_init_54 (fun H locs hP hD hS => ?_)
  have hP : va_P (dC, dI) vwCl [(h0, .inr (5, [.ref q1, .ref q2])), (q1, .inl (cq1, 4, .inl (upd (upd (upd (upd (fun _ => 0) (0 : Int32).toNatClampNeg 10) (1 : Int32).toNatClampNeg 50) (2 : Int32).toNatClampNeg 10000) (3 : Int32).toNatClampNeg 14))), (q2, .inl (cq2, 30, .inl (upd f34 (16 : Int32).toNatClampNeg ((-1)))))] H := hP
  have hD : va_D A [(h0, .inr (5, [.ref q1, .ref q2])), (q1, .inl (cq1, 4, .inl (upd (upd (upd (upd (fun _ => 0) (0 : Int32).toNatClampNeg 10) (1 : Int32).toNatClampNeg 50) (2 : Int32).toNatClampNeg 10000) (3 : Int32).toNatClampNeg 14))), (q2, .inl (cq2, 30, .inl (upd f34 (16 : Int32).toNatClampNeg ((-1)))))] := hD
  generalize (upd f34 (16 : Int32).toNatClampNeg ((-1))) = f36 at hP hD
  refine lv_iinc (v := 17) (lv' := [(1, .int 17), (0, .ref h0)]) hx hb dX5_init_55 hl (k := 0) rfl (by decide) (by decide) rfl (fun ls hl => ?_)
  refine lv_goto (tgt := 42) hx hb dX5_init_58 (by decide) ?_
  refine lv_iload_n hx hb dX5_init_42 rfl (lv_at hl 0 rfl) ?_
  refine lv_bipush (v := 30) hx hb dX5_init_43 (by decide) ?_
  refine lv_icmp_ge (tgt := 61) hx hb dX5_init_45 (by decide) (fun c37 => absurd c37 (by decide)) (fun c37 => ?_)
  refine lv_aload_n hx hb dX5_init_48 rfl (lv_at hl 1 rfl) ?_
  refine va_get (D := (dC, dI)) (ci := 5) (v := .ref q2) (C := RX5) (T := TX5) (N := 2) hx hb hts hiX5 hown hK hP 0 rfl rfl 1 (by decide) hw6 (fun _ h9 => h9) rfl dX5_init_49 ?_
  refine lv_iload_n hx hb dX5_init_52 rfl (lv_at hl 0 rfl) ?_
  refine lv_iconst (v := (-1)) hx hb dX5_init_53 (by decide) ?_
  refine va_iast (D := (dC, dI)) hx hb hK hP hD hS 2 1 rfl rfl (zIn (by decide) (by decide)) dX5_init_54 (fun H locs hP hD hS => ?_)
  have hP : va_P (dC, dI) vwCl [(h0, .inr (5, [.ref q1, .ref q2])), (q1, .inl (cq1, 4, .inl (upd (upd (upd (upd (fun _ => 0) (0 : Int32).toNatClampNeg 10) (1 : Int32).toNatClampNeg 50) (2 : Int32).toNatClampNeg 10000) (3 : Int32).toNatClampNeg 14))), (q2, .inl (cq2, 30, .inl (upd f36 (17 : Int32).toNatClampNeg ((-1)))))] H := hP
  have hD : va_D A [(h0, .inr (5, [.ref q1, .ref q2])), (q1, .inl (cq1, 4, .inl (upd (upd (upd (upd (fun _ => 0) (0 : Int32).toNatClampNeg 10) (1 : Int32).toNatClampNeg 50) (2 : Int32).toNatClampNeg 10000) (3 : Int32).toNatClampNeg 14))), (q2, .inl (cq2, 30, .inl (upd f36 (17 : Int32).toNatClampNeg ((-1)))))] := hD
  generalize (upd f36 (17 : Int32).toNatClampNeg ((-1))) = f38 at hP hD
  refine lv_iinc (v := 18) (lv' := [(1, .int 18), (0, .ref h0)]) hx hb dX5_init_55 hl (k := 0) rfl (by decide) (by decide) rfl (fun ls hl => ?_)
  refine lv_goto (tgt := 42) hx hb dX5_init_58 (by decide) ?_
  refine lv_iload_n hx hb dX5_init_42 rfl (lv_at hl 0 rfl) ?_
  refine lv_bipush (v := 30) hx hb dX5_init_43 (by decide) ?_
  refine lv_icmp_ge (tgt := 61) hx hb dX5_init_45 (by decide) (fun c39 => absurd c39 (by decide)) (fun c39 => ?_)
  refine lv_aload_n hx hb dX5_init_48 rfl (lv_at hl 1 rfl) ?_
  refine va_get (D := (dC, dI)) (ci := 5) (v := .ref q2) (C := RX5) (T := TX5) (N := 2) hx hb hts hiX5 hown hK hP 0 rfl rfl 1 (by decide) hw6 (fun _ h9 => h9) rfl dX5_init_49 ?_
  refine lv_iload_n hx hb dX5_init_52 rfl (lv_at hl 0 rfl) ?_
  refine lv_iconst (v := (-1)) hx hb dX5_init_53 (by decide) ?_
  refine va_iast (D := (dC, dI)) hx hb hK hP hD hS 2 1 rfl rfl (zIn (by decide) (by decide)) dX5_init_54 (fun H locs hP hD hS => ?_)
  have hP : va_P (dC, dI) vwCl [(h0, .inr (5, [.ref q1, .ref q2])), (q1, .inl (cq1, 4, .inl (upd (upd (upd (upd (fun _ => 0) (0 : Int32).toNatClampNeg 10) (1 : Int32).toNatClampNeg 50) (2 : Int32).toNatClampNeg 10000) (3 : Int32).toNatClampNeg 14))), (q2, .inl (cq2, 30, .inl (upd f38 (18 : Int32).toNatClampNeg ((-1)))))] H := hP
  have hD : va_D A [(h0, .inr (5, [.ref q1, .ref q2])), (q1, .inl (cq1, 4, .inl (upd (upd (upd (upd (fun _ => 0) (0 : Int32).toNatClampNeg 10) (1 : Int32).toNatClampNeg 50) (2 : Int32).toNatClampNeg 10000) (3 : Int32).toNatClampNeg 14))), (q2, .inl (cq2, 30, .inl (upd f38 (18 : Int32).toNatClampNeg ((-1)))))] := hD
  generalize (upd f38 (18 : Int32).toNatClampNeg ((-1))) = f40 at hP hD
  refine lv_iinc (v := 19) (lv' := [(1, .int 19), (0, .ref h0)]) hx hb dX5_init_55 hl (k := 0) rfl (by decide) (by decide) rfl (fun ls hl => ?_)
  refine lv_goto (tgt := 42) hx hb dX5_init_58 (by decide) ?_
  refine lv_iload_n hx hb dX5_init_42 rfl (lv_at hl 0 rfl) ?_
  refine lv_bipush (v := 30) hx hb dX5_init_43 (by decide) ?_
  refine lv_icmp_ge (tgt := 61) hx hb dX5_init_45 (by decide) (fun c41 => absurd c41 (by decide)) (fun c41 => ?_)
  refine lv_aload_n hx hb dX5_init_48 rfl (lv_at hl 1 rfl) ?_
  refine va_get (D := (dC, dI)) (ci := 5) (v := .ref q2) (C := RX5) (T := TX5) (N := 2) hx hb hts hiX5 hown hK hP 0 rfl rfl 1 (by decide) hw6 (fun _ h9 => h9) rfl dX5_init_49 ?_
  refine lv_iload_n hx hb dX5_init_52 rfl (lv_at hl 0 rfl) ?_
  refine lv_iconst (v := (-1)) hx hb dX5_init_53 (by decide) ?_
  refine va_iast (D := (dC, dI)) hx hb hK hP hD hS 2 1 rfl rfl (zIn (by decide) (by decide)) dX5_init_54 (fun H locs hP hD hS => ?_)
  have hP : va_P (dC, dI) vwCl [(h0, .inr (5, [.ref q1, .ref q2])), (q1, .inl (cq1, 4, .inl (upd (upd (upd (upd (fun _ => 0) (0 : Int32).toNatClampNeg 10) (1 : Int32).toNatClampNeg 50) (2 : Int32).toNatClampNeg 10000) (3 : Int32).toNatClampNeg 14))), (q2, .inl (cq2, 30, .inl (upd f40 (19 : Int32).toNatClampNeg ((-1)))))] H := hP
  have hD : va_D A [(h0, .inr (5, [.ref q1, .ref q2])), (q1, .inl (cq1, 4, .inl (upd (upd (upd (upd (fun _ => 0) (0 : Int32).toNatClampNeg 10) (1 : Int32).toNatClampNeg 50) (2 : Int32).toNatClampNeg 10000) (3 : Int32).toNatClampNeg 14))), (q2, .inl (cq2, 30, .inl (upd f40 (19 : Int32).toNatClampNeg ((-1)))))] := hD
  generalize (upd f40 (19 : Int32).toNatClampNeg ((-1))) = f42 at hP hD
  refine lv_iinc (v := 20) (lv' := [(1, .int 20), (0, .ref h0)]) hx hb dX5_init_55 hl (k := 0) rfl (by decide) (by decide) rfl (fun ls hl => ?_)
  refine lv_goto (tgt := 42) hx hb dX5_init_58 (by decide) ?_
  refine lv_iload_n hx hb dX5_init_42 rfl (lv_at hl 0 rfl) ?_
  refine lv_bipush (v := 30) hx hb dX5_init_43 (by decide) ?_
  refine lv_icmp_ge (tgt := 61) hx hb dX5_init_45 (by decide) (fun c43 => absurd c43 (by decide)) (fun c43 => ?_)
  refine lv_aload_n hx hb dX5_init_48 rfl (lv_at hl 1 rfl) ?_
  refine va_get (D := (dC, dI)) (ci := 5) (v := .ref q2) (C := RX5) (T := TX5) (N := 2) hx hb hts hiX5 hown hK hP 0 rfl rfl 1 (by decide) hw6 (fun _ h9 => h9) rfl dX5_init_49 ?_
  refine lv_iload_n hx hb dX5_init_52 rfl (lv_at hl 0 rfl) ?_
  refine lv_iconst (v := (-1)) hx hb dX5_init_53 (by decide) ?_
  refine va_iast (D := (dC, dI)) hx hb hK hP hD hS 2 1 rfl rfl (zIn (by decide) (by decide)) dX5_init_54 (fun H locs hP hD hS => ?_)
  have hP : va_P (dC, dI) vwCl [(h0, .inr (5, [.ref q1, .ref q2])), (q1, .inl (cq1, 4, .inl (upd (upd (upd (upd (fun _ => 0) (0 : Int32).toNatClampNeg 10) (1 : Int32).toNatClampNeg 50) (2 : Int32).toNatClampNeg 10000) (3 : Int32).toNatClampNeg 14))), (q2, .inl (cq2, 30, .inl (upd f42 (20 : Int32).toNatClampNeg ((-1)))))] H := hP
  have hD : va_D A [(h0, .inr (5, [.ref q1, .ref q2])), (q1, .inl (cq1, 4, .inl (upd (upd (upd (upd (fun _ => 0) (0 : Int32).toNatClampNeg 10) (1 : Int32).toNatClampNeg 50) (2 : Int32).toNatClampNeg 10000) (3 : Int32).toNatClampNeg 14))), (q2, .inl (cq2, 30, .inl (upd f42 (20 : Int32).toNatClampNeg ((-1)))))] := hD
  generalize (upd f42 (20 : Int32).toNatClampNeg ((-1))) = f44 at hP hD
  refine lv_iinc (v := 21) (lv' := [(1, .int 21), (0, .ref h0)]) hx hb dX5_init_55 hl (k := 0) rfl (by decide) (by decide) rfl (fun ls hl => ?_)
  refine lv_goto (tgt := 42) hx hb dX5_init_58 (by decide) ?_
  refine lv_iload_n hx hb dX5_init_42 rfl (lv_at hl 0 rfl) ?_
  refine lv_bipush (v := 30) hx hb dX5_init_43 (by decide) ?_
  refine lv_icmp_ge (tgt := 61) hx hb dX5_init_45 (by decide) (fun c45 => absurd c45 (by decide)) (fun c45 => ?_)
  refine lv_aload_n hx hb dX5_init_48 rfl (lv_at hl 1 rfl) ?_
  refine va_get (D := (dC, dI)) (ci := 5) (v := .ref q2) (C := RX5) (T := TX5) (N := 2) hx hb hts hiX5 hown hK hP 0 rfl rfl 1 (by decide) hw6 (fun _ h9 => h9) rfl dX5_init_49 ?_
  refine lv_iload_n hx hb dX5_init_52 rfl (lv_at hl 0 rfl) ?_
  refine lv_iconst (v := (-1)) hx hb dX5_init_53 (by decide) ?_
  refine va_iast (D := (dC, dI)) hx hb hK hP hD hS 2 1 rfl rfl (zIn (by decide) (by decide)) dX5_init_54 (fun H locs hP hD hS => ?_)
  have hP : va_P (dC, dI) vwCl [(h0, .inr (5, [.ref q1, .ref q2])), (q1, .inl (cq1, 4, .inl (upd (upd (upd (upd (fun _ => 0) (0 : Int32).toNatClampNeg 10) (1 : Int32).toNatClampNeg 50) (2 : Int32).toNatClampNeg 10000) (3 : Int32).toNatClampNeg 14))), (q2, .inl (cq2, 30, .inl (upd f44 (21 : Int32).toNatClampNeg ((-1)))))] H := hP
  have hD : va_D A [(h0, .inr (5, [.ref q1, .ref q2])), (q1, .inl (cq1, 4, .inl (upd (upd (upd (upd (fun _ => 0) (0 : Int32).toNatClampNeg 10) (1 : Int32).toNatClampNeg 50) (2 : Int32).toNatClampNeg 10000) (3 : Int32).toNatClampNeg 14))), (q2, .inl (cq2, 30, .inl (upd f44 (21 : Int32).toNatClampNeg ((-1)))))] := hD
  generalize (upd f44 (21 : Int32).toNatClampNeg ((-1))) = f46 at hP hD
  refine lv_iinc (v := 22) (lv' := [(1, .int 22), (0, .ref h0)]) hx hb dX5_init_55 hl (k := 0) rfl (by decide) (by decide) rfl (fun ls hl => ?_)
  refine lv_goto (tgt := 42) hx hb dX5_init_58 (by decide) ?_
  refine lv_iload_n hx hb dX5_init_42 rfl (lv_at hl 0 rfl) ?_
  refine lv_bipush (v := 30) hx hb dX5_init_43 (by decide) ?_
  refine lv_icmp_ge (tgt := 61) hx hb dX5_init_45 (by decide) (fun c47 => absurd c47 (by decide)) (fun c47 => ?_)
  refine lv_aload_n hx hb dX5_init_48 rfl (lv_at hl 1 rfl) ?_
  refine va_get (D := (dC, dI)) (ci := 5) (v := .ref q2) (C := RX5) (T := TX5) (N := 2) hx hb hts hiX5 hown hK hP 0 rfl rfl 1 (by decide) hw6 (fun _ h9 => h9) rfl dX5_init_49 ?_
  refine lv_iload_n hx hb dX5_init_52 rfl (lv_at hl 0 rfl) ?_
  refine lv_iconst (v := (-1)) hx hb dX5_init_53 (by decide) ?_
  refine va_iast (D := (dC, dI)) hx hb hK hP hD hS 2 1 rfl rfl (zIn (by decide) (by decide)) dX5_init_54 (fun H locs hP hD hS => ?_)
  have hP : va_P (dC, dI) vwCl [(h0, .inr (5, [.ref q1, .ref q2])), (q1, .inl (cq1, 4, .inl (upd (upd (upd (upd (fun _ => 0) (0 : Int32).toNatClampNeg 10) (1 : Int32).toNatClampNeg 50) (2 : Int32).toNatClampNeg 10000) (3 : Int32).toNatClampNeg 14))), (q2, .inl (cq2, 30, .inl (upd f46 (22 : Int32).toNatClampNeg ((-1)))))] H := hP
  have hD : va_D A [(h0, .inr (5, [.ref q1, .ref q2])), (q1, .inl (cq1, 4, .inl (upd (upd (upd (upd (fun _ => 0) (0 : Int32).toNatClampNeg 10) (1 : Int32).toNatClampNeg 50) (2 : Int32).toNatClampNeg 10000) (3 : Int32).toNatClampNeg 14))), (q2, .inl (cq2, 30, .inl (upd f46 (22 : Int32).toNatClampNeg ((-1)))))] := hD
  generalize (upd f46 (22 : Int32).toNatClampNeg ((-1))) = f48 at hP hD
  refine lv_iinc (v := 23) (lv' := [(1, .int 23), (0, .ref h0)]) hx hb dX5_init_55 hl (k := 0) rfl (by decide) (by decide) rfl (fun ls hl => ?_)
  refine lv_goto (tgt := 42) hx hb dX5_init_58 (by decide) ?_
  refine lv_iload_n hx hb dX5_init_42 rfl (lv_at hl 0 rfl) ?_
  refine lv_bipush (v := 30) hx hb dX5_init_43 (by decide) ?_
  refine lv_icmp_ge (tgt := 61) hx hb dX5_init_45 (by decide) (fun c49 => absurd c49 (by decide)) (fun c49 => ?_)
  refine lv_aload_n hx hb dX5_init_48 rfl (lv_at hl 1 rfl) ?_
  refine va_get (D := (dC, dI)) (ci := 5) (v := .ref q2) (C := RX5) (T := TX5) (N := 2) hx hb hts hiX5 hown hK hP 0 rfl rfl 1 (by decide) hw6 (fun _ h9 => h9) rfl dX5_init_49 ?_
  refine lv_iload_n hx hb dX5_init_52 rfl (lv_at hl 0 rfl) ?_
  refine lv_iconst (v := (-1)) hx hb dX5_init_53 (by decide) ?_
  refine va_iast (D := (dC, dI)) hx hb hK hP hD hS 2 1 rfl rfl (zIn (by decide) (by decide)) dX5_init_54 (fun H locs hP hD hS => ?_)
  have hP : va_P (dC, dI) vwCl [(h0, .inr (5, [.ref q1, .ref q2])), (q1, .inl (cq1, 4, .inl (upd (upd (upd (upd (fun _ => 0) (0 : Int32).toNatClampNeg 10) (1 : Int32).toNatClampNeg 50) (2 : Int32).toNatClampNeg 10000) (3 : Int32).toNatClampNeg 14))), (q2, .inl (cq2, 30, .inl (upd f48 (23 : Int32).toNatClampNeg ((-1)))))] H := hP
  have hD : va_D A [(h0, .inr (5, [.ref q1, .ref q2])), (q1, .inl (cq1, 4, .inl (upd (upd (upd (upd (fun _ => 0) (0 : Int32).toNatClampNeg 10) (1 : Int32).toNatClampNeg 50) (2 : Int32).toNatClampNeg 10000) (3 : Int32).toNatClampNeg 14))), (q2, .inl (cq2, 30, .inl (upd f48 (23 : Int32).toNatClampNeg ((-1)))))] := hD
  generalize (upd f48 (23 : Int32).toNatClampNeg ((-1))) = f50 at hP hD
  refine lv_iinc (v := 24) (lv' := [(1, .int 24), (0, .ref h0)]) hx hb dX5_init_55 hl (k := 0) rfl (by decide) (by decide) rfl (fun ls hl => ?_)
  refine lv_goto (tgt := 42) hx hb dX5_init_58 (by decide) ?_
  refine lv_iload_n hx hb dX5_init_42 rfl (lv_at hl 0 rfl) ?_
  refine lv_bipush (v := 30) hx hb dX5_init_43 (by decide) ?_
  refine lv_icmp_ge (tgt := 61) hx hb dX5_init_45 (by decide) (fun c51 => absurd c51 (by decide)) (fun c51 => ?_)
  refine lv_aload_n hx hb dX5_init_48 rfl (lv_at hl 1 rfl) ?_
  refine va_get (D := (dC, dI)) (ci := 5) (v := .ref q2) (C := RX5) (T := TX5) (N := 2) hx hb hts hiX5 hown hK hP 0 rfl rfl 1 (by decide) hw6 (fun _ h9 => h9) rfl dX5_init_49 ?_
  refine lv_iload_n hx hb dX5_init_52 rfl (lv_at hl 0 rfl) ?_
  refine lv_iconst (v := (-1)) hx hb dX5_init_53 (by decide) ?_
  refine va_iast (D := (dC, dI)) hx hb hK hP hD hS 2 1 rfl rfl (zIn (by decide) (by decide)) dX5_init_54 (fun H locs hP hD hS => ?_)
  have hP : va_P (dC, dI) vwCl [(h0, .inr (5, [.ref q1, .ref q2])), (q1, .inl (cq1, 4, .inl (upd (upd (upd (upd (fun _ => 0) (0 : Int32).toNatClampNeg 10) (1 : Int32).toNatClampNeg 50) (2 : Int32).toNatClampNeg 10000) (3 : Int32).toNatClampNeg 14))), (q2, .inl (cq2, 30, .inl (upd f50 (24 : Int32).toNatClampNeg ((-1)))))] H := hP
  have hD : va_D A [(h0, .inr (5, [.ref q1, .ref q2])), (q1, .inl (cq1, 4, .inl (upd (upd (upd (upd (fun _ => 0) (0 : Int32).toNatClampNeg 10) (1 : Int32).toNatClampNeg 50) (2 : Int32).toNatClampNeg 10000) (3 : Int32).toNatClampNeg 14))), (q2, .inl (cq2, 30, .inl (upd f50 (24 : Int32).toNatClampNeg ((-1)))))] := hD
  generalize (upd f50 (24 : Int32).toNatClampNeg ((-1))) = f52 at hP hD
  refine lv_iinc (v := 25) (lv' := [(1, .int 25), (0, .ref h0)]) hx hb dX5_init_55 hl (k := 0) rfl (by decide) (by decide) rfl (fun ls hl => ?_)
  refine lv_goto (tgt := 42) hx hb dX5_init_58 (by decide) ?_
  refine lv_iload_n hx hb dX5_init_42 rfl (lv_at hl 0 rfl) ?_
  refine lv_bipush (v := 30) hx hb dX5_init_43 (by decide) ?_
  refine lv_icmp_ge (tgt := 61) hx hb dX5_init_45 (by decide) (fun c53 => absurd c53 (by decide)) (fun c53 => ?_)
  refine lv_aload_n hx hb dX5_init_48 rfl (lv_at hl 1 rfl) ?_
  refine va_get (D := (dC, dI)) (ci := 5) (v := .ref q2) (C := RX5) (T := TX5) (N := 2) hx hb hts hiX5 hown hK hP 0 rfl rfl 1 (by decide) hw6 (fun _ h9 => h9) rfl dX5_init_49 ?_
  refine lv_iload_n hx hb dX5_init_52 rfl (lv_at hl 0 rfl) ?_
  refine lv_iconst (v := (-1)) hx hb dX5_init_53 (by decide) ?_
  refine va_iast (D := (dC, dI)) hx hb hK hP hD hS 2 1 rfl rfl (zIn (by decide) (by decide)) dX5_init_54 (fun H locs hP hD hS => ?_)
  have hP : va_P (dC, dI) vwCl [(h0, .inr (5, [.ref q1, .ref q2])), (q1, .inl (cq1, 4, .inl (upd (upd (upd (upd (fun _ => 0) (0 : Int32).toNatClampNeg 10) (1 : Int32).toNatClampNeg 50) (2 : Int32).toNatClampNeg 10000) (3 : Int32).toNatClampNeg 14))), (q2, .inl (cq2, 30, .inl (upd f52 (25 : Int32).toNatClampNeg ((-1)))))] H := hP
  have hD : va_D A [(h0, .inr (5, [.ref q1, .ref q2])), (q1, .inl (cq1, 4, .inl (upd (upd (upd (upd (fun _ => 0) (0 : Int32).toNatClampNeg 10) (1 : Int32).toNatClampNeg 50) (2 : Int32).toNatClampNeg 10000) (3 : Int32).toNatClampNeg 14))), (q2, .inl (cq2, 30, .inl (upd f52 (25 : Int32).toNatClampNeg ((-1)))))] := hD
  generalize (upd f52 (25 : Int32).toNatClampNeg ((-1))) = f54 at hP hD
  refine lv_iinc (v := 26) (lv' := [(1, .int 26), (0, .ref h0)]) hx hb dX5_init_55 hl (k := 0) rfl (by decide) (by decide) rfl (fun ls hl => ?_)
  refine lv_goto (tgt := 42) hx hb dX5_init_58 (by decide) ?_
  refine lv_iload_n hx hb dX5_init_42 rfl (lv_at hl 0 rfl) ?_
  refine lv_bipush (v := 30) hx hb dX5_init_43 (by decide) ?_
  refine lv_icmp_ge (tgt := 61) hx hb dX5_init_45 (by decide) (fun c55 => absurd c55 (by decide)) (fun c55 => ?_)
  refine lv_aload_n hx hb dX5_init_48 rfl (lv_at hl 1 rfl) ?_
  refine va_get (D := (dC, dI)) (ci := 5) (v := .ref q2) (C := RX5) (T := TX5) (N := 2) hx hb hts hiX5 hown hK hP 0 rfl rfl 1 (by decide) hw6 (fun _ h9 => h9) rfl dX5_init_49 ?_
  refine lv_iload_n hx hb dX5_init_52 rfl (lv_at hl 0 rfl) ?_
  refine lv_iconst (v := (-1)) hx hb dX5_init_53 (by decide) ?_
  refine va_iast (D := (dC, dI)) hx hb hK hP hD hS 2 1 rfl rfl (zIn (by decide) (by decide)) dX5_init_54 (fun H locs hP hD hS => ?_)
  have hP : va_P (dC, dI) vwCl [(h0, .inr (5, [.ref q1, .ref q2])), (q1, .inl (cq1, 4, .inl (upd (upd (upd (upd (fun _ => 0) (0 : Int32).toNatClampNeg 10) (1 : Int32).toNatClampNeg 50) (2 : Int32).toNatClampNeg 10000) (3 : Int32).toNatClampNeg 14))), (q2, .inl (cq2, 30, .inl (upd f54 (26 : Int32).toNatClampNeg ((-1)))))] H := hP
  have hD : va_D A [(h0, .inr (5, [.ref q1, .ref q2])), (q1, .inl (cq1, 4, .inl (upd (upd (upd (upd (fun _ => 0) (0 : Int32).toNatClampNeg 10) (1 : Int32).toNatClampNeg 50) (2 : Int32).toNatClampNeg 10000) (3 : Int32).toNatClampNeg 14))), (q2, .inl (cq2, 30, .inl (upd f54 (26 : Int32).toNatClampNeg ((-1)))))] := hD
  generalize (upd f54 (26 : Int32).toNatClampNeg ((-1))) = f56 at hP hD
  refine lv_iinc (v := 27) (lv' := [(1, .int 27), (0, .ref h0)]) hx hb dX5_init_55 hl (k := 0) rfl (by decide) (by decide) rfl (fun ls hl => ?_)
  refine lv_goto (tgt := 42) hx hb dX5_init_58 (by decide) ?_
  refine lv_iload_n hx hb dX5_init_42 rfl (lv_at hl 0 rfl) ?_
  refine lv_bipush (v := 30) hx hb dX5_init_43 (by decide) ?_
  refine lv_icmp_ge (tgt := 61) hx hb dX5_init_45 (by decide) (fun c57 => absurd c57 (by decide)) (fun c57 => ?_)
  refine lv_aload_n hx hb dX5_init_48 rfl (lv_at hl 1 rfl) ?_
  refine va_get (D := (dC, dI)) (ci := 5) (v := .ref q2) (C := RX5) (T := TX5) (N := 2) hx hb hts hiX5 hown hK hP 0 rfl rfl 1 (by decide) hw6 (fun _ h9 => h9) rfl dX5_init_49 ?_
  refine lv_iload_n hx hb dX5_init_52 rfl (lv_at hl 0 rfl) ?_
  refine lv_iconst (v := (-1)) hx hb dX5_init_53 (by decide) ?_
  refine va_iast (D := (dC, dI)) hx hb hK hP hD hS 2 1 rfl rfl (zIn (by decide) (by decide)) dX5_init_54 (fun H locs hP hD hS => ?_)
  have hP : va_P (dC, dI) vwCl [(h0, .inr (5, [.ref q1, .ref q2])), (q1, .inl (cq1, 4, .inl (upd (upd (upd (upd (fun _ => 0) (0 : Int32).toNatClampNeg 10) (1 : Int32).toNatClampNeg 50) (2 : Int32).toNatClampNeg 10000) (3 : Int32).toNatClampNeg 14))), (q2, .inl (cq2, 30, .inl (upd f56 (27 : Int32).toNatClampNeg ((-1)))))] H := hP
  have hD : va_D A [(h0, .inr (5, [.ref q1, .ref q2])), (q1, .inl (cq1, 4, .inl (upd (upd (upd (upd (fun _ => 0) (0 : Int32).toNatClampNeg 10) (1 : Int32).toNatClampNeg 50) (2 : Int32).toNatClampNeg 10000) (3 : Int32).toNatClampNeg 14))), (q2, .inl (cq2, 30, .inl (upd f56 (27 : Int32).toNatClampNeg ((-1)))))] := hD
  generalize (upd f56 (27 : Int32).toNatClampNeg ((-1))) = f58 at hP hD
  refine lv_iinc (v := 28) (lv' := [(1, .int 28), (0, .ref h0)]) hx hb dX5_init_55 hl (k := 0) rfl (by decide) (by decide) rfl (fun ls hl => ?_)
  refine lv_goto (tgt := 42) hx hb dX5_init_58 (by decide) ?_
  refine lv_iload_n hx hb dX5_init_42 rfl (lv_at hl 0 rfl) ?_
  refine lv_bipush (v := 30) hx hb dX5_init_43 (by decide) ?_
  refine lv_icmp_ge (tgt := 61) hx hb dX5_init_45 (by decide) (fun c59 => absurd c59 (by decide)) (fun c59 => ?_)
  refine lv_aload_n hx hb dX5_init_48 rfl (lv_at hl 1 rfl) ?_
  refine va_get (D := (dC, dI)) (ci := 5) (v := .ref q2) (C := RX5) (T := TX5) (N := 2) hx hb hts hiX5 hown hK hP 0 rfl rfl 1 (by decide) hw6 (fun _ h9 => h9) rfl dX5_init_49 ?_
  refine lv_iload_n hx hb dX5_init_52 rfl (lv_at hl 0 rfl) ?_
  refine lv_iconst (v := (-1)) hx hb dX5_init_53 (by decide) ?_
  refine va_iast (D := (dC, dI)) hx hb hK hP hD hS 2 1 rfl rfl (zIn (by decide) (by decide)) dX5_init_54 (fun H locs hP hD hS => ?_)
  have hP : va_P (dC, dI) vwCl [(h0, .inr (5, [.ref q1, .ref q2])), (q1, .inl (cq1, 4, .inl (upd (upd (upd (upd (fun _ => 0) (0 : Int32).toNatClampNeg 10) (1 : Int32).toNatClampNeg 50) (2 : Int32).toNatClampNeg 10000) (3 : Int32).toNatClampNeg 14))), (q2, .inl (cq2, 30, .inl (upd f58 (28 : Int32).toNatClampNeg ((-1)))))] H := hP
  have hD : va_D A [(h0, .inr (5, [.ref q1, .ref q2])), (q1, .inl (cq1, 4, .inl (upd (upd (upd (upd (fun _ => 0) (0 : Int32).toNatClampNeg 10) (1 : Int32).toNatClampNeg 50) (2 : Int32).toNatClampNeg 10000) (3 : Int32).toNatClampNeg 14))), (q2, .inl (cq2, 30, .inl (upd f58 (28 : Int32).toNatClampNeg ((-1)))))] := hD
  generalize (upd f58 (28 : Int32).toNatClampNeg ((-1))) = f60 at hP hD
  refine lv_iinc (v := 29) (lv' := [(1, .int 29), (0, .ref h0)]) hx hb dX5_init_55 hl (k := 0) rfl (by decide) (by decide) rfl (fun ls hl => ?_)
  refine lv_goto (tgt := 42) hx hb dX5_init_58 (by decide) ?_
  refine lv_iload_n hx hb dX5_init_42 rfl (lv_at hl 0 rfl) ?_
  refine lv_bipush (v := 30) hx hb dX5_init_43 (by decide) ?_
  refine lv_icmp_ge (tgt := 61) hx hb dX5_init_45 (by decide) (fun c61 => absurd c61 (by decide)) (fun c61 => ?_)
  refine lv_aload_n hx hb dX5_init_48 rfl (lv_at hl 1 rfl) ?_
  refine va_get (D := (dC, dI)) (ci := 5) (v := .ref q2) (C := RX5) (T := TX5) (N := 2) hx hb hts hiX5 hown hK hP 0 rfl rfl 1 (by decide) hw6 (fun _ h9 => h9) rfl dX5_init_49 ?_
  refine lv_iload_n hx hb dX5_init_52 rfl (lv_at hl 0 rfl) ?_
  refine lv_iconst (v := (-1)) hx hb dX5_init_53 (by decide) ?_
  refine va_iast (D := (dC, dI)) hx hb hK hP hD hS 2 1 rfl rfl (zIn (by decide) (by decide)) dX5_init_54 (fun H locs hP hD hS => ?_)
  have hP : va_P (dC, dI) vwCl [(h0, .inr (5, [.ref q1, .ref q2])), (q1, .inl (cq1, 4, .inl (upd (upd (upd (upd (fun _ => 0) (0 : Int32).toNatClampNeg 10) (1 : Int32).toNatClampNeg 50) (2 : Int32).toNatClampNeg 10000) (3 : Int32).toNatClampNeg 14))), (q2, .inl (cq2, 30, .inl (upd f60 (29 : Int32).toNatClampNeg ((-1)))))] H := hP
  have hD : va_D A [(h0, .inr (5, [.ref q1, .ref q2])), (q1, .inl (cq1, 4, .inl (upd (upd (upd (upd (fun _ => 0) (0 : Int32).toNatClampNeg 10) (1 : Int32).toNatClampNeg 50) (2 : Int32).toNatClampNeg 10000) (3 : Int32).toNatClampNeg 14))), (q2, .inl (cq2, 30, .inl (upd f60 (29 : Int32).toNatClampNeg ((-1)))))] := hD
  generalize (upd f60 (29 : Int32).toNatClampNeg ((-1))) = f62 at hP hD
  refine lv_iinc (v := 30) (lv' := [(1, .int 30), (0, .ref h0)]) hx hb dX5_init_55 hl (k := 0) rfl (by decide) (by decide) rfl (fun ls hl => ?_)
  refine lv_goto (tgt := 42) hx hb dX5_init_58 (by decide) ?_
  refine lv_iload_n hx hb dX5_init_42 rfl (lv_at hl 0 rfl) ?_
  refine lv_bipush (v := 30) hx hb dX5_init_43 (by decide) ?_
  refine lv_icmp_ge (tgt := 61) hx hb dX5_init_45 (by decide) (fun c63 => ?_) (fun c63 => absurd (by decide) c63)
  have hP9 := hP.sub (ws' := [(h0, .inr (5, [.ref q1, .ref q2])), (q1, .inl (cq1, 4, .inl (upd (upd (upd (upd (fun _ => 0) (0 : Int32).toNatClampNeg 10) (1 : Int32).toNatClampNeg 50) (2 : Int32).toNatClampNeg 10000) (3 : Int32).toNatClampNeg 14))), (q2, .inl (cq2, 30, .inl f62))]) [0, 1, 2] rfl
  have hD9 := hD.sub (ws' := [(h0, .inr (5, [.ref q1, .ref q2])), (q1, .inl (cq1, 4, .inl (upd (upd (upd (upd (fun _ => 0) (0 : Int32).toNatClampNeg 10) (1 : Int32).toNatClampNeg 50) (2 : Int32).toNatClampNeg 10000) (3 : Int32).toNatClampNeg 14))), (q2, .inl (cq2, 30, .inl f62))]) [0, 1, 2] (by decide) rfl
  have hK9 := hK.sub (tys' := [(cq1, .int), (cq2, .int)]) [0, 1] rfl
  refine W.widen (k := 2) (n := 34) (by decide) (by decide) ?_
  exact W.vret hx hb hr (fun t ht hW => ⟨⟨(), rfl, trivial, ⟨q1, cq1, q2, cq2, f62, ⟨by rw [ht]; exact hP9, va_K.moved hW.alike hK9, hD9⟩⟩⟩, hS.F ht⟩) hS.2.2 dX5_init_61
set_option maxHeartbeats 4000000 in
set_option maxRecDepth 100000 in
/-- c_Letter_init -/
theorem c_Letter_init (l : Launch) (hl0 : l.stackTraces = false) (dC : Nat → ClassId) (dI : Nat → Nat → Nat) (A0 : Nat → Prop) (ad : Nat → Nat) (sz : Nat) (h0 : Nat) (hA0 : ∀ q, va_A [(h0, .inr (2, [.null, .null, .int 0, .int 0, .int 0, .int 0, .int 0, .int 0, .int 0, .int 0]))] sz q → A0 q) : Met l yX2_init wsX2_init ({ frames := 1, cells := 2, slots := 16, locals := 12 }) (va_Pc [.ref h0] (zPc A0 ad (dC, dI) [(h0, .inr (2, [.null, .null, .int 0, .int 0, .int 0, .int 0, .int 0, .int 0, .int 0, .int 0]))] [] sz)) (va_Qv (fun (_ : Unit) => True) (fun (_ : Unit) (t : State) => ∃ (q1 : Nat), ∃ (k1 : ClassId), ∃ (q2 : Nat), ∃ (k2 : ClassId), zB (dC, dI) (va_A [(h0, .inr (2, [.null, .null, .int 0, .int 0, .int 0, .int 0, .int 0, .int 0, .int 0, .int 0]))] sz) [(h0, .inr (2, [.ref q1, .ref q2, .int 0, .int 0, .int 0, .int 0, .int 0, .int 0, .int 0, .int 0])), (q1, .inl (k1, 8, .inl (fun _ => 0))), (q2, .inl (k2, 8, .inl (fun _ => 0)))] [(k1, .int), (k2, .int)] t) (va_A [(h0, .inr (2, [.null, .null, .int 0, .int 0, .int 0, .int 0, .int 0, .int 0, .int 0, .int 0]))] sz)) 2 16 (va_A [(h0, .inr (2, [.null, .null, .int 0, .int 0, .int 0, .int 0, .int 0, .int 0, .int 0, .int 0]))] sz) := by
  refine Met.ofW (cc := cX2_init) (maxL := 1) (ret := none) (by decide) rfl ?_
  intro p e s m args below meth c s₁ B hml hv
  obtain ⟨rfl, hsz, hz, hP, hK, hD0⟩ := hv
  have hx := B.exec
  have hb := B.bytes
  have hr := B.returns
  have hts := atoms_spec (ws := wsX2_init) B.pre
  have hown : s.vm.findClass RX2 = some m.cls := findClass_of_methodNamed B.named
  have hlocks := B.notSynchronized
  have hin : meth.name = "<init>" := (name_of_methodNamed B.named B.method).1
  subst hsz
  have hD := hD0.self (sz := s.heap.size)
  generalize hAe : va_A [(h0, .inr (2, [.null, .null, .int 0, .int 0, .int 0, .int 0, .int 0, .int 0, .int 0, .int 0]))] s.heap.size = A at hD hA0 ⊢
  have hA : ∀ q : Nat, s.heap.size ≤ q → A q := fun q h => by rw [← hAe]; exact Or.inr h
  have hS : va_S A s.heap s.heap [] := va_S.rf
  have hl := lv_entry ([.ref h0]) (n := 1) (Nat.le_of_ble_eq_true rfl)
  rw [lg_entry_eq]
  generalize (lg_sl ([.ref h0]) ++ List.replicate (1 - (lg_sl ([.ref h0])).length) Slot.unset).toArray = ls at hl ⊢
  have hl : lv_has ls 1 [(0, .ref h0)] := hl
  have hP : va_P (dC, dI) vwCl [(h0, .inr (2, [.null, .null, .int 0, .int 0, .int 0, .int 0, .int 0, .int 0, .int 0, .int 0]))] s.heap := hP
  have hw0 := hts (.methodLink RX2 3 objectInit) (by decide +kernel)
  have hw1 := hts (.instanceMethod objectInit) (by decide +kernel)
  have hw2 := hts (.code objectInit ⟨#[0xb1]⟩ 1 none) (by decide +kernel)
  have hw3 := hts (.arrayClass .int) (by decide +kernel)
  have hiX2 : ∀ w ∈ u_ws RX2 TX2 10, w ∈ wsX2_init := fun _ h => List.mem_cons_of_mem _ (List.mem_append_right _ h)
  have hw5 := hts (.fieldLink RX2 9 "PostHouse$Letter" "codes" "[I") (by decide +kernel)
  have hw6 := hts (.fieldLink RX2 15 "PostHouse$Letter" "pieces" "[I") (by decide +kernel)
  refine lv_aload_n hx hb dX2_init_0 rfl (lv_at hl 0 rfl) ?_
  refine W.objInit hx hb hown hw0 hw1 hw2 rfl (by rw [hml]; exact hl.1) rfl dX2_init_1 (Nat.le_of_ble_eq_true rfl) (Nat.le_of_ble_eq_true rfl) ?_
  refine W.eq (g2 := F0 m 4 ls []) rfl ?_
  refine lv_aload_n hx hb dX2_init_4 rfl (lv_at hl 0 rfl) ?_
  refine lv_bipush (v := 8) hx hb dX2_init_5 (by decide) ?_
  refine va_newa (D := (dC, dI)) (atype := .int) (N' := 8) (a0 := (8, .inl (fun _ => 0))) (ty := .int) hx hb hw3 rfl hK hP hD hS hA (zNew_I 8) (by decide) (by decide) (by decide) (Nat.le_of_ble_eq_true rfl) (Nat.le_of_ble_eq_true rfl) dX2_init_7 (fun q1 cq1 H hK hP hD hS => ?_)
  have hP : va_P (dC, dI) vwCl [(h0, .inr (2, [.null, .null, .int 0, .int 0, .int 0, .int 0, .int 0, .int 0, .int 0, .int 0])), (q1, .inl (cq1, 8, .inl (fun _ => 0)))] H := hP
  have hD : va_D A [(h0, .inr (2, [.null, .null, .int 0, .int 0, .int 0, .int 0, .int 0, .int 0, .int 0, .int 0])), (q1, .inl (cq1, 8, .inl (fun _ => 0)))] := hD
  have hK : va_K (dC, dI) vwCl [(cq1, .int)] s := hK
  refine W.widen (k := 1) (n := 8) (by decide) (by decide) ?_
  refine va_putF (D := (dC, dI)) (ci := 2) (v := .ref q1) (ty := .array .int) (C := RX2) (T := TX2) (N := 10) hx hb hts hiX2 tyX2 tyX2_ok nmX2 hown hK hP hD hS 0 rfl rfl 0 (by decide) hw5 (fun _ h9 => h9) rfl hin rfl (by decide +kernel) rfl rfl (Nat.le_of_ble_eq_true rfl) dX2_init_9 (fun H locs hP hD hS => ?_)
  have hP : va_P (dC, dI) vwCl [(h0, .inr (2, [.ref q1, .null, .int 0, .int 0, .int 0, .int 0, .int 0, .int 0, .int 0, .int 0])), (q1, .inl (cq1, 8, .inl (fun _ => 0)))] H := hP
  have hD : va_D A [(h0, .inr (2, [.ref q1, .null, .int 0, .int 0, .int 0, .int 0, .int 0, .int 0, .int 0, .int 0])), (q1, .inl (cq1, 8, .inl (fun _ => 0)))] := hD
  refine lv_aload_n hx hb dX2_init_12 rfl (lv_at hl 0 rfl) ?_
  refine lv_bipush (v := 8) hx hb dX2_init_13 (by decide) ?_
  refine va_newa (D := (dC, dI)) (atype := .int) (N' := 8) (a0 := (8, .inl (fun _ => 0))) (ty := .int) hx hb hw3 rfl hK hP hD hS hA (zNew_I 8) (by decide) (by decide) (by decide) (Nat.le_of_ble_eq_true rfl) (Nat.le_of_ble_eq_true rfl) dX2_init_15 (fun q2 cq2 H hK hP hD hS => ?_)
  have hP : va_P (dC, dI) vwCl [(h0, .inr (2, [.ref q1, .null, .int 0, .int 0, .int 0, .int 0, .int 0, .int 0, .int 0, .int 0])), (q1, .inl (cq1, 8, .inl (fun _ => 0))), (q2, .inl (cq2, 8, .inl (fun _ => 0)))] H := hP
  have hD : va_D A [(h0, .inr (2, [.ref q1, .null, .int 0, .int 0, .int 0, .int 0, .int 0, .int 0, .int 0, .int 0])), (q1, .inl (cq1, 8, .inl (fun _ => 0))), (q2, .inl (cq2, 8, .inl (fun _ => 0)))] := hD
  have hK : va_K (dC, dI) vwCl [(cq1, .int), (cq2, .int)] s := hK
  refine W.widen (k := 2) (n := 16) (by decide) (by decide) ?_
  refine va_putF (D := (dC, dI)) (ci := 2) (v := .ref q2) (ty := .array .int) (C := RX2) (T := TX2) (N := 10) hx hb hts hiX2 tyX2 tyX2_ok nmX2 hown hK hP hD hS 0 rfl rfl 1 (by decide) hw6 (fun _ h9 => h9) rfl hin rfl (by decide +kernel) rfl rfl (Nat.le_of_ble_eq_true rfl) dX2_init_17 (fun H locs hP hD hS => ?_)
  have hP : va_P (dC, dI) vwCl [(h0, .inr (2, [.ref q1, .ref q2, .int 0, .int 0, .int 0, .int 0, .int 0, .int 0, .int 0, .int 0])), (q1, .inl (cq1, 8, .inl (fun _ => 0))), (q2, .inl (cq2, 8, .inl (fun _ => 0)))] H := hP
  have hD : va_D A [(h0, .inr (2, [.ref q1, .ref q2, .int 0, .int 0, .int 0, .int 0, .int 0, .int 0, .int 0, .int 0])), (q1, .inl (cq1, 8, .inl (fun _ => 0))), (q2, .inl (cq2, 8, .inl (fun _ => 0)))] := hD
  have hP9 := hP.sub (ws' := [(h0, .inr (2, [.ref q1, .ref q2, .int 0, .int 0, .int 0, .int 0, .int 0, .int 0, .int 0, .int 0])), (q1, .inl (cq1, 8, .inl (fun _ => 0))), (q2, .inl (cq2, 8, .inl (fun _ => 0)))]) [0, 1, 2] rfl
  have hD9 := hD.sub (ws' := [(h0, .inr (2, [.ref q1, .ref q2, .int 0, .int 0, .int 0, .int 0, .int 0, .int 0, .int 0, .int 0])), (q1, .inl (cq1, 8, .inl (fun _ => 0))), (q2, .inl (cq2, 8, .inl (fun _ => 0)))]) [0, 1, 2] (by decide) rfl
  have hK9 := hK.sub (tys' := [(cq1, .int), (cq2, .int)]) [0, 1] rfl
  refine W.widen (k := 2) (n := 16) (by decide) (by decide) ?_
  exact W.vret hx hb hr (fun t ht hW => ⟨⟨(), rfl, trivial, ⟨q1, cq1, q2, cq2, ⟨by rw [ht]; exact hP9, va_K.moved hW.alike hK9, hD9⟩⟩⟩, hS.F ht⟩) hS.2.2 dX2_init_20
set_option maxHeartbeats 4000000 in
set_option maxRecDepth 100000 in
/-- Thing(..) -/
theorem c_Thing_init (l : Launch) (hl0 : l.stackTraces = false) (dC : Nat → ClassId) (dI : Nat → Nat → Nat) (A0 : Nat → Prop) (ad : Nat → Nat) (sz : Nat) (h0 : Nat) (x0 x1 x2 x3 x4 : Int32) (hA0 : ∀ q, va_A [(h0, .inr (8, [.int 0, .int 0, .int 0, .int 0, .int 0, .int 0, .int 0, .null, .null, .null]))] sz q → A0 q) : Met l yX8_init wsX8_init ({ frames := 1, cells := 3, slots := 12, locals := 12 }) (va_Pc [.ref h0, .int x0, .int x1, .int x2, .int x3, .int x4] (zPc A0 ad (dC, dI) [(h0, .inr (8, [.int 0, .int 0, .int 0, .int 0, .int 0, .int 0, .int 0, .null, .null, .null]))] [] sz)) (va_Qv (fun (_ : Unit) => True) (fun (_ : Unit) (t : State) => ∃ (q1 : Nat), ∃ (q2 : Nat), ∃ (q3 : Nat), zB (dC, dI) (va_A [(h0, .inr (8, [.int 0, .int 0, .int 0, .int 0, .int 0, .int 0, .int 0, .null, .null, .null]))] sz) [(h0, .inr (8, [.int x0, .int x1, .int x2, .int x3, .int x4, .int 0, .int 0, .ref q1, .ref q2, .ref q3]))] [] t) (va_A [(h0, .inr (8, [.int 0, .int 0, .int 0, .int 0, .int 0, .int 0, .int 0, .null, .null, .null]))] sz)) 3 12 (va_A [(h0, .inr (8, [.int 0, .int 0, .int 0, .int 0, .int 0, .int 0, .int 0, .null, .null, .null]))] sz) := by
  refine Met.ofW (cc := cX8_init) (maxL := 6) (ret := none) (by decide) rfl ?_
  intro p e s m args below meth c s₁ B hml hv
  obtain ⟨rfl, hsz, hz, hP, hK, hD0⟩ := hv
  have hx := B.exec
  have hb := B.bytes
  have hr := B.returns
  have hts := atoms_spec (ws := wsX8_init) B.pre
  have hown : s.vm.findClass RX8 = some m.cls := findClass_of_methodNamed B.named
  have hlocks := B.notSynchronized
  have hin : meth.name = "<init>" := (name_of_methodNamed B.named B.method).1
  subst hsz
  have hD := hD0.self (sz := s.heap.size)
  generalize hAe : va_A [(h0, .inr (8, [.int 0, .int 0, .int 0, .int 0, .int 0, .int 0, .int 0, .null, .null, .null]))] s.heap.size = A at hD hA0 ⊢
  have hA : ∀ q : Nat, s.heap.size ≤ q → A q := fun q h => by rw [← hAe]; exact Or.inr h
  have hS : va_S A s.heap s.heap [] := va_S.rf
  have hl := lv_entry ([.ref h0, .int x0, .int x1, .int x2, .int x3, .int x4]) (n := 6) (Nat.le_of_ble_eq_true rfl)
  rw [lg_entry_eq]
  generalize (lg_sl ([.ref h0, .int x0, .int x1, .int x2, .int x3, .int x4]) ++ List.replicate (6 - (lg_sl ([.ref h0, .int x0, .int x1, .int x2, .int x3, .int x4])).length) Slot.unset).toArray = ls at hl ⊢
  have hl : lv_has ls 6 [(0, .ref h0), (1, .int x0), (2, .int x1), (3, .int x2), (4, .int x3), (5, .int x4)] := hl
  have hP : va_P (dC, dI) vwCl [(h0, .inr (8, [.int 0, .int 0, .int 0, .int 0, .int 0, .int 0, .int 0, .null, .null, .null]))] s.heap := hP
  have hw0 := hts (.methodLink RX8 3 objectInit) (by decide +kernel)
  have hw1 := hts (.instanceMethod objectInit) (by decide +kernel)
  have hw2 := hts (.code objectInit ⟨#[0xb1]⟩ 1 none) (by decide +kernel)
  have hw3 := hts (.arrayClass .int) (by decide +kernel)
  have hiX8 : ∀ w ∈ u_ws RX8 TX8 10, w ∈ wsX8_init := fun _ h => List.mem_cons_of_mem _ (List.mem_append_right _ h)
  have hw5 := hts (.fieldLink RX8 9 "PostHouse$Thing" "moneys" "[I") (by decide +kernel)
  have hw6 := hts (.fieldLink RX8 15 "PostHouse$Thing" "froms" "[I") (by decide +kernel)
  have hw7 := hts (.fieldLink RX8 18 "PostHouse$Thing" "tos" "[I") (by decide +kernel)
  have hw8 := hts (.fieldLink RX8 21 "PostHouse$Thing" "number" "I") (by decide +kernel)
  have hw9 := hts (.fieldLink RX8 25 "PostHouse$Thing" "code" "I") (by decide +kernel)
  have hw10 := hts (.fieldLink RX8 28 "PostHouse$Thing" "weight" "I") (by decide +kernel)
  have hw11 := hts (.fieldLink RX8 31 "PostHouse$Thing" "street" "I") (by decide +kernel)
  have hw12 := hts (.fieldLink RX8 34 "PostHouse$Thing" "place" "I") (by decide +kernel)
  refine lv_aload_n hx hb dX8_init_0 rfl (lv_at hl 0 rfl) ?_
  refine W.objInit hx hb hown hw0 hw1 hw2 rfl (by rw [hml]; exact hl.1) rfl dX8_init_1 (Nat.le_of_ble_eq_true rfl) (Nat.le_of_ble_eq_true rfl) ?_
  refine W.eq (g2 := F0 m 4 ls []) rfl ?_
  refine lv_aload_n hx hb dX8_init_4 rfl (lv_at hl 0 rfl) ?_
  refine lv_iconst (v := 4) hx hb dX8_init_5 (by decide) ?_
  refine va_newa (D := (dC, dI)) (atype := .int) (N' := 4) (a0 := (4, .inl (fun _ => 0))) (ty := .int) hx hb hw3 rfl hK hP hD hS hA (zNew_I 4) (by decide) (by decide) (by decide) (Nat.le_of_ble_eq_true rfl) (Nat.le_of_ble_eq_true rfl) dX8_init_6 (fun q1 cq1 H hK hP hD hS => ?_)
  have hP := hP.sub (ws' := [(h0, .inr (8, [.int 0, .int 0, .int 0, .int 0, .int 0, .int 0, .int 0, .null, .null, .null]))]) [0] rfl
  have hD := hD.sub (ws' := [(h0, .inr (8, [.int 0, .int 0, .int 0, .int 0, .int 0, .int 0, .int 0, .null, .null, .null]))]) [0] (by decide) rfl
  have hK := hK.sub (tys' := []) [] rfl
  refine W.widen (k := 1) (n := 4) (by decide) (by decide) ?_
  refine va_putF (D := (dC, dI)) (ci := 8) (v := .ref q1) (ty := .array .int) (C := RX8) (T := TX8) (N := 10) hx hb hts hiX8 tyX8 tyX8_ok nmX8 hown hK hP hD hS 0 rfl rfl 7 (by decide) hw5 (fun _ h9 => h9) rfl hin rfl (by decide +kernel) rfl rfl (Nat.le_of_ble_eq_true rfl) dX8_init_8 (fun H locs hP hD hS => ?_)
  have hP : va_P (dC, dI) vwCl [(h0, .inr (8, [.int 0, .int 0, .int 0, .int 0, .int 0, .int 0, .int 0, .ref q1, .null, .null]))] H := hP
  have hD : va_D A [(h0, .inr (8, [.int 0, .int 0, .int 0, .int 0, .int 0, .int 0, .int 0, .ref q1, .null, .null]))] := hD
  refine lv_aload_n hx hb dX8_init_11 rfl (lv_at hl 0 rfl) ?_
  refine lv_iconst (v := 4) hx hb dX8_init_12 (by decide) ?_
  refine va_newa (D := (dC, dI)) (atype := .int) (N' := 4) (a0 := (4, .inl (fun _ => 0))) (ty := .int) hx hb hw3 rfl hK hP hD hS hA (zNew_I 4) (by decide) (by decide) (by decide) (Nat.le_of_ble_eq_true rfl) (Nat.le_of_ble_eq_true rfl) dX8_init_13 (fun q2 cq2 H hK hP hD hS => ?_)
  have hP := hP.sub (ws' := [(h0, .inr (8, [.int 0, .int 0, .int 0, .int 0, .int 0, .int 0, .int 0, .ref q1, .null, .null]))]) [0] rfl
  have hD := hD.sub (ws' := [(h0, .inr (8, [.int 0, .int 0, .int 0, .int 0, .int 0, .int 0, .int 0, .ref q1, .null, .null]))]) [0] (by decide) rfl
  have hK := hK.sub (tys' := []) [] rfl
  refine W.widen (k := 2) (n := 8) (by decide) (by decide) ?_
  refine va_putF (D := (dC, dI)) (ci := 8) (v := .ref q2) (ty := .array .int) (C := RX8) (T := TX8) (N := 10) hx hb hts hiX8 tyX8 tyX8_ok nmX8 hown hK hP hD hS 0 rfl rfl 8 (by decide) hw6 (fun _ h9 => h9) rfl hin rfl (by decide +kernel) rfl rfl (Nat.le_of_ble_eq_true rfl) dX8_init_15 (fun H locs hP hD hS => ?_)
  have hP : va_P (dC, dI) vwCl [(h0, .inr (8, [.int 0, .int 0, .int 0, .int 0, .int 0, .int 0, .int 0, .ref q1, .ref q2, .null]))] H := hP
  have hD : va_D A [(h0, .inr (8, [.int 0, .int 0, .int 0, .int 0, .int 0, .int 0, .int 0, .ref q1, .ref q2, .null]))] := hD
  refine lv_aload_n hx hb dX8_init_18 rfl (lv_at hl 0 rfl) ?_
  refine lv_iconst (v := 4) hx hb dX8_init_19 (by decide) ?_
  refine va_newa (D := (dC, dI)) (atype := .int) (N' := 4) (a0 := (4, .inl (fun _ => 0))) (ty := .int) hx hb hw3 rfl hK hP hD hS hA (zNew_I 4) (by decide) (by decide) (by decide) (Nat.le_of_ble_eq_true rfl) (Nat.le_of_ble_eq_true rfl) dX8_init_20 (fun q3 cq3 H hK hP hD hS => ?_)
  have hP := hP.sub (ws' := [(h0, .inr (8, [.int 0, .int 0, .int 0, .int 0, .int 0, .int 0, .int 0, .ref q1, .ref q2, .null]))]) [0] rfl
  have hD := hD.sub (ws' := [(h0, .inr (8, [.int 0, .int 0, .int 0, .int 0, .int 0, .int 0, .int 0, .ref q1, .ref q2, .null]))]) [0] (by decide) rfl
  have hK := hK.sub (tys' := []) [] rfl
  refine W.widen (k := 3) (n := 12) (by decide) (by decide) ?_
  refine va_putF (D := (dC, dI)) (ci := 8) (v := .ref q3) (ty := .array .int) (C := RX8) (T := TX8) (N := 10) hx hb hts hiX8 tyX8 tyX8_ok nmX8 hown hK hP hD hS 0 rfl rfl 9 (by decide) hw7 (fun _ h9 => h9) rfl hin rfl (by decide +kernel) rfl rfl (Nat.le_of_ble_eq_true rfl) dX8_init_22 (fun H locs hP hD hS => ?_)
  have hP : va_P (dC, dI) vwCl [(h0, .inr (8, [.int 0, .int 0, .int 0, .int 0, .int 0, .int 0, .int 0, .ref q1, .ref q2, .ref q3]))] H := hP
  have hD : va_D A [(h0, .inr (8, [.int 0, .int 0, .int 0, .int 0, .int 0, .int 0, .int 0, .ref q1, .ref q2, .ref q3]))] := hD
  refine lv_aload_n hx hb dX8_init_25 rfl (lv_at hl 0 rfl) ?_
  refine lv_iload_n hx hb dX8_init_26 rfl (lv_at hl 1 rfl) ?_
  refine va_putF (D := (dC, dI)) (ci := 8) (v := .int x0) (ty := .int) (C := RX8) (T := TX8) (N := 10) hx hb hts hiX8 tyX8 tyX8_ok nmX8 hown hK hP hD hS 0 rfl rfl 0 (by decide) hw8 (fun _ h9 => h9) rfl hin rfl (by decide +kernel) rfl rfl (Nat.le_of_ble_eq_true rfl) dX8_init_27 (fun H locs hP hD hS => ?_)
  have hP : va_P (dC, dI) vwCl [(h0, .inr (8, [.int x0, .int 0, .int 0, .int 0, .int 0, .int 0, .int 0, .ref q1, .ref q2, .ref q3]))] H := hP
  have hD : va_D A [(h0, .inr (8, [.int x0, .int 0, .int 0, .int 0, .int 0, .int 0, .int 0, .ref q1, .ref q2, .ref q3]))] := hD
  refine lv_aload_n hx hb dX8_init_30 rfl (lv_at hl 0 rfl) ?_
  refine lv_iload_n hx hb dX8_init_31 rfl (lv_at hl 2 rfl) ?_
  refine va_putF (D := (dC, dI)) (ci := 8) (v := .int x1) (ty := .int) (C := RX8) (T := TX8) (N := 10) hx hb hts hiX8 tyX8 tyX8_ok nmX8 hown hK hP hD hS 0 rfl rfl 1 (by decide) hw9 (fun _ h9 => h9) rfl hin rfl (by decide +kernel) rfl rfl (Nat.le_of_ble_eq_true rfl) dX8_init_32 (fun H locs hP hD hS => ?_)
  have hP : va_P (dC, dI) vwCl [(h0, .inr (8, [.int x0, .int x1, .int 0, .int 0, .int 0, .int 0, .int 0, .ref q1, .ref q2, .ref q3]))] H := hP
  have hD : va_D A [(h0, .inr (8, [.int x0, .int x1, .int 0, .int 0, .int 0, .int 0, .int 0, .ref q1, .ref q2, .ref q3]))] := hD
  refine lv_aload_n hx hb dX8_init_35 rfl (lv_at hl 0 rfl) ?_
  refine lv_iload_n hx hb dX8_init_36 rfl (lv_at hl 3 rfl) ?_
  refine va_putF (D := (dC, dI)) (ci := 8) (v := .int x2) (ty := .int) (C := RX8) (T := TX8) (N := 10) hx hb hts hiX8 tyX8 tyX8_ok nmX8 hown hK hP hD hS 0 rfl rfl 2 (by decide) hw10 (fun _ h9 => h9) rfl hin rfl (by decide +kernel) rfl rfl (Nat.le_of_ble_eq_true rfl) dX8_init_37 (fun H locs hP hD hS => ?_)
  have hP : va_P (dC, dI) vwCl [(h0, .inr (8, [.int x0, .int x1, .int x2, .int 0, .int 0, .int 0, .int 0, .ref q1, .ref q2, .ref q3]))] H := hP
  have hD : va_D A [(h0, .inr (8, [.int x0, .int x1, .int x2, .int 0, .int 0, .int 0, .int 0, .ref q1, .ref q2, .ref q3]))] := hD
  refine lv_aload_n hx hb dX8_init_40 rfl (lv_at hl 0 rfl) ?_
  refine lv_iload hx hb dX8_init_41 (lv_at hl 4 rfl) ?_
  refine va_putF (D := (dC, dI)) (ci := 8) (v := .int x3) (ty := .int) (C := RX8) (T := TX8) (N := 10) hx hb hts hiX8 tyX8 tyX8_ok nmX8 hown hK hP hD hS 0 rfl rfl 3 (by decide) hw11 (fun _ h9 => h9) rfl hin rfl (by decide +kernel) rfl rfl (Nat.le_of_ble_eq_true rfl) dX8_init_43 (fun H locs hP hD hS => ?_)
  have hP : va_P (dC, dI) vwCl [(h0, .inr (8, [.int x0, .int x1, .int x2, .int x3, .int 0, .int 0, .int 0, .ref q1, .ref q2, .ref q3]))] H := hP
  have hD : va_D A [(h0, .inr (8, [.int x0, .int x1, .int x2, .int x3, .int 0, .int 0, .int 0, .ref q1, .ref q2, .ref q3]))] := hD
  refine lv_aload_n hx hb dX8_init_46 rfl (lv_at hl 0 rfl) ?_
  refine lv_iload hx hb dX8_init_47 (lv_at hl 5 rfl) ?_
  refine va_putF (D := (dC, dI)) (ci := 8) (v := .int x4) (ty := .int) (C := RX8) (T := TX8) (N := 10) hx hb hts hiX8 tyX8 tyX8_ok nmX8 hown hK hP hD hS 0 rfl rfl 4 (by decide) hw12 (fun _ h9 => h9) rfl hin rfl (by decide +kernel) rfl rfl (Nat.le_of_ble_eq_true rfl) dX8_init_49 (fun H locs hP hD hS => ?_)
  have hP : va_P (dC, dI) vwCl [(h0, .inr (8, [.int x0, .int x1, .int x2, .int x3, .int x4, .int 0, .int 0, .ref q1, .ref q2, .ref q3]))] H := hP
  have hD : va_D A [(h0, .inr (8, [.int x0, .int x1, .int x2, .int x3, .int x4, .int 0, .int 0, .ref q1, .ref q2, .ref q3]))] := hD
  have hP9 := hP.sub (ws' := [(h0, .inr (8, [.int x0, .int x1, .int x2, .int x3, .int x4, .int 0, .int 0, .ref q1, .ref q2, .ref q3]))]) [0] rfl
  have hD9 := hD.sub (ws' := [(h0, .inr (8, [.int x0, .int x1, .int x2, .int x3, .int x4, .int 0, .int 0, .ref q1, .ref q2, .ref q3]))]) [0] (by decide) rfl
  have hK9 := hK.sub (tys' := []) [] rfl
  refine W.widen (k := 3) (n := 12) (by decide) (by decide) ?_
  exact W.vret hx hb hr (fun t ht hW => ⟨⟨(), rfl, trivial, ⟨q1, q2, q3, ⟨by rw [ht]; exact hP9, va_K.moved hW.alike hK9, hD9⟩⟩⟩, hS.F ht⟩) hS.2.2 dX8_init_52
set_option maxHeartbeats 4000000 in
set_option maxRecDepth 100000 in
/-- PostHouse() -/
theorem c_PH_init (l : Launch) (hl0 : l.stackTraces = false) (dC : Nat → ClassId) (dI : Nat → Nat → Nat) (A0 : Nat → Prop) (ad : Nat → Nat) (sz : Nat) (h0 : Nat) (hA0 : ∀ q, va_A [(h0, .inr (11, [.null, .null, .null, .null, .null, .null, .null, .null, .null, .null, .int 0, .int 0, .int 0, .int 0, .int 0, .int 0]))] sz q → A0 q) : Met l yX11_init wsX11_init ({ frames := 2, cells := 27, slots := 2448, locals := 33 }) (va_Pc [.ref h0] (zPc A0 ad (dC, dI) [(h0, .inr (11, [.null, .null, .null, .null, .null, .null, .null, .null, .null, .null, .int 0, .int 0, .int 0, .int 0, .int 0, .int 0]))] [] sz)) (va_Qv (fun (_ : Unit) => True) (fun (_ : Unit) (t : State) => ∃ (t0 : Nat), ∃ (tb : Nat), ∃ (ctb : ClassId), ∃ (b0 : Nat), ∃ (bt : Nat), ∃ (cbt : ClassId), ∃ (c0 : Nat), ∃ (x1 : Nat), ∃ (x2 : Nat), ∃ (x3 : Nat), ∃ (r0 : Nat), ∃ (rn : Nat), ∃ (crn : ClassId), ∃ (rp : Nat), ∃ (crp : ClassId), ∃ (frp : Nat → Int32), ∃ (d0 : Nat), ∃ (dn : Nat), ∃ (cdn : ClassId), ∃ (dp : Nat), ∃ (cdp : ClassId), ∃ (fdp : Nat → Int32), ∃ (e0 : Nat), ∃ (o0 : Nat), ∃ (s0 : Nat), ∃ (p0 : Nat), ∃ (w0 : Nat), ∃ (y0 : Nat), ∃ (y1 : Nat), ∃ (y2 : Nat), ∃ (y3 : Nat), ∃ (y4 : Nat), zB (dC, dI) (va_A [(h0, .inr (11, [.null, .null, .null, .null, .null, .null, .null, .null, .null, .null, .int 0, .int 0, .int 0, .int 0, .int 0, .int 0]))] sz) [(h0, .inr (11, [.ref t0, .ref b0, .ref c0, .ref r0, .ref d0, .ref e0, .ref o0, .ref s0, .ref p0, .ref w0, .int 0, .int 0, .int 0, .int 0, .int ((-1)), .int 0])), (t0, .inr (7, [.ref tb, .int 0, .int 0, .int ((-1))])), (tb, .inl (ctb, 400, .inl (fun _ => 0))), (b0, .inr (0, [.ref bt, .int 0])), (bt, .inl (cbt, 30, .inr (.inr (.inr (.inr (fun _ => none)))))), (c0, .inr (1, [.ref x1, .ref x2, .ref x3, .int 0])), (r0, .inr (5, [.ref rn, .ref rp])), (rn, .inl (crn, 4, .inl (upd (upd (upd (upd (fun _ => 0) (0 : Int32).toNatClampNeg 10) (1 : Int32).toNatClampNeg 50) (2 : Int32).toNatClampNeg 10000) (3 : Int32).toNatClampNeg 14))), (rp, .inl (crp, 30, .inl frp)), (d0, .inr (5, [.ref dn, .ref dp])), (dn, .inl (cdn, 4, .inl (upd (upd (upd (upd (fun _ => 0) (0 : Int32).toNatClampNeg 10) (1 : Int32).toNatClampNeg 50) (2 : Int32).toNatClampNeg 10000) (3 : Int32).toNatClampNeg 14))), (dp, .inl (cdp, 30, .inl fdp)), (w0, .inr (9, [.ref y0, .int 0, .ref y1, .ref y2, .ref y3, .ref y4]))] [(ctb, .byte), (cbt, .object "PostHouse$Thing"), (crn, .int), (crp, .int), (cdn, .int), (cdp, .int)] t) (va_A [(h0, .inr (11, [.null, .null, .null, .null, .null, .null, .null, .null, .null, .null, .int 0, .int 0, .int 0, .int 0, .int 0, .int 0]))] sz)) 27 2448 (va_A [(h0, .inr (11, [.null, .null, .null, .null, .null, .null, .null, .null, .null, .null, .int 0, .int 0, .int 0, .int 0, .int 0, .int 0]))] sz) := by
  refine Met.ofW (cc := cX11_init) (maxL := 1) (ret := none) (by decide) rfl ?_
  intro p e s m args below meth c s₁ B hml hv
  obtain ⟨rfl, hsz, hz, hP, hK, hD0⟩ := hv
  have hx := B.exec
  have hb := B.bytes
  have hr := B.returns
  have hts := atoms_spec (ws := wsX11_init) B.pre
  have hown : s.vm.findClass RX11 = some m.cls := findClass_of_methodNamed B.named
  have hlocks := B.notSynchronized
  have hin : meth.name = "<init>" := (name_of_methodNamed B.named B.method).1
  subst hsz
  have hD := hD0.self (sz := s.heap.size)
  generalize hAe : va_A [(h0, .inr (11, [.null, .null, .null, .null, .null, .null, .null, .null, .null, .null, .int 0, .int 0, .int 0, .int 0, .int 0, .int 0]))] s.heap.size = A at hD hA0 ⊢
  have hA : ∀ q : Nat, s.heap.size ≤ q → A q := fun q h => by rw [← hAe]; exact Or.inr h
  have hS : va_S A s.heap s.heap [] := va_S.rf
  have hl := lv_entry ([.ref h0]) (n := 1) (Nat.le_of_ble_eq_true rfl)
  rw [lg_entry_eq]
  generalize (lg_sl ([.ref h0]) ++ List.replicate (1 - (lg_sl ([.ref h0])).length) Slot.unset).toArray = ls at hl ⊢
  have hl : lv_has ls 1 [(0, .ref h0)] := hl
  have hP : va_P (dC, dI) vwCl [(h0, .inr (11, [.null, .null, .null, .null, .null, .null, .null, .null, .null, .null, .int 0, .int 0, .int 0, .int 0, .int 0, .int 0]))] s.heap := hP
  have hw0 := hts (.methodLink RX11 1 objectInit) (by decide +kernel)
  have hw1 := hts (.instanceMethod objectInit) (by decide +kernel)
  have hw2 := hts (.code objectInit ⟨#[0xb1]⟩ 1 none) (by decide +kernel)
  have hiX7 : ∀ w ∈ u_ws RX7 TX7 4, w ∈ wsX11_init := fun _ h => List.mem_cons_of_mem _ (List.mem_append_left _ (List.mem_append_left _ (List.mem_append_left _ (List.mem_append_left _ (List.mem_append_left _ (List.mem_append_left _ (List.mem_append_right _ h)))))))
  have hw4 := hts (.classLink RX11 7 RX7) (by decide +kernel)
  have hw5 := hts (.instantiable RX7 4) (by decide +kernel)
  have hw6 := hts (.initialized RX7) (by decide +kernel)
  have hw7 := hts (.instanceMethod yX7_init) (by decide +kernel)
  have hiX11 : ∀ w ∈ u_ws RX11 TX11 16, w ∈ wsX11_init := fun _ h => List.mem_cons_of_mem _ (List.mem_append_left _ (List.mem_append_left _ (List.mem_append_left _ (List.mem_append_left _ (List.mem_append_left _ (List.mem_append_right _ h))))))
  have hw9 := hts (.fieldLink RX11 10 "PostHouse" "tape" "LPostHouse$Tape;") (by decide +kernel)
  have hiX0 : ∀ w ∈ u_ws RX0 TX0 2, w ∈ wsX11_init := fun _ h => List.mem_cons_of_mem _ (List.mem_append_left _ (List.mem_append_left _ (List.mem_append_left _ (List.mem_append_left _ (List.mem_append_right _ h)))))
  have hw11 := hts (.classLink RX11 16 RX0) (by decide +kernel)
  have hw12 := hts (.instantiable RX0 2) (by decide +kernel)
  have hw13 := hts (.initialized RX0) (by decide +kernel)
  have hw14 := hts (.instanceMethod yX0_init) (by decide +kernel)
  have hw15 := hts (.fieldLink RX11 19 "PostHouse" "book" "LPostHouse$Book;") (by decide +kernel)
  have hiX1 : ∀ w ∈ u_ws RX1 TX1 4, w ∈ wsX11_init := fun _ h => List.mem_cons_of_mem _ (List.mem_append_left _ (List.mem_append_left _ (List.mem_append_left _ (List.mem_append_right _ h))))
  have hw17 := hts (.classLink RX11 23 RX1) (by decide +kernel)
  have hw18 := hts (.instantiable RX1 4) (by decide +kernel)
  have hw19 := hts (.initialized RX1) (by decide +kernel)
  have hw20 := hts (.instanceMethod yX1_init) (by decide +kernel)
  have hw21 := hts (.fieldLink RX11 26 "PostHouse" "comings" "LPostHouse$Comings;") (by decide +kernel)
  have hiX5 : ∀ w ∈ u_ws RX5 TX5 2, w ∈ wsX11_init := fun _ h => List.mem_cons_of_mem _ (List.mem_append_left _ (List.mem_append_left _ (List.mem_append_right _ h)))
  have hw23 := hts (.classLink RX11 30 RX5) (by decide +kernel)
  have hw24 := hts (.instantiable RX5 2) (by decide +kernel)
  have hw25 := hts (.initialized RX5) (by decide +kernel)
  have hw26 := hts (.methodLink RX11 32 yX5_init) (by decide +kernel)
  have hw27 := hts (.instanceMethod yX5_init) (by decide +kernel)
  have hw28 := hts (.fieldLink RX11 33 "PostHouse" "rules" "LPostHouse$Rules;") (by decide +kernel)
  have hw29 := hts (.fieldLink RX11 37 "PostHouse" "draft" "LPostHouse$Rules;") (by decide +kernel)
  have hw30 := hts (.classLink RX11 40 RX2) (by decide +kernel)
  have hw31 := hts (.fieldLink RX11 42 "PostHouse" "doubts" "[LPostHouse$Letter;") (by decide +kernel)
  have hw32 := hts (.classLink RX11 46 RX3) (by decide +kernel)
  have hw33 := hts (.fieldLink RX11 48 "PostHouse" "orders" "[LPostHouse$Order;") (by decide +kernel)
  have hw34 := hts (.classLink RX11 52 RX6) (by decide +kernel)
  have hw35 := hts (.fieldLink RX11 54 "PostHouse" "sendings" "[LPostHouse$Sending;") (by decide +kernel)
  have hiX4 : ∀ w ∈ u_ws RX4 TX4 5, w ∈ wsX11_init := fun _ h => List.mem_cons_of_mem _ (List.mem_append_left _ (List.mem_append_right _ h))
  have hw37 := hts (.classLink RX11 58 RX4) (by decide +kernel)
  have hw38 := hts (.instantiable RX4 5) (by decide +kernel)
  have hw39 := hts (.initialized RX4) (by decide +kernel)
  have hw40 := hts (.instanceMethod yX4_init) (by decide +kernel)
  have hw41 := hts (.fieldLink RX11 61 "PostHouse" "packing" "LPostHouse$Packing;") (by decide +kernel)
  have hiX9 : ∀ w ∈ u_ws RX9 TX9 6, w ∈ wsX11_init := fun _ h => List.mem_cons_of_mem _ (List.mem_append_right _ h)
  have hw43 := hts (.classLink RX11 65 RX9) (by decide +kernel)
  have hw44 := hts (.instantiable RX9 6) (by decide +kernel)
  have hw45 := hts (.initialized RX9) (by decide +kernel)
  have hw46 := hts (.instanceMethod yX9_init) (by decide +kernel)
  have hw47 := hts (.fieldLink RX11 68 "PostHouse" "walk" "LPostHouse$Walk;") (by decide +kernel)
  have hw48 := hts (.fieldLink RX11 72 "PostHouse" "fault" "I") (by decide +kernel)
  refine lv_aload_n hx hb dX11_init_0 rfl (lv_at hl 0 rfl) ?_
  refine W.objInit hx hb hown hw0 hw1 hw2 rfl (by rw [hml]; exact hl.1) rfl dX11_init_1 (Nat.le_of_ble_eq_true rfl) (Nat.le_of_ble_eq_true rfl) ?_
  refine W.eq (g2 := F0 m 4 ls []) rfl ?_
  refine lv_aload_n hx hb dX11_init_4 rfl (lv_at hl 0 rfl) ?_
  refine va_new (ci := 7) (fs := [.null, .int 0, .int 0, .int 0]) (C := RX7) (T := TX7) (N := 4) hx hb hts hiX7 tyX7 tyX7_ok hown hw4 hw5 hw6 hK hP hD hS hA rfl (by decide) (Nat.le_of_ble_eq_true rfl) (Nat.le_of_ble_eq_true rfl) dX11_init_5 (fun q1 H hP hD hS => ?_)
  have hP : va_P (dC, dI) vwCl [(h0, .inr (11, [.null, .null, .null, .null, .null, .null, .null, .null, .null, .null, .int 0, .int 0, .int 0, .int 0, .int 0, .int 0])), (q1, .inr (7, [.null, .int 0, .int 0, .int 0]))] H := hP
  have hD : va_D A [(h0, .inr (11, [.null, .null, .null, .null, .null, .null, .null, .null, .null, .null, .int 0, .int 0, .int 0, .int 0, .int 0, .int 0])), (q1, .inr (7, [.null, .int 0, .int 0, .int 0]))] := hD
  refine W.widen (k := 1) (n := 4) (by decide) (by decide) ?_
  refine lv_dup hx hb dX11_init_8 rfl ?_
  have hPc := hP.sub (ws' := [(q1, .inr (7, [.null, .int 0, .int 0, .int 0]))]) [1] rfl
  have hDc := hD.sub (ws' := [(q1, .inr (7, [.null, .int 0, .int 0, .int 0]))]) [1] (by decide) rfl
  have hKc := hK.sub (tys' := []) [] rfl
  have hFc := va_free (wc := [(q1, .inr (7, [.null, .int 0, .int 0, .int 0]))]) hD hS hA [1] rfl
  refine va_callv (va_runIN (host := RX11) (As := []) (rest := [.ref q1, .ref h0]) ⟨hx, hb, hml, hown, hts⟩ (c_Tape_init l hl0 dC dI A0 ad H.size q1 (fun q h => hA0 q (hFc q h))) ⟨va_cnB (host := RX11) (y := yX7_init) 0 hts gX11_init_X7_init_n9 rfl rfl rfl (hz.2.2.2.2.2.1 _ (List.mem_of_getElem? (i := 0) rfl)) hw6 (by decide +kernel) ⟨Nat.le_of_ble_eq_true rfl, Nat.le_of_ble_eq_true rfl⟩, rfl, hw7⟩ ⟨zPc_bl, zPc_at hz hS hA0 hPc hKc hDc⟩ rfl rfl hl.1 rfl (lv_room (Nat.le_of_ble_eq_true rfl)) dX11_init_9 ⟨Nat.le_of_ble_eq_true rfl, Nat.le_of_ble_eq_true rfl⟩) hS (fun q _ h => hFc q h) hFc (fun u t H1 locs ht hvm hw hB hz1 hk1 hS => ?_)
  obtain ⟨n3q1, n3k1, hB⟩ := hB
  obtain ⟨hP1, hK1, hD1⟩ := hB
  rw [ht] at hP1
  have hK1 := va_K.moved hvm.symm hK1
  obtain ⟨hP, hD⟩ := va_join (wr := [(h0, .inr (11, [.null, .null, .null, .null, .null, .null, .null, .null, .null, .null, .int 0, .int 0, .int 0, .int 0, .int 0, .int 0]))]) (w1 := [(q1, .inr (7, [.ref n3q1, .int 0, .int 0, .int ((-1))])), (n3q1, .inl (n3k1, 400, .inl (fun _ => 0)))]) hP hD [1] [0] rfl rfl (by decide) (by decide) hk1 hFc hP1 hD1
  have hK := (hK.sub (tys' := []) [] rfl).app hK1
  generalize H1 = H at hP hS ⊢
  have hP : va_P (dC, dI) vwCl [(h0, .inr (11, [.null, .null, .null, .null, .null, .null, .null, .null, .null, .null, .int 0, .int 0, .int 0, .int 0, .int 0, .int 0])), (q1, .inr (7, [.ref n3q1, .int 0, .int 0, .int ((-1))])), (n3q1, .inl (n3k1, 400, .inl (fun _ => 0)))] H := hP
  have hD : va_D A [(h0, .inr (11, [.null, .null, .null, .null, .null, .null, .null, .null, .null, .null, .int 0, .int 0, .int 0, .int 0, .int 0, .int 0])), (q1, .inr (7, [.ref n3q1, .int 0, .int 0, .int ((-1))])), (n3q1, .inl (n3k1, 400, .inl (fun _ => 0)))] := hD
  have hK : va_K (dC, dI) vwCl [(n3k1, .byte)] s := hK
  refine W.widen (k := 2) (n := 404) (by decide) (by decide) ?_
  refine va_putF (D := (dC, dI)) (ci := 11) (v := .ref q1) (ty := .object "PostHouse$Tape") (C := RX11) (T := TX11) (N := 16) hx hb hts hiX11 tyX11 tyX11_ok nmX11 hown hK hP hD hS 0 rfl rfl 0 (by decide) hw9 (fun _ h9 => h9) rfl hin rfl (by decide +kernel) rfl rfl (Nat.le_of_ble_eq_true rfl) dX11_init_12 (fun H locs hP hD hS => ?_)
  have hP : va_P (dC, dI) vwCl [(h0, .inr (11, [.ref q1, .null, .null, .null, .null, .null, .null, .null, .null, .null, .int 0, .int 0, .int 0, .int 0, .int 0, .int 0])), (q1, .inr (7, [.ref n3q1, .int 0, .int 0, .int ((-1))])), (n3q1, .inl (n3k1, 400, .inl (fun _ => 0)))] H := hP
  have hD : va_D A [(h0, .inr (11, [.ref q1, .null, .null, .null, .null, .null, .null, .null, .null, .null, .int 0, .int 0, .int 0, .int 0, .int 0, .int 0])), (q1, .inr (7, [.ref n3q1, .int 0, .int 0, .int ((-1))])), (n3q1, .inl (n3k1, 400, .inl (fun _ => 0)))] := hD
  refine lv_aload_n hx hb dX11_init_15 rfl (lv_at hl 0 rfl) ?_
  refine va_new (ci := 0) (fs := [.null, .int 0]) (C := RX0) (T := TX0) (N := 2) hx hb hts hiX0 tyX0 tyX0_ok hown hw11 hw12 hw13 hK hP hD hS hA rfl (by decide) (Nat.le_of_ble_eq_true rfl) (Nat.le_of_ble_eq_true rfl) dX11_init_16 (fun q4 H hP hD hS => ?_)
  have hP : va_P (dC, dI) vwCl [(h0, .inr (11, [.ref q1, .null, .null, .null, .null, .null, .null, .null, .null, .null, .int 0, .int 0, .int 0, .int 0, .int 0, .int 0])), (q1, .inr (7, [.ref n3q1, .int 0, .int 0, .int ((-1))])), (n3q1, .inl (n3k1, 400, .inl (fun _ => 0))), (q4, .inr (0, [.null, .int 0]))] H := hP
  have hD : va_D A [(h0, .inr (11, [.ref q1, .null, .null, .null, .null, .null, .null, .null, .null, .null, .int 0, .int 0, .int 0, .int 0, .int 0, .int 0])), (q1, .inr (7, [.ref n3q1, .int 0, .int 0, .int ((-1))])), (n3q1, .inl (n3k1, 400, .inl (fun _ => 0))), (q4, .inr (0, [.null, .int 0]))] := hD
  refine W.widen (k := 3) (n := 406) (by decide) (by decide) ?_
  refine lv_dup hx hb dX11_init_19 rfl ?_
  have hPc := hP.sub (ws' := [(q4, .inr (0, [.null, .int 0]))]) [3] rfl
  have hDc := hD.sub (ws' := [(q4, .inr (0, [.null, .int 0]))]) [3] (by decide) rfl
  have hKc := hK.sub (tys' := []) [] rfl
  have hFc := va_free (wc := [(q4, .inr (0, [.null, .int 0]))]) hD hS hA [3] rfl
  refine va_callv (va_runIN (host := RX11) (As := []) (rest := [.ref q4, .ref h0]) ⟨hx, hb, hml, hown, hts⟩ (c_Book_init l hl0 dC dI A0 ad H.size q4 (fun q h => hA0 q (hFc q h))) ⟨va_cnB (host := RX11) (y := yX0_init) 0 hts gX11_init_X0_init_n18 rfl rfl rfl (hz.2.2.2.2.2.1 _ (List.mem_of_getElem? (i := 1) rfl)) hw13 (by decide +kernel) ⟨Nat.le_of_ble_eq_true rfl, Nat.le_of_ble_eq_true rfl⟩, rfl, hw14⟩ ⟨zPc_bl, zPc_at hz hS hA0 hPc hKc hDc⟩ rfl rfl hl.1 rfl (lv_room (Nat.le_of_ble_eq_true rfl)) dX11_init_20 ⟨Nat.le_of_ble_eq_true rfl, Nat.le_of_ble_eq_true rfl⟩) hS (fun q _ h => hFc q h) hFc (fun u t H1 locs ht hvm hw hB hz1 hk1 hS => ?_)
  obtain ⟨n6q1, n6k1, hB⟩ := hB
  obtain ⟨hP1, hK1, hD1⟩ := hB
  rw [ht] at hP1
  have hK1 := va_K.moved hvm.symm hK1
  obtain ⟨hP, hD⟩ := va_join (wr := [(h0, .inr (11, [.ref q1, .null, .null, .null, .null, .null, .null, .null, .null, .null, .int 0, .int 0, .int 0, .int 0, .int 0, .int 0])), (q1, .inr (7, [.ref n3q1, .int 0, .int 0, .int ((-1))])), (n3q1, .inl (n3k1, 400, .inl (fun _ => 0)))]) (w1 := [(q4, .inr (0, [.ref n6q1, .int 0])), (n6q1, .inl (n6k1, 30, .inr (.inr (.inr (.inr (fun _ => none))))))]) hP hD [3] [0, 1, 2] rfl rfl (by decide) (by decide) hk1 hFc hP1 hD1
  have hK := (hK.sub (tys' := [(n3k1, .byte)]) [0] rfl).app hK1
  generalize H1 = H at hP hS ⊢
  have hP : va_P (dC, dI) vwCl [(h0, .inr (11, [.ref q1, .null, .null, .null, .null, .null, .null, .null, .null, .null, .int 0, .int 0, .int 0, .int 0, .int 0, .int 0])), (q1, .inr (7, [.ref n3q1, .int 0, .int 0, .int ((-1))])), (n3q1, .inl (n3k1, 400, .inl (fun _ => 0))), (q4, .inr (0, [.ref n6q1, .int 0])), (n6q1, .inl (n6k1, 30, .inr (.inr (.inr (.inr (fun _ => none))))))] H := hP
  have hD : va_D A [(h0, .inr (11, [.ref q1, .null, .null, .null, .null, .null, .null, .null, .null, .null, .int 0, .int 0, .int 0, .int 0, .int 0, .int 0])), (q1, .inr (7, [.ref n3q1, .int 0, .int 0, .int ((-1))])), (n3q1, .inl (n3k1, 400, .inl (fun _ => 0))), (q4, .inr (0, [.ref n6q1, .int 0])), (n6q1, .inl (n6k1, 30, .inr (.inr (.inr (.inr (fun _ => none))))))] := hD
  have hK : va_K (dC, dI) vwCl [(n3k1, .byte), (n6k1, .object "PostHouse$Thing")] s := hK
  refine W.widen (k := 4) (n := 436) (by decide) (by decide) ?_
  refine va_putF (D := (dC, dI)) (ci := 11) (v := .ref q4) (ty := .object "PostHouse$Book") (C := RX11) (T := TX11) (N := 16) hx hb hts hiX11 tyX11 tyX11_ok nmX11 hown hK hP hD hS 0 rfl rfl 1 (by decide) hw15 (fun _ h9 => h9) rfl hin rfl (by decide +kernel) rfl rfl (Nat.le_of_ble_eq_true rfl) dX11_init_23 (fun H locs hP hD hS => ?_)
  have hP : va_P (dC, dI) vwCl [(h0, .inr (11, [.ref q1, .ref q4, .null, .null, .null, .null, .null, .null, .null, .null, .int 0, .int 0, .int 0, .int 0, .int 0, .int 0])), (q1, .inr (7, [.ref n3q1, .int 0, .int 0, .int ((-1))])), (n3q1, .inl (n3k1, 400, .inl (fun _ => 0))), (q4, .inr (0, [.ref n6q1, .int 0])), (n6q1, .inl (n6k1, 30, .inr (.inr (.inr (.inr (fun _ => none))))))] H := hP
  have hD : va_D A [(h0, .inr (11, [.ref q1, .ref q4, .null, .null, .null, .null, .null, .null, .null, .null, .int 0, .int 0, .int 0, .int 0, .int 0, .int 0])), (q1, .inr (7, [.ref n3q1, .int 0, .int 0, .int ((-1))])), (n3q1, .inl (n3k1, 400, .inl (fun _ => 0))), (q4, .inr (0, [.ref n6q1, .int 0])), (n6q1, .inl (n6k1, 30, .inr (.inr (.inr (.inr (fun _ => none))))))] := hD
  refine lv_aload_n hx hb dX11_init_26 rfl (lv_at hl 0 rfl) ?_
  refine va_new (ci := 1) (fs := [.null, .null, .null, .int 0]) (C := RX1) (T := TX1) (N := 4) hx hb hts hiX1 tyX1 tyX1_ok hown hw17 hw18 hw19 hK hP hD hS hA rfl (by decide) (Nat.le_of_ble_eq_true rfl) (Nat.le_of_ble_eq_true rfl) dX11_init_27 (fun q7 H hP hD hS => ?_)
  have hP : va_P (dC, dI) vwCl [(h0, .inr (11, [.ref q1, .ref q4, .null, .null, .null, .null, .null, .null, .null, .null, .int 0, .int 0, .int 0, .int 0, .int 0, .int 0])), (q1, .inr (7, [.ref n3q1, .int 0, .int 0, .int ((-1))])), (n3q1, .inl (n3k1, 400, .inl (fun _ => 0))), (q4, .inr (0, [.ref n6q1, .int 0])), (n6q1, .inl (n6k1, 30, .inr (.inr (.inr (.inr (fun _ => none)))))), (q7, .inr (1, [.null, .null, .null, .int 0]))] H := hP
  have hD : va_D A [(h0, .inr (11, [.ref q1, .ref q4, .null, .null, .null, .null, .null, .null, .null, .null, .int 0, .int 0, .int 0, .int 0, .int 0, .int 0])), (q1, .inr (7, [.ref n3q1, .int 0, .int 0, .int ((-1))])), (n3q1, .inl (n3k1, 400, .inl (fun _ => 0))), (q4, .inr (0, [.ref n6q1, .int 0])), (n6q1, .inl (n6k1, 30, .inr (.inr (.inr (.inr (fun _ => none)))))), (q7, .inr (1, [.null, .null, .null, .int 0]))] := hD
  refine W.widen (k := 5) (n := 440) (by decide) (by decide) ?_
  refine lv_dup hx hb dX11_init_30 rfl ?_
  have hPc := hP.sub (ws' := [(q7, .inr (1, [.null, .null, .null, .int 0]))]) [5] rfl
  have hDc := hD.sub (ws' := [(q7, .inr (1, [.null, .null, .null, .int 0]))]) [5] (by decide) rfl
  have hKc := hK.sub (tys' := []) [] rfl
  have hFc := va_free (wc := [(q7, .inr (1, [.null, .null, .null, .int 0]))]) hD hS hA [5] rfl
  refine va_callv (va_runIN (host := RX11) (As := []) (rest := [.ref q7, .ref h0]) ⟨hx, hb, hml, hown, hts⟩ (c_Comings_init l hl0 dC dI A0 ad H.size q7 (fun q h => hA0 q (hFc q h))) ⟨va_cnB (host := RX11) (y := yX1_init) 0 hts gX11_init_X1_init_n25 rfl rfl rfl (hz.2.2.2.2.2.1 _ (List.mem_of_getElem? (i := 2) rfl)) hw19 (by decide +kernel) ⟨Nat.le_of_ble_eq_true rfl, Nat.le_of_ble_eq_true rfl⟩, rfl, hw20⟩ ⟨zPc_bl, zPc_at hz hS hA0 hPc hKc hDc⟩ rfl rfl hl.1 rfl (lv_room (Nat.le_of_ble_eq_true rfl)) dX11_init_31 ⟨Nat.le_of_ble_eq_true rfl, Nat.le_of_ble_eq_true rfl⟩) hS (fun q _ h => hFc q h) hFc (fun u t H1 locs ht hvm hw hB hz1 hk1 hS => ?_)
  obtain ⟨n9q0, n9q1, n9q2, hB⟩ := hB
  obtain ⟨hP1, hK1, hD1⟩ := hB
  rw [ht] at hP1
  have hK1 := va_K.moved hvm.symm hK1
  obtain ⟨hP, hD⟩ := va_join (wr := [(h0, .inr (11, [.ref q1, .ref q4, .null, .null, .null, .null, .null, .null, .null, .null, .int 0, .int 0, .int 0, .int 0, .int 0, .int 0])), (q1, .inr (7, [.ref n3q1, .int 0, .int 0, .int ((-1))])), (n3q1, .inl (n3k1, 400, .inl (fun _ => 0))), (q4, .inr (0, [.ref n6q1, .int 0])), (n6q1, .inl (n6k1, 30, .inr (.inr (.inr (.inr (fun _ => none))))))]) (w1 := [(q7, .inr (1, [.ref n9q0, .ref n9q1, .ref n9q2, .int 0]))]) hP hD [5] [0, 1, 2, 3, 4] rfl rfl (by decide) (by decide) hk1 hFc hP1 hD1
  have hK := (hK.sub (tys' := [(n3k1, .byte), (n6k1, .object "PostHouse$Thing")]) [0, 1] rfl).app hK1
  generalize H1 = H at hP hS ⊢
  have hP : va_P (dC, dI) vwCl [(h0, .inr (11, [.ref q1, .ref q4, .null, .null, .null, .null, .null, .null, .null, .null, .int 0, .int 0, .int 0, .int 0, .int 0, .int 0])), (q1, .inr (7, [.ref n3q1, .int 0, .int 0, .int ((-1))])), (n3q1, .inl (n3k1, 400, .inl (fun _ => 0))), (q4, .inr (0, [.ref n6q1, .int 0])), (n6q1, .inl (n6k1, 30, .inr (.inr (.inr (.inr (fun _ => none)))))), (q7, .inr (1, [.ref n9q0, .ref n9q1, .ref n9q2, .int 0]))] H := hP
  have hD : va_D A [(h0, .inr (11, [.ref q1, .ref q4, .null, .null, .null, .null, .null, .null, .null, .null, .int 0, .int 0, .int 0, .int 0, .int 0, .int 0])), (q1, .inr (7, [.ref n3q1, .int 0, .int 0, .int ((-1))])), (n3q1, .inl (n3k1, 400, .inl (fun _ => 0))), (q4, .inr (0, [.ref n6q1, .int 0])), (n6q1, .inl (n6k1, 30, .inr (.inr (.inr (.inr (fun _ => none)))))), (q7, .inr (1, [.ref n9q0, .ref n9q1, .ref n9q2, .int 0]))] := hD
  have hK : va_K (dC, dI) vwCl [(n3k1, .byte), (n6k1, .object "PostHouse$Thing")] s := hK
  refine W.widen (k := 8) (n := 620) (by decide) (by decide) ?_
  refine va_putF (D := (dC, dI)) (ci := 11) (v := .ref q7) (ty := .object "PostHouse$Comings") (C := RX11) (T := TX11) (N := 16) hx hb hts hiX11 tyX11 tyX11_ok nmX11 hown hK hP hD hS 0 rfl rfl 2 (by decide) hw21 (fun _ h9 => h9) rfl hin rfl (by decide +kernel) rfl rfl (Nat.le_of_ble_eq_true rfl) dX11_init_34 (fun H locs hP hD hS => ?_)
  have hP : va_P (dC, dI) vwCl [(h0, .inr (11, [.ref q1, .ref q4, .ref q7, .null, .null, .null, .null, .null, .null, .null, .int 0, .int 0, .int 0, .int 0, .int 0, .int 0])), (q1, .inr (7, [.ref n3q1, .int 0, .int 0, .int ((-1))])), (n3q1, .inl (n3k1, 400, .inl (fun _ => 0))), (q4, .inr (0, [.ref n6q1, .int 0])), (n6q1, .inl (n6k1, 30, .inr (.inr (.inr (.inr (fun _ => none)))))), (q7, .inr (1, [.ref n9q0, .ref n9q1, .ref n9q2, .int 0]))] H := hP
  have hD : va_D A [(h0, .inr (11, [.ref q1, .ref q4, .ref q7, .null, .null, .null, .null, .null, .null, .null, .int 0, .int 0, .int 0, .int 0, .int 0, .int 0])), (q1, .inr (7, [.ref n3q1, .int 0, .int 0, .int ((-1))])), (n3q1, .inl (n3k1, 400, .inl (fun _ => 0))), (q4, .inr (0, [.ref n6q1, .int 0])), (n6q1, .inl (n6k1, 30, .inr (.inr (.inr (.inr (fun _ => none)))))), (q7, .inr (1, [.ref n9q0, .ref n9q1, .ref n9q2, .int 0]))] := hD
  refine lv_aload_n hx hb dX11_init_37 rfl (lv_at hl 0 rfl) ?_
  refine va_new (ci := 5) (fs := [.null, .null]) (C := RX5) (T := TX5) (N := 2) hx hb hts hiX5 tyX5 tyX5_ok hown hw23 hw24 hw25 hK hP hD hS hA rfl (by decide) (Nat.le_of_ble_eq_true rfl) (Nat.le_of_ble_eq_true rfl) dX11_init_38 (fun q10 H hP hD hS => ?_)
  have hP : va_P (dC, dI) vwCl [(h0, .inr (11, [.ref q1, .ref q4, .ref q7, .null, .null, .null, .null, .null, .null, .null, .int 0, .int 0, .int 0, .int 0, .int 0, .int 0])), (q1, .inr (7, [.ref n3q1, .int 0, .int 0, .int ((-1))])), (n3q1, .inl (n3k1, 400, .inl (fun _ => 0))), (q4, .inr (0, [.ref n6q1, .int 0])), (n6q1, .inl (n6k1, 30, .inr (.inr (.inr (.inr (fun _ => none)))))), (q7, .inr (1, [.ref n9q0, .ref n9q1, .ref n9q2, .int 0])), (q10, .inr (5, [.null, .null]))] H := hP
  have hD : va_D A [(h0, .inr (11, [.ref q1, .ref q4, .ref q7, .null, .null, .null, .null, .null, .null, .null, .int 0, .int 0, .int 0, .int 0, .int 0, .int 0])), (q1, .inr (7, [.ref n3q1, .int 0, .int 0, .int ((-1))])), (n3q1, .inl (n3k1, 400, .inl (fun _ => 0))), (q4, .inr (0, [.ref n6q1, .int 0])), (n6q1, .inl (n6k1, 30, .inr (.inr (.inr (.inr (fun _ => none)))))), (q7, .inr (1, [.ref n9q0, .ref n9q1, .ref n9q2, .int 0])), (q10, .inr (5, [.null, .null]))] := hD
  refine W.widen (k := 9) (n := 622) (by decide) (by decide) ?_
  refine lv_dup hx hb dX11_init_41 rfl ?_
  have hPc := hP.sub (ws' := [(q10, .inr (5, [.null, .null]))]) [6] rfl
  have hDc := hD.sub (ws' := [(q10, .inr (5, [.null, .null]))]) [6] (by decide) rfl
  have hKc := hK.sub (tys' := []) [] rfl
  have hFc := va_free (wc := [(q10, .inr (5, [.null, .null]))]) hD hS hA [6] rfl
  refine va_callv (va_runI (As := []) (rest := [.ref q10, .ref h0]) ⟨hx, hb, hml, hown, hts⟩ (c_Rules_init l hl0 dC dI A0 ad H.size q10 (fun q h => hA0 q (hFc q h))) (cwI 0 hts gX11_init_X5_init rfl rfl rfl hw25 hw26 hw27 rfl (by decide +kernel) ⟨Nat.le_of_ble_eq_true rfl, Nat.le_of_ble_eq_true rfl⟩) ⟨zPc_bl, zPc_at hz hS hA0 hPc hKc hDc⟩ rfl rfl hl.1 rfl (lv_room (Nat.le_of_ble_eq_true rfl)) dX11_init_42 ⟨Nat.le_of_ble_eq_true rfl, Nat.le_of_ble_eq_true rfl⟩) hS (fun q _ h => hFc q h) hFc (fun u t H1 locs ht hvm hw hB hz1 hk1 hS => ?_)
  obtain ⟨n12q1, n12k1, n12q2, n12k2, n12fp, hB⟩ := hB
  obtain ⟨hP1, hK1, hD1⟩ := hB
  rw [ht] at hP1
  have hK1 := va_K.moved hvm.symm hK1
  obtain ⟨hP, hD⟩ := va_join (wr := [(h0, .inr (11, [.ref q1, .ref q4, .ref q7, .null, .null, .null, .null, .null, .null, .null, .int 0, .int 0, .int 0, .int 0, .int 0, .int 0])), (q1, .inr (7, [.ref n3q1, .int 0, .int 0, .int ((-1))])), (n3q1, .inl (n3k1, 400, .inl (fun _ => 0))), (q4, .inr (0, [.ref n6q1, .int 0])), (n6q1, .inl (n6k1, 30, .inr (.inr (.inr (.inr (fun _ => none)))))), (q7, .inr (1, [.ref n9q0, .ref n9q1, .ref n9q2, .int 0]))]) (w1 := [(q10, .inr (5, [.ref n12q1, .ref n12q2])), (n12q1, .inl (n12k1, 4, .inl (upd (upd (upd (upd (fun _ => 0) (0 : Int32).toNatClampNeg 10) (1 : Int32).toNatClampNeg 50) (2 : Int32).toNatClampNeg 10000) (3 : Int32).toNatClampNeg 14))), (n12q2, .inl (n12k2, 30, .inl n12fp))]) hP hD [6] [0, 1, 2, 3, 4, 5] rfl rfl (by decide) (by decide) hk1 hFc hP1 hD1
  have hK := (hK.sub (tys' := [(n3k1, .byte), (n6k1, .object "PostHouse$Thing")]) [0, 1] rfl).app hK1
  generalize H1 = H at hP hS ⊢
  have hP : va_P (dC, dI) vwCl [(h0, .inr (11, [.ref q1, .ref q4, .ref q7, .null, .null, .null, .null, .null, .null, .null, .int 0, .int 0, .int 0, .int 0, .int 0, .int 0])), (q1, .inr (7, [.ref n3q1, .int 0, .int 0, .int ((-1))])), (n3q1, .inl (n3k1, 400, .inl (fun _ => 0))), (q4, .inr (0, [.ref n6q1, .int 0])), (n6q1, .inl (n6k1, 30, .inr (.inr (.inr (.inr (fun _ => none)))))), (q7, .inr (1, [.ref n9q0, .ref n9q1, .ref n9q2, .int 0])), (q10, .inr (5, [.ref n12q1, .ref n12q2])), (n12q1, .inl (n12k1, 4, .inl (upd (upd (upd (upd (fun _ => 0) (0 : Int32).toNatClampNeg 10) (1 : Int32).toNatClampNeg 50) (2 : Int32).toNatClampNeg 10000) (3 : Int32).toNatClampNeg 14))), (n12q2, .inl (n12k2, 30, .inl n12fp))] H := hP
  have hD : va_D A [(h0, .inr (11, [.ref q1, .ref q4, .ref q7, .null, .null, .null, .null, .null, .null, .null, .int 0, .int 0, .int 0, .int 0, .int 0, .int 0])), (q1, .inr (7, [.ref n3q1, .int 0, .int 0, .int ((-1))])), (n3q1, .inl (n3k1, 400, .inl (fun _ => 0))), (q4, .inr (0, [.ref n6q1, .int 0])), (n6q1, .inl (n6k1, 30, .inr (.inr (.inr (.inr (fun _ => none)))))), (q7, .inr (1, [.ref n9q0, .ref n9q1, .ref n9q2, .int 0])), (q10, .inr (5, [.ref n12q1, .ref n12q2])), (n12q1, .inl (n12k1, 4, .inl (upd (upd (upd (upd (fun _ => 0) (0 : Int32).toNatClampNeg 10) (1 : Int32).toNatClampNeg 50) (2 : Int32).toNatClampNeg 10000) (3 : Int32).toNatClampNeg 14))), (n12q2, .inl (n12k2, 30, .inl n12fp))] := hD
  have hK : va_K (dC, dI) vwCl [(n3k1, .byte), (n6k1, .object "PostHouse$Thing"), (n12k1, .int), (n12k2, .int)] s := hK
  refine W.widen (k := 11) (n := 656) (by decide) (by decide) ?_
  refine va_putF (D := (dC, dI)) (ci := 11) (v := .ref q10) (ty := .object "PostHouse$Rules") (C := RX11) (T := TX11) (N := 16) hx hb hts hiX11 tyX11 tyX11_ok nmX11 hown hK hP hD hS 0 rfl rfl 3 (by decide) hw28 (fun _ h9 => h9) rfl hin rfl (by decide +kernel) rfl rfl (Nat.le_of_ble_eq_true rfl) dX11_init_45 (fun H locs hP hD hS => ?_)
  have hP : va_P (dC, dI) vwCl [(h0, .inr (11, [.ref q1, .ref q4, .ref q7, .ref q10, .null, .null, .null, .null, .null, .null, .int 0, .int 0, .int 0, .int 0, .int 0, .int 0])), (q1, .inr (7, [.ref n3q1, .int 0, .int 0, .int ((-1))])), (n3q1, .inl (n3k1, 400, .inl (fun _ => 0))), (q4, .inr (0, [.ref n6q1, .int 0])), (n6q1, .inl (n6k1, 30, .inr (.inr (.inr (.inr (fun _ => none)))))), (q7, .inr (1, [.ref n9q0, .ref n9q1, .ref n9q2, .int 0])), (q10, .inr (5, [.ref n12q1, .ref n12q2])), (n12q1, .inl (n12k1, 4, .inl (upd (upd (upd (upd (fun _ => 0) (0 : Int32).toNatClampNeg 10) (1 : Int32).toNatClampNeg 50) (2 : Int32).toNatClampNeg 10000) (3 : Int32).toNatClampNeg 14))), (n12q2, .inl (n12k2, 30, .inl n12fp))] H := hP
  have hD : va_D A [(h0, .inr (11, [.ref q1, .ref q4, .ref q7, .ref q10, .null, .null, .null, .null, .null, .null, .int 0, .int 0, .int 0, .int 0, .int 0, .int 0])), (q1, .inr (7, [.ref n3q1, .int 0, .int 0, .int ((-1))])), (n3q1, .inl (n3k1, 400, .inl (fun _ => 0))), (q4, .inr (0, [.ref n6q1, .int 0])), (n6q1, .inl (n6k1, 30, .inr (.inr (.inr (.inr (fun _ => none)))))), (q7, .inr (1, [.ref n9q0, .ref n9q1, .ref n9q2, .int 0])), (q10, .inr (5, [.ref n12q1, .ref n12q2])), (n12q1, .inl (n12k1, 4, .inl (upd (upd (upd (upd (fun _ => 0) (0 : Int32).toNatClampNeg 10) (1 : Int32).toNatClampNeg 50) (2 : Int32).toNatClampNeg 10000) (3 : Int32).toNatClampNeg 14))), (n12q2, .inl (n12k2, 30, .inl n12fp))] := hD
  refine lv_aload_n hx hb dX11_init_48 rfl (lv_at hl 0 rfl) ?_
  refine va_new (ci := 5) (fs := [.null, .null]) (C := RX5) (T := TX5) (N := 2) hx hb hts hiX5 tyX5 tyX5_ok hown hw23 hw24 hw25 hK hP hD hS hA rfl (by decide) (Nat.le_of_ble_eq_true rfl) (Nat.le_of_ble_eq_true rfl) dX11_init_49 (fun q13 H hP hD hS => ?_)
  have hP : va_P (dC, dI) vwCl [(h0, .inr (11, [.ref q1, .ref q4, .ref q7, .ref q10, .null, .null, .null, .null, .null, .null, .int 0, .int 0, .int 0, .int 0, .int 0, .int 0])), (q1, .inr (7, [.ref n3q1, .int 0, .int 0, .int ((-1))])), (n3q1, .inl (n3k1, 400, .inl (fun _ => 0))), (q4, .inr (0, [.ref n6q1, .int 0])), (n6q1, .inl (n6k1, 30, .inr (.inr (.inr (.inr (fun _ => none)))))), (q7, .inr (1, [.ref n9q0, .ref n9q1, .ref n9q2, .int 0])), (q10, .inr (5, [.ref n12q1, .ref n12q2])), (n12q1, .inl (n12k1, 4, .inl (upd (upd (upd (upd (fun _ => 0) (0 : Int32).toNatClampNeg 10) (1 : Int32).toNatClampNeg 50) (2 : Int32).toNatClampNeg 10000) (3 : Int32).toNatClampNeg 14))), (n12q2, .inl (n12k2, 30, .inl n12fp)), (q13, .inr (5, [.null, .null]))] H := hP
  have hD : va_D A [(h0, .inr (11, [.ref q1, .ref q4, .ref q7, .ref q10, .null, .null, .null, .null, .null, .null, .int 0, .int 0, .int 0, .int 0, .int 0, .int 0])), (q1, .inr (7, [.ref n3q1, .int 0, .int 0, .int ((-1))])), (n3q1, .inl (n3k1, 400, .inl (fun _ => 0))), (q4, .inr (0, [.ref n6q1, .int 0])), (n6q1, .inl (n6k1, 30, .inr (.inr (.inr (.inr (fun _ => none)))))), (q7, .inr (1, [.ref n9q0, .ref n9q1, .ref n9q2, .int 0])), (q10, .inr (5, [.ref n12q1, .ref n12q2])), (n12q1, .inl (n12k1, 4, .inl (upd (upd (upd (upd (fun _ => 0) (0 : Int32).toNatClampNeg 10) (1 : Int32).toNatClampNeg 50) (2 : Int32).toNatClampNeg 10000) (3 : Int32).toNatClampNeg 14))), (n12q2, .inl (n12k2, 30, .inl n12fp)), (q13, .inr (5, [.null, .null]))] := hD
  refine W.widen (k := 12) (n := 658) (by decide) (by decide) ?_
  refine lv_dup hx hb dX11_init_52 rfl ?_
  have hPc := hP.sub (ws' := [(q13, .inr (5, [.null, .null]))]) [9] rfl
  have hDc := hD.sub (ws' := [(q13, .inr (5, [.null, .null]))]) [9] (by decide) rfl
  have hKc := hK.sub (tys' := []) [] rfl
  have hFc := va_free (wc := [(q13, .inr (5, [.null, .null]))]) hD hS hA [9] rfl
  refine va_callv (va_runI (As := []) (rest := [.ref q13, .ref h0]) ⟨hx, hb, hml, hown, hts⟩ (c_Rules_init l hl0 dC dI A0 ad H.size q13 (fun q h => hA0 q (hFc q h))) (cwI 0 hts gX11_init_X5_init rfl rfl rfl hw25 hw26 hw27 rfl (by decide +kernel) ⟨Nat.le_of_ble_eq_true rfl, Nat.le_of_ble_eq_true rfl⟩) ⟨zPc_bl, zPc_at hz hS hA0 hPc hKc hDc⟩ rfl rfl hl.1 rfl (lv_room (Nat.le_of_ble_eq_true rfl)) dX11_init_53 ⟨Nat.le_of_ble_eq_true rfl, Nat.le_of_ble_eq_true rfl⟩) hS (fun q _ h => hFc q h) hFc (fun u t H1 locs ht hvm hw hB hz1 hk1 hS => ?_)
  obtain ⟨n15q1, n15k1, n15q2, n15k2, n15fp, hB⟩ := hB
  obtain ⟨hP1, hK1, hD1⟩ := hB
  rw [ht] at hP1
  have hK1 := va_K.moved hvm.symm hK1
  obtain ⟨hP, hD⟩ := va_join (wr := [(h0, .inr (11, [.ref q1, .ref q4, .ref q7, .ref q10, .null, .null, .null, .null, .null, .null, .int 0, .int 0, .int 0, .int 0, .int 0, .int 0])), (q1, .inr (7, [.ref n3q1, .int 0, .int 0, .int ((-1))])), (n3q1, .inl (n3k1, 400, .inl (fun _ => 0))), (q4, .inr (0, [.ref n6q1, .int 0])), (n6q1, .inl (n6k1, 30, .inr (.inr (.inr (.inr (fun _ => none)))))), (q7, .inr (1, [.ref n9q0, .ref n9q1, .ref n9q2, .int 0])), (q10, .inr (5, [.ref n12q1, .ref n12q2])), (n12q1, .inl (n12k1, 4, .inl (upd (upd (upd (upd (fun _ => 0) (0 : Int32).toNatClampNeg 10) (1 : Int32).toNatClampNeg 50) (2 : Int32).toNatClampNeg 10000) (3 : Int32).toNatClampNeg 14))), (n12q2, .inl (n12k2, 30, .inl n12fp))]) (w1 := [(q13, .inr (5, [.ref n15q1, .ref n15q2])), (n15q1, .inl (n15k1, 4, .inl (upd (upd (upd (upd (fun _ => 0) (0 : Int32).toNatClampNeg 10) (1 : Int32).toNatClampNeg 50) (2 : Int32).toNatClampNeg 10000) (3 : Int32).toNatClampNeg 14))), (n15q2, .inl (n15k2, 30, .inl n15fp))]) hP hD [9] [0, 1, 2, 3, 4, 5, 6, 7, 8] rfl rfl (by decide) (by decide) hk1 hFc hP1 hD1
  have hK := (hK.sub (tys' := [(n3k1, .byte), (n6k1, .object "PostHouse$Thing"), (n12k1, .int), (n12k2, .int)]) [0, 1, 2, 3] rfl).app hK1
  generalize H1 = H at hP hS ⊢
  have hP : va_P (dC, dI) vwCl [(h0, .inr (11, [.ref q1, .ref q4, .ref q7, .ref q10, .null, .null, .null, .null, .null, .null, .int 0, .int 0, .int 0, .int 0, .int 0, .int 0])), (q1, .inr (7, [.ref n3q1, .int 0, .int 0, .int ((-1))])), (n3q1, .inl (n3k1, 400, .inl (fun _ => 0))), (q4, .inr (0, [.ref n6q1, .int 0])), (n6q1, .inl (n6k1, 30, .inr (.inr (.inr (.inr (fun _ => none)))))), (q7, .inr (1, [.ref n9q0, .ref n9q1, .ref n9q2, .int 0])), (q10, .inr (5, [.ref n12q1, .ref n12q2])), (n12q1, .inl (n12k1, 4, .inl (upd (upd (upd (upd (fun _ => 0) (0 : Int32).toNatClampNeg 10) (1 : Int32).toNatClampNeg 50) (2 : Int32).toNatClampNeg 10000) (3 : Int32).toNatClampNeg 14))), (n12q2, .inl (n12k2, 30, .inl n12fp)), (q13, .inr (5, [.ref n15q1, .ref n15q2])), (n15q1, .inl (n15k1, 4, .inl (upd (upd (upd (upd (fun _ => 0) (0 : Int32).toNatClampNeg 10) (1 : Int32).toNatClampNeg 50) (2 : Int32).toNatClampNeg 10000) (3 : Int32).toNatClampNeg 14))), (n15q2, .inl (n15k2, 30, .inl n15fp))] H := hP
  have hD : va_D A [(h0, .inr (11, [.ref q1, .ref q4, .ref q7, .ref q10, .null, .null, .null, .null, .null, .null, .int 0, .int 0, .int 0, .int 0, .int 0, .int 0])), (q1, .inr (7, [.ref n3q1, .int 0, .int 0, .int ((-1))])), (n3q1, .inl (n3k1, 400, .inl (fun _ => 0))), (q4, .inr (0, [.ref n6q1, .int 0])), (n6q1, .inl (n6k1, 30, .inr (.inr (.inr (.inr (fun _ => none)))))), (q7, .inr (1, [.ref n9q0, .ref n9q1, .ref n9q2, .int 0])), (q10, .inr (5, [.ref n12q1, .ref n12q2])), (n12q1, .inl (n12k1, 4, .inl (upd (upd (upd (upd (fun _ => 0) (0 : Int32).toNatClampNeg 10) (1 : Int32).toNatClampNeg 50) (2 : Int32).toNatClampNeg 10000) (3 : Int32).toNatClampNeg 14))), (n12q2, .inl (n12k2, 30, .inl n12fp)), (q13, .inr (5, [.ref n15q1, .ref n15q2])), (n15q1, .inl (n15k1, 4, .inl (upd (upd (upd (upd (fun _ => 0) (0 : Int32).toNatClampNeg 10) (1 : Int32).toNatClampNeg 50) (2 : Int32).toNatClampNeg 10000) (3 : Int32).toNatClampNeg 14))), (n15q2, .inl (n15k2, 30, .inl n15fp))] := hD
  have hK : va_K (dC, dI) vwCl [(n3k1, .byte), (n6k1, .object "PostHouse$Thing"), (n12k1, .int), (n12k2, .int), (n15k1, .int), (n15k2, .int)] s := hK
  refine W.widen (k := 14) (n := 692) (by decide) (by decide) ?_
  refine va_putF (D := (dC, dI)) (ci := 11) (v := .ref q13) (ty := .object "PostHouse$Rules") (C := RX11) (T := TX11) (N := 16) hx hb hts hiX11 tyX11 tyX11_ok nmX11 hown hK hP hD hS 0 rfl rfl 4 (by decide) hw29 (fun _ h9 => h9) rfl hin rfl (by decide +kernel) rfl rfl (Nat.le_of_ble_eq_true rfl) dX11_init_56 (fun H locs hP hD hS => ?_)
  have hP : va_P (dC, dI) vwCl [(h0, .inr (11, [.ref q1, .ref q4, .ref q7, .ref q10, .ref q13, .null, .null, .null, .null, .null, .int 0, .int 0, .int 0, .int 0, .int 0, .int 0])), (q1, .inr (7, [.ref n3q1, .int 0, .int 0, .int ((-1))])), (n3q1, .inl (n3k1, 400, .inl (fun _ => 0))), (q4, .inr (0, [.ref n6q1, .int 0])), (n6q1, .inl (n6k1, 30, .inr (.inr (.inr (.inr (fun _ => none)))))), (q7, .inr (1, [.ref n9q0, .ref n9q1, .ref n9q2, .int 0])), (q10, .inr (5, [.ref n12q1, .ref n12q2])), (n12q1, .inl (n12k1, 4, .inl (upd (upd (upd (upd (fun _ => 0) (0 : Int32).toNatClampNeg 10) (1 : Int32).toNatClampNeg 50) (2 : Int32).toNatClampNeg 10000) (3 : Int32).toNatClampNeg 14))), (n12q2, .inl (n12k2, 30, .inl n12fp)), (q13, .inr (5, [.ref n15q1, .ref n15q2])), (n15q1, .inl (n15k1, 4, .inl (upd (upd (upd (upd (fun _ => 0) (0 : Int32).toNatClampNeg 10) (1 : Int32).toNatClampNeg 50) (2 : Int32).toNatClampNeg 10000) (3 : Int32).toNatClampNeg 14))), (n15q2, .inl (n15k2, 30, .inl n15fp))] H := hP
  have hD : va_D A [(h0, .inr (11, [.ref q1, .ref q4, .ref q7, .ref q10, .ref q13, .null, .null, .null, .null, .null, .int 0, .int 0, .int 0, .int 0, .int 0, .int 0])), (q1, .inr (7, [.ref n3q1, .int 0, .int 0, .int ((-1))])), (n3q1, .inl (n3k1, 400, .inl (fun _ => 0))), (q4, .inr (0, [.ref n6q1, .int 0])), (n6q1, .inl (n6k1, 30, .inr (.inr (.inr (.inr (fun _ => none)))))), (q7, .inr (1, [.ref n9q0, .ref n9q1, .ref n9q2, .int 0])), (q10, .inr (5, [.ref n12q1, .ref n12q2])), (n12q1, .inl (n12k1, 4, .inl (upd (upd (upd (upd (fun _ => 0) (0 : Int32).toNatClampNeg 10) (1 : Int32).toNatClampNeg 50) (2 : Int32).toNatClampNeg 10000) (3 : Int32).toNatClampNeg 14))), (n12q2, .inl (n12k2, 30, .inl n12fp)), (q13, .inr (5, [.ref n15q1, .ref n15q2])), (n15q1, .inl (n15k1, 4, .inl (upd (upd (upd (upd (fun _ => 0) (0 : Int32).toNatClampNeg 10) (1 : Int32).toNatClampNeg 50) (2 : Int32).toNatClampNeg 10000) (3 : Int32).toNatClampNeg 14))), (n15q2, .inl (n15k2, 30, .inl n15fp))] := hD
  refine lv_aload_n hx hb dX11_init_59 rfl (lv_at hl 0 rfl) ?_
  refine lv_sipush (v := 512) hx hb dX11_init_60 (by decide) ?_
  refine va_newq (D := (dC, dI)) (C := RX2) (N' := 512) hx hb hown hw30 (hz.2.2.2.2.2.2.1 _ (List.mem_of_getElem? (i := 0) rfl)) hK hP hD hS hA (by decide) (by decide) (by decide) (Nat.le_of_ble_eq_true rfl) (Nat.le_of_ble_eq_true rfl) dX11_init_63 (fun q16 cq16 H hK hP hD hS => ?_)
  have hP := hP.sub (ws' := [(h0, .inr (11, [.ref q1, .ref q4, .ref q7, .ref q10, .ref q13, .null, .null, .null, .null, .null, .int 0, .int 0, .int 0, .int 0, .int 0, .int 0])), (q1, .inr (7, [.ref n3q1, .int 0, .int 0, .int ((-1))])), (n3q1, .inl (n3k1, 400, .inl (fun _ => 0))), (q4, .inr (0, [.ref n6q1, .int 0])), (n6q1, .inl (n6k1, 30, .inr (.inr (.inr (.inr (fun _ => none)))))), (q7, .inr (1, [.ref n9q0, .ref n9q1, .ref n9q2, .int 0])), (q10, .inr (5, [.ref n12q1, .ref n12q2])), (n12q1, .inl (n12k1, 4, .inl (upd (upd (upd (upd (fun _ => 0) (0 : Int32).toNatClampNeg 10) (1 : Int32).toNatClampNeg 50) (2 : Int32).toNatClampNeg 10000) (3 : Int32).toNatClampNeg 14))), (n12q2, .inl (n12k2, 30, .inl n12fp)), (q13, .inr (5, [.ref n15q1, .ref n15q2])), (n15q1, .inl (n15k1, 4, .inl (upd (upd (upd (upd (fun _ => 0) (0 : Int32).toNatClampNeg 10) (1 : Int32).toNatClampNeg 50) (2 : Int32).toNatClampNeg 10000) (3 : Int32).toNatClampNeg 14))), (n15q2, .inl (n15k2, 30, .inl n15fp))]) [0, 1, 2, 3, 4, 5, 6, 7, 8, 9, 10, 11] rfl
  have hD := hD.sub (ws' := [(h0, .inr (11, [.ref q1, .ref q4, .ref q7, .ref q10, .ref q13, .null, .null, .null, .null, .null, .int 0, .int 0, .int 0, .int 0, .int 0, .int 0])), (q1, .inr (7, [.ref n3q1, .int 0, .int 0, .int ((-1))])), (n3q1, .inl (n3k1, 400, .inl (fun _ => 0))), (q4, .inr (0, [.ref n6q1, .int 0])), (n6q1, .inl (n6k1, 30, .inr (.inr (.inr (.inr (fun _ => none)))))), (q7, .inr (1, [.ref n9q0, .ref n9q1, .ref n9q2, .int 0])), (q10, .inr (5, [.ref n12q1, .ref n12q2])), (n12q1, .inl (n12k1, 4, .inl (upd (upd (upd (upd (fun _ => 0) (0 : Int32).toNatClampNeg 10) (1 : Int32).toNatClampNeg 50) (2 : Int32).toNatClampNeg 10000) (3 : Int32).toNatClampNeg 14))), (n12q2, .inl (n12k2, 30, .inl n12fp)), (q13, .inr (5, [.ref n15q1, .ref n15q2])), (n15q1, .inl (n15k1, 4, .inl (upd (upd (upd (upd (fun _ => 0) (0 : Int32).toNatClampNeg 10) (1 : Int32).toNatClampNeg 50) (2 : Int32).toNatClampNeg 10000) (3 : Int32).toNatClampNeg 14))), (n15q2, .inl (n15k2, 30, .inl n15fp))]) [0, 1, 2, 3, 4, 5, 6, 7, 8, 9, 10, 11] (by decide) rfl
  have hK := hK.sub (tys' := [(n3k1, .byte), (n6k1, .object "PostHouse$Thing"), (n12k1, .int), (n12k2, .int), (n15k1, .int), (n15k2, .int)]) [0, 1, 2, 3, 4, 5] rfl
  refine W.widen (k := 15) (n := 1204) (by decide) (by decide) ?_
  refine va_putF (D := (dC, dI)) (ci := 11) (v := .ref q16) (ty := .array (.object "PostHouse$Letter")) (C := RX11) (T := TX11) (N := 16) hx hb hts hiX11 tyX11 tyX11_ok nmX11 hown hK hP hD hS 0 rfl rfl 5 (by decide) hw31 (fun _ h9 => h9) rfl hin rfl (by decide +kernel) rfl rfl (Nat.le_of_ble_eq_true rfl) dX11_init_66 (fun H locs hP hD hS => ?_)
  have hP : va_P (dC, dI) vwCl [(h0, .inr (11, [.ref q1, .ref q4, .ref q7, .ref q10, .ref q13, .ref q16, .null, .null, .null, .null, .int 0, .int 0, .int 0, .int 0, .int 0, .int 0])), (q1, .inr (7, [.ref n3q1, .int 0, .int 0, .int ((-1))])), (n3q1, .inl (n3k1, 400, .inl (fun _ => 0))), (q4, .inr (0, [.ref n6q1, .int 0])), (n6q1, .inl (n6k1, 30, .inr (.inr (.inr (.inr (fun _ => none)))))), (q7, .inr (1, [.ref n9q0, .ref n9q1, .ref n9q2, .int 0])), (q10, .inr (5, [.ref n12q1, .ref n12q2])), (n12q1, .inl (n12k1, 4, .inl (upd (upd (upd (upd (fun _ => 0) (0 : Int32).toNatClampNeg 10) (1 : Int32).toNatClampNeg 50) (2 : Int32).toNatClampNeg 10000) (3 : Int32).toNatClampNeg 14))), (n12q2, .inl (n12k2, 30, .inl n12fp)), (q13, .inr (5, [.ref n15q1, .ref n15q2])), (n15q1, .inl (n15k1, 4, .inl (upd (upd (upd (upd (fun _ => 0) (0 : Int32).toNatClampNeg 10) (1 : Int32).toNatClampNeg 50) (2 : Int32).toNatClampNeg 10000) (3 : Int32).toNatClampNeg 14))), (n15q2, .inl (n15k2, 30, .inl n15fp))] H := hP
  have hD : va_D A [(h0, .inr (11, [.ref q1, .ref q4, .ref q7, .ref q10, .ref q13, .ref q16, .null, .null, .null, .null, .int 0, .int 0, .int 0, .int 0, .int 0, .int 0])), (q1, .inr (7, [.ref n3q1, .int 0, .int 0, .int ((-1))])), (n3q1, .inl (n3k1, 400, .inl (fun _ => 0))), (q4, .inr (0, [.ref n6q1, .int 0])), (n6q1, .inl (n6k1, 30, .inr (.inr (.inr (.inr (fun _ => none)))))), (q7, .inr (1, [.ref n9q0, .ref n9q1, .ref n9q2, .int 0])), (q10, .inr (5, [.ref n12q1, .ref n12q2])), (n12q1, .inl (n12k1, 4, .inl (upd (upd (upd (upd (fun _ => 0) (0 : Int32).toNatClampNeg 10) (1 : Int32).toNatClampNeg 50) (2 : Int32).toNatClampNeg 10000) (3 : Int32).toNatClampNeg 14))), (n12q2, .inl (n12k2, 30, .inl n12fp)), (q13, .inr (5, [.ref n15q1, .ref n15q2])), (n15q1, .inl (n15k1, 4, .inl (upd (upd (upd (upd (fun _ => 0) (0 : Int32).toNatClampNeg 10) (1 : Int32).toNatClampNeg 50) (2 : Int32).toNatClampNeg 10000) (3 : Int32).toNatClampNeg 14))), (n15q2, .inl (n15k2, 30, .inl n15fp))] := hD
  refine lv_aload_n hx hb dX11_init_69 rfl (lv_at hl 0 rfl) ?_
  refine lv_bipush (v := 60) hx hb dX11_init_70 (by decide) ?_
  refine va_newq (D := (dC, dI)) (C := RX3) (N' := 60) hx hb hown hw32 (hz.2.2.2.2.2.2.1 _ (List.mem_of_getElem? (i := 1) rfl)) hK hP hD hS hA (by decide) (by decide) (by decide) (Nat.le_of_ble_eq_true rfl) (Nat.le_of_ble_eq_true rfl) dX11_init_72 (fun q17 cq17 H hK hP hD hS => ?_)
  have hP := hP.sub (ws' := [(h0, .inr (11, [.ref q1, .ref q4, .ref q7, .ref q10, .ref q13, .ref q16, .null, .null, .null, .null, .int 0, .int 0, .int 0, .int 0, .int 0, .int 0])), (q1, .inr (7, [.ref n3q1, .int 0, .int 0, .int ((-1))])), (n3q1, .inl (n3k1, 400, .inl (fun _ => 0))), (q4, .inr (0, [.ref n6q1, .int 0])), (n6q1, .inl (n6k1, 30, .inr (.inr (.inr (.inr (fun _ => none)))))), (q7, .inr (1, [.ref n9q0, .ref n9q1, .ref n9q2, .int 0])), (q10, .inr (5, [.ref n12q1, .ref n12q2])), (n12q1, .inl (n12k1, 4, .inl (upd (upd (upd (upd (fun _ => 0) (0 : Int32).toNatClampNeg 10) (1 : Int32).toNatClampNeg 50) (2 : Int32).toNatClampNeg 10000) (3 : Int32).toNatClampNeg 14))), (n12q2, .inl (n12k2, 30, .inl n12fp)), (q13, .inr (5, [.ref n15q1, .ref n15q2])), (n15q1, .inl (n15k1, 4, .inl (upd (upd (upd (upd (fun _ => 0) (0 : Int32).toNatClampNeg 10) (1 : Int32).toNatClampNeg 50) (2 : Int32).toNatClampNeg 10000) (3 : Int32).toNatClampNeg 14))), (n15q2, .inl (n15k2, 30, .inl n15fp))]) [0, 1, 2, 3, 4, 5, 6, 7, 8, 9, 10, 11] rfl
  have hD := hD.sub (ws' := [(h0, .inr (11, [.ref q1, .ref q4, .ref q7, .ref q10, .ref q13, .ref q16, .null, .null, .null, .null, .int 0, .int 0, .int 0, .int 0, .int 0, .int 0])), (q1, .inr (7, [.ref n3q1, .int 0, .int 0, .int ((-1))])), (n3q1, .inl (n3k1, 400, .inl (fun _ => 0))), (q4, .inr (0, [.ref n6q1, .int 0])), (n6q1, .inl (n6k1, 30, .inr (.inr (.inr (.inr (fun _ => none)))))), (q7, .inr (1, [.ref n9q0, .ref n9q1, .ref n9q2, .int 0])), (q10, .inr (5, [.ref n12q1, .ref n12q2])), (n12q1, .inl (n12k1, 4, .inl (upd (upd (upd (upd (fun _ => 0) (0 : Int32).toNatClampNeg 10) (1 : Int32).toNatClampNeg 50) (2 : Int32).toNatClampNeg 10000) (3 : Int32).toNatClampNeg 14))), (n12q2, .inl (n12k2, 30, .inl n12fp)), (q13, .inr (5, [.ref n15q1, .ref n15q2])), (n15q1, .inl (n15k1, 4, .inl (upd (upd (upd (upd (fun _ => 0) (0 : Int32).toNatClampNeg 10) (1 : Int32).toNatClampNeg 50) (2 : Int32).toNatClampNeg 10000) (3 : Int32).toNatClampNeg 14))), (n15q2, .inl (n15k2, 30, .inl n15fp))]) [0, 1, 2, 3, 4, 5, 6, 7, 8, 9, 10, 11] (by decide) rfl
  have hK := hK.sub (tys' := [(n3k1, .byte), (n6k1, .object "PostHouse$Thing"), (n12k1, .int), (n12k2, .int), (n15k1, .int), (n15k2, .int)]) [0, 1, 2, 3, 4, 5] rfl
  refine W.widen (k := 16) (n := 1264) (by decide) (by decide) ?_
  refine va_putF (D := (dC, dI)) (ci := 11) (v := .ref q17) (ty := .array (.object "PostHouse$Order")) (C := RX11) (T := TX11) (N := 16) hx hb hts hiX11 tyX11 tyX11_ok nmX11 hown hK hP hD hS 0 rfl rfl 6 (by decide) hw33 (fun _ h9 => h9) rfl hin rfl (by decide +kernel) rfl rfl (Nat.le_of_ble_eq_true rfl) dX11_init_75 (fun H locs hP hD hS => ?_)
  have hP : va_P (dC, dI) vwCl [(h0, .inr (11, [.ref q1, .ref q4, .ref q7, .ref q10, .ref q13, .ref q16, .ref q17, .null, .null, .null, .int 0, .int 0, .int 0, .int 0, .int 0, .int 0])), (q1, .inr (7, [.ref n3q1, .int 0, .int 0, .int ((-1))])), (n3q1, .inl (n3k1, 400, .inl (fun _ => 0))), (q4, .inr (0, [.ref n6q1, .int 0])), (n6q1, .inl (n6k1, 30, .inr (.inr (.inr (.inr (fun _ => none)))))), (q7, .inr (1, [.ref n9q0, .ref n9q1, .ref n9q2, .int 0])), (q10, .inr (5, [.ref n12q1, .ref n12q2])), (n12q1, .inl (n12k1, 4, .inl (upd (upd (upd (upd (fun _ => 0) (0 : Int32).toNatClampNeg 10) (1 : Int32).toNatClampNeg 50) (2 : Int32).toNatClampNeg 10000) (3 : Int32).toNatClampNeg 14))), (n12q2, .inl (n12k2, 30, .inl n12fp)), (q13, .inr (5, [.ref n15q1, .ref n15q2])), (n15q1, .inl (n15k1, 4, .inl (upd (upd (upd (upd (fun _ => 0) (0 : Int32).toNatClampNeg 10) (1 : Int32).toNatClampNeg 50) (2 : Int32).toNatClampNeg 10000) (3 : Int32).toNatClampNeg 14))), (n15q2, .inl (n15k2, 30, .inl n15fp))] H := hP
  have hD : va_D A [(h0, .inr (11, [.ref q1, .ref q4, .ref q7, .ref q10, .ref q13, .ref q16, .ref q17, .null, .null, .null, .int 0, .int 0, .int 0, .int 0, .int 0, .int 0])), (q1, .inr (7, [.ref n3q1, .int 0, .int 0, .int ((-1))])), (n3q1, .inl (n3k1, 400, .inl (fun _ => 0))), (q4, .inr (0, [.ref n6q1, .int 0])), (n6q1, .inl (n6k1, 30, .inr (.inr (.inr (.inr (fun _ => none)))))), (q7, .inr (1, [.ref n9q0, .ref n9q1, .ref n9q2, .int 0])), (q10, .inr (5, [.ref n12q1, .ref n12q2])), (n12q1, .inl (n12k1, 4, .inl (upd (upd (upd (upd (fun _ => 0) (0 : Int32).toNatClampNeg 10) (1 : Int32).toNatClampNeg 50) (2 : Int32).toNatClampNeg 10000) (3 : Int32).toNatClampNeg 14))), (n12q2, .inl (n12k2, 30, .inl n12fp)), (q13, .inr (5, [.ref n15q1, .ref n15q2])), (n15q1, .inl (n15k1, 4, .inl (upd (upd (upd (upd (fun _ => 0) (0 : Int32).toNatClampNeg 10) (1 : Int32).toNatClampNeg 50) (2 : Int32).toNatClampNeg 10000) (3 : Int32).toNatClampNeg 14))), (n15q2, .inl (n15k2, 30, .inl n15fp))] := hD
  refine lv_aload_n hx hb dX11_init_78 rfl (lv_at hl 0 rfl) ?_
  refine lv_sipush (v := 300) hx hb dX11_init_79 (by decide) ?_
  refine va_newq (D := (dC, dI)) (C := RX6) (N' := 300) hx hb hown hw34 (hz.2.2.2.2.2.2.1 _ (List.mem_of_getElem? (i := 2) rfl)) hK hP hD hS hA (by decide) (by decide) (by decide) (Nat.le_of_ble_eq_true rfl) (Nat.le_of_ble_eq_true rfl) dX11_init_82 (fun q18 cq18 H hK hP hD hS => ?_)
  have hP := hP.sub (ws' := [(h0, .inr (11, [.ref q1, .ref q4, .ref q7, .ref q10, .ref q13, .ref q16, .ref q17, .null, .null, .null, .int 0, .int 0, .int 0, .int 0, .int 0, .int 0])), (q1, .inr (7, [.ref n3q1, .int 0, .int 0, .int ((-1))])), (n3q1, .inl (n3k1, 400, .inl (fun _ => 0))), (q4, .inr (0, [.ref n6q1, .int 0])), (n6q1, .inl (n6k1, 30, .inr (.inr (.inr (.inr (fun _ => none)))))), (q7, .inr (1, [.ref n9q0, .ref n9q1, .ref n9q2, .int 0])), (q10, .inr (5, [.ref n12q1, .ref n12q2])), (n12q1, .inl (n12k1, 4, .inl (upd (upd (upd (upd (fun _ => 0) (0 : Int32).toNatClampNeg 10) (1 : Int32).toNatClampNeg 50) (2 : Int32).toNatClampNeg 10000) (3 : Int32).toNatClampNeg 14))), (n12q2, .inl (n12k2, 30, .inl n12fp)), (q13, .inr (5, [.ref n15q1, .ref n15q2])), (n15q1, .inl (n15k1, 4, .inl (upd (upd (upd (upd (fun _ => 0) (0 : Int32).toNatClampNeg 10) (1 : Int32).toNatClampNeg 50) (2 : Int32).toNatClampNeg 10000) (3 : Int32).toNatClampNeg 14))), (n15q2, .inl (n15k2, 30, .inl n15fp))]) [0, 1, 2, 3, 4, 5, 6, 7, 8, 9, 10, 11] rfl
  have hD := hD.sub (ws' := [(h0, .inr (11, [.ref q1, .ref q4, .ref q7, .ref q10, .ref q13, .ref q16, .ref q17, .null, .null, .null, .int 0, .int 0, .int 0, .int 0, .int 0, .int 0])), (q1, .inr (7, [.ref n3q1, .int 0, .int 0, .int ((-1))])), (n3q1, .inl (n3k1, 400, .inl (fun _ => 0))), (q4, .inr (0, [.ref n6q1, .int 0])), (n6q1, .inl (n6k1, 30, .inr (.inr (.inr (.inr (fun _ => none)))))), (q7, .inr (1, [.ref n9q0, .ref n9q1, .ref n9q2, .int 0])), (q10, .inr (5, [.ref n12q1, .ref n12q2])), (n12q1, .inl (n12k1, 4, .inl (upd (upd (upd (upd (fun _ => 0) (0 : Int32).toNatClampNeg 10) (1 : Int32).toNatClampNeg 50) (2 : Int32).toNatClampNeg 10000) (3 : Int32).toNatClampNeg 14))), (n12q2, .inl (n12k2, 30, .inl n12fp)), (q13, .inr (5, [.ref n15q1, .ref n15q2])), (n15q1, .inl (n15k1, 4, .inl (upd (upd (upd (upd (fun _ => 0) (0 : Int32).toNatClampNeg 10) (1 : Int32).toNatClampNeg 50) (2 : Int32).toNatClampNeg 10000) (3 : Int32).toNatClampNeg 14))), (n15q2, .inl (n15k2, 30, .inl n15fp))]) [0, 1, 2, 3, 4, 5, 6, 7, 8, 9, 10, 11] (by decide) rfl
  have hK := hK.sub (tys' := [(n3k1, .byte), (n6k1, .object "PostHouse$Thing"), (n12k1, .int), (n12k2, .int), (n15k1, .int), (n15k2, .int)]) [0, 1, 2, 3, 4, 5] rfl
  refine W.widen (k := 17) (n := 1564) (by decide) (by decide) ?_
  refine va_putF (D := (dC, dI)) (ci := 11) (v := .ref q18) (ty := .array (.object "PostHouse$Sending")) (C := RX11) (T := TX11) (N := 16) hx hb hts hiX11 tyX11 tyX11_ok nmX11 hown hK hP hD hS 0 rfl rfl 7 (by decide) hw35 (fun _ h9 => h9) rfl hin rfl (by decide +kernel) rfl rfl (Nat.le_of_ble_eq_true rfl) dX11_init_85 (fun H locs hP hD hS => ?_)
  have hP : va_P (dC, dI) vwCl [(h0, .inr (11, [.ref q1, .ref q4, .ref q7, .ref q10, .ref q13, .ref q16, .ref q17, .ref q18, .null, .null, .int 0, .int 0, .int 0, .int 0, .int 0, .int 0])), (q1, .inr (7, [.ref n3q1, .int 0, .int 0, .int ((-1))])), (n3q1, .inl (n3k1, 400, .inl (fun _ => 0))), (q4, .inr (0, [.ref n6q1, .int 0])), (n6q1, .inl (n6k1, 30, .inr (.inr (.inr (.inr (fun _ => none)))))), (q7, .inr (1, [.ref n9q0, .ref n9q1, .ref n9q2, .int 0])), (q10, .inr (5, [.ref n12q1, .ref n12q2])), (n12q1, .inl (n12k1, 4, .inl (upd (upd (upd (upd (fun _ => 0) (0 : Int32).toNatClampNeg 10) (1 : Int32).toNatClampNeg 50) (2 : Int32).toNatClampNeg 10000) (3 : Int32).toNatClampNeg 14))), (n12q2, .inl (n12k2, 30, .inl n12fp)), (q13, .inr (5, [.ref n15q1, .ref n15q2])), (n15q1, .inl (n15k1, 4, .inl (upd (upd (upd (upd (fun _ => 0) (0 : Int32).toNatClampNeg 10) (1 : Int32).toNatClampNeg 50) (2 : Int32).toNatClampNeg 10000) (3 : Int32).toNatClampNeg 14))), (n15q2, .inl (n15k2, 30, .inl n15fp))] H := hP
  have hD : va_D A [(h0, .inr (11, [.ref q1, .ref q4, .ref q7, .ref q10, .ref q13, .ref q16, .ref q17, .ref q18, .null, .null, .int 0, .int 0, .int 0, .int 0, .int 0, .int 0])), (q1, .inr (7, [.ref n3q1, .int 0, .int 0, .int ((-1))])), (n3q1, .inl (n3k1, 400, .inl (fun _ => 0))), (q4, .inr (0, [.ref n6q1, .int 0])), (n6q1, .inl (n6k1, 30, .inr (.inr (.inr (.inr (fun _ => none)))))), (q7, .inr (1, [.ref n9q0, .ref n9q1, .ref n9q2, .int 0])), (q10, .inr (5, [.ref n12q1, .ref n12q2])), (n12q1, .inl (n12k1, 4, .inl (upd (upd (upd (upd (fun _ => 0) (0 : Int32).toNatClampNeg 10) (1 : Int32).toNatClampNeg 50) (2 : Int32).toNatClampNeg 10000) (3 : Int32).toNatClampNeg 14))), (n12q2, .inl (n12k2, 30, .inl n12fp)), (q13, .inr (5, [.ref n15q1, .ref n15q2])), (n15q1, .inl (n15k1, 4, .inl (upd (upd (upd (upd (fun _ => 0) (0 : Int32).toNatClampNeg 10) (1 : Int32).toNatClampNeg 50) (2 : Int32).toNatClampNeg 10000) (3 : Int32).toNatClampNeg 14))), (n15q2, .inl (n15k2, 30, .inl n15fp))] := hD
  refine lv_aload_n hx hb dX11_init_88 rfl (lv_at hl 0 rfl) ?_
  refine va_new (ci := 4) (fs := [.null, .null, .null, .int 0, .int 0]) (C := RX4) (T := TX4) (N := 5) hx hb hts hiX4 tyX4 tyX4_ok hown hw37 hw38 hw39 hK hP hD hS hA rfl (by decide) (Nat.le_of_ble_eq_true rfl) (Nat.le_of_ble_eq_true rfl) dX11_init_89 (fun q19 H hP hD hS => ?_)
  have hP : va_P (dC, dI) vwCl [(h0, .inr (11, [.ref q1, .ref q4, .ref q7, .ref q10, .ref q13, .ref q16, .ref q17, .ref q18, .null, .null, .int 0, .int 0, .int 0, .int 0, .int 0, .int 0])), (q1, .inr (7, [.ref n3q1, .int 0, .int 0, .int ((-1))])), (n3q1, .inl (n3k1, 400, .inl (fun _ => 0))), (q4, .inr (0, [.ref n6q1, .int 0])), (n6q1, .inl (n6k1, 30, .inr (.inr (.inr (.inr (fun _ => none)))))), (q7, .inr (1, [.ref n9q0, .ref n9q1, .ref n9q2, .int 0])), (q10, .inr (5, [.ref n12q1, .ref n12q2])), (n12q1, .inl (n12k1, 4, .inl (upd (upd (upd (upd (fun _ => 0) (0 : Int32).toNatClampNeg 10) (1 : Int32).toNatClampNeg 50) (2 : Int32).toNatClampNeg 10000) (3 : Int32).toNatClampNeg 14))), (n12q2, .inl (n12k2, 30, .inl n12fp)), (q13, .inr (5, [.ref n15q1, .ref n15q2])), (n15q1, .inl (n15k1, 4, .inl (upd (upd (upd (upd (fun _ => 0) (0 : Int32).toNatClampNeg 10) (1 : Int32).toNatClampNeg 50) (2 : Int32).toNatClampNeg 10000) (3 : Int32).toNatClampNeg 14))), (n15q2, .inl (n15k2, 30, .inl n15fp)), (q19, .inr (4, [.null, .null, .null, .int 0, .int 0]))] H := hP
  have hD : va_D A [(h0, .inr (11, [.ref q1, .ref q4, .ref q7, .ref q10, .ref q13, .ref q16, .ref q17, .ref q18, .null, .null, .int 0, .int 0, .int 0, .int 0, .int 0, .int 0])), (q1, .inr (7, [.ref n3q1, .int 0, .int 0, .int ((-1))])), (n3q1, .inl (n3k1, 400, .inl (fun _ => 0))), (q4, .inr (0, [.ref n6q1, .int 0])), (n6q1, .inl (n6k1, 30, .inr (.inr (.inr (.inr (fun _ => none)))))), (q7, .inr (1, [.ref n9q0, .ref n9q1, .ref n9q2, .int 0])), (q10, .inr (5, [.ref n12q1, .ref n12q2])), (n12q1, .inl (n12k1, 4, .inl (upd (upd (upd (upd (fun _ => 0) (0 : Int32).toNatClampNeg 10) (1 : Int32).toNatClampNeg 50) (2 : Int32).toNatClampNeg 10000) (3 : Int32).toNatClampNeg 14))), (n12q2, .inl (n12k2, 30, .inl n12fp)), (q13, .inr (5, [.ref n15q1, .ref n15q2])), (n15q1, .inl (n15k1, 4, .inl (upd (upd (upd (upd (fun _ => 0) (0 : Int32).toNatClampNeg 10) (1 : Int32).toNatClampNeg 50) (2 : Int32).toNatClampNeg 10000) (3 : Int32).toNatClampNeg 14))), (n15q2, .inl (n15k2, 30, .inl n15fp)), (q19, .inr (4, [.null, .null, .null, .int 0, .int 0]))] := hD
  refine W.widen (k := 18) (n := 1569) (by decide) (by decide) ?_
  refine lv_dup hx hb dX11_init_92 rfl ?_
  have hPc := hP.sub (ws' := [(q19, .inr (4, [.null, .null, .null, .int 0, .int 0]))]) [12] rfl
  have hDc := hD.sub (ws' := [(q19, .inr (4, [.null, .null, .null, .int 0, .int 0]))]) [12] (by decide) rfl
  have hKc := hK.sub (tys' := []) [] rfl
  have hFc := va_free (wc := [(q19, .inr (4, [.null, .null, .null, .int 0, .int 0]))]) hD hS hA [12] rfl
  refine va_callv (va_runIN (host := RX11) (As := []) (rest := [.ref q19, .ref h0]) ⟨hx, hb, hml, hown, hts⟩ (c_Packing_init l hl0 dC dI A0 ad H.size q19 (fun q h => hA0 q (hFc q h))) ⟨va_cnB (host := RX11) (y := yX4_init) 0 hts gX11_init_X4_init_n60 rfl rfl rfl (hz.2.2.2.2.2.1 _ (List.mem_of_getElem? (i := 3) rfl)) hw39 (by decide +kernel) ⟨Nat.le_of_ble_eq_true rfl, Nat.le_of_ble_eq_true rfl⟩, rfl, hw40⟩ ⟨zPc_bl, zPc_at hz hS hA0 hPc hKc hDc⟩ rfl rfl hl.1 rfl (lv_room (Nat.le_of_ble_eq_true rfl)) dX11_init_93 ⟨Nat.le_of_ble_eq_true rfl, Nat.le_of_ble_eq_true rfl⟩) hS (fun q _ h => hFc q h) hFc (fun u t H1 locs ht hvm hw hB hz1 hk1 hS => ?_)
  obtain ⟨n21q0, n21q1, n21q2, hB⟩ := hB
  obtain ⟨hP1, hK1, hD1⟩ := hB
  rw [ht] at hP1
  have hK1 := va_K.moved hvm.symm hK1
  obtain ⟨hP, hD⟩ := va_join (wr := [(h0, .inr (11, [.ref q1, .ref q4, .ref q7, .ref q10, .ref q13, .ref q16, .ref q17, .ref q18, .null, .null, .int 0, .int 0, .int 0, .int 0, .int 0, .int 0])), (q1, .inr (7, [.ref n3q1, .int 0, .int 0, .int ((-1))])), (n3q1, .inl (n3k1, 400, .inl (fun _ => 0))), (q4, .inr (0, [.ref n6q1, .int 0])), (n6q1, .inl (n6k1, 30, .inr (.inr (.inr (.inr (fun _ => none)))))), (q7, .inr (1, [.ref n9q0, .ref n9q1, .ref n9q2, .int 0])), (q10, .inr (5, [.ref n12q1, .ref n12q2])), (n12q1, .inl (n12k1, 4, .inl (upd (upd (upd (upd (fun _ => 0) (0 : Int32).toNatClampNeg 10) (1 : Int32).toNatClampNeg 50) (2 : Int32).toNatClampNeg 10000) (3 : Int32).toNatClampNeg 14))), (n12q2, .inl (n12k2, 30, .inl n12fp)), (q13, .inr (5, [.ref n15q1, .ref n15q2])), (n15q1, .inl (n15k1, 4, .inl (upd (upd (upd (upd (fun _ => 0) (0 : Int32).toNatClampNeg 10) (1 : Int32).toNatClampNeg 50) (2 : Int32).toNatClampNeg 10000) (3 : Int32).toNatClampNeg 14))), (n15q2, .inl (n15k2, 30, .inl n15fp))]) (w1 := [(q19, .inr (4, [.ref n21q0, .ref n21q1, .ref n21q2, .int 0, .int 0]))]) hP hD [12] [0, 1, 2, 3, 4, 5, 6, 7, 8, 9, 10, 11] rfl rfl (by decide) (by decide) hk1 hFc hP1 hD1
  have hK := (hK.sub (tys' := [(n3k1, .byte), (n6k1, .object "PostHouse$Thing"), (n12k1, .int), (n12k2, .int), (n15k1, .int), (n15k2, .int)]) [0, 1, 2, 3, 4, 5] rfl).app hK1
  generalize H1 = H at hP hS ⊢
  have hP : va_P (dC, dI) vwCl [(h0, .inr (11, [.ref q1, .ref q4, .ref q7, .ref q10, .ref q13, .ref q16, .ref q17, .ref q18, .null, .null, .int 0, .int 0, .int 0, .int 0, .int 0, .int 0])), (q1, .inr (7, [.ref n3q1, .int 0, .int 0, .int ((-1))])), (n3q1, .inl (n3k1, 400, .inl (fun _ => 0))), (q4, .inr (0, [.ref n6q1, .int 0])), (n6q1, .inl (n6k1, 30, .inr (.inr (.inr (.inr (fun _ => none)))))), (q7, .inr (1, [.ref n9q0, .ref n9q1, .ref n9q2, .int 0])), (q10, .inr (5, [.ref n12q1, .ref n12q2])), (n12q1, .inl (n12k1, 4, .inl (upd (upd (upd (upd (fun _ => 0) (0 : Int32).toNatClampNeg 10) (1 : Int32).toNatClampNeg 50) (2 : Int32).toNatClampNeg 10000) (3 : Int32).toNatClampNeg 14))), (n12q2, .inl (n12k2, 30, .inl n12fp)), (q13, .inr (5, [.ref n15q1, .ref n15q2])), (n15q1, .inl (n15k1, 4, .inl (upd (upd (upd (upd (fun _ => 0) (0 : Int32).toNatClampNeg 10) (1 : Int32).toNatClampNeg 50) (2 : Int32).toNatClampNeg 10000) (3 : Int32).toNatClampNeg 14))), (n15q2, .inl (n15k2, 30, .inl n15fp)), (q19, .inr (4, [.ref n21q0, .ref n21q1, .ref n21q2, .int 0, .int 0]))] H := hP
  have hD : va_D A [(h0, .inr (11, [.ref q1, .ref q4, .ref q7, .ref q10, .ref q13, .ref q16, .ref q17, .ref q18, .null, .null, .int 0, .int 0, .int 0, .int 0, .int 0, .int 0])), (q1, .inr (7, [.ref n3q1, .int 0, .int 0, .int ((-1))])), (n3q1, .inl (n3k1, 400, .inl (fun _ => 0))), (q4, .inr (0, [.ref n6q1, .int 0])), (n6q1, .inl (n6k1, 30, .inr (.inr (.inr (.inr (fun _ => none)))))), (q7, .inr (1, [.ref n9q0, .ref n9q1, .ref n9q2, .int 0])), (q10, .inr (5, [.ref n12q1, .ref n12q2])), (n12q1, .inl (n12k1, 4, .inl (upd (upd (upd (upd (fun _ => 0) (0 : Int32).toNatClampNeg 10) (1 : Int32).toNatClampNeg 50) (2 : Int32).toNatClampNeg 10000) (3 : Int32).toNatClampNeg 14))), (n12q2, .inl (n12k2, 30, .inl n12fp)), (q13, .inr (5, [.ref n15q1, .ref n15q2])), (n15q1, .inl (n15k1, 4, .inl (upd (upd (upd (upd (fun _ => 0) (0 : Int32).toNatClampNeg 10) (1 : Int32).toNatClampNeg 50) (2 : Int32).toNatClampNeg 10000) (3 : Int32).toNatClampNeg 14))), (n15q2, .inl (n15k2, 30, .inl n15fp)), (q19, .inr (4, [.ref n21q0, .ref n21q1, .ref n21q2, .int 0, .int 0]))] := hD
  have hK : va_K (dC, dI) vwCl [(n3k1, .byte), (n6k1, .object "PostHouse$Thing"), (n12k1, .int), (n12k2, .int), (n15k1, .int), (n15k2, .int)] s := hK
  refine W.widen (k := 21) (n := 2393) (by decide) (by decide) ?_
  refine va_putF (D := (dC, dI)) (ci := 11) (v := .ref q19) (ty := .object "PostHouse$Packing") (C := RX11) (T := TX11) (N := 16) hx hb hts hiX11 tyX11 tyX11_ok nmX11 hown hK hP hD hS 0 rfl rfl 8 (by decide) hw41 (fun _ h9 => h9) rfl hin rfl (by decide +kernel) rfl rfl (Nat.le_of_ble_eq_true rfl) dX11_init_96 (fun H locs hP hD hS => ?_)
  have hP : va_P (dC, dI) vwCl [(h0, .inr (11, [.ref q1, .ref q4, .ref q7, .ref q10, .ref q13, .ref q16, .ref q17, .ref q18, .ref q19, .null, .int 0, .int 0, .int 0, .int 0, .int 0, .int 0])), (q1, .inr (7, [.ref n3q1, .int 0, .int 0, .int ((-1))])), (n3q1, .inl (n3k1, 400, .inl (fun _ => 0))), (q4, .inr (0, [.ref n6q1, .int 0])), (n6q1, .inl (n6k1, 30, .inr (.inr (.inr (.inr (fun _ => none)))))), (q7, .inr (1, [.ref n9q0, .ref n9q1, .ref n9q2, .int 0])), (q10, .inr (5, [.ref n12q1, .ref n12q2])), (n12q1, .inl (n12k1, 4, .inl (upd (upd (upd (upd (fun _ => 0) (0 : Int32).toNatClampNeg 10) (1 : Int32).toNatClampNeg 50) (2 : Int32).toNatClampNeg 10000) (3 : Int32).toNatClampNeg 14))), (n12q2, .inl (n12k2, 30, .inl n12fp)), (q13, .inr (5, [.ref n15q1, .ref n15q2])), (n15q1, .inl (n15k1, 4, .inl (upd (upd (upd (upd (fun _ => 0) (0 : Int32).toNatClampNeg 10) (1 : Int32).toNatClampNeg 50) (2 : Int32).toNatClampNeg 10000) (3 : Int32).toNatClampNeg 14))), (n15q2, .inl (n15k2, 30, .inl n15fp)), (q19, .inr (4, [.ref n21q0, .ref n21q1, .ref n21q2, .int 0, .int 0]))] H := hP
  have hD : va_D A [(h0, .inr (11, [.ref q1, .ref q4, .ref q7, .ref q10, .ref q13, .ref q16, .ref q17, .ref q18, .ref q19, .null, .int 0, .int 0, .int 0, .int 0, .int 0, .int 0])), (q1, .inr (7, [.ref n3q1, .int 0, .int 0, .int ((-1))])), (n3q1, .inl (n3k1, 400, .inl (fun _ => 0))), (q4, .inr (0, [.ref n6q1, .int 0])), (n6q1, .inl (n6k1, 30, .inr (.inr (.inr (.inr (fun _ => none)))))), (q7, .inr (1, [.ref n9q0, .ref n9q1, .ref n9q2, .int 0])), (q10, .inr (5, [.ref n12q1, .ref n12q2])), (n12q1, .inl (n12k1, 4, .inl (upd (upd (upd (upd (fun _ => 0) (0 : Int32).toNatClampNeg 10) (1 : Int32).toNatClampNeg 50) (2 : Int32).toNatClampNeg 10000) (3 : Int32).toNatClampNeg 14))), (n12q2, .inl (n12k2, 30, .inl n12fp)), (q13, .inr (5, [.ref n15q1, .ref n15q2])), (n15q1, .inl (n15k1, 4, .inl (upd (upd (upd (upd (fun _ => 0) (0 : Int32).toNatClampNeg 10) (1 : Int32).toNatClampNeg 50) (2 : Int32).toNatClampNeg 10000) (3 : Int32).toNatClampNeg 14))), (n15q2, .inl (n15k2, 30, .inl n15fp)), (q19, .inr (4, [.ref n21q0, .ref n21q1, .ref n21q2, .int 0, .int 0]))] := hD
  refine lv_aload_n hx hb dX11_init_99 rfl (lv_at hl 0 rfl) ?_
  refine va_new (ci := 9) (fs := [.null, .int 0, .null, .null, .null, .null]) (C := RX9) (T := TX9) (N := 6) hx hb hts hiX9 tyX9 tyX9_ok hown hw43 hw44 hw45 hK hP hD hS hA rfl (by decide) (Nat.le_of_ble_eq_true rfl) (Nat.le_of_ble_eq_true rfl) dX11_init_100 (fun q22 H hP hD hS => ?_)
  have hP : va_P (dC, dI) vwCl [(h0, .inr (11, [.ref q1, .ref q4, .ref q7, .ref q10, .ref q13, .ref q16, .ref q17, .ref q18, .ref q19, .null, .int 0, .int 0, .int 0, .int 0, .int 0, .int 0])), (q1, .inr (7, [.ref n3q1, .int 0, .int 0, .int ((-1))])), (n3q1, .inl (n3k1, 400, .inl (fun _ => 0))), (q4, .inr (0, [.ref n6q1, .int 0])), (n6q1, .inl (n6k1, 30, .inr (.inr (.inr (.inr (fun _ => none)))))), (q7, .inr (1, [.ref n9q0, .ref n9q1, .ref n9q2, .int 0])), (q10, .inr (5, [.ref n12q1, .ref n12q2])), (n12q1, .inl (n12k1, 4, .inl (upd (upd (upd (upd (fun _ => 0) (0 : Int32).toNatClampNeg 10) (1 : Int32).toNatClampNeg 50) (2 : Int32).toNatClampNeg 10000) (3 : Int32).toNatClampNeg 14))), (n12q2, .inl (n12k2, 30, .inl n12fp)), (q13, .inr (5, [.ref n15q1, .ref n15q2])), (n15q1, .inl (n15k1, 4, .inl (upd (upd (upd (upd (fun _ => 0) (0 : Int32).toNatClampNeg 10) (1 : Int32).toNatClampNeg 50) (2 : Int32).toNatClampNeg 10000) (3 : Int32).toNatClampNeg 14))), (n15q2, .inl (n15k2, 30, .inl n15fp)), (q19, .inr (4, [.ref n21q0, .ref n21q1, .ref n21q2, .int 0, .int 0])), (q22, .inr (9, [.null, .int 0, .null, .null, .null, .null]))] H := hP
  have hD : va_D A [(h0, .inr (11, [.ref q1, .ref q4, .ref q7, .ref q10, .ref q13, .ref q16, .ref q17, .ref q18, .ref q19, .null, .int 0, .int 0, .int 0, .int 0, .int 0, .int 0])), (q1, .inr (7, [.ref n3q1, .int 0, .int 0, .int ((-1))])), (n3q1, .inl (n3k1, 400, .inl (fun _ => 0))), (q4, .inr (0, [.ref n6q1, .int 0])), (n6q1, .inl (n6k1, 30, .inr (.inr (.inr (.inr (fun _ => none)))))), (q7, .inr (1, [.ref n9q0, .ref n9q1, .ref n9q2, .int 0])), (q10, .inr (5, [.ref n12q1, .ref n12q2])), (n12q1, .inl (n12k1, 4, .inl (upd (upd (upd (upd (fun _ => 0) (0 : Int32).toNatClampNeg 10) (1 : Int32).toNatClampNeg 50) (2 : Int32).toNatClampNeg 10000) (3 : Int32).toNatClampNeg 14))), (n12q2, .inl (n12k2, 30, .inl n12fp)), (q13, .inr (5, [.ref n15q1, .ref n15q2])), (n15q1, .inl (n15k1, 4, .inl (upd (upd (upd (upd (fun _ => 0) (0 : Int32).toNatClampNeg 10) (1 : Int32).toNatClampNeg 50) (2 : Int32).toNatClampNeg 10000) (3 : Int32).toNatClampNeg 14))), (n15q2, .inl (n15k2, 30, .inl n15fp)), (q19, .inr (4, [.ref n21q0, .ref n21q1, .ref n21q2, .int 0, .int 0])), (q22, .inr (9, [.null, .int 0, .null, .null, .null, .null]))] := hD
  refine W.widen (k := 22) (n := 2399) (by decide) (by decide) ?_
  refine lv_dup hx hb dX11_init_103 rfl ?_
  have hPc := hP.sub (ws' := [(q22, .inr (9, [.null, .int 0, .null, .null, .null, .null]))]) [13] rfl
  have hDc := hD.sub (ws' := [(q22, .inr (9, [.null, .int 0, .null, .null, .null, .null]))]) [13] (by decide) rfl
  have hKc := hK.sub (tys' := []) [] rfl
  have hFc := va_free (wc := [(q22, .inr (9, [.null, .int 0, .null, .null, .null, .null]))]) hD hS hA [13] rfl
  refine va_callv (va_runIN (host := RX11) (As := []) (rest := [.ref q22, .ref h0]) ⟨hx, hb, hml, hown, hts⟩ (c_Walk_init l hl0 dC dI A0 ad H.size q22 (fun q h => hA0 q (hFc q h))) ⟨va_cnB (host := RX11) (y := yX9_init) 0 hts gX11_init_X9_init_n67 rfl rfl rfl (hz.2.2.2.2.2.1 _ (List.mem_of_getElem? (i := 4) rfl)) hw45 (by decide +kernel) ⟨Nat.le_of_ble_eq_true rfl, Nat.le_of_ble_eq_true rfl⟩, rfl, hw46⟩ ⟨zPc_bl, zPc_at hz hS hA0 hPc hKc hDc⟩ rfl rfl hl.1 rfl (lv_room (Nat.le_of_ble_eq_true rfl)) dX11_init_104 ⟨Nat.le_of_ble_eq_true rfl, Nat.le_of_ble_eq_true rfl⟩) hS (fun q _ h => hFc q h) hFc (fun u t H1 locs ht hvm hw hB hz1 hk1 hS => ?_)
  obtain ⟨n24q0, n24q2, n24q3, n24q4, n24q5, hB⟩ := hB
  obtain ⟨hP1, hK1, hD1⟩ := hB
  rw [ht] at hP1
  have hK1 := va_K.moved hvm.symm hK1
  obtain ⟨hP, hD⟩ := va_join (wr := [(h0, .inr (11, [.ref q1, .ref q4, .ref q7, .ref q10, .ref q13, .ref q16, .ref q17, .ref q18, .ref q19, .null, .int 0, .int 0, .int 0, .int 0, .int 0, .int 0])), (q1, .inr (7, [.ref n3q1, .int 0, .int 0, .int ((-1))])), (n3q1, .inl (n3k1, 400, .inl (fun _ => 0))), (q4, .inr (0, [.ref n6q1, .int 0])), (n6q1, .inl (n6k1, 30, .inr (.inr (.inr (.inr (fun _ => none)))))), (q7, .inr (1, [.ref n9q0, .ref n9q1, .ref n9q2, .int 0])), (q10, .inr (5, [.ref n12q1, .ref n12q2])), (n12q1, .inl (n12k1, 4, .inl (upd (upd (upd (upd (fun _ => 0) (0 : Int32).toNatClampNeg 10) (1 : Int32).toNatClampNeg 50) (2 : Int32).toNatClampNeg 10000) (3 : Int32).toNatClampNeg 14))), (n12q2, .inl (n12k2, 30, .inl n12fp)), (q13, .inr (5, [.ref n15q1, .ref n15q2])), (n15q1, .inl (n15k1, 4, .inl (upd (upd (upd (upd (fun _ => 0) (0 : Int32).toNatClampNeg 10) (1 : Int32).toNatClampNeg 50) (2 : Int32).toNatClampNeg 10000) (3 : Int32).toNatClampNeg 14))), (n15q2, .inl (n15k2, 30, .inl n15fp)), (q19, .inr (4, [.ref n21q0, .ref n21q1, .ref n21q2, .int 0, .int 0]))]) (w1 := [(q22, .inr (9, [.ref n24q0, .int 0, .ref n24q2, .ref n24q3, .ref n24q4, .ref n24q5]))]) hP hD [13] [0, 1, 2, 3, 4, 5, 6, 7, 8, 9, 10, 11, 12] rfl rfl (by decide) (by decide) hk1 hFc hP1 hD1
  have hK := (hK.sub (tys' := [(n3k1, .byte), (n6k1, .object "PostHouse$Thing"), (n12k1, .int), (n12k2, .int), (n15k1, .int), (n15k2, .int)]) [0, 1, 2, 3, 4, 5] rfl).app hK1
  generalize H1 = H at hP hS ⊢
  have hP : va_P (dC, dI) vwCl [(h0, .inr (11, [.ref q1, .ref q4, .ref q7, .ref q10, .ref q13, .ref q16, .ref q17, .ref q18, .ref q19, .null, .int 0, .int 0, .int 0, .int 0, .int 0, .int 0])), (q1, .inr (7, [.ref n3q1, .int 0, .int 0, .int ((-1))])), (n3q1, .inl (n3k1, 400, .inl (fun _ => 0))), (q4, .inr (0, [.ref n6q1, .int 0])), (n6q1, .inl (n6k1, 30, .inr (.inr (.inr (.inr (fun _ => none)))))), (q7, .inr (1, [.ref n9q0, .ref n9q1, .ref n9q2, .int 0])), (q10, .inr (5, [.ref n12q1, .ref n12q2])), (n12q1, .inl (n12k1, 4, .inl (upd (upd (upd (upd (fun _ => 0) (0 : Int32).toNatClampNeg 10) (1 : Int32).toNatClampNeg 50) (2 : Int32).toNatClampNeg 10000) (3 : Int32).toNatClampNeg 14))), (n12q2, .inl (n12k2, 30, .inl n12fp)), (q13, .inr (5, [.ref n15q1, .ref n15q2])), (n15q1, .inl (n15k1, 4, .inl (upd (upd (upd (upd (fun _ => 0) (0 : Int32).toNatClampNeg 10) (1 : Int32).toNatClampNeg 50) (2 : Int32).toNatClampNeg 10000) (3 : Int32).toNatClampNeg 14))), (n15q2, .inl (n15k2, 30, .inl n15fp)), (q19, .inr (4, [.ref n21q0, .ref n21q1, .ref n21q2, .int 0, .int 0])), (q22, .inr (9, [.ref n24q0, .int 0, .ref n24q2, .ref n24q3, .ref n24q4, .ref n24q5]))] H := hP
  have hD : va_D A [(h0, .inr (11, [.ref q1, .ref q4, .ref q7, .ref q10, .ref q13, .ref q16, .ref q17, .ref q18, .ref q19, .null, .int 0, .int 0, .int 0, .int 0, .int 0, .int 0])), (q1, .inr (7, [.ref n3q1, .int 0, .int 0, .int ((-1))])), (n3q1, .inl (n3k1, 400, .inl (fun _ => 0))), (q4, .inr (0, [.ref n6q1, .int 0])), (n6q1, .inl (n6k1, 30, .inr (.inr (.inr (.inr (fun _ => none)))))), (q7, .inr (1, [.ref n9q0, .ref n9q1, .ref n9q2, .int 0])), (q10, .inr (5, [.ref n12q1, .ref n12q2])), (n12q1, .inl (n12k1, 4, .inl (upd (upd (upd (upd (fun _ => 0) (0 : Int32).toNatClampNeg 10) (1 : Int32).toNatClampNeg 50) (2 : Int32).toNatClampNeg 10000) (3 : Int32).toNatClampNeg 14))), (n12q2, .inl (n12k2, 30, .inl n12fp)), (q13, .inr (5, [.ref n15q1, .ref n15q2])), (n15q1, .inl (n15k1, 4, .inl (upd (upd (upd (upd (fun _ => 0) (0 : Int32).toNatClampNeg 10) (1 : Int32).toNatClampNeg 50) (2 : Int32).toNatClampNeg 10000) (3 : Int32).toNatClampNeg 14))), (n15q2, .inl (n15k2, 30, .inl n15fp)), (q19, .inr (4, [.ref n21q0, .ref n21q1, .ref n21q2, .int 0, .int 0])), (q22, .inr (9, [.ref n24q0, .int 0, .ref n24q2, .ref n24q3, .ref n24q4, .ref n24q5]))] := hD
  have hK : va_K (dC, dI) vwCl [(n3k1, .byte), (n6k1, .object "PostHouse$Thing"), (n12k1, .int), (n12k2, .int), (n15k1, .int), (n15k2, .int)] s := hK
  refine W.widen (k := 27) (n := 2448) (by decide) (by decide) ?_
  refine va_putF (D := (dC, dI)) (ci := 11) (v := .ref q22) (ty := .object "PostHouse$Walk") (C := RX11) (T := TX11) (N := 16) hx hb hts hiX11 tyX11 tyX11_ok nmX11 hown hK hP hD hS 0 rfl rfl 9 (by decide) hw47 (fun _ h9 => h9) rfl hin rfl (by decide +kernel) rfl rfl (Nat.le_of_ble_eq_true rfl) dX11_init_107 (fun H locs hP hD hS => ?_)
  have hP : va_P (dC, dI) vwCl [(h0, .inr (11, [.ref q1, .ref q4, .ref q7, .ref q10, .ref q13, .ref q16, .ref q17, .ref q18, .ref q19, .ref q22, .int 0, .int 0, .int 0, .int 0, .int 0, .int 0])), (q1, .inr (7, [.ref n3q1, .int 0, .int 0, .int ((-1))])), (n3q1, .inl (n3k1, 400, .inl (fun _ => 0))), (q4, .inr (0, [.ref n6q1, .int 0])), (n6q1, .inl (n6k1, 30, .inr (.inr (.inr (.inr (fun _ => none)))))), (q7, .inr (1, [.ref n9q0, .ref n9q1, .ref n9q2, .int 0])), (q10, .inr (5, [.ref n12q1, .ref n12q2])), (n12q1, .inl (n12k1, 4, .inl (upd (upd (upd (upd (fun _ => 0) (0 : Int32).toNatClampNeg 10) (1 : Int32).toNatClampNeg 50) (2 : Int32).toNatClampNeg 10000) (3 : Int32).toNatClampNeg 14))), (n12q2, .inl (n12k2, 30, .inl n12fp)), (q13, .inr (5, [.ref n15q1, .ref n15q2])), (n15q1, .inl (n15k1, 4, .inl (upd (upd (upd (upd (fun _ => 0) (0 : Int32).toNatClampNeg 10) (1 : Int32).toNatClampNeg 50) (2 : Int32).toNatClampNeg 10000) (3 : Int32).toNatClampNeg 14))), (n15q2, .inl (n15k2, 30, .inl n15fp)), (q19, .inr (4, [.ref n21q0, .ref n21q1, .ref n21q2, .int 0, .int 0])), (q22, .inr (9, [.ref n24q0, .int 0, .ref n24q2, .ref n24q3, .ref n24q4, .ref n24q5]))] H := hP
  have hD : va_D A [(h0, .inr (11, [.ref q1, .ref q4, .ref q7, .ref q10, .ref q13, .ref q16, .ref q17, .ref q18, .ref q19, .ref q22, .int 0, .int 0, .int 0, .int 0, .int 0, .int 0])), (q1, .inr (7, [.ref n3q1, .int 0, .int 0, .int ((-1))])), (n3q1, .inl (n3k1, 400, .inl (fun _ => 0))), (q4, .inr (0, [.ref n6q1, .int 0])), (n6q1, .inl (n6k1, 30, .inr (.inr (.inr (.inr (fun _ => none)))))), (q7, .inr (1, [.ref n9q0, .ref n9q1, .ref n9q2, .int 0])), (q10, .inr (5, [.ref n12q1, .ref n12q2])), (n12q1, .inl (n12k1, 4, .inl (upd (upd (upd (upd (fun _ => 0) (0 : Int32).toNatClampNeg 10) (1 : Int32).toNatClampNeg 50) (2 : Int32).toNatClampNeg 10000) (3 : Int32).toNatClampNeg 14))), (n12q2, .inl (n12k2, 30, .inl n12fp)), (q13, .inr (5, [.ref n15q1, .ref n15q2])), (n15q1, .inl (n15k1, 4, .inl (upd (upd (upd (upd (fun _ => 0) (0 : Int32).toNatClampNeg 10) (1 : Int32).toNatClampNeg 50) (2 : Int32).toNatClampNeg 10000) (3 : Int32).toNatClampNeg 14))), (n15q2, .inl (n15k2, 30, .inl n15fp)), (q19, .inr (4, [.ref n21q0, .ref n21q1, .ref n21q2, .int 0, .int 0])), (q22, .inr (9, [.ref n24q0, .int 0, .ref n24q2, .ref n24q3, .ref n24q4, .ref n24q5]))] := hD
  refine lv_aload_n hx hb dX11_init_110 rfl (lv_at hl 0 rfl) ?_
  refine lv_iconst (v := (-1)) hx hb dX11_init_111 (by decide) ?_
  refine va_put (D := (dC, dI)) (ci := 11) (v := .int ((-1))) (ty := .int) (C := RX11) (T := TX11) (N := 16) hx hb hts hiX11 tyX11 tyX11_ok nmX11 hown hK hP hD hS 0 rfl rfl 14 (by decide) hw48 (fun _ h9 => h9) rfl (by decide +kernel) rfl rfl (Nat.le_of_ble_eq_true rfl) dX11_init_112 (fun H locs hP hD hS => ?_)
  have hP : va_P (dC, dI) vwCl [(h0, .inr (11, [.ref q1, .ref q4, .ref q7, .ref q10, .ref q13, .ref q16, .ref q17, .ref q18, .ref q19, .ref q22, .int 0, .int 0, .int 0, .int 0, .int ((-1)), .int 0])), (q1, .inr (7, [.ref n3q1, .int 0, .int 0, .int ((-1))])), (n3q1, .inl (n3k1, 400, .inl (fun _ => 0))), (q4, .inr (0, [.ref n6q1, .int 0])), (n6q1, .inl (n6k1, 30, .inr (.inr (.inr (.inr (fun _ => none)))))), (q7, .inr (1, [.ref n9q0, .ref n9q1, .ref n9q2, .int 0])), (q10, .inr (5, [.ref n12q1, .ref n12q2])), (n12q1, .inl (n12k1, 4, .inl (upd (upd (upd (upd (fun _ => 0) (0 : Int32).toNatClampNeg 10) (1 : Int32).toNatClampNeg 50) (2 : Int32).toNatClampNeg 10000) (3 : Int32).toNatClampNeg 14))), (n12q2, .inl (n12k2, 30, .inl n12fp)), (q13, .inr (5, [.ref n15q1, .ref n15q2])), (n15q1, .inl (n15k1, 4, .inl (upd (upd (upd (upd (fun _ => 0) (0 : Int32).toNatClampNeg 10) (1 : Int32).toNatClampNeg 50) (2 : Int32).toNatClampNeg 10000) (3 : Int32).toNatClampNeg 14))), (n15q2, .inl (n15k2, 30, .inl n15fp)), (q19, .inr (4, [.ref n21q0, .ref n21q1, .ref n21q2, .int 0, .int 0])), (q22, .inr (9, [.ref n24q0, .int 0, .ref n24q2, .ref n24q3, .ref n24q4, .ref n24q5]))] H := hP
  have hD : va_D A [(h0, .inr (11, [.ref q1, .ref q4, .ref q7, .ref q10, .ref q13, .ref q16, .ref q17, .ref q18, .ref q19, .ref q22, .int 0, .int 0, .int 0, .int 0, .int ((-1)), .int 0])), (q1, .inr (7, [.ref n3q1, .int 0, .int 0, .int ((-1))])), (n3q1, .inl (n3k1, 400, .inl (fun _ => 0))), (q4, .inr (0, [.ref n6q1, .int 0])), (n6q1, .inl (n6k1, 30, .inr (.inr (.inr (.inr (fun _ => none)))))), (q7, .inr (1, [.ref n9q0, .ref n9q1, .ref n9q2, .int 0])), (q10, .inr (5, [.ref n12q1, .ref n12q2])), (n12q1, .inl (n12k1, 4, .inl (upd (upd (upd (upd (fun _ => 0) (0 : Int32).toNatClampNeg 10) (1 : Int32).toNatClampNeg 50) (2 : Int32).toNatClampNeg 10000) (3 : Int32).toNatClampNeg 14))), (n12q2, .inl (n12k2, 30, .inl n12fp)), (q13, .inr (5, [.ref n15q1, .ref n15q2])), (n15q1, .inl (n15k1, 4, .inl (upd (upd (upd (upd (fun _ => 0) (0 : Int32).toNatClampNeg 10) (1 : Int32).toNatClampNeg 50) (2 : Int32).toNatClampNeg 10000) (3 : Int32).toNatClampNeg 14))), (n15q2, .inl (n15k2, 30, .inl n15fp)), (q19, .inr (4, [.ref n21q0, .ref n21q1, .ref n21q2, .int 0, .int 0])), (q22, .inr (9, [.ref n24q0, .int 0, .ref n24q2, .ref n24q3, .ref n24q4, .ref n24q5]))] := hD
  have hP9 := hP.sub (ws' := [(h0, .inr (11, [.ref q1, .ref q4, .ref q7, .ref q10, .ref q13, .ref q16, .ref q17, .ref q18, .ref q19, .ref q22, .int 0, .int 0, .int 0, .int 0, .int ((-1)), .int 0])), (q1, .inr (7, [.ref n3q1, .int 0, .int 0, .int ((-1))])), (n3q1, .inl (n3k1, 400, .inl (fun _ => 0))), (q4, .inr (0, [.ref n6q1, .int 0])), (n6q1, .inl (n6k1, 30, .inr (.inr (.inr (.inr (fun _ => none)))))), (q7, .inr (1, [.ref n9q0, .ref n9q1, .ref n9q2, .int 0])), (q10, .inr (5, [.ref n12q1, .ref n12q2])), (n12q1, .inl (n12k1, 4, .inl (upd (upd (upd (upd (fun _ => 0) (0 : Int32).toNatClampNeg 10) (1 : Int32).toNatClampNeg 50) (2 : Int32).toNatClampNeg 10000) (3 : Int32).toNatClampNeg 14))), (n12q2, .inl (n12k2, 30, .inl n12fp)), (q13, .inr (5, [.ref n15q1, .ref n15q2])), (n15q1, .inl (n15k1, 4, .inl (upd (upd (upd (upd (fun _ => 0) (0 : Int32).toNatClampNeg 10) (1 : Int32).toNatClampNeg 50) (2 : Int32).toNatClampNeg 10000) (3 : Int32).toNatClampNeg 14))), (n15q2, .inl (n15k2, 30, .inl n15fp)), (q22, .inr (9, [.ref n24q0, .int 0, .ref n24q2, .ref n24q3, .ref n24q4, .ref n24q5]))]) [0, 1, 2, 3, 4, 5, 6, 7, 8, 9, 10, 11, 13] rfl
  have hD9 := hD.sub (ws' := [(h0, .inr (11, [.ref q1, .ref q4, .ref q7, .ref q10, .ref q13, .ref q16, .ref q17, .ref q18, .ref q19, .ref q22, .int 0, .int 0, .int 0, .int 0, .int ((-1)), .int 0])), (q1, .inr (7, [.ref n3q1, .int 0, .int 0, .int ((-1))])), (n3q1, .inl (n3k1, 400, .inl (fun _ => 0))), (q4, .inr (0, [.ref n6q1, .int 0])), (n6q1, .inl (n6k1, 30, .inr (.inr (.inr (.inr (fun _ => none)))))), (q7, .inr (1, [.ref n9q0, .ref n9q1, .ref n9q2, .int 0])), (q10, .inr (5, [.ref n12q1, .ref n12q2])), (n12q1, .inl (n12k1, 4, .inl (upd (upd (upd (upd (fun _ => 0) (0 : Int32).toNatClampNeg 10) (1 : Int32).toNatClampNeg 50) (2 : Int32).toNatClampNeg 10000) (3 : Int32).toNatClampNeg 14))), (n12q2, .inl (n12k2, 30, .inl n12fp)), (q13, .inr (5, [.ref n15q1, .ref n15q2])), (n15q1, .inl (n15k1, 4, .inl (upd (upd (upd (upd (fun _ => 0) (0 : Int32).toNatClampNeg 10) (1 : Int32).toNatClampNeg 50) (2 : Int32).toNatClampNeg 10000) (3 : Int32).toNatClampNeg 14))), (n15q2, .inl (n15k2, 30, .inl n15fp)), (q22, .inr (9, [.ref n24q0, .int 0, .ref n24q2, .ref n24q3, .ref n24q4, .ref n24q5]))]) [0, 1, 2, 3, 4, 5, 6, 7, 8, 9, 10, 11, 13] (by decide) rfl
  have hK9 := hK.sub (tys' := [(n3k1, .byte), (n6k1, .object "PostHouse$Thing"), (n12k1, .int), (n12k2, .int), (n15k1, .int), (n15k2, .int)]) [0, 1, 2, 3, 4, 5] rfl
  refine W.widen (k := 27) (n := 2448) (by decide) (by decide) ?_
  exact W.vret hx hb hr (fun t ht hW => ⟨⟨(), rfl, trivial, ⟨q1, n3q1, n3k1, q4, n6q1, n6k1, q7, n9q0, n9q1, n9q2, q10, n12q1, n12k1, n12q2, n12k2, n12fp, q13, n15q1, n15k1, n15q2, n15k2, n15fp, q16, q17, q18, q19, q22, n24q0, n24q2, n24q3, n24q4, n24q5, ⟨by rw [ht]; exact hP9, va_K.moved hW.alike hK9, hD9⟩⟩⟩, hS.F ht⟩) hS.2.2 dX11_init_115
