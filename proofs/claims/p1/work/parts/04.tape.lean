set_option maxHeartbeats 4000000 in
set_option maxRecDepth 100000 in
/-- run on an empty tape -/
theorem c_run_a (l : Launch) (hl0 : l.stackTraces = false) (dC : Nat → ClassId) (dI : Nat → Nat → Nat) (A0 : Nat → Prop) (ad : Nat → Nat) (sz : Nat) (t0 tb : Nat) (x y : Int32) (hA0 : ∀ q, va_A [(t0, .inr (7, [.ref tb, .int 0, .int 0, .int ((-1))]))] sz q → A0 q) : Met l yX7_run wsX7_run ({ frames := 0, cells := 0, slots := 0, locals := 0 }) (va_Pc [.ref t0, .int x, .int y] (zPc A0 ad (dC, dI) [(t0, .inr (7, [.ref tb, .int 0, .int 0, .int ((-1))]))] [] sz)) (va_Qi (fun (r : Int32) (_ : Unit) => r = 0) (fun (_ : Unit) (t : State) => zB (dC, dI) (va_A [(t0, .inr (7, [.ref tb, .int 0, .int 0, .int ((-1))]))] sz) [(t0, .inr (7, [.ref tb, .int 0, .int 0, .int ((-1))]))] [] t) (va_A [(t0, .inr (7, [.ref tb, .int 0, .int 0, .int ((-1))]))] sz)) 0 0 (va_A [(t0, .inr (7, [.ref tb, .int 0, .int 0, .int ((-1))]))] sz) := by
  refine Met.ofW (cc := cX7_run) (maxL := 4) (ret := (some .int)) (by decide) rfl ?_
  intro p e s m args below meth c s₁ B hml hv
  obtain ⟨rfl, hsz, hz, hP, hK, hD0⟩ := hv
  have hx := B.exec
  have hb := B.bytes
  have hr := B.returns
  have hts := atoms_spec (ws := wsX7_run) B.pre
  have hown : s.vm.findClass RX7 = some m.cls := findClass_of_methodNamed B.named
  have hlocks := B.notSynchronized
  subst hsz
  have hD := hD0.self (sz := s.heap.size)
  generalize hAe : va_A [(t0, .inr (7, [.ref tb, .int 0, .int 0, .int ((-1))]))] s.heap.size = A at hD hA0 ⊢
  have hA : ∀ q : Nat, s.heap.size ≤ q → A q := fun q h => by rw [← hAe]; exact Or.inr h
  have hS : va_S A s.heap s.heap [] := va_S.rf
  have hl := lv_entry ([.ref t0, .int x, .int y]) (n := 4) (Nat.le_of_ble_eq_true rfl)
  rw [lg_entry_eq]
  generalize (lg_sl ([.ref t0, .int x, .int y]) ++ List.replicate (4 - (lg_sl ([.ref t0, .int x, .int y])).length) Slot.unset).toArray = ls at hl ⊢
  have hl : lv_has ls 4 [(0, .ref t0), (1, .int x), (2, .int y)] := hl
  have hP : va_P (dC, dI) vwCl [(t0, .inr (7, [.ref tb, .int 0, .int 0, .int ((-1))]))] s.heap := hP
  have hiX7 : ∀ w ∈ u_ws RX7 TX7 4, w ∈ wsX7_run := fun _ h => List.mem_cons_of_mem _ (List.mem_append_right _ h)
  have hw1 := hts (.fieldLink RX7 22 "PostHouse$Tape" "next" "I") (by decide +kernel)
  have hw2 := hts (.fieldLink RX7 19 "PostHouse$Tape" "length" "I") (by decide +kernel)
  refine lv_aload_n hx hb dX7_run_0 rfl (lv_at hl 0 rfl) ?_
  refine va_get (D := (dC, dI)) (ci := 7) (v := .int 0) (C := RX7) (T := TX7) (N := 4) hx hb hts hiX7 hown hK hP 0 rfl rfl 2 (by decide) hw1 (fun _ h9 => h9) rfl dX7_run_1 ?_
  refine lv_istore_n (lv' := [(3, .int 0), (0, .ref t0), (1, .int x), (2, .int y)]) hx hb dX7_run_4 rfl hl (by decide) rfl (fun ls hl => ?_)
  refine lv_iload_n hx hb dX7_run_5 rfl (lv_at hl 0 rfl) ?_
  refine lv_aload_n hx hb dX7_run_6 rfl (lv_at hl 1 rfl) ?_
  refine va_get (D := (dC, dI)) (ci := 7) (v := .int 0) (C := RX7) (T := TX7) (N := 4) hx hb hts hiX7 hown hK hP 0 rfl rfl 1 (by decide) hw2 (fun _ h9 => h9) rfl dX7_run_7 ?_
  refine lv_icmp_ge (tgt := 39) hx hb dX7_run_10 (by decide) (fun c1 => ?_) (fun c1 => absurd (by decide) c1)
  refine lv_iload_n hx hb dX7_run_39 rfl (lv_at hl 0 rfl) ?_
  refine lv_aload_n hx hb dX7_run_40 rfl (lv_at hl 1 rfl) ?_
  refine va_get (D := (dC, dI)) (ci := 7) (v := .int 0) (C := RX7) (T := TX7) (N := 4) hx hb hts hiX7 hown hK hP 0 rfl rfl 2 (by decide) hw1 (fun _ h9 => h9) rfl dX7_run_41 ?_
  refine lv_isub hx hb dX7_run_44 ?_
  refine lv_topi (fun v2 ev2 => ?_)
  obtain rfl : v2 = 0 := ev2.trans (by decide)
  have hP9 := hP.sub (ws' := [(t0, .inr (7, [.ref tb, .int 0, .int 0, .int ((-1))]))]) [0] rfl
  have hD9 := hD.sub (ws' := [(t0, .inr (7, [.ref tb, .int 0, .int 0, .int ((-1))]))]) [0] (by decide) rfl
  have hK9 := hK.sub (tys' := []) [] rfl
  refine W.widen (k := 0) (n := 0) (by decide) (by decide) ?_
  exact W.iret (v := 0) hx hb hr (fun t ht hW => ⟨⟨0, (), rfl, rfl, ⟨by rw [ht]; exact hP9, va_K.moved hW.alike hK9, hD9⟩⟩, hS.F ht⟩) hS.2.2 dX7_run_45
set_option maxHeartbeats 4000000 in
set_option maxRecDepth 100000 in
/-- run on an empty tape -/
theorem c_run_b (l : Launch) (hl0 : l.stackTraces = false) (dC : Nat → ClassId) (dI : Nat → Nat → Nat) (A0 : Nat → Prop) (ad : Nat → Nat) (sz : Nat) (t0 tb : Nat) (x y : Int32) (hA0 : ∀ q, va_A [(t0, .inr (7, [.ref tb, .int 0, .int 0, .int 0]))] sz q → A0 q) : Met l yX7_run wsX7_run ({ frames := 0, cells := 0, slots := 0, locals := 0 }) (va_Pc [.ref t0, .int x, .int y] (zPc A0 ad (dC, dI) [(t0, .inr (7, [.ref tb, .int 0, .int 0, .int 0]))] [] sz)) (va_Qi (fun (r : Int32) (_ : Unit) => r = 0) (fun (_ : Unit) (t : State) => zB (dC, dI) (va_A [(t0, .inr (7, [.ref tb, .int 0, .int 0, .int 0]))] sz) [(t0, .inr (7, [.ref tb, .int 0, .int 0, .int 0]))] [] t) (va_A [(t0, .inr (7, [.ref tb, .int 0, .int 0, .int 0]))] sz)) 0 0 (va_A [(t0, .inr (7, [.ref tb, .int 0, .int 0, .int 0]))] sz) := by
  refine Met.ofW (cc := cX7_run) (maxL := 4) (ret := (some .int)) (by decide) rfl ?_
  intro p e s m args below meth c s₁ B hml hv
  obtain ⟨rfl, hsz, hz, hP, hK, hD0⟩ := hv
  have hx := B.exec
  have hb := B.bytes
  have hr := B.returns
  have hts := atoms_spec (ws := wsX7_run) B.pre
  have hown : s.vm.findClass RX7 = some m.cls := findClass_of_methodNamed B.named
  have hlocks := B.notSynchronized
  subst hsz
  have hD := hD0.self (sz := s.heap.size)
  generalize hAe : va_A [(t0, .inr (7, [.ref tb, .int 0, .int 0, .int 0]))] s.heap.size = A at hD hA0 ⊢
  have hA : ∀ q : Nat, s.heap.size ≤ q → A q := fun q h => by rw [← hAe]; exact Or.inr h
  have hS : va_S A s.heap s.heap [] := va_S.rf
  have hl := lv_entry ([.ref t0, .int x, .int y]) (n := 4) (Nat.le_of_ble_eq_true rfl)
  rw [lg_entry_eq]
  generalize (lg_sl ([.ref t0, .int x, .int y]) ++ List.replicate (4 - (lg_sl ([.ref t0, .int x, .int y])).length) Slot.unset).toArray = ls at hl ⊢
  have hl : lv_has ls 4 [(0, .ref t0), (1, .int x), (2, .int y)] := hl
  have hP : va_P (dC, dI) vwCl [(t0, .inr (7, [.ref tb, .int 0, .int 0, .int 0]))] s.heap := hP
  have hiX7 : ∀ w ∈ u_ws RX7 TX7 4, w ∈ wsX7_run := fun _ h => List.mem_cons_of_mem _ (List.mem_append_right _ h)
  have hw1 := hts (.fieldLink RX7 22 "PostHouse$Tape" "next" "I") (by decide +kernel)
  have hw2 := hts (.fieldLink RX7 19 "PostHouse$Tape" "length" "I") (by decide +kernel)
  refine lv_aload_n hx hb dX7_run_0 rfl (lv_at hl 0 rfl) ?_
  refine va_get (D := (dC, dI)) (ci := 7) (v := .int 0) (C := RX7) (T := TX7) (N := 4) hx hb hts hiX7 hown hK hP 0 rfl rfl 2 (by decide) hw1 (fun _ h9 => h9) rfl dX7_run_1 ?_
  refine lv_istore_n (lv' := [(3, .int 0), (0, .ref t0), (1, .int x), (2, .int y)]) hx hb dX7_run_4 rfl hl (by decide) rfl (fun ls hl => ?_)
  refine lv_iload_n hx hb dX7_run_5 rfl (lv_at hl 0 rfl) ?_
  refine lv_aload_n hx hb dX7_run_6 rfl (lv_at hl 1 rfl) ?_
  refine va_get (D := (dC, dI)) (ci := 7) (v := .int 0) (C := RX7) (T := TX7) (N := 4) hx hb hts hiX7 hown hK hP 0 rfl rfl 1 (by decide) hw2 (fun _ h9 => h9) rfl dX7_run_7 ?_
  refine lv_icmp_ge (tgt := 39) hx hb dX7_run_10 (by decide) (fun c1 => ?_) (fun c1 => absurd (by decide) c1)
  refine lv_iload_n hx hb dX7_run_39 rfl (lv_at hl 0 rfl) ?_
  refine lv_aload_n hx hb dX7_run_40 rfl (lv_at hl 1 rfl) ?_
  refine va_get (D := (dC, dI)) (ci := 7) (v := .int 0) (C := RX7) (T := TX7) (N := 4) hx hb hts hiX7 hown hK hP 0 rfl rfl 2 (by decide) hw1 (fun _ h9 => h9) rfl dX7_run_41 ?_
  refine lv_isub hx hb dX7_run_44 ?_
  refine lv_topi (fun v2 ev2 => ?_)
  obtain rfl : v2 = 0 := ev2.trans (by decide)
  have hP9 := hP.sub (ws' := [(t0, .inr (7, [.ref tb, .int 0, .int 0, .int 0]))]) [0] rfl
  have hD9 := hD.sub (ws' := [(t0, .inr (7, [.ref tb, .int 0, .int 0, .int 0]))]) [0] (by decide) rfl
  have hK9 := hK.sub (tys' := []) [] rfl
  refine W.widen (k := 0) (n := 0) (by decide) (by decide) ?_
  exact W.iret (v := 0) hx hb hr (fun t ht hW => ⟨⟨0, (), rfl, rfl, ⟨by rw [ht]; exact hP9, va_K.moved hW.alike hK9, hD9⟩⟩, hS.F ht⟩) hS.2.2 dX7_run_45
set_option maxHeartbeats 4000000 in
set_option maxRecDepth 100000 in
/-- skip(0) on an empty tape -/
theorem c_skip_a (l : Launch) (hl0 : l.stackTraces = false) (dC : Nat → ClassId) (dI : Nat → Nat → Nat) (A0 : Nat → Prop) (ad : Nat → Nat) (sz : Nat) (t0 tb : Nat) (hA0 : ∀ q, va_A [(t0, .inr (7, [.ref tb, .int 0, .int 0, .int ((-1))]))] sz q → A0 q) : Met l yX7_skip wsX7_skip ({ frames := 0, cells := 0, slots := 0, locals := 0 }) (va_Pc [.ref t0, .int 0] (zPc A0 ad (dC, dI) [(t0, .inr (7, [.ref tb, .int 0, .int 0, .int ((-1))]))] [] sz)) (va_Qv (fun (_ : Unit) => True) (fun (_ : Unit) (t : State) => zB (dC, dI) (va_A [(t0, .inr (7, [.ref tb, .int 0, .int 0, .int ((-1))]))] sz) [(t0, .inr (7, [.ref tb, .int 0, .int 0, .int ((-1))]))] [] t) (va_A [(t0, .inr (7, [.ref tb, .int 0, .int 0, .int ((-1))]))] sz)) 0 0 (va_A [(t0, .inr (7, [.ref tb, .int 0, .int 0, .int ((-1))]))] sz) := by
  refine Met.ofW (cc := cX7_skip) (maxL := 2) (ret := none) (by decide) rfl ?_
  intro p e s m args below meth c s₁ B hml hv
  obtain ⟨rfl, hsz, hz, hP, hK, hD0⟩ := hv
  have hx := B.exec
  have hb := B.bytes
  have hr := B.returns
  have hts := atoms_spec (ws := wsX7_skip) B.pre
  have hown : s.vm.findClass RX7 = some m.cls := findClass_of_methodNamed B.named
  have hlocks := B.notSynchronized
  subst hsz
  have hD := hD0.self (sz := s.heap.size)
  generalize hAe : va_A [(t0, .inr (7, [.ref tb, .int 0, .int 0, .int ((-1))]))] s.heap.size = A at hD hA0 ⊢
  have hA : ∀ q : Nat, s.heap.size ≤ q → A q := fun q h => by rw [← hAe]; exact Or.inr h
  have hS : va_S A s.heap s.heap [] := va_S.rf
  have hl := lv_entry ([.ref t0, .int 0]) (n := 2) (Nat.le_of_ble_eq_true rfl)
  rw [lg_entry_eq]
  generalize (lg_sl ([.ref t0, .int 0]) ++ List.replicate (2 - (lg_sl ([.ref t0, .int 0])).length) Slot.unset).toArray = ls at hl ⊢
  have hl : lv_has ls 2 [(0, .ref t0), (1, .int 0)] := hl
  have hP : va_P (dC, dI) vwCl [(t0, .inr (7, [.ref tb, .int 0, .int 0, .int ((-1))]))] s.heap := hP
  have hiX7 : ∀ w ∈ u_ws RX7 TX7 4, w ∈ wsX7_skip := fun _ h => List.mem_cons_of_mem _ (List.mem_append_right _ h)
  have hw1 := hts (.fieldLink RX7 22 "PostHouse$Tape" "next" "I") (by decide +kernel)
  have hw2 := hts (.fieldLink RX7 19 "PostHouse$Tape" "length" "I") (by decide +kernel)
  refine lv_aload_n hx hb dX7_skip_0 rfl (lv_at hl 0 rfl) ?_
  refine lv_dup hx hb dX7_skip_1 rfl ?_
  refine va_get (D := (dC, dI)) (ci := 7) (v := .int 0) (C := RX7) (T := TX7) (N := 4) hx hb hts hiX7 hown hK hP 0 rfl rfl 2 (by decide) hw1 (fun _ h9 => h9) rfl dX7_skip_2 ?_
  refine lv_iload_n hx hb dX7_skip_5 rfl (lv_at hl 1 rfl) ?_
  refine lv_iadd hx hb dX7_skip_6 ?_
  refine lv_topi (fun v1 ev1 => ?_)
  obtain rfl : v1 = 0 := ev1.trans (by decide)
  refine va_put (D := (dC, dI)) (ci := 7) (v := .int 0) (ty := .int) (C := RX7) (T := TX7) (N := 4) hx hb hts hiX7 tyX7 tyX7_ok nmX7 hown hK hP hD hS 0 rfl rfl 2 (by decide) hw1 (fun _ h9 => h9) rfl (by decide +kernel) rfl rfl (Nat.le_of_ble_eq_true rfl) dX7_skip_7 (fun H locs hP hD hS => ?_)
  have hP : va_P (dC, dI) vwCl [(t0, .inr (7, [.ref tb, .int 0, .int 0, .int ((-1))]))] H := hP
  have hD : va_D A [(t0, .inr (7, [.ref tb, .int 0, .int 0, .int ((-1))]))] := hD
  refine lv_aload_n hx hb dX7_skip_10 rfl (lv_at hl 0 rfl) ?_
  refine va_get (D := (dC, dI)) (ci := 7) (v := .int 0) (C := RX7) (T := TX7) (N := 4) hx hb hts hiX7 hown hK hP 0 rfl rfl 2 (by decide) hw1 (fun _ h9 => h9) rfl dX7_skip_11 ?_
  refine lv_aload_n hx hb dX7_skip_14 rfl (lv_at hl 0 rfl) ?_
  refine va_get (D := (dC, dI)) (ci := 7) (v := .int 0) (C := RX7) (T := TX7) (N := 4) hx hb hts hiX7 hown hK hP 0 rfl rfl 1 (by decide) hw2 (fun _ h9 => h9) rfl dX7_skip_15 ?_
  refine lv_icmp_ge (tgt := 48) hx hb dX7_skip_18 (by decide) (fun c2 => ?_) (fun c2 => absurd (by decide) c2)
  have hP9 := hP.sub (ws' := [(t0, .inr (7, [.ref tb, .int 0, .int 0, .int ((-1))]))]) [0] rfl
  have hD9 := hD.sub (ws' := [(t0, .inr (7, [.ref tb, .int 0, .int 0, .int ((-1))]))]) [0] (by decide) rfl
  have hK9 := hK.sub (tys' := []) [] rfl
  refine W.widen (k := 0) (n := 0) (by decide) (by decide) ?_
  exact W.vret hx hb hr (fun t ht hW => ⟨⟨(), rfl, trivial, ⟨by rw [ht]; exact hP9, va_K.moved hW.alike hK9, hD9⟩⟩, hS.F ht⟩) hS.2.2 dX7_skip_48
set_option maxHeartbeats 4000000 in
set_option maxRecDepth 100000 in
/-- skip(0) on an empty tape -/
theorem c_skip_b (l : Launch) (hl0 : l.stackTraces = false) (dC : Nat → ClassId) (dI : Nat → Nat → Nat) (A0 : Nat → Prop) (ad : Nat → Nat) (sz : Nat) (t0 tb : Nat) (hA0 : ∀ q, va_A [(t0, .inr (7, [.ref tb, .int 0, .int 0, .int 0]))] sz q → A0 q) : Met l yX7_skip wsX7_skip ({ frames := 0, cells := 0, slots := 0, locals := 0 }) (va_Pc [.ref t0, .int 0] (zPc A0 ad (dC, dI) [(t0, .inr (7, [.ref tb, .int 0, .int 0, .int 0]))] [] sz)) (va_Qv (fun (_ : Unit) => True) (fun (_ : Unit) (t : State) => zB (dC, dI) (va_A [(t0, .inr (7, [.ref tb, .int 0, .int 0, .int 0]))] sz) [(t0, .inr (7, [.ref tb, .int 0, .int 0, .int 0]))] [] t) (va_A [(t0, .inr (7, [.ref tb, .int 0, .int 0, .int 0]))] sz)) 0 0 (va_A [(t0, .inr (7, [.ref tb, .int 0, .int 0, .int 0]))] sz) := by
  refine Met.ofW (cc := cX7_skip) (maxL := 2) (ret := none) (by decide) rfl ?_
  intro p e s m args below meth c s₁ B hml hv
  obtain ⟨rfl, hsz, hz, hP, hK, hD0⟩ := hv
  have hx := B.exec
  have hb := B.bytes
  have hr := B.returns
  have hts := atoms_spec (ws := wsX7_skip) B.pre
  have hown : s.vm.findClass RX7 = some m.cls := findClass_of_methodNamed B.named
  have hlocks := B.notSynchronized
  subst hsz
  have hD := hD0.self (sz := s.heap.size)
  generalize hAe : va_A [(t0, .inr (7, [.ref tb, .int 0, .int 0, .int 0]))] s.heap.size = A at hD hA0 ⊢
  have hA : ∀ q : Nat, s.heap.size ≤ q → A q := fun q h => by rw [← hAe]; exact Or.inr h
  have hS : va_S A s.heap s.heap [] := va_S.rf
  have hl := lv_entry ([.ref t0, .int 0]) (n := 2) (Nat.le_of_ble_eq_true rfl)
  rw [lg_entry_eq]
  generalize (lg_sl ([.ref t0, .int 0]) ++ List.replicate (2 - (lg_sl ([.ref t0, .int 0])).length) Slot.unset).toArray = ls at hl ⊢
  have hl : lv_has ls 2 [(0, .ref t0), (1, .int 0)] := hl
  have hP : va_P (dC, dI) vwCl [(t0, .inr (7, [.ref tb, .int 0, .int 0, .int 0]))] s.heap := hP
  have hiX7 : ∀ w ∈ u_ws RX7 TX7 4, w ∈ wsX7_skip := fun _ h => List.mem_cons_of_mem _ (List.mem_append_right _ h)
  have hw1 := hts (.fieldLink RX7 22 "PostHouse$Tape" "next" "I") (by decide +kernel)
  have hw2 := hts (.fieldLink RX7 19 "PostHouse$Tape" "length" "I") (by decide +kernel)
  refine lv_aload_n hx hb dX7_skip_0 rfl (lv_at hl 0 rfl) ?_
  refine lv_dup hx hb dX7_skip_1 rfl ?_
  refine va_get (D := (dC, dI)) (ci := 7) (v := .int 0) (C := RX7) (T := TX7) (N := 4) hx hb hts hiX7 hown hK hP 0 rfl rfl 2 (by decide) hw1 (fun _ h9 => h9) rfl dX7_skip_2 ?_
  refine lv_iload_n hx hb dX7_skip_5 rfl (lv_at hl 1 rfl) ?_
  refine lv_iadd hx hb dX7_skip_6 ?_
  refine lv_topi (fun v1 ev1 => ?_)
  obtain rfl : v1 = 0 := ev1.trans (by decide)
  refine va_put (D := (dC, dI)) (ci := 7) (v := .int 0) (ty := .int) (C := RX7) (T := TX7) (N := 4) hx hb hts hiX7 tyX7 tyX7_ok nmX7 hown hK hP hD hS 0 rfl rfl 2 (by decide) hw1 (fun _ h9 => h9) rfl (by decide +kernel) rfl rfl (Nat.le_of_ble_eq_true rfl) dX7_skip_7 (fun H locs hP hD hS => ?_)
  have hP : va_P (dC, dI) vwCl [(t0, .inr (7, [.ref tb, .int 0, .int 0, .int 0]))] H := hP
  have hD : va_D A [(t0, .inr (7, [.ref tb, .int 0, .int 0, .int 0]))] := hD
  refine lv_aload_n hx hb dX7_skip_10 rfl (lv_at hl 0 rfl) ?_
  refine va_get (D := (dC, dI)) (ci := 7) (v := .int 0) (C := RX7) (T := TX7) (N := 4) hx hb hts hiX7 hown hK hP 0 rfl rfl 2 (by decide) hw1 (fun _ h9 => h9) rfl dX7_skip_11 ?_
  refine lv_aload_n hx hb dX7_skip_14 rfl (lv_at hl 0 rfl) ?_
  refine va_get (D := (dC, dI)) (ci := 7) (v := .int 0) (C := RX7) (T := TX7) (N := 4) hx hb hts hiX7 hown hK hP 0 rfl rfl 1 (by decide) hw2 (fun _ h9 => h9) rfl dX7_skip_15 ?_
  refine lv_icmp_ge (tgt := 48) hx hb dX7_skip_18 (by decide) (fun c2 => ?_) (fun c2 => absurd (by decide) c2)
  have hP9 := hP.sub (ws' := [(t0, .inr (7, [.ref tb, .int 0, .int 0, .int 0]))]) [0] rfl
  have hD9 := hD.sub (ws' := [(t0, .inr (7, [.ref tb, .int 0, .int 0, .int 0]))]) [0] (by decide) rfl
  have hK9 := hK.sub (tys' := []) [] rfl
  refine W.widen (k := 0) (n := 0) (by decide) (by decide) ?_
  exact W.vret hx hb hr (fun t ht hW => ⟨⟨(), rfl, trivial, ⟨by rw [ht]; exact hP9, va_K.moved hW.alike hK9, hD9⟩⟩, hS.F ht⟩) hS.2.2 dX7_skip_48
set_option maxHeartbeats 4000000 in
set_option maxRecDepth 100000 in
/-- refuse(0) -/
theorem c_refuse_a (l : Launch) (hl0 : l.stackTraces = false) (dC : Nat → ClassId) (dI : Nat → Nat → Nat) (A0 : Nat → Prop) (ad : Nat → Nat) (sz : Nat) (t0 tb : Nat) (hA0 : ∀ q, va_A [(t0, .inr (7, [.ref tb, .int 0, .int 0, .int ((-1))]))] sz q → A0 q) : Met l yX7_refuse wsX7_refuse ({ frames := 0, cells := 0, slots := 0, locals := 0 }) (va_Pc [.ref t0, .int 0] (zPc A0 ad (dC, dI) [(t0, .inr (7, [.ref tb, .int 0, .int 0, .int ((-1))]))] [] sz)) (va_Qv (fun (_ : Unit) => True) (fun (_ : Unit) (t : State) => zB (dC, dI) (va_A [(t0, .inr (7, [.ref tb, .int 0, .int 0, .int ((-1))]))] sz) [(t0, .inr (7, [.ref tb, .int 0, .int 0, .int 0]))] [] t) (va_A [(t0, .inr (7, [.ref tb, .int 0, .int 0, .int ((-1))]))] sz)) 0 0 (va_A [(t0, .inr (7, [.ref tb, .int 0, .int 0, .int ((-1))]))] sz) := by
  refine Met.ofW (cc := cX7_refuse) (maxL := 2) (ret := none) (by decide) rfl ?_
  intro p e s m args below meth c s₁ B hml hv
  obtain ⟨rfl, hsz, hz, hP, hK, hD0⟩ := hv
  have hx := B.exec
  have hb := B.bytes
  have hr := B.returns
  have hts := atoms_spec (ws := wsX7_refuse) B.pre
  have hown : s.vm.findClass RX7 = some m.cls := findClass_of_methodNamed B.named
  have hlocks := B.notSynchronized
  subst hsz
  have hD := hD0.self (sz := s.heap.size)
  generalize hAe : va_A [(t0, .inr (7, [.ref tb, .int 0, .int 0, .int ((-1))]))] s.heap.size = A at hD hA0 ⊢
  have hA : ∀ q : Nat, s.heap.size ≤ q → A q := fun q h => by rw [← hAe]; exact Or.inr h
  have hS : va_S A s.heap s.heap [] := va_S.rf
  have hl := lv_entry ([.ref t0, .int 0]) (n := 2) (Nat.le_of_ble_eq_true rfl)
  rw [lg_entry_eq]
  generalize (lg_sl ([.ref t0, .int 0]) ++ List.replicate (2 - (lg_sl ([.ref t0, .int 0])).length) Slot.unset).toArray = ls at hl ⊢
  have hl : lv_has ls 2 [(0, .ref t0), (1, .int 0)] := hl
  have hP : va_P (dC, dI) vwCl [(t0, .inr (7, [.ref tb, .int 0, .int 0, .int ((-1))]))] s.heap := hP
  have hiX7 : ∀ w ∈ u_ws RX7 TX7 4, w ∈ wsX7_refuse := fun _ h => List.mem_cons_of_mem _ (List.mem_append_right _ h)
  have hw1 := hts (.fieldLink RX7 15 "PostHouse$Tape" "wrong" "I") (by decide +kernel)
  refine lv_aload_n hx hb dX7_refuse_0 rfl (lv_at hl 0 rfl) ?_
  refine va_get (D := (dC, dI)) (ci := 7) (v := .int ((-1))) (C := RX7) (T := TX7) (N := 4) hx hb hts hiX7 hown hK hP 0 rfl rfl 3 (by decide) hw1 (fun _ h9 => h9) rfl dX7_refuse_1 ?_
  refine lv_iconst (v := (-1)) hx hb dX7_refuse_4 (by decide) ?_
  refine lv_icmp_ne (tgt := 13) hx hb dX7_refuse_5 (by decide) (fun c1 => absurd (by decide) c1) (fun c1 => ?_)
  refine lv_aload_n hx hb dX7_refuse_8 rfl (lv_at hl 0 rfl) ?_
  refine lv_iload_n hx hb dX7_refuse_9 rfl (lv_at hl 1 rfl) ?_
  refine va_put (D := (dC, dI)) (ci := 7) (v := .int 0) (ty := .int) (C := RX7) (T := TX7) (N := 4) hx hb hts hiX7 tyX7 tyX7_ok nmX7 hown hK hP hD hS 0 rfl rfl 3 (by decide) hw1 (fun _ h9 => h9) rfl (by decide +kernel) rfl rfl (Nat.le_of_ble_eq_true rfl) dX7_refuse_10 (fun H locs hP hD hS => ?_)
  have hP : va_P (dC, dI) vwCl [(t0, .inr (7, [.ref tb, .int 0, .int 0, .int 0]))] H := hP
  have hD : va_D A [(t0, .inr (7, [.ref tb, .int 0, .int 0, .int 0]))] := hD
  have hP9 := hP.sub (ws' := [(t0, .inr (7, [.ref tb, .int 0, .int 0, .int 0]))]) [0] rfl
  have hD9 := hD.sub (ws' := [(t0, .inr (7, [.ref tb, .int 0, .int 0, .int 0]))]) [0] (by decide) rfl
  have hK9 := hK.sub (tys' := []) [] rfl
  refine W.widen (k := 0) (n := 0) (by decide) (by decide) ?_
  exact W.vret hx hb hr (fun t ht hW => ⟨⟨(), rfl, trivial, ⟨by rw [ht]; exact hP9, va_K.moved hW.alike hK9, hD9⟩⟩, hS.F ht⟩) hS.2.2 dX7_refuse_13
set_option maxHeartbeats 4000000 in
set_option maxRecDepth 100000 in
/-- refuse(0) -/
theorem c_refuse_b (l : Launch) (hl0 : l.stackTraces = false) (dC : Nat → ClassId) (dI : Nat → Nat → Nat) (A0 : Nat → Prop) (ad : Nat → Nat) (sz : Nat) (t0 tb : Nat) (hA0 : ∀ q, va_A [(t0, .inr (7, [.ref tb, .int 0, .int 0, .int 0]))] sz q → A0 q) : Met l yX7_refuse wsX7_refuse ({ frames := 0, cells := 0, slots := 0, locals := 0 }) (va_Pc [.ref t0, .int 0] (zPc A0 ad (dC, dI) [(t0, .inr (7, [.ref tb, .int 0, .int 0, .int 0]))] [] sz)) (va_Qv (fun (_ : Unit) => True) (fun (_ : Unit) (t : State) => zB (dC, dI) (va_A [(t0, .inr (7, [.ref tb, .int 0, .int 0, .int 0]))] sz) [(t0, .inr (7, [.ref tb, .int 0, .int 0, .int 0]))] [] t) (va_A [(t0, .inr (7, [.ref tb, .int 0, .int 0, .int 0]))] sz)) 0 0 (va_A [(t0, .inr (7, [.ref tb, .int 0, .int 0, .int 0]))] sz) := by
  refine Met.ofW (cc := cX7_refuse) (maxL := 2) (ret := none) (by decide) rfl ?_
  intro p e s m args below meth c s₁ B hml hv
  obtain ⟨rfl, hsz, hz, hP, hK, hD0⟩ := hv
  have hx := B.exec
  have hb := B.bytes
  have hr := B.returns
  have hts := atoms_spec (ws := wsX7_refuse) B.pre
  have hown : s.vm.findClass RX7 = some m.cls := findClass_of_methodNamed B.named
  have hlocks := B.notSynchronized
  subst hsz
  have hD := hD0.self (sz := s.heap.size)
  generalize hAe : va_A [(t0, .inr (7, [.ref tb, .int 0, .int 0, .int 0]))] s.heap.size = A at hD hA0 ⊢
  have hA : ∀ q : Nat, s.heap.size ≤ q → A q := fun q h => by rw [← hAe]; exact Or.inr h
  have hS : va_S A s.heap s.heap [] := va_S.rf
  have hl := lv_entry ([.ref t0, .int 0]) (n := 2) (Nat.le_of_ble_eq_true rfl)
  rw [lg_entry_eq]
  generalize (lg_sl ([.ref t0, .int 0]) ++ List.replicate (2 - (lg_sl ([.ref t0, .int 0])).length) Slot.unset).toArray = ls at hl ⊢
  have hl : lv_has ls 2 [(0, .ref t0), (1, .int 0)] := hl
  have hP : va_P (dC, dI) vwCl [(t0, .inr (7, [.ref tb, .int 0, .int 0, .int 0]))] s.heap := hP
  have hiX7 : ∀ w ∈ u_ws RX7 TX7 4, w ∈ wsX7_refuse := fun _ h => List.mem_cons_of_mem _ (List.mem_append_right _ h)
  have hw1 := hts (.fieldLink RX7 15 "PostHouse$Tape" "wrong" "I") (by decide +kernel)
  refine lv_aload_n hx hb dX7_refuse_0 rfl (lv_at hl 0 rfl) ?_
  refine va_get (D := (dC, dI)) (ci := 7) (v := .int 0) (C := RX7) (T := TX7) (N := 4) hx hb hts hiX7 hown hK hP 0 rfl rfl 3 (by decide) hw1 (fun _ h9 => h9) rfl dX7_refuse_1 ?_
  refine lv_iconst (v := (-1)) hx hb dX7_refuse_4 (by decide) ?_
  refine lv_icmp_ne (tgt := 13) hx hb dX7_refuse_5 (by decide) (fun c1 => ?_) (fun c1 => absurd c1 (by decide))
  have hP9 := hP.sub (ws' := [(t0, .inr (7, [.ref tb, .int 0, .int 0, .int 0]))]) [0] rfl
  have hD9 := hD.sub (ws' := [(t0, .inr (7, [.ref tb, .int 0, .int 0, .int 0]))]) [0] (by decide) rfl
  have hK9 := hK.sub (tys' := []) [] rfl
  refine W.widen (k := 0) (n := 0) (by decide) (by decide) ?_
  exact W.vret hx hb hr (fun t ht hW => ⟨⟨(), rfl, trivial, ⟨by rw [ht]; exact hP9, va_K.moved hW.alike hK9, hD9⟩⟩, hS.F ht⟩) hS.2.2 dX7_refuse_13
set_option maxHeartbeats 4000000 in
set_option maxRecDepth 100000 in
/-- takesSign on an empty tape -/
theorem c_takesSign_a (l : Launch) (hl0 : l.stackTraces = false) (dC : Nat → ClassId) (dI : Nat → Nat → Nat) (A0 : Nat → Prop) (ad : Nat → Nat) (sz : Nat) (t0 tb : Nat) (x : Int32) (hA0 : ∀ q, va_A [(t0, .inr (7, [.ref tb, .int 0, .int 0, .int ((-1))]))] sz q → A0 q) : Met l yX7_takesSign wsX7_takesSign ({ frames := 0, cells := 0, slots := 0, locals := 0 }) (va_Pc [.ref t0, .int x] (zPc A0 ad (dC, dI) [(t0, .inr (7, [.ref tb, .int 0, .int 0, .int ((-1))]))] [] sz)) (va_Qi (fun (r : Int32) (_ : Unit) => r = 0) (fun (_ : Unit) (t : State) => zB (dC, dI) (va_A [(t0, .inr (7, [.ref tb, .int 0, .int 0, .int ((-1))]))] sz) [(t0, .inr (7, [.ref tb, .int 0, .int 0, .int ((-1))]))] [] t) (va_A [(t0, .inr (7, [.ref tb, .int 0, .int 0, .int ((-1))]))] sz)) 0 0 (va_A [(t0, .inr (7, [.ref tb, .int 0, .int 0, .int ((-1))]))] sz) := by
  refine Met.ofW (cc := cX7_takesSign) (maxL := 2) (ret := (some .boolean)) (by decide) rfl ?_
  intro p e s m args below meth c s₁ B hml hv
  obtain ⟨rfl, hsz, hz, hP, hK, hD0⟩ := hv
  have hx := B.exec
  have hb := B.bytes
  have hr := B.returns
  have hts := atoms_spec (ws := wsX7_takesSign) B.pre
  have hown : s.vm.findClass RX7 = some m.cls := findClass_of_methodNamed B.named
  have hlocks := B.notSynchronized
  subst hsz
  have hD := hD0.self (sz := s.heap.size)
  generalize hAe : va_A [(t0, .inr (7, [.ref tb, .int 0, .int 0, .int ((-1))]))] s.heap.size = A at hD hA0 ⊢
  have hA : ∀ q : Nat, s.heap.size ≤ q → A q := fun q h => by rw [← hAe]; exact Or.inr h
  have hS : va_S A s.heap s.heap [] := va_S.rf
  have hl := lv_entry ([.ref t0, .int x]) (n := 2) (Nat.le_of_ble_eq_true rfl)
  rw [lg_entry_eq]
  generalize (lg_sl ([.ref t0, .int x]) ++ List.replicate (2 - (lg_sl ([.ref t0, .int x])).length) Slot.unset).toArray = ls at hl ⊢
  have hl : lv_has ls 2 [(0, .ref t0), (1, .int x)] := hl
  have hP : va_P (dC, dI) vwCl [(t0, .inr (7, [.ref tb, .int 0, .int 0, .int ((-1))]))] s.heap := hP
  have hiX7 : ∀ w ∈ u_ws RX7 TX7 4, w ∈ wsX7_takesSign := fun _ h => List.mem_cons_of_mem _ (List.mem_append_right _ h)
  have hw1 := hts (.fieldLink RX7 22 "PostHouse$Tape" "next" "I") (by decide +kernel)
  have hw2 := hts (.fieldLink RX7 19 "PostHouse$Tape" "length" "I") (by decide +kernel)
  refine lv_aload_n hx hb dX7_takesSign_0 rfl (lv_at hl 0 rfl) ?_
  refine va_get (D := (dC, dI)) (ci := 7) (v := .int 0) (C := RX7) (T := TX7) (N := 4) hx hb hts hiX7 hown hK hP 0 rfl rfl 2 (by decide) hw1 (fun _ h9 => h9) rfl dX7_takesSign_1 ?_
  refine lv_aload_n hx hb dX7_takesSign_4 rfl (lv_at hl 0 rfl) ?_
  refine va_get (D := (dC, dI)) (ci := 7) (v := .int 0) (C := RX7) (T := TX7) (N := 4) hx hb hts hiX7 hown hK hP 0 rfl rfl 1 (by decide) hw2 (fun _ h9 => h9) rfl dX7_takesSign_5 ?_
  refine lv_icmp_ge (tgt := 24) hx hb dX7_takesSign_8 (by decide) (fun c1 => ?_) (fun c1 => absurd (by decide) c1)
  refine lv_iconst (v := 0) hx hb dX7_takesSign_24 (by decide) ?_
  have hP9 := hP.sub (ws' := [(t0, .inr (7, [.ref tb, .int 0, .int 0, .int ((-1))]))]) [0] rfl
  have hD9 := hD.sub (ws' := [(t0, .inr (7, [.ref tb, .int 0, .int 0, .int ((-1))]))]) [0] (by decide) rfl
  have hK9 := hK.sub (tys' := []) [] rfl
  refine W.widen (k := 0) (n := 0) (by decide) (by decide) ?_
  exact W.zret (v := 0) hx hb hr (by decide) (fun t ht hW => ⟨⟨0, (), rfl, rfl, ⟨by rw [ht]; exact hP9, va_K.moved hW.alike hK9, hD9⟩⟩, hS.F ht⟩) hS.2.2 dX7_takesSign_25
set_option maxHeartbeats 4000000 in
set_option maxRecDepth 100000 in
/-- takesSign on an empty tape -/
theorem c_takesSign_b (l : Launch) (hl0 : l.stackTraces = false) (dC : Nat → ClassId) (dI : Nat → Nat → Nat) (A0 : Nat → Prop) (ad : Nat → Nat) (sz : Nat) (t0 tb : Nat) (x : Int32) (hA0 : ∀ q, va_A [(t0, .inr (7, [.ref tb, .int 0, .int 0, .int 0]))] sz q → A0 q) : Met l yX7_takesSign wsX7_takesSign ({ frames := 0, cells := 0, slots := 0, locals := 0 }) (va_Pc [.ref t0, .int x] (zPc A0 ad (dC, dI) [(t0, .inr (7, [.ref tb, .int 0, .int 0, .int 0]))] [] sz)) (va_Qi (fun (r : Int32) (_ : Unit) => r = 0) (fun (_ : Unit) (t : State) => zB (dC, dI) (va_A [(t0, .inr (7, [.ref tb, .int 0, .int 0, .int 0]))] sz) [(t0, .inr (7, [.ref tb, .int 0, .int 0, .int 0]))] [] t) (va_A [(t0, .inr (7, [.ref tb, .int 0, .int 0, .int 0]))] sz)) 0 0 (va_A [(t0, .inr (7, [.ref tb, .int 0, .int 0, .int 0]))] sz) := by
  refine Met.ofW (cc := cX7_takesSign) (maxL := 2) (ret := (some .boolean)) (by decide) rfl ?_
  intro p e s m args below meth c s₁ B hml hv
  obtain ⟨rfl, hsz, hz, hP, hK, hD0⟩ := hv
  have hx := B.exec
  have hb := B.bytes
  have hr := B.returns
  have hts := atoms_spec (ws := wsX7_takesSign) B.pre
  have hown : s.vm.findClass RX7 = some m.cls := findClass_of_methodNamed B.named
  have hlocks := B.notSynchronized
  subst hsz
  have hD := hD0.self (sz := s.heap.size)
  generalize hAe : va_A [(t0, .inr (7, [.ref tb, .int 0, .int 0, .int 0]))] s.heap.size = A at hD hA0 ⊢
  have hA : ∀ q : Nat, s.heap.size ≤ q → A q := fun q h => by rw [← hAe]; exact Or.inr h
  have hS : va_S A s.heap s.heap [] := va_S.rf
  have hl := lv_entry ([.ref t0, .int x]) (n := 2) (Nat.le_of_ble_eq_true rfl)
  rw [lg_entry_eq]
  generalize (lg_sl ([.ref t0, .int x]) ++ List.replicate (2 - (lg_sl ([.ref t0, .int x])).length) Slot.unset).toArray = ls at hl ⊢
  have hl : lv_has ls 2 [(0, .ref t0), (1, .int x)] := hl
  have hP : va_P (dC, dI) vwCl [(t0, .inr (7, [.ref tb, .int 0, .int 0, .int 0]))] s.heap := hP
  have hiX7 : ∀ w ∈ u_ws RX7 TX7 4, w ∈ wsX7_takesSign := fun _ h => List.mem_cons_of_mem _ (List.mem_append_right _ h)
  have hw1 := hts (.fieldLink RX7 22 "PostHouse$Tape" "next" "I") (by decide +kernel)
  have hw2 := hts (.fieldLink RX7 19 "PostHouse$Tape" "length" "I") (by decide +kernel)
  refine lv_aload_n hx hb dX7_takesSign_0 rfl (lv_at hl 0 rfl) ?_
  refine va_get (D := (dC, dI)) (ci := 7) (v := .int 0) (C := RX7) (T := TX7) (N := 4) hx hb hts hiX7 hown hK hP 0 rfl rfl 2 (by decide) hw1 (fun _ h9 => h9) rfl dX7_takesSign_1 ?_
  refine lv_aload_n hx hb dX7_takesSign_4 rfl (lv_at hl 0 rfl) ?_
  refine va_get (D := (dC, dI)) (ci := 7) (v := .int 0) (C := RX7) (T := TX7) (N := 4) hx hb hts hiX7 hown hK hP 0 rfl rfl 1 (by decide) hw2 (fun _ h9 => h9) rfl dX7_takesSign_5 ?_
  refine lv_icmp_ge (tgt := 24) hx hb dX7_takesSign_8 (by decide) (fun c1 => ?_) (fun c1 => absurd (by decide) c1)
  refine lv_iconst (v := 0) hx hb dX7_takesSign_24 (by decide) ?_
  have hP9 := hP.sub (ws' := [(t0, .inr (7, [.ref tb, .int 0, .int 0, .int 0]))]) [0] rfl
  have hD9 := hD.sub (ws' := [(t0, .inr (7, [.ref tb, .int 0, .int 0, .int 0]))]) [0] (by decide) rfl
  have hK9 := hK.sub (tys' := []) [] rfl
  refine W.widen (k := 0) (n := 0) (by decide) (by decide) ?_
  exact W.zret (v := 0) hx hb hr (by decide) (fun t ht hW => ⟨⟨0, (), rfl, rfl, ⟨by rw [ht]; exact hP9, va_K.moved hW.alike hK9, hD9⟩⟩, hS.F ht⟩) hS.2.2 dX7_takesSign_25
set_option maxHeartbeats 4000000 in
set_option maxRecDepth 100000 in
/-- needEnd on an empty tape -/
theorem c_needEnd_a (l : Launch) (hl0 : l.stackTraces = false) (dC : Nat → ClassId) (dI : Nat → Nat → Nat) (A0 : Nat → Prop) (ad : Nat → Nat) (sz : Nat) (t0 tb : Nat) (hA0 : ∀ q, va_A [(t0, .inr (7, [.ref tb, .int 0, .int 0, .int ((-1))]))] sz q → A0 q) : Met l yX7_needEnd wsX7_needEnd ({ frames := 0, cells := 0, slots := 0, locals := 0 }) (va_Pc [.ref t0] (zPc A0 ad (dC, dI) [(t0, .inr (7, [.ref tb, .int 0, .int 0, .int ((-1))]))] [] sz)) (va_Qv (fun (_ : Unit) => True) (fun (_ : Unit) (t : State) => zB (dC, dI) (va_A [(t0, .inr (7, [.ref tb, .int 0, .int 0, .int ((-1))]))] sz) [(t0, .inr (7, [.ref tb, .int 0, .int 0, .int ((-1))]))] [] t) (va_A [(t0, .inr (7, [.ref tb, .int 0, .int 0, .int ((-1))]))] sz)) 0 0 (va_A [(t0, .inr (7, [.ref tb, .int 0, .int 0, .int ((-1))]))] sz) := by
  refine Met.ofW (cc := cX7_needEnd) (maxL := 1) (ret := none) (by decide) rfl ?_
  intro p e s m args below meth c s₁ B hml hv
  obtain ⟨rfl, hsz, hz, hP, hK, hD0⟩ := hv
  have hx := B.exec
  have hb := B.bytes
  have hr := B.returns
  have hts := atoms_spec (ws := wsX7_needEnd) B.pre
  have hown : s.vm.findClass RX7 = some m.cls := findClass_of_methodNamed B.named
  have hlocks := B.notSynchronized
  subst hsz
  have hD := hD0.self (sz := s.heap.size)
  generalize hAe : va_A [(t0, .inr (7, [.ref tb, .int 0, .int 0, .int ((-1))]))] s.heap.size = A at hD hA0 ⊢
  have hA : ∀ q : Nat, s.heap.size ≤ q → A q := fun q h => by rw [← hAe]; exact Or.inr h
  have hS : va_S A s.heap s.heap [] := va_S.rf
  have hl := lv_entry ([.ref t0]) (n := 1) (Nat.le_of_ble_eq_true rfl)
  rw [lg_entry_eq]
  generalize (lg_sl ([.ref t0]) ++ List.replicate (1 - (lg_sl ([.ref t0])).length) Slot.unset).toArray = ls at hl ⊢
  have hl : lv_has ls 1 [(0, .ref t0)] := hl
  have hP : va_P (dC, dI) vwCl [(t0, .inr (7, [.ref tb, .int 0, .int 0, .int ((-1))]))] s.heap := hP
  have hiX7 : ∀ w ∈ u_ws RX7 TX7 4, w ∈ wsX7_needEnd := fun _ h => List.mem_cons_of_mem _ (List.mem_append_right _ h)
  have hw1 := hts (.fieldLink RX7 22 "PostHouse$Tape" "next" "I") (by decide +kernel)
  have hw2 := hts (.fieldLink RX7 19 "PostHouse$Tape" "length" "I") (by decide +kernel)
  refine lv_aload_n hx hb dX7_needEnd_0 rfl (lv_at hl 0 rfl) ?_
  refine va_get (D := (dC, dI)) (ci := 7) (v := .int 0) (C := RX7) (T := TX7) (N := 4) hx hb hts hiX7 hown hK hP 0 rfl rfl 2 (by decide) hw1 (fun _ h9 => h9) rfl dX7_needEnd_1 ?_
  refine lv_aload_n hx hb dX7_needEnd_4 rfl (lv_at hl 0 rfl) ?_
  refine va_get (D := (dC, dI)) (ci := 7) (v := .int 0) (C := RX7) (T := TX7) (N := 4) hx hb hts hiX7 hown hK hP 0 rfl rfl 1 (by decide) hw2 (fun _ h9 => h9) rfl dX7_needEnd_5 ?_
  refine lv_icmp_ge (tgt := 19) hx hb dX7_needEnd_8 (by decide) (fun c1 => ?_) (fun c1 => absurd (by decide) c1)
  have hP9 := hP.sub (ws' := [(t0, .inr (7, [.ref tb, .int 0, .int 0, .int ((-1))]))]) [0] rfl
  have hD9 := hD.sub (ws' := [(t0, .inr (7, [.ref tb, .int 0, .int 0, .int ((-1))]))]) [0] (by decide) rfl
  have hK9 := hK.sub (tys' := []) [] rfl
  refine W.widen (k := 0) (n := 0) (by decide) (by decide) ?_
  exact W.vret hx hb hr (fun t ht hW => ⟨⟨(), rfl, trivial, ⟨by rw [ht]; exact hP9, va_K.moved hW.alike hK9, hD9⟩⟩, hS.F ht⟩) hS.2.2 dX7_needEnd_19
set_option maxHeartbeats 4000000 in
set_option maxRecDepth 100000 in
/-- needEnd on an empty tape -/
theorem c_needEnd_b (l : Launch) (hl0 : l.stackTraces = false) (dC : Nat → ClassId) (dI : Nat → Nat → Nat) (A0 : Nat → Prop) (ad : Nat → Nat) (sz : Nat) (t0 tb : Nat) (hA0 : ∀ q, va_A [(t0, .inr (7, [.ref tb, .int 0, .int 0, .int 0]))] sz q → A0 q) : Met l yX7_needEnd wsX7_needEnd ({ frames := 0, cells := 0, slots := 0, locals := 0 }) (va_Pc [.ref t0] (zPc A0 ad (dC, dI) [(t0, .inr (7, [.ref tb, .int 0, .int 0, .int 0]))] [] sz)) (va_Qv (fun (_ : Unit) => True) (fun (_ : Unit) (t : State) => zB (dC, dI) (va_A [(t0, .inr (7, [.ref tb, .int 0, .int 0, .int 0]))] sz) [(t0, .inr (7, [.ref tb, .int 0, .int 0, .int 0]))] [] t) (va_A [(t0, .inr (7, [.ref tb, .int 0, .int 0, .int 0]))] sz)) 0 0 (va_A [(t0, .inr (7, [.ref tb, .int 0, .int 0, .int 0]))] sz) := by
  refine Met.ofW (cc := cX7_needEnd) (maxL := 1) (ret := none) (by decide) rfl ?_
  intro p e s m args below meth c s₁ B hml hv
  obtain ⟨rfl, hsz, hz, hP, hK, hD0⟩ := hv
  have hx := B.exec
  have hb := B.bytes
  have hr := B.returns
  have hts := atoms_spec (ws := wsX7_needEnd) B.pre
  have hown : s.vm.findClass RX7 = some m.cls := findClass_of_methodNamed B.named
  have hlocks := B.notSynchronized
  subst hsz
  have hD := hD0.self (sz := s.heap.size)
  generalize hAe : va_A [(t0, .inr (7, [.ref tb, .int 0, .int 0, .int 0]))] s.heap.size = A at hD hA0 ⊢
  have hA : ∀ q : Nat, s.heap.size ≤ q → A q := fun q h => by rw [← hAe]; exact Or.inr h
  have hS : va_S A s.heap s.heap [] := va_S.rf
  have hl := lv_entry ([.ref t0]) (n := 1) (Nat.le_of_ble_eq_true rfl)
  rw [lg_entry_eq]
  generalize (lg_sl ([.ref t0]) ++ List.replicate (1 - (lg_sl ([.ref t0])).length) Slot.unset).toArray = ls at hl ⊢
  have hl : lv_has ls 1 [(0, .ref t0)] := hl
  have hP : va_P (dC, dI) vwCl [(t0, .inr (7, [.ref tb, .int 0, .int 0, .int 0]))] s.heap := hP
  have hiX7 : ∀ w ∈ u_ws RX7 TX7 4, w ∈ wsX7_needEnd := fun _ h => List.mem_cons_of_mem _ (List.mem_append_right _ h)
  have hw1 := hts (.fieldLink RX7 22 "PostHouse$Tape" "next" "I") (by decide +kernel)
  have hw2 := hts (.fieldLink RX7 19 "PostHouse$Tape" "length" "I") (by decide +kernel)
  refine lv_aload_n hx hb dX7_needEnd_0 rfl (lv_at hl 0 rfl) ?_
  refine va_get (D := (dC, dI)) (ci := 7) (v := .int 0) (C := RX7) (T := TX7) (N := 4) hx hb hts hiX7 hown hK hP 0 rfl rfl 2 (by decide) hw1 (fun _ h9 => h9) rfl dX7_needEnd_1 ?_
  refine lv_aload_n hx hb dX7_needEnd_4 rfl (lv_at hl 0 rfl) ?_
  refine va_get (D := (dC, dI)) (ci := 7) (v := .int 0) (C := RX7) (T := TX7) (N := 4) hx hb hts hiX7 hown hK hP 0 rfl rfl 1 (by decide) hw2 (fun _ h9 => h9) rfl dX7_needEnd_5 ?_
  refine lv_icmp_ge (tgt := 19) hx hb dX7_needEnd_8 (by decide) (fun c1 => ?_) (fun c1 => absurd (by decide) c1)
  have hP9 := hP.sub (ws' := [(t0, .inr (7, [.ref tb, .int 0, .int 0, .int 0]))]) [0] rfl
  have hD9 := hD.sub (ws' := [(t0, .inr (7, [.ref tb, .int 0, .int 0, .int 0]))]) [0] (by decide) rfl
  have hK9 := hK.sub (tys' := []) [] rfl
  refine W.widen (k := 0) (n := 0) (by decide) (by decide) ?_
  exact W.vret hx hb hr (fun t ht hW => ⟨⟨(), rfl, trivial, ⟨by rw [ht]; exact hP9, va_K.moved hW.alike hK9, hD9⟩⟩, hS.F ht⟩) hS.2.2 dX7_needEnd_19
set_option maxHeartbeats 4000000 in
set_option maxRecDepth 100000 in
/-- digits on an empty tape -/
theorem c_digits_c_a (l : Launch) (hl0 : l.stackTraces = false) (dC : Nat → ClassId) (dI : Nat → Nat → Nat) (A0 : Nat → Prop) (ad : Nat → Nat) (sz : Nat) (t0 tb : Nat) (hA0 : ∀ q, va_A [(t0, .inr (7, [.ref tb, .int 0, .int 0, .int ((-1))]))] sz q → A0 q) : Met l yX7_digits wsX7_digits ({ frames := 1, cells := 0, slots := 0, locals := 23 }) (va_Pc [.ref t0, .int 4, .int 4, .int 0, .int 9999] (zPc A0 ad (dC, dI) [(t0, .inr (7, [.ref tb, .int 0, .int 0, .int ((-1))]))] [] sz)) (va_Qi (fun (r : Int32) (_ : Unit) => r = -1) (fun (_ : Unit) (t : State) => zB (dC, dI) (va_A [(t0, .inr (7, [.ref tb, .int 0, .int 0, .int ((-1))]))] sz) [(t0, .inr (7, [.ref tb, .int 0, .int 0, .int 0]))] [] t) (va_A [(t0, .inr (7, [.ref tb, .int 0, .int 0, .int ((-1))]))] sz)) 0 0 (va_A [(t0, .inr (7, [.ref tb, .int 0, .int 0, .int ((-1))]))] sz) := by
  refine Met.ofW (cc := cX7_digits) (maxL := 7) (ret := (some .int)) (by decide) rfl ?_
  intro p e s m args below meth c s₁ B hml hv
  obtain ⟨rfl, hsz, hz, hP, hK, hD0⟩ := hv
  have hx := B.exec
  have hb := B.bytes
  have hr := B.returns
  have hts := atoms_spec (ws := wsX7_digits) B.pre
  have hown : s.vm.findClass RX7 = some m.cls := findClass_of_methodNamed B.named
  have hlocks := B.notSynchronized
  subst hsz
  have hD := hD0.self (sz := s.heap.size)
  generalize hAe : va_A [(t0, .inr (7, [.ref tb, .int 0, .int 0, .int ((-1))]))] s.heap.size = A at hD hA0 ⊢
  have hA : ∀ q : Nat, s.heap.size ≤ q → A q := fun q h => by rw [← hAe]; exact Or.inr h
  have hS : va_S A s.heap s.heap [] := va_S.rf
  have hl := lv_entry ([.ref t0, .int 4, .int 4, .int 0, .int 9999]) (n := 7) (Nat.le_of_ble_eq_true rfl)
  rw [lg_entry_eq]
  generalize (lg_sl ([.ref t0, .int 4, .int 4, .int 0, .int 9999]) ++ List.replicate (7 - (lg_sl ([.ref t0, .int 4, .int 4, .int 0, .int 9999])).length) Slot.unset).toArray = ls at hl ⊢
  have hl : lv_has ls 7 [(0, .ref t0), (1, .int 4), (2, .int 4), (3, .int 0), (4, .int 9999)] := hl
  have hP : va_P (dC, dI) vwCl [(t0, .inr (7, [.ref tb, .int 0, .int 0, .int ((-1))]))] s.heap := hP
  have hiX7 : ∀ w ∈ u_ws RX7 TX7 4, w ∈ wsX7_digits := fun _ h => List.mem_cons_of_mem _ (List.mem_append_right _ h)
  have hw1 := hts (.fieldLink RX7 22 "PostHouse$Tape" "next" "I") (by decide +kernel)
  refine lv_aload_n hx hb dX7_digits_0 rfl (lv_at hl 0 rfl) ?_
  refine lv_bipush (v := 48) hx hb dX7_digits_1 (by decide) ?_
  refine lv_bipush (v := 57) hx hb dX7_digits_3 (by decide) ?_
  have hPc := hP.sub (ws' := [(t0, .inr (7, [.ref tb, .int 0, .int 0, .int ((-1))]))]) [0] rfl
  have hDc := hD.sub (ws' := [(t0, .inr (7, [.ref tb, .int 0, .int 0, .int ((-1))]))]) [0] (by decide) rfl
  have hKc := hK.sub (tys' := []) [] rfl
  have hFc := va_free (wc := [(t0, .inr (7, [.ref tb, .int 0, .int 0, .int ((-1))]))]) hD hS hA [0] rfl
  refine va_calli (va_runV (As := [.int 48, .int 57]) (rest := []) ⟨hx, hb, hml, hown, hts⟩ (c_run_a l hl0 dC dI A0 ad s.heap.size t0 tb 48 57 (fun q h => hA0 q (hFc q h))) (cwV 2 hts gX7_digits_X7_run rfl rfl rfl (by decide +kernel) ⟨Nat.le_of_ble_eq_true rfl, Nat.le_of_ble_eq_true rfl⟩) ⟨zPc_bl, va_recv hKc hPc (ci := 7) (q0 := 0) rfl rfl, zPc_at hz hS hA0 hPc hKc hDc⟩ rfl rfl hl.1 rfl (lv_room (Nat.le_of_ble_eq_true rfl)) dX7_digits_5 ⟨Nat.le_of_ble_eq_true rfl, Nat.le_of_ble_eq_true rfl⟩) hS (fun q _ h => hFc q h) hFc (fun r1 u t H1 locs ht hvm hw hB hz1 hk1 hS => ?_)
  obtain ⟨hP1, hK1, hD1⟩ := hB
  rw [ht] at hP1
  have hK1 := va_K.moved hvm.symm hK1
  obtain ⟨hP, hD⟩ := va_join (wr := []) (w1 := [(t0, .inr (7, [.ref tb, .int 0, .int 0, .int ((-1))]))]) hP hD [0] [] rfl rfl (by decide) (by decide) hk1 hFc hP1 hD1
  have hK := (hK.sub (tys' := []) [] rfl).app hK1
  generalize H1 = H at hP hS ⊢
  have hP : va_P (dC, dI) vwCl [(t0, .inr (7, [.ref tb, .int 0, .int 0, .int ((-1))]))] H := hP
  have hD : va_D A [(t0, .inr (7, [.ref tb, .int 0, .int 0, .int ((-1))]))] := hD
  have hK : va_K (dC, dI) vwCl [] s := hK
  obtain rfl : r1 = 0 := hw
  refine lv_istore (lv' := [(5, .int 0), (0, .ref t0), (1, .int 4), (2, .int 4), (3, .int 0), (4, .int 9999)]) hx hb dX7_digits_8 hl (by decide) rfl (fun ls hl => ?_)
  refine lv_iload hx hb dX7_digits_10 (lv_at hl 0 rfl) ?_
  refine lv_iload_n hx hb dX7_digits_12 rfl (lv_at hl 2 rfl) ?_
  refine lv_icmp_lt (tgt := 22) hx hb dX7_digits_13 (by decide) (fun c2 => ?_) (fun c2 => absurd (by decide) c2)
  refine lv_iconst (v := (-1)) hx hb dX7_digits_22 (by decide) ?_
  refine lv_goto (tgt := 32) hx hb dX7_digits_23 (by decide) ?_
  refine lv_istore (lv' := [(6, .int ((-1))), (5, .int 0), (0, .ref t0), (1, .int 4), (2, .int 4), (3, .int 0), (4, .int 9999)]) hx hb dX7_digits_32 hl (by decide) rfl (fun ls hl => ?_)
  refine lv_iload hx hb dX7_digits_34 (lv_at hl 0 rfl) ?_
  refine lv_iload_n hx hb dX7_digits_36 rfl (lv_at hl 5 rfl) ?_
  refine lv_icmp_lt (tgt := 47) hx hb dX7_digits_37 (by decide) (fun c3 => ?_) (fun c3 => absurd (by decide) c3)
  refine lv_aload_n hx hb dX7_digits_47 rfl (lv_at hl 2 rfl) ?_
  refine lv_aload_n hx hb dX7_digits_48 rfl (lv_at hl 2 rfl) ?_
  refine va_get (D := (dC, dI)) (ci := 7) (v := .int 0) (C := RX7) (T := TX7) (N := 4) hx hb hts hiX7 hown hK hP 0 rfl rfl 2 (by decide) hw1 (fun _ h9 => h9) rfl dX7_digits_49 ?_
  have hPc := hP.sub (ws' := [(t0, .inr (7, [.ref tb, .int 0, .int 0, .int ((-1))]))]) [0] rfl
  have hDc := hD.sub (ws' := [(t0, .inr (7, [.ref tb, .int 0, .int 0, .int ((-1))]))]) [0] (by decide) rfl
  have hKc := hK.sub (tys' := []) [] rfl
  have hFc := va_free (wc := [(t0, .inr (7, [.ref tb, .int 0, .int 0, .int ((-1))]))]) hD hS hA [0] rfl
  refine va_callv (va_runV (As := [.int 0]) (rest := []) ⟨hx, hb, hml, hown, hts⟩ (c_refuse_a l hl0 dC dI A0 ad H.size t0 tb (fun q h => hA0 q (hFc q h))) (cwV 1 hts gX7_digits_X7_refuse rfl rfl rfl (by decide +kernel) ⟨Nat.le_of_ble_eq_true rfl, Nat.le_of_ble_eq_true rfl⟩) ⟨zPc_bl, va_recv hKc hPc (ci := 7) (q0 := 0) rfl rfl, zPc_at hz hS hA0 hPc hKc hDc⟩ rfl rfl hl.1 rfl (lv_room (Nat.le_of_ble_eq_true rfl)) dX7_digits_52 ⟨Nat.le_of_ble_eq_true rfl, Nat.le_of_ble_eq_true rfl⟩) hS (fun q _ h => hFc q h) hFc (fun u t H1 locs ht hvm hw hB hz1 hk1 hS => ?_)
  obtain ⟨hP1, hK1, hD1⟩ := hB
  rw [ht] at hP1
  have hK1 := va_K.moved hvm.symm hK1
  obtain ⟨hP, hD⟩ := va_join (wr := []) (w1 := [(t0, .inr (7, [.ref tb, .int 0, .int 0, .int 0]))]) hP hD [0] [] rfl rfl (by decide) (by decide) hk1 hFc hP1 hD1
  have hK := (hK.sub (tys' := []) [] rfl).app hK1
  generalize H1 = H at hP hS ⊢
  have hP : va_P (dC, dI) vwCl [(t0, .inr (7, [.ref tb, .int 0, .int 0, .int 0]))] H := hP
  have hD : va_D A [(t0, .inr (7, [.ref tb, .int 0, .int 0, .int 0]))] := hD
  have hK : va_K (dC, dI) vwCl [] s := hK
  refine lv_iconst (v := (-1)) hx hb dX7_digits_55 (by decide) ?_
  have hP9 := hP.sub (ws' := [(t0, .inr (7, [.ref tb, .int 0, .int 0, .int 0]))]) [0] rfl
  have hD9 := hD.sub (ws' := [(t0, .inr (7, [.ref tb, .int 0, .int 0, .int 0]))]) [0] (by decide) rfl
  have hK9 := hK.sub (tys' := []) [] rfl
  refine W.widen (k := 0) (n := 0) (by decide) (by decide) ?_
  exact W.iret (v := (-1)) hx hb hr (fun t ht hW => ⟨⟨(-1), (), rfl, rfl, ⟨by rw [ht]; exact hP9, va_K.moved hW.alike hK9, hD9⟩⟩, hS.F ht⟩) hS.2.2 dX7_digits_56
set_option maxHeartbeats 4000000 in
set_option maxRecDepth 100000 in
/-- digits on an empty tape -/
theorem c_digits_c_b (l : Launch) (hl0 : l.stackTraces = false) (dC : Nat → ClassId) (dI : Nat → Nat → Nat) (A0 : Nat → Prop) (ad : Nat → Nat) (sz : Nat) (t0 tb : Nat) (hA0 : ∀ q, va_A [(t0, .inr (7, [.ref tb, .int 0, .int 0, .int 0]))] sz q → A0 q) : Met l yX7_digits wsX7_digits ({ frames := 1, cells := 0, slots := 0, locals := 23 }) (va_Pc [.ref t0, .int 4, .int 4, .int 0, .int 9999] (zPc A0 ad (dC, dI) [(t0, .inr (7, [.ref tb, .int 0, .int 0, .int 0]))] [] sz)) (va_Qi (fun (r : Int32) (_ : Unit) => r = -1) (fun (_ : Unit) (t : State) => zB (dC, dI) (va_A [(t0, .inr (7, [.ref tb, .int 0, .int 0, .int 0]))] sz) [(t0, .inr (7, [.ref tb, .int 0, .int 0, .int 0]))] [] t) (va_A [(t0, .inr (7, [.ref tb, .int 0, .int 0, .int 0]))] sz)) 0 0 (va_A [(t0, .inr (7, [.ref tb, .int 0, .int 0, .int 0]))] sz) := by
  refine Met.ofW (cc := cX7_digits) (maxL := 7) (ret := (some .int)) (by decide) rfl ?_
  intro p e s m args below meth c s₁ B hml hv
  obtain ⟨rfl, hsz, hz, hP, hK, hD0⟩ := hv
  have hx := B.exec
  have hb := B.bytes
  have hr := B.returns
  have hts := atoms_spec (ws := wsX7_digits) B.pre
  have hown : s.vm.findClass RX7 = some m.cls := findClass_of_methodNamed B.named
  have hlocks := B.notSynchronized
  subst hsz
  have hD := hD0.self (sz := s.heap.size)
  generalize hAe : va_A [(t0, .inr (7, [.ref tb, .int 0, .int 0, .int 0]))] s.heap.size = A at hD hA0 ⊢
  have hA : ∀ q : Nat, s.heap.size ≤ q → A q := fun q h => by rw [← hAe]; exact Or.inr h
  have hS : va_S A s.heap s.heap [] := va_S.rf
  have hl := lv_entry ([.ref t0, .int 4, .int 4, .int 0, .int 9999]) (n := 7) (Nat.le_of_ble_eq_true rfl)
  rw [lg_entry_eq]
  generalize (lg_sl ([.ref t0, .int 4, .int 4, .int 0, .int 9999]) ++ List.replicate (7 - (lg_sl ([.ref t0, .int 4, .int 4, .int 0, .int 9999])).length) Slot.unset).toArray = ls at hl ⊢
  have hl : lv_has ls 7 [(0, .ref t0), (1, .int 4), (2, .int 4), (3, .int 0), (4, .int 9999)] := hl
  have hP : va_P (dC, dI) vwCl [(t0, .inr (7, [.ref tb, .int 0, .int 0, .int 0]))] s.heap := hP
  have hiX7 : ∀ w ∈ u_ws RX7 TX7 4, w ∈ wsX7_digits := fun _ h => List.mem_cons_of_mem _ (List.mem_append_right _ h)
  have hw1 := hts (.fieldLink RX7 22 "PostHouse$Tape" "next" "I") (by decide +kernel)
  refine lv_aload_n hx hb dX7_digits_0 rfl (lv_at hl 0 rfl) ?_
  refine lv_bipush (v := 48) hx hb dX7_digits_1 (by decide) ?_
  refine lv_bipush (v := 57) hx hb dX7_digits_3 (by decide) ?_
  have hPc := hP.sub (ws' := [(t0, .inr (7, [.ref tb, .int 0, .int 0, .int 0]))]) [0] rfl
  have hDc := hD.sub (ws' := [(t0, .inr (7, [.ref tb, .int 0, .int 0, .int 0]))]) [0] (by decide) rfl
  have hKc := hK.sub (tys' := []) [] rfl
  have hFc := va_free (wc := [(t0, .inr (7, [.ref tb, .int 0, .int 0, .int 0]))]) hD hS hA [0] rfl
  refine va_calli (va_runV (As := [.int 48, .int 57]) (rest := []) ⟨hx, hb, hml, hown, hts⟩ (c_run_b l hl0 dC dI A0 ad s.heap.size t0 tb 48 57 (fun q h => hA0 q (hFc q h))) (cwV 2 hts gX7_digits_X7_run rfl rfl rfl (by decide +kernel) ⟨Nat.le_of_ble_eq_true rfl, Nat.le_of_ble_eq_true rfl⟩) ⟨zPc_bl, va_recv hKc hPc (ci := 7) (q0 := 0) rfl rfl, zPc_at hz hS hA0 hPc hKc hDc⟩ rfl rfl hl.1 rfl (lv_room (Nat.le_of_ble_eq_true rfl)) dX7_digits_5 ⟨Nat.le_of_ble_eq_true rfl, Nat.le_of_ble_eq_true rfl⟩) hS (fun q _ h => hFc q h) hFc (fun r1 u t H1 locs ht hvm hw hB hz1 hk1 hS => ?_)
  obtain ⟨hP1, hK1, hD1⟩ := hB
  rw [ht] at hP1
  have hK1 := va_K.moved hvm.symm hK1
  obtain ⟨hP, hD⟩ := va_join (wr := []) (w1 := [(t0, .inr (7, [.ref tb, .int 0, .int 0, .int 0]))]) hP hD [0] [] rfl rfl (by decide) (by decide) hk1 hFc hP1 hD1
  have hK := (hK.sub (tys' := []) [] rfl).app hK1
  generalize H1 = H at hP hS ⊢
  have hP : va_P (dC, dI) vwCl [(t0, .inr (7, [.ref tb, .int 0, .int 0, .int 0]))] H := hP
  have hD : va_D A [(t0, .inr (7, [.ref tb, .int 0, .int 0, .int 0]))] := hD
  have hK : va_K (dC, dI) vwCl [] s := hK
  obtain rfl : r1 = 0 := hw
  refine lv_istore (lv' := [(5, .int 0), (0, .ref t0), (1, .int 4), (2, .int 4), (3, .int 0), (4, .int 9999)]) hx hb dX7_digits_8 hl (by decide) rfl (fun ls hl => ?_)
  refine lv_iload hx hb dX7_digits_10 (lv_at hl 0 rfl) ?_
  refine lv_iload_n hx hb dX7_digits_12 rfl (lv_at hl 2 rfl) ?_
  refine lv_icmp_lt (tgt := 22) hx hb dX7_digits_13 (by decide) (fun c2 => ?_) (fun c2 => absurd (by decide) c2)
  refine lv_iconst (v := (-1)) hx hb dX7_digits_22 (by decide) ?_
  refine lv_goto (tgt := 32) hx hb dX7_digits_23 (by decide) ?_
  refine lv_istore (lv' := [(6, .int ((-1))), (5, .int 0), (0, .ref t0), (1, .int 4), (2, .int 4), (3, .int 0), (4, .int 9999)]) hx hb dX7_digits_32 hl (by decide) rfl (fun ls hl => ?_)
  refine lv_iload hx hb dX7_digits_34 (lv_at hl 0 rfl) ?_
  refine lv_iload_n hx hb dX7_digits_36 rfl (lv_at hl 5 rfl) ?_
  refine lv_icmp_lt (tgt := 47) hx hb dX7_digits_37 (by decide) (fun c3 => ?_) (fun c3 => absurd (by decide) c3)
  refine lv_aload_n hx hb dX7_digits_47 rfl (lv_at hl 2 rfl) ?_
  refine lv_aload_n hx hb dX7_digits_48 rfl (lv_at hl 2 rfl) ?_
  refine va_get (D := (dC, dI)) (ci := 7) (v := .int 0) (C := RX7) (T := TX7) (N := 4) hx hb hts hiX7 hown hK hP 0 rfl rfl 2 (by decide) hw1 (fun _ h9 => h9) rfl dX7_digits_49 ?_
  have hPc := hP.sub (ws' := [(t0, .inr (7, [.ref tb, .int 0, .int 0, .int 0]))]) [0] rfl
  have hDc := hD.sub (ws' := [(t0, .inr (7, [.ref tb, .int 0, .int 0, .int 0]))]) [0] (by decide) rfl
  have hKc := hK.sub (tys' := []) [] rfl
  have hFc := va_free (wc := [(t0, .inr (7, [.ref tb, .int 0, .int 0, .int 0]))]) hD hS hA [0] rfl
  refine va_callv (va_runV (As := [.int 0]) (rest := []) ⟨hx, hb, hml, hown, hts⟩ (c_refuse_b l hl0 dC dI A0 ad H.size t0 tb (fun q h => hA0 q (hFc q h))) (cwV 1 hts gX7_digits_X7_refuse rfl rfl rfl (by decide +kernel) ⟨Nat.le_of_ble_eq_true rfl, Nat.le_of_ble_eq_true rfl⟩) ⟨zPc_bl, va_recv hKc hPc (ci := 7) (q0 := 0) rfl rfl, zPc_at hz hS hA0 hPc hKc hDc⟩ rfl rfl hl.1 rfl (lv_room (Nat.le_of_ble_eq_true rfl)) dX7_digits_52 ⟨Nat.le_of_ble_eq_true rfl, Nat.le_of_ble_eq_true rfl⟩) hS (fun q _ h => hFc q h) hFc (fun u t H1 locs ht hvm hw hB hz1 hk1 hS => ?_)
  obtain ⟨hP1, hK1, hD1⟩ := hB
  rw [ht] at hP1
  have hK1 := va_K.moved hvm.symm hK1
  obtain ⟨hP, hD⟩ := va_join (wr := []) (w1 := [(t0, .inr (7, [.ref tb, .int 0, .int 0, .int 0]))]) hP hD [0] [] rfl rfl (by decide) (by decide) hk1 hFc hP1 hD1
  have hK := (hK.sub (tys' := []) [] rfl).app hK1
  generalize H1 = H at hP hS ⊢
  have hP : va_P (dC, dI) vwCl [(t0, .inr (7, [.ref tb, .int 0, .int 0, .int 0]))] H := hP
  have hD : va_D A [(t0, .inr (7, [.ref tb, .int 0, .int 0, .int 0]))] := hD
  have hK : va_K (dC, dI) vwCl [] s := hK
  refine lv_iconst (v := (-1)) hx hb dX7_digits_55 (by decide) ?_
  have hP9 := hP.sub (ws' := [(t0, .inr (7, [.ref tb, .int 0, .int 0, .int 0]))]) [0] rfl
  have hD9 := hD.sub (ws' := [(t0, .inr (7, [.ref tb, .int 0, .int 0, .int 0]))]) [0] (by decide) rfl
  have hK9 := hK.sub (tys' := []) [] rfl
  refine W.widen (k := 0) (n := 0) (by decide) (by decide) ?_
  exact W.iret (v := (-1)) hx hb hr (fun t ht hW => ⟨⟨(-1), (), rfl, rfl, ⟨by rw [ht]; exact hP9, va_K.moved hW.alike hK9, hD9⟩⟩, hS.F ht⟩) hS.2.2 dX7_digits_56
set_option maxHeartbeats 4000000 in
set_option maxRecDepth 100000 in
/-- digits on an empty tape -/
theorem c_digits_n_a (l : Launch) (hl0 : l.stackTraces = false) (dC : Nat → ClassId) (dI : Nat → Nat → Nat) (A0 : Nat → Prop) (ad : Nat → Nat) (sz : Nat) (t0 tb : Nat) (hA0 : ∀ q, va_A [(t0, .inr (7, [.ref tb, .int 0, .int 0, .int ((-1))]))] sz q → A0 q) : Met l yX7_digits wsX7_digits ({ frames := 1, cells := 0, slots := 0, locals := 23 }) (va_Pc [.ref t0, .int 1, .int 6, .int 1, .int 99] (zPc A0 ad (dC, dI) [(t0, .inr (7, [.ref tb, .int 0, .int 0, .int ((-1))]))] [] sz)) (va_Qi (fun (r : Int32) (_ : Unit) => r = -1) (fun (_ : Unit) (t : State) => zB (dC, dI) (va_A [(t0, .inr (7, [.ref tb, .int 0, .int 0, .int ((-1))]))] sz) [(t0, .inr (7, [.ref tb, .int 0, .int 0, .int 0]))] [] t) (va_A [(t0, .inr (7, [.ref tb, .int 0, .int 0, .int ((-1))]))] sz)) 0 0 (va_A [(t0, .inr (7, [.ref tb, .int 0, .int 0, .int ((-1))]))] sz) := by
  refine Met.ofW (cc := cX7_digits) (maxL := 7) (ret := (some .int)) (by decide) rfl ?_
  intro p e s m args below meth c s₁ B hml hv
  obtain ⟨rfl, hsz, hz, hP, hK, hD0⟩ := hv
  have hx := B.exec
  have hb := B.bytes
  have hr := B.returns
  have hts := atoms_spec (ws := wsX7_digits) B.pre
  have hown : s.vm.findClass RX7 = some m.cls := findClass_of_methodNamed B.named
  have hlocks := B.notSynchronized
  subst hsz
  have hD := hD0.self (sz := s.heap.size)
  generalize hAe : va_A [(t0, .inr (7, [.ref tb, .int 0, .int 0, .int ((-1))]))] s.heap.size = A at hD hA0 ⊢
  have hA : ∀ q : Nat, s.heap.size ≤ q → A q := fun q h => by rw [← hAe]; exact Or.inr h
  have hS : va_S A s.heap s.heap [] := va_S.rf
  have hl := lv_entry ([.ref t0, .int 1, .int 6, .int 1, .int 99]) (n := 7) (Nat.le_of_ble_eq_true rfl)
  rw [lg_entry_eq]
  generalize (lg_sl ([.ref t0, .int 1, .int 6, .int 1, .int 99]) ++ List.replicate (7 - (lg_sl ([.ref t0, .int 1, .int 6, .int 1, .int 99])).length) Slot.unset).toArray = ls at hl ⊢
  have hl : lv_has ls 7 [(0, .ref t0), (1, .int 1), (2, .int 6), (3, .int 1), (4, .int 99)] := hl
  have hP : va_P (dC, dI) vwCl [(t0, .inr (7, [.ref tb, .int 0, .int 0, .int ((-1))]))] s.heap := hP
  have hiX7 : ∀ w ∈ u_ws RX7 TX7 4, w ∈ wsX7_digits := fun _ h => List.mem_cons_of_mem _ (List.mem_append_right _ h)
  have hw1 := hts (.fieldLink RX7 22 "PostHouse$Tape" "next" "I") (by decide +kernel)
  refine lv_aload_n hx hb dX7_digits_0 rfl (lv_at hl 0 rfl) ?_
  refine lv_bipush (v := 48) hx hb dX7_digits_1 (by decide) ?_
  refine lv_bipush (v := 57) hx hb dX7_digits_3 (by decide) ?_
  have hPc := hP.sub (ws' := [(t0, .inr (7, [.ref tb, .int 0, .int 0, .int ((-1))]))]) [0] rfl
  have hDc := hD.sub (ws' := [(t0, .inr (7, [.ref tb, .int 0, .int 0, .int ((-1))]))]) [0] (by decide) rfl
  have hKc := hK.sub (tys' := []) [] rfl
  have hFc := va_free (wc := [(t0, .inr (7, [.ref tb, .int 0, .int 0, .int ((-1))]))]) hD hS hA [0] rfl
  refine va_calli (va_runV (As := [.int 48, .int 57]) (rest := []) ⟨hx, hb, hml, hown, hts⟩ (c_run_a l hl0 dC dI A0 ad s.heap.size t0 tb 48 57 (fun q h => hA0 q (hFc q h))) (cwV 2 hts gX7_digits_X7_run rfl rfl rfl (by decide +kernel) ⟨Nat.le_of_ble_eq_true rfl, Nat.le_of_ble_eq_true rfl⟩) ⟨zPc_bl, va_recv hKc hPc (ci := 7) (q0 := 0) rfl rfl, zPc_at hz hS hA0 hPc hKc hDc⟩ rfl rfl hl.1 rfl (lv_room (Nat.le_of_ble_eq_true rfl)) dX7_digits_5 ⟨Nat.le_of_ble_eq_true rfl, Nat.le_of_ble_eq_true rfl⟩) hS (fun q _ h => hFc q h) hFc (fun r1 u t H1 locs ht hvm hw hB hz1 hk1 hS => ?_)
  obtain ⟨hP1, hK1, hD1⟩ := hB
  rw [ht] at hP1
  have hK1 := va_K.moved hvm.symm hK1
  obtain ⟨hP, hD⟩ := va_join (wr := []) (w1 := [(t0, .inr (7, [.ref tb, .int 0, .int 0, .int ((-1))]))]) hP hD [0] [] rfl rfl (by decide) (by decide) hk1 hFc hP1 hD1
  have hK := (hK.sub (tys' := []) [] rfl).app hK1
  generalize H1 = H at hP hS ⊢
  have hP : va_P (dC, dI) vwCl [(t0, .inr (7, [.ref tb, .int 0, .int 0, .int ((-1))]))] H := hP
  have hD : va_D A [(t0, .inr (7, [.ref tb, .int 0, .int 0, .int ((-1))]))] := hD
  have hK : va_K (dC, dI) vwCl [] s := hK
  obtain rfl : r1 = 0 := hw
  refine lv_istore (lv' := [(5, .int 0), (0, .ref t0), (1, .int 1), (2, .int 6), (3, .int 1), (4, .int 99)]) hx hb dX7_digits_8 hl (by decide) rfl (fun ls hl => ?_)
  refine lv_iload hx hb dX7_digits_10 (lv_at hl 0 rfl) ?_
  refine lv_iload_n hx hb dX7_digits_12 rfl (lv_at hl 2 rfl) ?_
  refine lv_icmp_lt (tgt := 22) hx hb dX7_digits_13 (by decide) (fun c2 => ?_) (fun c2 => absurd (by decide) c2)
  refine lv_iconst (v := (-1)) hx hb dX7_digits_22 (by decide) ?_
  refine lv_goto (tgt := 32) hx hb dX7_digits_23 (by decide) ?_
  refine lv_istore (lv' := [(6, .int ((-1))), (5, .int 0), (0, .ref t0), (1, .int 1), (2, .int 6), (3, .int 1), (4, .int 99)]) hx hb dX7_digits_32 hl (by decide) rfl (fun ls hl => ?_)
  refine lv_iload hx hb dX7_digits_34 (lv_at hl 0 rfl) ?_
  refine lv_iload_n hx hb dX7_digits_36 rfl (lv_at hl 5 rfl) ?_
  refine lv_icmp_lt (tgt := 47) hx hb dX7_digits_37 (by decide) (fun c3 => ?_) (fun c3 => absurd (by decide) c3)
  refine lv_aload_n hx hb dX7_digits_47 rfl (lv_at hl 2 rfl) ?_
  refine lv_aload_n hx hb dX7_digits_48 rfl (lv_at hl 2 rfl) ?_
  refine va_get (D := (dC, dI)) (ci := 7) (v := .int 0) (C := RX7) (T := TX7) (N := 4) hx hb hts hiX7 hown hK hP 0 rfl rfl 2 (by decide) hw1 (fun _ h9 => h9) rfl dX7_digits_49 ?_
  have hPc := hP.sub (ws' := [(t0, .inr (7, [.ref tb, .int 0, .int 0, .int ((-1))]))]) [0] rfl
  have hDc := hD.sub (ws' := [(t0, .inr (7, [.ref tb, .int 0, .int 0, .int ((-1))]))]) [0] (by decide) rfl
  have hKc := hK.sub (tys' := []) [] rfl
  have hFc := va_free (wc := [(t0, .inr (7, [.ref tb, .int 0, .int 0, .int ((-1))]))]) hD hS hA [0] rfl
  refine va_callv (va_runV (As := [.int 0]) (rest := []) ⟨hx, hb, hml, hown, hts⟩ (c_refuse_a l hl0 dC dI A0 ad H.size t0 tb (fun q h => hA0 q (hFc q h))) (cwV 1 hts gX7_digits_X7_refuse rfl rfl rfl (by decide +kernel) ⟨Nat.le_of_ble_eq_true rfl, Nat.le_of_ble_eq_true rfl⟩) ⟨zPc_bl, va_recv hKc hPc (ci := 7) (q0 := 0) rfl rfl, zPc_at hz hS hA0 hPc hKc hDc⟩ rfl rfl hl.1 rfl (lv_room (Nat.le_of_ble_eq_true rfl)) dX7_digits_52 ⟨Nat.le_of_ble_eq_true rfl, Nat.le_of_ble_eq_true rfl⟩) hS (fun q _ h => hFc q h) hFc (fun u t H1 locs ht hvm hw hB hz1 hk1 hS => ?_)
  obtain ⟨hP1, hK1, hD1⟩ := hB
  rw [ht] at hP1
  have hK1 := va_K.moved hvm.symm hK1
  obtain ⟨hP, hD⟩ := va_join (wr := []) (w1 := [(t0, .inr (7, [.ref tb, .int 0, .int 0, .int 0]))]) hP hD [0] [] rfl rfl (by decide) (by decide) hk1 hFc hP1 hD1
  have hK := (hK.sub (tys' := []) [] rfl).app hK1
  generalize H1 = H at hP hS ⊢
  have hP : va_P (dC, dI) vwCl [(t0, .inr (7, [.ref tb, .int 0, .int 0, .int 0]))] H := hP
  have hD : va_D A [(t0, .inr (7, [.ref tb, .int 0, .int 0, .int 0]))] := hD
  have hK : va_K (dC, dI) vwCl [] s := hK
  refine lv_iconst (v := (-1)) hx hb dX7_digits_55 (by decide) ?_
  have hP9 := hP.sub (ws' := [(t0, .inr (7, [.ref tb, .int 0, .int 0, .int 0]))]) [0] rfl
  have hD9 := hD.sub (ws' := [(t0, .inr (7, [.ref tb, .int 0, .int 0, .int 0]))]) [0] (by decide) rfl
  have hK9 := hK.sub (tys' := []) [] rfl
  refine W.widen (k := 0) (n := 0) (by decide) (by decide) ?_
  exact W.iret (v := (-1)) hx hb hr (fun t ht hW => ⟨⟨(-1), (), rfl, rfl, ⟨by rw [ht]; exact hP9, va_K.moved hW.alike hK9, hD9⟩⟩, hS.F ht⟩) hS.2.2 dX7_digits_56
set_option maxHeartbeats 4000000 in
set_option maxRecDepth 100000 in
/-- digits on an empty tape -/
theorem c_digits_n_b (l : Launch) (hl0 : l.stackTraces = false) (dC : Nat → ClassId) (dI : Nat → Nat → Nat) (A0 : Nat → Prop) (ad : Nat → Nat) (sz : Nat) (t0 tb : Nat) (hA0 : ∀ q, va_A [(t0, .inr (7, [.ref tb, .int 0, .int 0, .int 0]))] sz q → A0 q) : Met l yX7_digits wsX7_digits ({ frames := 1, cells := 0, slots := 0, locals := 23 }) (va_Pc [.ref t0, .int 1, .int 6, .int 1, .int 99] (zPc A0 ad (dC, dI) [(t0, .inr (7, [.ref tb, .int 0, .int 0, .int 0]))] [] sz)) (va_Qi (fun (r : Int32) (_ : Unit) => r = -1) (fun (_ : Unit) (t : State) => zB (dC, dI) (va_A [(t0, .inr (7, [.ref tb, .int 0, .int 0, .int 0]))] sz) [(t0, .inr (7, [.ref tb, .int 0, .int 0, .int 0]))] [] t) (va_A [(t0, .inr (7, [.ref tb, .int 0, .int 0, .int 0]))] sz)) 0 0 (va_A [(t0, .inr (7, [.ref tb, .int 0, .int 0, .int 0]))] sz) := by
  refine Met.ofW (cc := cX7_digits) (maxL := 7) (ret := (some .int)) (by decide) rfl ?_
  intro p e s m args below meth c s₁ B hml hv
  obtain ⟨rfl, hsz, hz, hP, hK, hD0⟩ := hv
  have hx := B.exec
  have hb := B.bytes
  have hr := B.returns
  have hts := atoms_spec (ws := wsX7_digits) B.pre
  have hown : s.vm.findClass RX7 = some m.cls := findClass_of_methodNamed B.named
  have hlocks := B.notSynchronized
  subst hsz
  have hD := hD0.self (sz := s.heap.size)
  generalize hAe : va_A [(t0, .inr (7, [.ref tb, .int 0, .int 0, .int 0]))] s.heap.size = A at hD hA0 ⊢
  have hA : ∀ q : Nat, s.heap.size ≤ q → A q := fun q h => by rw [← hAe]; exact Or.inr h
  have hS : va_S A s.heap s.heap [] := va_S.rf
  have hl := lv_entry ([.ref t0, .int 1, .int 6, .int 1, .int 99]) (n := 7) (Nat.le_of_ble_eq_true rfl)
  rw [lg_entry_eq]
  generalize (lg_sl ([.ref t0, .int 1, .int 6, .int 1, .int 99]) ++ List.replicate (7 - (lg_sl ([.ref t0, .int 1, .int 6, .int 1, .int 99])).length) Slot.unset).toArray = ls at hl ⊢
  have hl : lv_has ls 7 [(0, .ref t0), (1, .int 1), (2, .int 6), (3, .int 1), (4, .int 99)] := hl
  have hP : va_P (dC, dI) vwCl [(t0, .inr (7, [.ref tb, .int 0, .int 0, .int 0]))] s.heap := hP
  have hiX7 : ∀ w ∈ u_ws RX7 TX7 4, w ∈ wsX7_digits := fun _ h => List.mem_cons_of_mem _ (List.mem_append_right _ h)
  have hw1 := hts (.fieldLink RX7 22 "PostHouse$Tape" "next" "I") (by decide +kernel)
  refine lv_aload_n hx hb dX7_digits_0 rfl (lv_at hl 0 rfl) ?_
  refine lv_bipush (v := 48) hx hb dX7_digits_1 (by decide) ?_
  refine lv_bipush (v := 57) hx hb dX7_digits_3 (by decide) ?_
  have hPc := hP.sub (ws' := [(t0, .inr (7, [.ref tb, .int 0, .int 0, .int 0]))]) [0] rfl
  have hDc := hD.sub (ws' := [(t0, .inr (7, [.ref tb, .int 0, .int 0, .int 0]))]) [0] (by decide) rfl
  have hKc := hK.sub (tys' := []) [] rfl
  have hFc := va_free (wc := [(t0, .inr (7, [.ref tb, .int 0, .int 0, .int 0]))]) hD hS hA [0] rfl
  refine va_calli (va_runV (As := [.int 48, .int 57]) (rest := []) ⟨hx, hb, hml, hown, hts⟩ (c_run_b l hl0 dC dI A0 ad s.heap.size t0 tb 48 57 (fun q h => hA0 q (hFc q h))) (cwV 2 hts gX7_digits_X7_run rfl rfl rfl (by decide +kernel) ⟨Nat.le_of_ble_eq_true rfl, Nat.le_of_ble_eq_true rfl⟩) ⟨zPc_bl, va_recv hKc hPc (ci := 7) (q0 := 0) rfl rfl, zPc_at hz hS hA0 hPc hKc hDc⟩ rfl rfl hl.1 rfl (lv_room (Nat.le_of_ble_eq_true rfl)) dX7_digits_5 ⟨Nat.le_of_ble_eq_true rfl, Nat.le_of_ble_eq_true rfl⟩) hS (fun q _ h => hFc q h) hFc (fun r1 u t H1 locs ht hvm hw hB hz1 hk1 hS => ?_)
  obtain ⟨hP1, hK1, hD1⟩ := hB
  rw [ht] at hP1
  have hK1 := va_K.moved hvm.symm hK1
  obtain ⟨hP, hD⟩ := va_join (wr := []) (w1 := [(t0, .inr (7, [.ref tb, .int 0, .int 0, .int 0]))]) hP hD [0] [] rfl rfl (by decide) (by decide) hk1 hFc hP1 hD1
  have hK := (hK.sub (tys' := []) [] rfl).app hK1
  generalize H1 = H at hP hS ⊢
  have hP : va_P (dC, dI) vwCl [(t0, .inr (7, [.ref tb, .int 0, .int 0, .int 0]))] H := hP
  have hD : va_D A [(t0, .inr (7, [.ref tb, .int 0, .int 0, .int 0]))] := hD
  have hK : va_K (dC, dI) vwCl [] s := hK
  obtain rfl : r1 = 0 := hw
  refine lv_istore (lv' := [(5, .int 0), (0, .ref t0), (1, .int 1), (2, .int 6), (3, .int 1), (4, .int 99)]) hx hb dX7_digits_8 hl (by decide) rfl (fun ls hl => ?_)
  refine lv_iload hx hb dX7_digits_10 (lv_at hl 0 rfl) ?_
  refine lv_iload_n hx hb dX7_digits_12 rfl (lv_at hl 2 rfl) ?_
  refine lv_icmp_lt (tgt := 22) hx hb dX7_digits_13 (by decide) (fun c2 => ?_) (fun c2 => absurd (by decide) c2)
  refine lv_iconst (v := (-1)) hx hb dX7_digits_22 (by decide) ?_
  refine lv_goto (tgt := 32) hx hb dX7_digits_23 (by decide) ?_
  refine lv_istore (lv' := [(6, .int ((-1))), (5, .int 0), (0, .ref t0), (1, .int 1), (2, .int 6), (3, .int 1), (4, .int 99)]) hx hb dX7_digits_32 hl (by decide) rfl (fun ls hl => ?_)
  refine lv_iload hx hb dX7_digits_34 (lv_at hl 0 rfl) ?_
  refine lv_iload_n hx hb dX7_digits_36 rfl (lv_at hl 5 rfl) ?_
  refine lv_icmp_lt (tgt := 47) hx hb dX7_digits_37 (by decide) (fun c3 => ?_) (fun c3 => absurd (by decide) c3)
  refine lv_aload_n hx hb dX7_digits_47 rfl (lv_at hl 2 rfl) ?_
  refine lv_aload_n hx hb dX7_digits_48 rfl (lv_at hl 2 rfl) ?_
  refine va_get (D := (dC, dI)) (ci := 7) (v := .int 0) (C := RX7) (T := TX7) (N := 4) hx hb hts hiX7 hown hK hP 0 rfl rfl 2 (by decide) hw1 (fun _ h9 => h9) rfl dX7_digits_49 ?_
  have hPc := hP.sub (ws' := [(t0, .inr (7, [.ref tb, .int 0, .int 0, .int 0]))]) [0] rfl
  have hDc := hD.sub (ws' := [(t0, .inr (7, [.ref tb, .int 0, .int 0, .int 0]))]) [0] (by decide) rfl
  have hKc := hK.sub (tys' := []) [] rfl
  have hFc := va_free (wc := [(t0, .inr (7, [.ref tb, .int 0, .int 0, .int 0]))]) hD hS hA [0] rfl
  refine va_callv (va_runV (As := [.int 0]) (rest := []) ⟨hx, hb, hml, hown, hts⟩ (c_refuse_b l hl0 dC dI A0 ad H.size t0 tb (fun q h => hA0 q (hFc q h))) (cwV 1 hts gX7_digits_X7_refuse rfl rfl rfl (by decide +kernel) ⟨Nat.le_of_ble_eq_true rfl, Nat.le_of_ble_eq_true rfl⟩) ⟨zPc_bl, va_recv hKc hPc (ci := 7) (q0 := 0) rfl rfl, zPc_at hz hS hA0 hPc hKc hDc⟩ rfl rfl hl.1 rfl (lv_room (Nat.le_of_ble_eq_true rfl)) dX7_digits_52 ⟨Nat.le_of_ble_eq_true rfl, Nat.le_of_ble_eq_true rfl⟩) hS (fun q _ h => hFc q h) hFc (fun u t H1 locs ht hvm hw hB hz1 hk1 hS => ?_)
  obtain ⟨hP1, hK1, hD1⟩ := hB
  rw [ht] at hP1
  have hK1 := va_K.moved hvm.symm hK1
  obtain ⟨hP, hD⟩ := va_join (wr := []) (w1 := [(t0, .inr (7, [.ref tb, .int 0, .int 0, .int 0]))]) hP hD [0] [] rfl rfl (by decide) (by decide) hk1 hFc hP1 hD1
  have hK := (hK.sub (tys' := []) [] rfl).app hK1
  generalize H1 = H at hP hS ⊢
  have hP : va_P (dC, dI) vwCl [(t0, .inr (7, [.ref tb, .int 0, .int 0, .int 0]))] H := hP
  have hD : va_D A [(t0, .inr (7, [.ref tb, .int 0, .int 0, .int 0]))] := hD
  have hK : va_K (dC, dI) vwCl [] s := hK
  refine lv_iconst (v := (-1)) hx hb dX7_digits_55 (by decide) ?_
  have hP9 := hP.sub (ws' := [(t0, .inr (7, [.ref tb, .int 0, .int 0, .int 0]))]) [0] rfl
  have hD9 := hD.sub (ws' := [(t0, .inr (7, [.ref tb, .int 0, .int 0, .int 0]))]) [0] (by decide) rfl
  have hK9 := hK.sub (tys' := []) [] rfl
  refine W.widen (k := 0) (n := 0) (by decide) (by decide) ?_
  exact W.iret (v := (-1)) hx hb hr (fun t ht hW => ⟨⟨(-1), (), rfl, rfl, ⟨by rw [ht]; exact hP9, va_K.moved hW.alike hK9, hD9⟩⟩, hS.F ht⟩) hS.2.2 dX7_digits_56
set_option maxHeartbeats 4000000 in
set_option maxRecDepth 100000 in
/-- digits on an empty tape -/
theorem c_digits_m_a (l : Launch) (hl0 : l.stackTraces = false) (dC : Nat → ClassId) (dI : Nat → Nat → Nat) (A0 : Nat → Prop) (ad : Nat → Nat) (sz : Nat) (t0 tb : Nat) (hA0 : ∀ q, va_A [(t0, .inr (7, [.ref tb, .int 0, .int 0, .int ((-1))]))] sz q → A0 q) : Met l yX7_digits wsX7_digits ({ frames := 1, cells := 0, slots := 0, locals := 23 }) (va_Pc [.ref t0, .int 1, .int 6, .int 0, .int 999999] (zPc A0 ad (dC, dI) [(t0, .inr (7, [.ref tb, .int 0, .int 0, .int ((-1))]))] [] sz)) (va_Qi (fun (r : Int32) (_ : Unit) => r = -1) (fun (_ : Unit) (t : State) => zB (dC, dI) (va_A [(t0, .inr (7, [.ref tb, .int 0, .int 0, .int ((-1))]))] sz) [(t0, .inr (7, [.ref tb, .int 0, .int 0, .int 0]))] [] t) (va_A [(t0, .inr (7, [.ref tb, .int 0, .int 0, .int ((-1))]))] sz)) 0 0 (va_A [(t0, .inr (7, [.ref tb, .int 0, .int 0, .int ((-1))]))] sz) := by
  refine Met.ofW (cc := cX7_digits) (maxL := 7) (ret := (some .int)) (by decide) rfl ?_
  intro p e s m args below meth c s₁ B hml hv
  obtain ⟨rfl, hsz, hz, hP, hK, hD0⟩ := hv
  have hx := B.exec
  have hb := B.bytes
  have hr := B.returns
  have hts := atoms_spec (ws := wsX7_digits) B.pre
  have hown : s.vm.findClass RX7 = some m.cls := findClass_of_methodNamed B.named
  have hlocks := B.notSynchronized
  subst hsz
  have hD := hD0.self (sz := s.heap.size)
  generalize hAe : va_A [(t0, .inr (7, [.ref tb, .int 0, .int 0, .int ((-1))]))] s.heap.size = A at hD hA0 ⊢
  have hA : ∀ q : Nat, s.heap.size ≤ q → A q := fun q h => by rw [← hAe]; exact Or.inr h
  have hS : va_S A s.heap s.heap [] := va_S.rf
  have hl := lv_entry ([.ref t0, .int 1, .int 6, .int 0, .int 999999]) (n := 7) (Nat.le_of_ble_eq_true rfl)
  rw [lg_entry_eq]
  generalize (lg_sl ([.ref t0, .int 1, .int 6, .int 0, .int 999999]) ++ List.replicate (7 - (lg_sl ([.ref t0, .int 1, .int 6, .int 0, .int 999999])).length) Slot.unset).toArray = ls at hl ⊢
  have hl : lv_has ls 7 [(0, .ref t0), (1, .int 1), (2, .int 6), (3, .int 0), (4, .int 999999)] := hl
  have hP : va_P (dC, dI) vwCl [(t0, .inr (7, [.ref tb, .int 0, .int 0, .int ((-1))]))] s.heap := hP
  have hiX7 : ∀ w ∈ u_ws RX7 TX7 4, w ∈ wsX7_digits := fun _ h => List.mem_cons_of_mem _ (List.mem_append_right _ h)
  have hw1 := hts (.fieldLink RX7 22 "PostHouse$Tape" "next" "I") (by decide +kernel)
  refine lv_aload_n hx hb dX7_digits_0 rfl (lv_at hl 0 rfl) ?_
  refine lv_bipush (v := 48) hx hb dX7_digits_1 (by decide) ?_
  refine lv_bipush (v := 57) hx hb dX7_digits_3 (by decide) ?_
  have hPc := hP.sub (ws' := [(t0, .inr (7, [.ref tb, .int 0, .int 0, .int ((-1))]))]) [0] rfl
  have hDc := hD.sub (ws' := [(t0, .inr (7, [.ref tb, .int 0, .int 0, .int ((-1))]))]) [0] (by decide) rfl
  have hKc := hK.sub (tys' := []) [] rfl
  have hFc := va_free (wc := [(t0, .inr (7, [.ref tb, .int 0, .int 0, .int ((-1))]))]) hD hS hA [0] rfl
  refine va_calli (va_runV (As := [.int 48, .int 57]) (rest := []) ⟨hx, hb, hml, hown, hts⟩ (c_run_a l hl0 dC dI A0 ad s.heap.size t0 tb 48 57 (fun q h => hA0 q (hFc q h))) (cwV 2 hts gX7_digits_X7_run rfl rfl rfl (by decide +kernel) ⟨Nat.le_of_ble_eq_true rfl, Nat.le_of_ble_eq_true rfl⟩) ⟨zPc_bl, va_recv hKc hPc (ci := 7) (q0 := 0) rfl rfl, zPc_at hz hS hA0 hPc hKc hDc⟩ rfl rfl hl.1 rfl (lv_room (Nat.le_of_ble_eq_true rfl)) dX7_digits_5 ⟨Nat.le_of_ble_eq_true rfl, Nat.le_of_ble_eq_true rfl⟩) hS (fun q _ h => hFc q h) hFc (fun r1 u t H1 locs ht hvm hw hB hz1 hk1 hS => ?_)
  obtain ⟨hP1, hK1, hD1⟩ := hB
  rw [ht] at hP1
  have hK1 := va_K.moved hvm.symm hK1
  obtain ⟨hP, hD⟩ := va_join (wr := []) (w1 := [(t0, .inr (7, [.ref tb, .int 0, .int 0, .int ((-1))]))]) hP hD [0] [] rfl rfl (by decide) (by decide) hk1 hFc hP1 hD1
  have hK := (hK.sub (tys' := []) [] rfl).app hK1
  generalize H1 = H at hP hS ⊢
  have hP : va_P (dC, dI) vwCl [(t0, .inr (7, [.ref tb, .int 0, .int 0, .int ((-1))]))] H := hP
  have hD : va_D A [(t0, .inr (7, [.ref tb, .int 0, .int 0, .int ((-1))]))] := hD
  have hK : va_K (dC, dI) vwCl [] s := hK
  obtain rfl : r1 = 0 := hw
  refine lv_istore (lv' := [(5, .int 0), (0, .ref t0), (1, .int 1), (2, .int 6), (3, .int 0), (4, .int 999999)]) hx hb dX7_digits_8 hl (by decide) rfl (fun ls hl => ?_)
  refine lv_iload hx hb dX7_digits_10 (lv_at hl 0 rfl) ?_
  refine lv_iload_n hx hb dX7_digits_12 rfl (lv_at hl 2 rfl) ?_
  refine lv_icmp_lt (tgt := 22) hx hb dX7_digits_13 (by decide) (fun c2 => ?_) (fun c2 => absurd (by decide) c2)
  refine lv_iconst (v := (-1)) hx hb dX7_digits_22 (by decide) ?_
  refine lv_goto (tgt := 32) hx hb dX7_digits_23 (by decide) ?_
  refine lv_istore (lv' := [(6, .int ((-1))), (5, .int 0), (0, .ref t0), (1, .int 1), (2, .int 6), (3, .int 0), (4, .int 999999)]) hx hb dX7_digits_32 hl (by decide) rfl (fun ls hl => ?_)
  refine lv_iload hx hb dX7_digits_34 (lv_at hl 0 rfl) ?_
  refine lv_iload_n hx hb dX7_digits_36 rfl (lv_at hl 5 rfl) ?_
  refine lv_icmp_lt (tgt := 47) hx hb dX7_digits_37 (by decide) (fun c3 => ?_) (fun c3 => absurd (by decide) c3)
  refine lv_aload_n hx hb dX7_digits_47 rfl (lv_at hl 2 rfl) ?_
  refine lv_aload_n hx hb dX7_digits_48 rfl (lv_at hl 2 rfl) ?_
  refine va_get (D := (dC, dI)) (ci := 7) (v := .int 0) (C := RX7) (T := TX7) (N := 4) hx hb hts hiX7 hown hK hP 0 rfl rfl 2 (by decide) hw1 (fun _ h9 => h9) rfl dX7_digits_49 ?_
  have hPc := hP.sub (ws' := [(t0, .inr (7, [.ref tb, .int 0, .int 0, .int ((-1))]))]) [0] rfl
  have hDc := hD.sub (ws' := [(t0, .inr (7, [.ref tb, .int 0, .int 0, .int ((-1))]))]) [0] (by decide) rfl
  have hKc := hK.sub (tys' := []) [] rfl
  have hFc := va_free (wc := [(t0, .inr (7, [.ref tb, .int 0, .int 0, .int ((-1))]))]) hD hS hA [0] rfl
  refine va_callv (va_runV (As := [.int 0]) (rest := []) ⟨hx, hb, hml, hown, hts⟩ (c_refuse_a l hl0 dC dI A0 ad H.size t0 tb (fun q h => hA0 q (hFc q h))) (cwV 1 hts gX7_digits_X7_refuse rfl rfl rfl (by decide +kernel) ⟨Nat.le_of_ble_eq_true rfl, Nat.le_of_ble_eq_true rfl⟩) ⟨zPc_bl, va_recv hKc hPc (ci := 7) (q0 := 0) rfl rfl, zPc_at hz hS hA0 hPc hKc hDc⟩ rfl rfl hl.1 rfl (lv_room (Nat.le_of_ble_eq_true rfl)) dX7_digits_52 ⟨Nat.le_of_ble_eq_true rfl, Nat.le_of_ble_eq_true rfl⟩) hS (fun q _ h => hFc q h) hFc (fun u t H1 locs ht hvm hw hB hz1 hk1 hS => ?_)
  obtain ⟨hP1, hK1, hD1⟩ := hB
  rw [ht] at hP1
  have hK1 := va_K.moved hvm.symm hK1
  obtain ⟨hP, hD⟩ := va_join (wr := []) (w1 := [(t0, .inr (7, [.ref tb, .int 0, .int 0, .int 0]))]) hP hD [0] [] rfl rfl (by decide) (by decide) hk1 hFc hP1 hD1
  have hK := (hK.sub (tys' := []) [] rfl).app hK1
  generalize H1 = H at hP hS ⊢
  have hP : va_P (dC, dI) vwCl [(t0, .inr (7, [.ref tb, .int 0, .int 0, .int 0]))] H := hP
  have hD : va_D A [(t0, .inr (7, [.ref tb, .int 0, .int 0, .int 0]))] := hD
  have hK : va_K (dC, dI) vwCl [] s := hK
  refine lv_iconst (v := (-1)) hx hb dX7_digits_55 (by decide) ?_
  have hP9 := hP.sub (ws' := [(t0, .inr (7, [.ref tb, .int 0, .int 0, .int 0]))]) [0] rfl
  have hD9 := hD.sub (ws' := [(t0, .inr (7, [.ref tb, .int 0, .int 0, .int 0]))]) [0] (by decide) rfl
  have hK9 := hK.sub (tys' := []) [] rfl
  refine W.widen (k := 0) (n := 0) (by decide) (by decide) ?_
  exact W.iret (v := (-1)) hx hb hr (fun t ht hW => ⟨⟨(-1), (), rfl, rfl, ⟨by rw [ht]; exact hP9, va_K.moved hW.alike hK9, hD9⟩⟩, hS.F ht⟩) hS.2.2 dX7_digits_56
set_option maxHeartbeats 4000000 in
set_option maxRecDepth 100000 in
/-- digits on an empty tape -/
theorem c_digits_m_b (l : Launch) (hl0 : l.stackTraces = false) (dC : Nat → ClassId) (dI : Nat → Nat → Nat) (A0 : Nat → Prop) (ad : Nat → Nat) (sz : Nat) (t0 tb : Nat) (hA0 : ∀ q, va_A [(t0, .inr (7, [.ref tb, .int 0, .int 0, .int 0]))] sz q → A0 q) : Met l yX7_digits wsX7_digits ({ frames := 1, cells := 0, slots := 0, locals := 23 }) (va_Pc [.ref t0, .int 1, .int 6, .int 0, .int 999999] (zPc A0 ad (dC, dI) [(t0, .inr (7, [.ref tb, .int 0, .int 0, .int 0]))] [] sz)) (va_Qi (fun (r : Int32) (_ : Unit) => r = -1) (fun (_ : Unit) (t : State) => zB (dC, dI) (va_A [(t0, .inr (7, [.ref tb, .int 0, .int 0, .int 0]))] sz) [(t0, .inr (7, [.ref tb, .int 0, .int 0, .int 0]))] [] t) (va_A [(t0, .inr (7, [.ref tb, .int 0, .int 0, .int 0]))] sz)) 0 0 (va_A [(t0, .inr (7, [.ref tb, .int 0, .int 0, .int 0]))] sz) := by
  refine Met.ofW (cc := cX7_digits) (maxL := 7) (ret := (some .int)) (by decide) rfl ?_
  intro p e s m args below meth c s₁ B hml hv
  obtain ⟨rfl, hsz, hz, hP, hK, hD0⟩ := hv
  have hx := B.exec
  have hb := B.bytes
  have hr := B.returns
  have hts := atoms_spec (ws := wsX7_digits) B.pre
  have hown : s.vm.findClass RX7 = some m.cls := findClass_of_methodNamed B.named
  have hlocks := B.notSynchronized
  subst hsz
  have hD := hD0.self (sz := s.heap.size)
  generalize hAe : va_A [(t0, .inr (7, [.ref tb, .int 0, .int 0, .int 0]))] s.heap.size = A at hD hA0 ⊢
  have hA : ∀ q : Nat, s.heap.size ≤ q → A q := fun q h => by rw [← hAe]; exact Or.inr h
  have hS : va_S A s.heap s.heap [] := va_S.rf
  have hl := lv_entry ([.ref t0, .int 1, .int 6, .int 0, .int 999999]) (n := 7) (Nat.le_of_ble_eq_true rfl)
  rw [lg_entry_eq]
  generalize (lg_sl ([.ref t0, .int 1, .int 6, .int 0, .int 999999]) ++ List.replicate (7 - (lg_sl ([.ref t0, .int 1, .int 6, .int 0, .int 999999])).length) Slot.unset).toArray = ls at hl ⊢
  have hl : lv_has ls 7 [(0, .ref t0), (1, .int 1), (2, .int 6), (3, .int 0), (4, .int 999999)] := hl
  have hP : va_P (dC, dI) vwCl [(t0, .inr (7, [.ref tb, .int 0, .int 0, .int 0]))] s.heap := hP
  have hiX7 : ∀ w ∈ u_ws RX7 TX7 4, w ∈ wsX7_digits := fun _ h => List.mem_cons_of_mem _ (List.mem_append_right _ h)
  have hw1 := hts (.fieldLink RX7 22 "PostHouse$Tape" "next" "I") (by decide +kernel)
  refine lv_aload_n hx hb dX7_digits_0 rfl (lv_at hl 0 rfl) ?_
  refine lv_bipush (v := 48) hx hb dX7_digits_1 (by decide) ?_
  refine lv_bipush (v := 57) hx hb dX7_digits_3 (by decide) ?_
  have hPc := hP.sub (ws' := [(t0, .inr (7, [.ref tb, .int 0, .int 0, .int 0]))]) [0] rfl
  have hDc := hD.sub (ws' := [(t0, .inr (7, [.ref tb, .int 0, .int 0, .int 0]))]) [0] (by decide) rfl
  have hKc := hK.sub (tys' := []) [] rfl
  have hFc := va_free (wc := [(t0, .inr (7, [.ref tb, .int 0, .int 0, .int 0]))]) hD hS hA [0] rfl
  refine va_calli (va_runV (As := [.int 48, .int 57]) (rest := []) ⟨hx, hb, hml, hown, hts⟩ (c_run_b l hl0 dC dI A0 ad s.heap.size t0 tb 48 57 (fun q h => hA0 q (hFc q h))) (cwV 2 hts gX7_digits_X7_run rfl rfl rfl (by decide +kernel) ⟨Nat.le_of_ble_eq_true rfl, Nat.le_of_ble_eq_true rfl⟩) ⟨zPc_bl, va_recv hKc hPc (ci := 7) (q0 := 0) rfl rfl, zPc_at hz hS hA0 hPc hKc hDc⟩ rfl rfl hl.1 rfl (lv_room (Nat.le_of_ble_eq_true rfl)) dX7_digits_5 ⟨Nat.le_of_ble_eq_true rfl, Nat.le_of_ble_eq_true rfl⟩) hS (fun q _ h => hFc q h) hFc (fun r1 u t H1 locs ht hvm hw hB hz1 hk1 hS => ?_)
  obtain ⟨hP1, hK1, hD1⟩ := hB
  rw [ht] at hP1
  have hK1 := va_K.moved hvm.symm hK1
  obtain ⟨hP, hD⟩ := va_join (wr := []) (w1 := [(t0, .inr (7, [.ref tb, .int 0, .int 0, .int 0]))]) hP hD [0] [] rfl rfl (by decide) (by decide) hk1 hFc hP1 hD1
  have hK := (hK.sub (tys' := []) [] rfl).app hK1
  generalize H1 = H at hP hS ⊢
  have hP : va_P (dC, dI) vwCl [(t0, .inr (7, [.ref tb, .int 0, .int 0, .int 0]))] H := hP
  have hD : va_D A [(t0, .inr (7, [.ref tb, .int 0, .int 0, .int 0]))] := hD
  have hK : va_K (dC, dI) vwCl [] s := hK
  obtain rfl : r1 = 0 := hw
  refine lv_istore (lv' := [(5, .int 0), (0, .ref t0), (1, .int 1), (2, .int 6), (3, .int 0), (4, .int 999999)]) hx hb dX7_digits_8 hl (by decide) rfl (fun ls hl => ?_)
  refine lv_iload hx hb dX7_digits_10 (lv_at hl 0 rfl) ?_
  refine lv_iload_n hx hb dX7_digits_12 rfl (lv_at hl 2 rfl) ?_
  refine lv_icmp_lt (tgt := 22) hx hb dX7_digits_13 (by decide) (fun c2 => ?_) (fun c2 => absurd (by decide) c2)
  refine lv_iconst (v := (-1)) hx hb dX7_digits_22 (by decide) ?_
  refine lv_goto (tgt := 32) hx hb dX7_digits_23 (by decide) ?_
  refine lv_istore (lv' := [(6, .int ((-1))), (5, .int 0), (0, .ref t0), (1, .int 1), (2, .int 6), (3, .int 0), (4, .int 999999)]) hx hb dX7_digits_32 hl (by decide) rfl (fun ls hl => ?_)
  refine lv_iload hx hb dX7_digits_34 (lv_at hl 0 rfl) ?_
  refine lv_iload_n hx hb dX7_digits_36 rfl (lv_at hl 5 rfl) ?_
  refine lv_icmp_lt (tgt := 47) hx hb dX7_digits_37 (by decide) (fun c3 => ?_) (fun c3 => absurd (by decide) c3)
  refine lv_aload_n hx hb dX7_digits_47 rfl (lv_at hl 2 rfl) ?_
  refine lv_aload_n hx hb dX7_digits_48 rfl (lv_at hl 2 rfl) ?_
  refine va_get (D := (dC, dI)) (ci := 7) (v := .int 0) (C := RX7) (T := TX7) (N := 4) hx hb hts hiX7 hown hK hP 0 rfl rfl 2 (by decide) hw1 (fun _ h9 => h9) rfl dX7_digits_49 ?_
  have hPc := hP.sub (ws' := [(t0, .inr (7, [.ref tb, .int 0, .int 0, .int 0]))]) [0] rfl
  have hDc := hD.sub (ws' := [(t0, .inr (7, [.ref tb, .int 0, .int 0, .int 0]))]) [0] (by decide) rfl
  have hKc := hK.sub (tys' := []) [] rfl
  have hFc := va_free (wc := [(t0, .inr (7, [.ref tb, .int 0, .int 0, .int 0]))]) hD hS hA [0] rfl
  refine va_callv (va_runV (As := [.int 0]) (rest := []) ⟨hx, hb, hml, hown, hts⟩ (c_refuse_b l hl0 dC dI A0 ad H.size t0 tb (fun q h => hA0 q (hFc q h))) (cwV 1 hts gX7_digits_X7_refuse rfl rfl rfl (by decide +kernel) ⟨Nat.le_of_ble_eq_true rfl, Nat.le_of_ble_eq_true rfl⟩) ⟨zPc_bl, va_recv hKc hPc (ci := 7) (q0 := 0) rfl rfl, zPc_at hz hS hA0 hPc hKc hDc⟩ rfl rfl hl.1 rfl (lv_room (Nat.le_of_ble_eq_true rfl)) dX7_digits_52 ⟨Nat.le_of_ble_eq_true rfl, Nat.le_of_ble_eq_true rfl⟩) hS (fun q _ h => hFc q h) hFc (fun u t H1 locs ht hvm hw hB hz1 hk1 hS => ?_)
  obtain ⟨hP1, hK1, hD1⟩ := hB
  rw [ht] at hP1
  have hK1 := va_K.moved hvm.symm hK1
  obtain ⟨hP, hD⟩ := va_join (wr := []) (w1 := [(t0, .inr (7, [.ref tb, .int 0, .int 0, .int 0]))]) hP hD [0] [] rfl rfl (by decide) (by decide) hk1 hFc hP1 hD1
  have hK := (hK.sub (tys' := []) [] rfl).app hK1
  generalize H1 = H at hP hS ⊢
  have hP : va_P (dC, dI) vwCl [(t0, .inr (7, [.ref tb, .int 0, .int 0, .int 0]))] H := hP
  have hD : va_D A [(t0, .inr (7, [.ref tb, .int 0, .int 0, .int 0]))] := hD
  have hK : va_K (dC, dI) vwCl [] s := hK
  refine lv_iconst (v := (-1)) hx hb dX7_digits_55 (by decide) ?_
  have hP9 := hP.sub (ws' := [(t0, .inr (7, [.ref tb, .int 0, .int 0, .int 0]))]) [0] rfl
  have hD9 := hD.sub (ws' := [(t0, .inr (7, [.ref tb, .int 0, .int 0, .int 0]))]) [0] (by decide) rfl
  have hK9 := hK.sub (tys' := []) [] rfl
  refine W.widen (k := 0) (n := 0) (by decide) (by decide) ?_
  exact W.iret (v := (-1)) hx hb hr (fun t ht hW => ⟨⟨(-1), (), rfl, rfl, ⟨by rw [ht]; exact hP9, va_K.moved hW.alike hK9, hD9⟩⟩, hS.F ht⟩) hS.2.2 dX7_digits_56
set_option maxHeartbeats 4000000 in
set_option maxRecDepth 100000 in
/-- code() on an empty tape -/
theorem c_code_a (l : Launch) (hl0 : l.stackTraces = false) (dC : Nat → ClassId) (dI : Nat → Nat → Nat) (A0 : Nat → Prop) (ad : Nat → Nat) (sz : Nat) (t0 tb : Nat) (hA0 : ∀ q, va_A [(t0, .inr (7, [.ref tb, .int 0, .int 0, .int ((-1))]))] sz q → A0 q) : Met l yX7_code wsX7_code ({ frames := 2, cells := 0, slots := 0, locals := 49 }) (va_Pc [.ref t0] (zPc A0 ad (dC, dI) [(t0, .inr (7, [.ref tb, .int 0, .int 0, .int ((-1))]))] [] sz)) (va_Qi (fun (r : Int32) (_ : Unit) => r = -1) (fun (_ : Unit) (t : State) => zB (dC, dI) (va_A [(t0, .inr (7, [.ref tb, .int 0, .int 0, .int ((-1))]))] sz) [(t0, .inr (7, [.ref tb, .int 0, .int 0, .int 0]))] [] t) (va_A [(t0, .inr (7, [.ref tb, .int 0, .int 0, .int ((-1))]))] sz)) 0 0 (va_A [(t0, .inr (7, [.ref tb, .int 0, .int 0, .int ((-1))]))] sz) := by
  refine Met.ofW (cc := cX7_code) (maxL := 1) (ret := (some .int)) (by decide) rfl ?_
  intro p e s m args below meth c s₁ B hml hv
  obtain ⟨rfl, hsz, hz, hP, hK, hD0⟩ := hv
  have hx := B.exec
  have hb := B.bytes
  have hr := B.returns
  have hts := atoms_spec (ws := wsX7_code) B.pre
  have hown : s.vm.findClass RX7 = some m.cls := findClass_of_methodNamed B.named
  have hlocks := B.notSynchronized
  subst hsz
  have hD := hD0.self (sz := s.heap.size)
  generalize hAe : va_A [(t0, .inr (7, [.ref tb, .int 0, .int 0, .int ((-1))]))] s.heap.size = A at hD hA0 ⊢
  have hA : ∀ q : Nat, s.heap.size ≤ q → A q := fun q h => by rw [← hAe]; exact Or.inr h
  have hS : va_S A s.heap s.heap [] := va_S.rf
  have hl := lv_entry ([.ref t0]) (n := 1) (Nat.le_of_ble_eq_true rfl)
  rw [lg_entry_eq]
  generalize (lg_sl ([.ref t0]) ++ List.replicate (1 - (lg_sl ([.ref t0])).length) Slot.unset).toArray = ls at hl ⊢
  have hl : lv_has ls 1 [(0, .ref t0)] := hl
  have hP : va_P (dC, dI) vwCl [(t0, .inr (7, [.ref tb, .int 0, .int 0, .int ((-1))]))] s.heap := hP
  refine lv_aload_n hx hb dX7_code_0 rfl (lv_at hl 0 rfl) ?_
  refine lv_iconst (v := 4) hx hb dX7_code_1 (by decide) ?_
  refine lv_iconst (v := 4) hx hb dX7_code_2 (by decide) ?_
  refine lv_iconst (v := 0) hx hb dX7_code_3 (by decide) ?_
  refine lv_sipush (v := 9999) hx hb dX7_code_4 (by decide) ?_
  have hPc := hP.sub (ws' := [(t0, .inr (7, [.ref tb, .int 0, .int 0, .int ((-1))]))]) [0] rfl
  have hDc := hD.sub (ws' := [(t0, .inr (7, [.ref tb, .int 0, .int 0, .int ((-1))]))]) [0] (by decide) rfl
  have hKc := hK.sub (tys' := []) [] rfl
  have hFc := va_free (wc := [(t0, .inr (7, [.ref tb, .int 0, .int 0, .int ((-1))]))]) hD hS hA [0] rfl
  refine va_calli (va_runV (As := [.int 4, .int 4, .int 0, .int 9999]) (rest := []) ⟨hx, hb, hml, hown, hts⟩ (c_digits_c_a l hl0 dC dI A0 ad s.heap.size t0 tb (fun q h => hA0 q (hFc q h))) (cwV 4 hts gX7_code_X7_digits rfl rfl rfl (by decide +kernel) ⟨Nat.le_of_ble_eq_true rfl, Nat.le_of_ble_eq_true rfl⟩) ⟨zPc_bl, va_recv hKc hPc (ci := 7) (q0 := 0) rfl rfl, zPc_at hz hS hA0 hPc hKc hDc⟩ rfl rfl hl.1 rfl (lv_room (Nat.le_of_ble_eq_true rfl)) dX7_code_7 ⟨Nat.le_of_ble_eq_true rfl, Nat.le_of_ble_eq_true rfl⟩) hS (fun q _ h => hFc q h) hFc (fun r1 u t H1 locs ht hvm hw hB hz1 hk1 hS => ?_)
  obtain ⟨hP1, hK1, hD1⟩ := hB
  rw [ht] at hP1
  have hK1 := va_K.moved hvm.symm hK1
  obtain ⟨hP, hD⟩ := va_join (wr := []) (w1 := [(t0, .inr (7, [.ref tb, .int 0, .int 0, .int 0]))]) hP hD [0] [] rfl rfl (by decide) (by decide) hk1 hFc hP1 hD1
  have hK := (hK.sub (tys' := []) [] rfl).app hK1
  generalize H1 = H at hP hS ⊢
  have hP : va_P (dC, dI) vwCl [(t0, .inr (7, [.ref tb, .int 0, .int 0, .int 0]))] H := hP
  have hD : va_D A [(t0, .inr (7, [.ref tb, .int 0, .int 0, .int 0]))] := hD
  have hK : va_K (dC, dI) vwCl [] s := hK
  obtain rfl : r1 = (-1) := hw
  have hP9 := hP.sub (ws' := [(t0, .inr (7, [.ref tb, .int 0, .int 0, .int 0]))]) [0] rfl
  have hD9 := hD.sub (ws' := [(t0, .inr (7, [.ref tb, .int 0, .int 0, .int 0]))]) [0] (by decide) rfl
  have hK9 := hK.sub (tys' := []) [] rfl
  refine W.widen (k := 0) (n := 0) (by decide) (by decide) ?_
  exact W.iret (v := (-1)) hx hb hr (fun t ht hW => ⟨⟨(-1), (), rfl, rfl, ⟨by rw [ht]; exact hP9, va_K.moved hW.alike hK9, hD9⟩⟩, hS.F ht⟩) hS.2.2 dX7_code_10
set_option maxHeartbeats 4000000 in
set_option maxRecDepth 100000 in
/-- code() on an empty tape -/
theorem c_code_b (l : Launch) (hl0 : l.stackTraces = false) (dC : Nat → ClassId) (dI : Nat → Nat → Nat) (A0 : Nat → Prop) (ad : Nat → Nat) (sz : Nat) (t0 tb : Nat) (hA0 : ∀ q, va_A [(t0, .inr (7, [.ref tb, .int 0, .int 0, .int 0]))] sz q → A0 q) : Met l yX7_code wsX7_code ({ frames := 2, cells := 0, slots := 0, locals := 49 }) (va_Pc [.ref t0] (zPc A0 ad (dC, dI) [(t0, .inr (7, [.ref tb, .int 0, .int 0, .int 0]))] [] sz)) (va_Qi (fun (r : Int32) (_ : Unit) => r = -1) (fun (_ : Unit) (t : State) => zB (dC, dI) (va_A [(t0, .inr (7, [.ref tb, .int 0, .int 0, .int 0]))] sz) [(t0, .inr (7, [.ref tb, .int 0, .int 0, .int 0]))] [] t) (va_A [(t0, .inr (7, [.ref tb, .int 0, .int 0, .int 0]))] sz)) 0 0 (va_A [(t0, .inr (7, [.ref tb, .int 0, .int 0, .int 0]))] sz) := by
  refine Met.ofW (cc := cX7_code) (maxL := 1) (ret := (some .int)) (by decide) rfl ?_
  intro p e s m args below meth c s₁ B hml hv
  obtain ⟨rfl, hsz, hz, hP, hK, hD0⟩ := hv
  have hx := B.exec
  have hb := B.bytes
  have hr := B.returns
  have hts := atoms_spec (ws := wsX7_code) B.pre
  have hown : s.vm.findClass RX7 = some m.cls := findClass_of_methodNamed B.named
  have hlocks := B.notSynchronized
  subst hsz
  have hD := hD0.self (sz := s.heap.size)
  generalize hAe : va_A [(t0, .inr (7, [.ref tb, .int 0, .int 0, .int 0]))] s.heap.size = A at hD hA0 ⊢
  have hA : ∀ q : Nat, s.heap.size ≤ q → A q := fun q h => by rw [← hAe]; exact Or.inr h
  have hS : va_S A s.heap s.heap [] := va_S.rf
  have hl := lv_entry ([.ref t0]) (n := 1) (Nat.le_of_ble_eq_true rfl)
  rw [lg_entry_eq]
  generalize (lg_sl ([.ref t0]) ++ List.replicate (1 - (lg_sl ([.ref t0])).length) Slot.unset).toArray = ls at hl ⊢
  have hl : lv_has ls 1 [(0, .ref t0)] := hl
  have hP : va_P (dC, dI) vwCl [(t0, .inr (7, [.ref tb, .int 0, .int 0, .int 0]))] s.heap := hP
  refine lv_aload_n hx hb dX7_code_0 rfl (lv_at hl 0 rfl) ?_
  refine lv_iconst (v := 4) hx hb dX7_code_1 (by decide) ?_
  refine lv_iconst (v := 4) hx hb dX7_code_2 (by decide) ?_
  refine lv_iconst (v := 0) hx hb dX7_code_3 (by decide) ?_
  refine lv_sipush (v := 9999) hx hb dX7_code_4 (by decide) ?_
  have hPc := hP.sub (ws' := [(t0, .inr (7, [.ref tb, .int 0, .int 0, .int 0]))]) [0] rfl
  have hDc := hD.sub (ws' := [(t0, .inr (7, [.ref tb, .int 0, .int 0, .int 0]))]) [0] (by decide) rfl
  have hKc := hK.sub (tys' := []) [] rfl
  have hFc := va_free (wc := [(t0, .inr (7, [.ref tb, .int 0, .int 0, .int 0]))]) hD hS hA [0] rfl
  refine va_calli (va_runV (As := [.int 4, .int 4, .int 0, .int 9999]) (rest := []) ⟨hx, hb, hml, hown, hts⟩ (c_digits_c_b l hl0 dC dI A0 ad s.heap.size t0 tb (fun q h => hA0 q (hFc q h))) (cwV 4 hts gX7_code_X7_digits rfl rfl rfl (by decide +kernel) ⟨Nat.le_of_ble_eq_true rfl, Nat.le_of_ble_eq_true rfl⟩) ⟨zPc_bl, va_recv hKc hPc (ci := 7) (q0 := 0) rfl rfl, zPc_at hz hS hA0 hPc hKc hDc⟩ rfl rfl hl.1 rfl (lv_room (Nat.le_of_ble_eq_true rfl)) dX7_code_7 ⟨Nat.le_of_ble_eq_true rfl, Nat.le_of_ble_eq_true rfl⟩) hS (fun q _ h => hFc q h) hFc (fun r1 u t H1 locs ht hvm hw hB hz1 hk1 hS => ?_)
  obtain ⟨hP1, hK1, hD1⟩ := hB
  rw [ht] at hP1
  have hK1 := va_K.moved hvm.symm hK1
  obtain ⟨hP, hD⟩ := va_join (wr := []) (w1 := [(t0, .inr (7, [.ref tb, .int 0, .int 0, .int 0]))]) hP hD [0] [] rfl rfl (by decide) (by decide) hk1 hFc hP1 hD1
  have hK := (hK.sub (tys' := []) [] rfl).app hK1
  generalize H1 = H at hP hS ⊢
  have hP : va_P (dC, dI) vwCl [(t0, .inr (7, [.ref tb, .int 0, .int 0, .int 0]))] H := hP
  have hD : va_D A [(t0, .inr (7, [.ref tb, .int 0, .int 0, .int 0]))] := hD
  have hK : va_K (dC, dI) vwCl [] s := hK
  obtain rfl : r1 = (-1) := hw
  have hP9 := hP.sub (ws' := [(t0, .inr (7, [.ref tb, .int 0, .int 0, .int 0]))]) [0] rfl
  have hD9 := hD.sub (ws' := [(t0, .inr (7, [.ref tb, .int 0, .int 0, .int 0]))]) [0] (by decide) rfl
  have hK9 := hK.sub (tys' := []) [] rfl
  refine W.widen (k := 0) (n := 0) (by decide) (by decide) ?_
  exact W.iret (v := (-1)) hx hb hr (fun t ht hW => ⟨⟨(-1), (), rfl, rfl, ⟨by rw [ht]; exact hP9, va_K.moved hW.alike hK9, hD9⟩⟩, hS.F ht⟩) hS.2.2 dX7_code_10
set_option maxHeartbeats 4000000 in
set_option maxRecDepth 100000 in
/-- number() on an empty tape -/
theorem c_number_n_a (l : Launch) (hl0 : l.stackTraces = false) (dC : Nat → ClassId) (dI : Nat → Nat → Nat) (A0 : Nat → Prop) (ad : Nat → Nat) (sz : Nat) (t0 tb : Nat) (hA0 : ∀ q, va_A [(t0, .inr (7, [.ref tb, .int 0, .int 0, .int ((-1))]))] sz q → A0 q) : Met l yX7_number wsX7_number ({ frames := 2, cells := 0, slots := 0, locals := 49 }) (va_Pc [.ref t0, .int 1, .int 99] (zPc A0 ad (dC, dI) [(t0, .inr (7, [.ref tb, .int 0, .int 0, .int ((-1))]))] [] sz)) (va_Qi (fun (r : Int32) (_ : Unit) => r = -1) (fun (_ : Unit) (t : State) => zB (dC, dI) (va_A [(t0, .inr (7, [.ref tb, .int 0, .int 0, .int ((-1))]))] sz) [(t0, .inr (7, [.ref tb, .int 0, .int 0, .int 0]))] [] t) (va_A [(t0, .inr (7, [.ref tb, .int 0, .int 0, .int ((-1))]))] sz)) 0 0 (va_A [(t0, .inr (7, [.ref tb, .int 0, .int 0, .int ((-1))]))] sz) := by
  refine Met.ofW (cc := cX7_number) (maxL := 3) (ret := (some .int)) (by decide) rfl ?_
  intro p e s m args below meth c s₁ B hml hv
  obtain ⟨rfl, hsz, hz, hP, hK, hD0⟩ := hv
  have hx := B.exec
  have hb := B.bytes
  have hr := B.returns
  have hts := atoms_spec (ws := wsX7_number) B.pre
  have hown : s.vm.findClass RX7 = some m.cls := findClass_of_methodNamed B.named
  have hlocks := B.notSynchronized
  subst hsz
  have hD := hD0.self (sz := s.heap.size)
  generalize hAe : va_A [(t0, .inr (7, [.ref tb, .int 0, .int 0, .int ((-1))]))] s.heap.size = A at hD hA0 ⊢
  have hA : ∀ q : Nat, s.heap.size ≤ q → A q := fun q h => by rw [← hAe]; exact Or.inr h
  have hS : va_S A s.heap s.heap [] := va_S.rf
  have hl := lv_entry ([.ref t0, .int 1, .int 99]) (n := 3) (Nat.le_of_ble_eq_true rfl)
  rw [lg_entry_eq]
  generalize (lg_sl ([.ref t0, .int 1, .int 99]) ++ List.replicate (3 - (lg_sl ([.ref t0, .int 1, .int 99])).length) Slot.unset).toArray = ls at hl ⊢
  have hl : lv_has ls 3 [(0, .ref t0), (1, .int 1), (2, .int 99)] := hl
  have hP : va_P (dC, dI) vwCl [(t0, .inr (7, [.ref tb, .int 0, .int 0, .int ((-1))]))] s.heap := hP
  refine lv_aload_n hx hb dX7_number_0 rfl (lv_at hl 0 rfl) ?_
  refine lv_iconst (v := 1) hx hb dX7_number_1 (by decide) ?_
  refine lv_bipush (v := 6) hx hb dX7_number_2 (by decide) ?_
  refine lv_iload_n hx hb dX7_number_4 rfl (lv_at hl 1 rfl) ?_
  refine lv_iload_n hx hb dX7_number_5 rfl (lv_at hl 2 rfl) ?_
  have hPc := hP.sub (ws' := [(t0, .inr (7, [.ref tb, .int 0, .int 0, .int ((-1))]))]) [0] rfl
  have hDc := hD.sub (ws' := [(t0, .inr (7, [.ref tb, .int 0, .int 0, .int ((-1))]))]) [0] (by decide) rfl
  have hKc := hK.sub (tys' := []) [] rfl
  have hFc := va_free (wc := [(t0, .inr (7, [.ref tb, .int 0, .int 0, .int ((-1))]))]) hD hS hA [0] rfl
  refine va_calli (va_runV (As := [.int 1, .int 6, .int 1, .int 99]) (rest := []) ⟨hx, hb, hml, hown, hts⟩ (c_digits_n_a l hl0 dC dI A0 ad s.heap.size t0 tb (fun q h => hA0 q (hFc q h))) (cwV 4 hts gX7_number_X7_digits rfl rfl rfl (by decide +kernel) ⟨Nat.le_of_ble_eq_true rfl, Nat.le_of_ble_eq_true rfl⟩) ⟨zPc_bl, va_recv hKc hPc (ci := 7) (q0 := 0) rfl rfl, zPc_at hz hS hA0 hPc hKc hDc⟩ rfl rfl hl.1 rfl (lv_room (Nat.le_of_ble_eq_true rfl)) dX7_number_6 ⟨Nat.le_of_ble_eq_true rfl, Nat.le_of_ble_eq_true rfl⟩) hS (fun q _ h => hFc q h) hFc (fun r1 u t H1 locs ht hvm hw hB hz1 hk1 hS => ?_)
  obtain ⟨hP1, hK1, hD1⟩ := hB
  rw [ht] at hP1
  have hK1 := va_K.moved hvm.symm hK1
  obtain ⟨hP, hD⟩ := va_join (wr := []) (w1 := [(t0, .inr (7, [.ref tb, .int 0, .int 0, .int 0]))]) hP hD [0] [] rfl rfl (by decide) (by decide) hk1 hFc hP1 hD1
  have hK := (hK.sub (tys' := []) [] rfl).app hK1
  generalize H1 = H at hP hS ⊢
  have hP : va_P (dC, dI) vwCl [(t0, .inr (7, [.ref tb, .int 0, .int 0, .int 0]))] H := hP
  have hD : va_D A [(t0, .inr (7, [.ref tb, .int 0, .int 0, .int 0]))] := hD
  have hK : va_K (dC, dI) vwCl [] s := hK
  obtain rfl : r1 = (-1) := hw
  have hP9 := hP.sub (ws' := [(t0, .inr (7, [.ref tb, .int 0, .int 0, .int 0]))]) [0] rfl
  have hD9 := hD.sub (ws' := [(t0, .inr (7, [.ref tb, .int 0, .int 0, .int 0]))]) [0] (by decide) rfl
  have hK9 := hK.sub (tys' := []) [] rfl
  refine W.widen (k := 0) (n := 0) (by decide) (by decide) ?_
  exact W.iret (v := (-1)) hx hb hr (fun t ht hW => ⟨⟨(-1), (), rfl, rfl, ⟨by rw [ht]; exact hP9, va_K.moved hW.alike hK9, hD9⟩⟩, hS.F ht⟩) hS.2.2 dX7_number_9
set_option maxHeartbeats 4000000 in
set_option maxRecDepth 100000 in
/-- number() on an empty tape -/
theorem c_number_n_b (l : Launch) (hl0 : l.stackTraces = false) (dC : Nat → ClassId) (dI : Nat → Nat → Nat) (A0 : Nat → Prop) (ad : Nat → Nat) (sz : Nat) (t0 tb : Nat) (hA0 : ∀ q, va_A [(t0, .inr (7, [.ref tb, .int 0, .int 0, .int 0]))] sz q → A0 q) : Met l yX7_number wsX7_number ({ frames := 2, cells := 0, slots := 0, locals := 49 }) (va_Pc [.ref t0, .int 1, .int 99] (zPc A0 ad (dC, dI) [(t0, .inr (7, [.ref tb, .int 0, .int 0, .int 0]))] [] sz)) (va_Qi (fun (r : Int32) (_ : Unit) => r = -1) (fun (_ : Unit) (t : State) => zB (dC, dI) (va_A [(t0, .inr (7, [.ref tb, .int 0, .int 0, .int 0]))] sz) [(t0, .inr (7, [.ref tb, .int 0, .int 0, .int 0]))] [] t) (va_A [(t0, .inr (7, [.ref tb, .int 0, .int 0, .int 0]))] sz)) 0 0 (va_A [(t0, .inr (7, [.ref tb, .int 0, .int 0, .int 0]))] sz) := by
  refine Met.ofW (cc := cX7_number) (maxL := 3) (ret := (some .int)) (by decide) rfl ?_
  intro p e s m args below meth c s₁ B hml hv
  obtain ⟨rfl, hsz, hz, hP, hK, hD0⟩ := hv
  have hx := B.exec
  have hb := B.bytes
  have hr := B.returns
  have hts := atoms_spec (ws := wsX7_number) B.pre
  have hown : s.vm.findClass RX7 = some m.cls := findClass_of_methodNamed B.named
  have hlocks := B.notSynchronized
  subst hsz
  have hD := hD0.self (sz := s.heap.size)
  generalize hAe : va_A [(t0, .inr (7, [.ref tb, .int 0, .int 0, .int 0]))] s.heap.size = A at hD hA0 ⊢
  have hA : ∀ q : Nat, s.heap.size ≤ q → A q := fun q h => by rw [← hAe]; exact Or.inr h
  have hS : va_S A s.heap s.heap [] := va_S.rf
  have hl := lv_entry ([.ref t0, .int 1, .int 99]) (n := 3) (Nat.le_of_ble_eq_true rfl)
  rw [lg_entry_eq]
  generalize (lg_sl ([.ref t0, .int 1, .int 99]) ++ List.replicate (3 - (lg_sl ([.ref t0, .int 1, .int 99])).length) Slot.unset).toArray = ls at hl ⊢
  have hl : lv_has ls 3 [(0, .ref t0), (1, .int 1), (2, .int 99)] := hl
  have hP : va_P (dC, dI) vwCl [(t0, .inr (7, [.ref tb, .int 0, .int 0, .int 0]))] s.heap := hP
  refine lv_aload_n hx hb dX7_number_0 rfl (lv_at hl 0 rfl) ?_
  refine lv_iconst (v := 1) hx hb dX7_number_1 (by decide) ?_
  refine lv_bipush (v := 6) hx hb dX7_number_2 (by decide) ?_
  refine lv_iload_n hx hb dX7_number_4 rfl (lv_at hl 1 rfl) ?_
  refine lv_iload_n hx hb dX7_number_5 rfl (lv_at hl 2 rfl) ?_
  have hPc := hP.sub (ws' := [(t0, .inr (7, [.ref tb, .int 0, .int 0, .int 0]))]) [0] rfl
  have hDc := hD.sub (ws' := [(t0, .inr (7, [.ref tb, .int 0, .int 0, .int 0]))]) [0] (by decide) rfl
  have hKc := hK.sub (tys' := []) [] rfl
  have hFc := va_free (wc := [(t0, .inr (7, [.ref tb, .int 0, .int 0, .int 0]))]) hD hS hA [0] rfl
  refine va_calli (va_runV (As := [.int 1, .int 6, .int 1, .int 99]) (rest := []) ⟨hx, hb, hml, hown, hts⟩ (c_digits_n_b l hl0 dC dI A0 ad s.heap.size t0 tb (fun q h => hA0 q (hFc q h))) (cwV 4 hts gX7_number_X7_digits rfl rfl rfl (by decide +kernel) ⟨Nat.le_of_ble_eq_true rfl, Nat.le_of_ble_eq_true rfl⟩) ⟨zPc_bl, va_recv hKc hPc (ci := 7) (q0 := 0) rfl rfl, zPc_at hz hS hA0 hPc hKc hDc⟩ rfl rfl hl.1 rfl (lv_room (Nat.le_of_ble_eq_true rfl)) dX7_number_6 ⟨Nat.le_of_ble_eq_true rfl, Nat.le_of_ble_eq_true rfl⟩) hS (fun q _ h => hFc q h) hFc (fun r1 u t H1 locs ht hvm hw hB hz1 hk1 hS => ?_)
  obtain ⟨hP1, hK1, hD1⟩ := hB
  rw [ht] at hP1
  have hK1 := va_K.moved hvm.symm hK1
  obtain ⟨hP, hD⟩ := va_join (wr := []) (w1 := [(t0, .inr (7, [.ref tb, .int 0, .int 0, .int 0]))]) hP hD [0] [] rfl rfl (by decide) (by decide) hk1 hFc hP1 hD1
  have hK := (hK.sub (tys' := []) [] rfl).app hK1
  generalize H1 = H at hP hS ⊢
  have hP : va_P (dC, dI) vwCl [(t0, .inr (7, [.ref tb, .int 0, .int 0, .int 0]))] H := hP
  have hD : va_D A [(t0, .inr (7, [.ref tb, .int 0, .int 0, .int 0]))] := hD
  have hK : va_K (dC, dI) vwCl [] s := hK
  obtain rfl : r1 = (-1) := hw
  have hP9 := hP.sub (ws' := [(t0, .inr (7, [.ref tb, .int 0, .int 0, .int 0]))]) [0] rfl
  have hD9 := hD.sub (ws' := [(t0, .inr (7, [.ref tb, .int 0, .int 0, .int 0]))]) [0] (by decide) rfl
  have hK9 := hK.sub (tys' := []) [] rfl
  refine W.widen (k := 0) (n := 0) (by decide) (by decide) ?_
  exact W.iret (v := (-1)) hx hb hr (fun t ht hW => ⟨⟨(-1), (), rfl, rfl, ⟨by rw [ht]; exact hP9, va_K.moved hW.alike hK9, hD9⟩⟩, hS.F ht⟩) hS.2.2 dX7_number_9
set_option maxHeartbeats 4000000 in
set_option maxRecDepth 100000 in
/-- number() on an empty tape -/
theorem c_number_m_a (l : Launch) (hl0 : l.stackTraces = false) (dC : Nat → ClassId) (dI : Nat → Nat → Nat) (A0 : Nat → Prop) (ad : Nat → Nat) (sz : Nat) (t0 tb : Nat) (hA0 : ∀ q, va_A [(t0, .inr (7, [.ref tb, .int 0, .int 0, .int ((-1))]))] sz q → A0 q) : Met l yX7_number wsX7_number ({ frames := 2, cells := 0, slots := 0, locals := 49 }) (va_Pc [.ref t0, .int 0, .int 999999] (zPc A0 ad (dC, dI) [(t0, .inr (7, [.ref tb, .int 0, .int 0, .int ((-1))]))] [] sz)) (va_Qi (fun (r : Int32) (_ : Unit) => r = -1) (fun (_ : Unit) (t : State) => zB (dC, dI) (va_A [(t0, .inr (7, [.ref tb, .int 0, .int 0, .int ((-1))]))] sz) [(t0, .inr (7, [.ref tb, .int 0, .int 0, .int 0]))] [] t) (va_A [(t0, .inr (7, [.ref tb, .int 0, .int 0, .int ((-1))]))] sz)) 0 0 (va_A [(t0, .inr (7, [.ref tb, .int 0, .int 0, .int ((-1))]))] sz) := by
  refine Met.ofW (cc := cX7_number) (maxL := 3) (ret := (some .int)) (by decide) rfl ?_
  intro p e s m args below meth c s₁ B hml hv
  obtain ⟨rfl, hsz, hz, hP, hK, hD0⟩ := hv
  have hx := B.exec
  have hb := B.bytes
  have hr := B.returns
  have hts := atoms_spec (ws := wsX7_number) B.pre
  have hown : s.vm.findClass RX7 = some m.cls := findClass_of_methodNamed B.named
  have hlocks := B.notSynchronized
  subst hsz
  have hD := hD0.self (sz := s.heap.size)
  generalize hAe : va_A [(t0, .inr (7, [.ref tb, .int 0, .int 0, .int ((-1))]))] s.heap.size = A at hD hA0 ⊢
  have hA : ∀ q : Nat, s.heap.size ≤ q → A q := fun q h => by rw [← hAe]; exact Or.inr h
  have hS : va_S A s.heap s.heap [] := va_S.rf
  have hl := lv_entry ([.ref t0, .int 0, .int 999999]) (n := 3) (Nat.le_of_ble_eq_true rfl)
  rw [lg_entry_eq]
  generalize (lg_sl ([.ref t0, .int 0, .int 999999]) ++ List.replicate (3 - (lg_sl ([.ref t0, .int 0, .int 999999])).length) Slot.unset).toArray = ls at hl ⊢
  have hl : lv_has ls 3 [(0, .ref t0), (1, .int 0), (2, .int 999999)] := hl
  have hP : va_P (dC, dI) vwCl [(t0, .inr (7, [.ref tb, .int 0, .int 0, .int ((-1))]))] s.heap := hP
  refine lv_aload_n hx hb dX7_number_0 rfl (lv_at hl 0 rfl) ?_
  refine lv_iconst (v := 1) hx hb dX7_number_1 (by decide) ?_
  refine lv_bipush (v := 6) hx hb dX7_number_2 (by decide) ?_
  refine lv_iload_n hx hb dX7_number_4 rfl (lv_at hl 1 rfl) ?_
  refine lv_iload_n hx hb dX7_number_5 rfl (lv_at hl 2 rfl) ?_
  have hPc := hP.sub (ws' := [(t0, .inr (7, [.ref tb, .int 0, .int 0, .int ((-1))]))]) [0] rfl
  have hDc := hD.sub (ws' := [(t0, .inr (7, [.ref tb, .int 0, .int 0, .int ((-1))]))]) [0] (by decide) rfl
  have hKc := hK.sub (tys' := []) [] rfl
  have hFc := va_free (wc := [(t0, .inr (7, [.ref tb, .int 0, .int 0, .int ((-1))]))]) hD hS hA [0] rfl
  refine va_calli (va_runV (As := [.int 1, .int 6, .int 0, .int 999999]) (rest := []) ⟨hx, hb, hml, hown, hts⟩ (c_digits_m_a l hl0 dC dI A0 ad s.heap.size t0 tb (fun q h => hA0 q (hFc q h))) (cwV 4 hts gX7_number_X7_digits rfl rfl rfl (by decide +kernel) ⟨Nat.le_of_ble_eq_true rfl, Nat.le_of_ble_eq_true rfl⟩) ⟨zPc_bl, va_recv hKc hPc (ci := 7) (q0 := 0) rfl rfl, zPc_at hz hS hA0 hPc hKc hDc⟩ rfl rfl hl.1 rfl (lv_room (Nat.le_of_ble_eq_true rfl)) dX7_number_6 ⟨Nat.le_of_ble_eq_true rfl, Nat.le_of_ble_eq_true rfl⟩) hS (fun q _ h => hFc q h) hFc (fun r1 u t H1 locs ht hvm hw hB hz1 hk1 hS => ?_)
  obtain ⟨hP1, hK1, hD1⟩ := hB
  rw [ht] at hP1
  have hK1 := va_K.moved hvm.symm hK1
  obtain ⟨hP, hD⟩ := va_join (wr := []) (w1 := [(t0, .inr (7, [.ref tb, .int 0, .int 0, .int 0]))]) hP hD [0] [] rfl rfl (by decide) (by decide) hk1 hFc hP1 hD1
  have hK := (hK.sub (tys' := []) [] rfl).app hK1
  generalize H1 = H at hP hS ⊢
  have hP : va_P (dC, dI) vwCl [(t0, .inr (7, [.ref tb, .int 0, .int 0, .int 0]))] H := hP
  have hD : va_D A [(t0, .inr (7, [.ref tb, .int 0, .int 0, .int 0]))] := hD
  have hK : va_K (dC, dI) vwCl [] s := hK
  obtain rfl : r1 = (-1) := hw
  have hP9 := hP.sub (ws' := [(t0, .inr (7, [.ref tb, .int 0, .int 0, .int 0]))]) [0] rfl
  have hD9 := hD.sub (ws' := [(t0, .inr (7, [.ref tb, .int 0, .int 0, .int 0]))]) [0] (by decide) rfl
  have hK9 := hK.sub (tys' := []) [] rfl
  refine W.widen (k := 0) (n := 0) (by decide) (by decide) ?_
  exact W.iret (v := (-1)) hx hb hr (fun t ht hW => ⟨⟨(-1), (), rfl, rfl, ⟨by rw [ht]; exact hP9, va_K.moved hW.alike hK9, hD9⟩⟩, hS.F ht⟩) hS.2.2 dX7_number_9
set_option maxHeartbeats 4000000 in
set_option maxRecDepth 100000 in
/-- number() on an empty tape -/
theorem c_number_m_b (l : Launch) (hl0 : l.stackTraces = false) (dC : Nat → ClassId) (dI : Nat → Nat → Nat) (A0 : Nat → Prop) (ad : Nat → Nat) (sz : Nat) (t0 tb : Nat) (hA0 : ∀ q, va_A [(t0, .inr (7, [.ref tb, .int 0, .int 0, .int 0]))] sz q → A0 q) : Met l yX7_number wsX7_number ({ frames := 2, cells := 0, slots := 0, locals := 49 }) (va_Pc [.ref t0, .int 0, .int 999999] (zPc A0 ad (dC, dI) [(t0, .inr (7, [.ref tb, .int 0, .int 0, .int 0]))] [] sz)) (va_Qi (fun (r : Int32) (_ : Unit) => r = -1) (fun (_ : Unit) (t : State) => zB (dC, dI) (va_A [(t0, .inr (7, [.ref tb, .int 0, .int 0, .int 0]))] sz) [(t0, .inr (7, [.ref tb, .int 0, .int 0, .int 0]))] [] t) (va_A [(t0, .inr (7, [.ref tb, .int 0, .int 0, .int 0]))] sz)) 0 0 (va_A [(t0, .inr (7, [.ref tb, .int 0, .int 0, .int 0]))] sz) := by
  refine Met.ofW (cc := cX7_number) (maxL := 3) (ret := (some .int)) (by decide) rfl ?_
  intro p e s m args below meth c s₁ B hml hv
  obtain ⟨rfl, hsz, hz, hP, hK, hD0⟩ := hv
  have hx := B.exec
  have hb := B.bytes
  have hr := B.returns
  have hts := atoms_spec (ws := wsX7_number) B.pre
  have hown : s.vm.findClass RX7 = some m.cls := findClass_of_methodNamed B.named
  have hlocks := B.notSynchronized
  subst hsz
  have hD := hD0.self (sz := s.heap.size)
  generalize hAe : va_A [(t0, .inr (7, [.ref tb, .int 0, .int 0, .int 0]))] s.heap.size = A at hD hA0 ⊢
  have hA : ∀ q : Nat, s.heap.size ≤ q → A q := fun q h => by rw [← hAe]; exact Or.inr h
  have hS : va_S A s.heap s.heap [] := va_S.rf
  have hl := lv_entry ([.ref t0, .int 0, .int 999999]) (n := 3) (Nat.le_of_ble_eq_true rfl)
  rw [lg_entry_eq]
  generalize (lg_sl ([.ref t0, .int 0, .int 999999]) ++ List.replicate (3 - (lg_sl ([.ref t0, .int 0, .int 999999])).length) Slot.unset).toArray = ls at hl ⊢
  have hl : lv_has ls 3 [(0, .ref t0), (1, .int 0), (2, .int 999999)] := hl
  have hP : va_P (dC, dI) vwCl [(t0, .inr (7, [.ref tb, .int 0, .int 0, .int 0]))] s.heap := hP
  refine lv_aload_n hx hb dX7_number_0 rfl (lv_at hl 0 rfl) ?_
  refine lv_iconst (v := 1) hx hb dX7_number_1 (by decide) ?_
  refine lv_bipush (v := 6) hx hb dX7_number_2 (by decide) ?_
  refine lv_iload_n hx hb dX7_number_4 rfl (lv_at hl 1 rfl) ?_
  refine lv_iload_n hx hb dX7_number_5 rfl (lv_at hl 2 rfl) ?_
  have hPc := hP.sub (ws' := [(t0, .inr (7, [.ref tb, .int 0, .int 0, .int 0]))]) [0] rfl
  have hDc := hD.sub (ws' := [(t0, .inr (7, [.ref tb, .int 0, .int 0, .int 0]))]) [0] (by decide) rfl
  have hKc := hK.sub (tys' := []) [] rfl
  have hFc := va_free (wc := [(t0, .inr (7, [.ref tb, .int 0, .int 0, .int 0]))]) hD hS hA [0] rfl
  refine va_calli (va_runV (As := [.int 1, .int 6, .int 0, .int 999999]) (rest := []) ⟨hx, hb, hml, hown, hts⟩ (c_digits_m_b l hl0 dC dI A0 ad s.heap.size t0 tb (fun q h => hA0 q (hFc q h))) (cwV 4 hts gX7_number_X7_digits rfl rfl rfl (by decide +kernel) ⟨Nat.le_of_ble_eq_true rfl, Nat.le_of_ble_eq_true rfl⟩) ⟨zPc_bl, va_recv hKc hPc (ci := 7) (q0 := 0) rfl rfl, zPc_at hz hS hA0 hPc hKc hDc⟩ rfl rfl hl.1 rfl (lv_room (Nat.le_of_ble_eq_true rfl)) dX7_number_6 ⟨Nat.le_of_ble_eq_true rfl, Nat.le_of_ble_eq_true rfl⟩) hS (fun q _ h => hFc q h) hFc (fun r1 u t H1 locs ht hvm hw hB hz1 hk1 hS => ?_)
  obtain ⟨hP1, hK1, hD1⟩ := hB
  rw [ht] at hP1
  have hK1 := va_K.moved hvm.symm hK1
  obtain ⟨hP, hD⟩ := va_join (wr := []) (w1 := [(t0, .inr (7, [.ref tb, .int 0, .int 0, .int 0]))]) hP hD [0] [] rfl rfl (by decide) (by decide) hk1 hFc hP1 hD1
  have hK := (hK.sub (tys' := []) [] rfl).app hK1
  generalize H1 = H at hP hS ⊢
  have hP : va_P (dC, dI) vwCl [(t0, .inr (7, [.ref tb, .int 0, .int 0, .int 0]))] H := hP
  have hD : va_D A [(t0, .inr (7, [.ref tb, .int 0, .int 0, .int 0]))] := hD
  have hK : va_K (dC, dI) vwCl [] s := hK
  obtain rfl : r1 = (-1) := hw
  have hP9 := hP.sub (ws' := [(t0, .inr (7, [.ref tb, .int 0, .int 0, .int 0]))]) [0] rfl
  have hD9 := hD.sub (ws' := [(t0, .inr (7, [.ref tb, .int 0, .int 0, .int 0]))]) [0] (by decide) rfl
  have hK9 := hK.sub (tys' := []) [] rfl
  refine W.widen (k := 0) (n := 0) (by decide) (by decide) ?_
  exact W.iret (v := (-1)) hx hb hr (fun t ht hW => ⟨⟨(-1), (), rfl, rfl, ⟨by rw [ht]; exact hP9, va_K.moved hW.alike hK9, hD9⟩⟩, hS.F ht⟩) hS.2.2 dX7_number_9
set_option maxHeartbeats 4000000 in
set_option maxRecDepth 100000 in
/-- open() on an empty tape -/
theorem c_open_a (l : Launch) (hl0 : l.stackTraces = false) (dC : Nat → ClassId) (dI : Nat → Nat → Nat) (A0 : Nat → Prop) (ad : Nat → Nat) (sz : Nat) (t0 tb : Nat) (hA0 : ∀ q, va_A [(t0, .inr (7, [.ref tb, .int 0, .int 0, .int ((-1))]))] sz q → A0 q) : Met l yX7_open wsX7_open ({ frames := 1, cells := 0, slots := 0, locals := 21 }) (va_Pc [.ref t0] (zPc A0 ad (dC, dI) [(t0, .inr (7, [.ref tb, .int 0, .int 0, .int ((-1))]))] [] sz)) (va_Qv (fun (_ : Unit) => True) (fun (_ : Unit) (t : State) => zB (dC, dI) (va_A [(t0, .inr (7, [.ref tb, .int 0, .int 0, .int ((-1))]))] sz) [(t0, .inr (7, [.ref tb, .int 0, .int 0, .int ((-1))]))] [] t) (va_A [(t0, .inr (7, [.ref tb, .int 0, .int 0, .int ((-1))]))] sz)) 0 0 (va_A [(t0, .inr (7, [.ref tb, .int 0, .int 0, .int ((-1))]))] sz) := by
  refine Met.ofW (cc := cX7_open) (maxL := 1) (ret := none) (by decide) rfl ?_
  intro p e s m args below meth c s₁ B hml hv
  obtain ⟨rfl, hsz, hz, hP, hK, hD0⟩ := hv
  have hx := B.exec
  have hb := B.bytes
  have hr := B.returns
  have hts := atoms_spec (ws := wsX7_open) B.pre
  have hown : s.vm.findClass RX7 = some m.cls := findClass_of_methodNamed B.named
  have hlocks := B.notSynchronized
  subst hsz
  have hD := hD0.self (sz := s.heap.size)
  generalize hAe : va_A [(t0, .inr (7, [.ref tb, .int 0, .int 0, .int ((-1))]))] s.heap.size = A at hD hA0 ⊢
  have hA : ∀ q : Nat, s.heap.size ≤ q → A q := fun q h => by rw [← hAe]; exact Or.inr h
  have hS : va_S A s.heap s.heap [] := va_S.rf
  have hl := lv_entry ([.ref t0]) (n := 1) (Nat.le_of_ble_eq_true rfl)
  rw [lg_entry_eq]
  generalize (lg_sl ([.ref t0]) ++ List.replicate (1 - (lg_sl ([.ref t0])).length) Slot.unset).toArray = ls at hl ⊢
  have hl : lv_has ls 1 [(0, .ref t0)] := hl
  have hP : va_P (dC, dI) vwCl [(t0, .inr (7, [.ref tb, .int 0, .int 0, .int ((-1))]))] s.heap := hP
  have hiX7 : ∀ w ∈ u_ws RX7 TX7 4, w ∈ wsX7_open := fun _ h => List.mem_cons_of_mem _ (List.mem_append_right _ h)
  have hw1 := hts (.fieldLink RX7 15 "PostHouse$Tape" "wrong" "I") (by decide +kernel)
  have hw2 := hts (.fieldLink RX7 22 "PostHouse$Tape" "next" "I") (by decide +kernel)
  refine lv_aload_n hx hb dX7_open_0 rfl (lv_at hl 0 rfl) ?_
  refine lv_iconst (v := (-1)) hx hb dX7_open_1 (by decide) ?_
  refine va_put (D := (dC, dI)) (ci := 7) (v := .int ((-1))) (ty := .int) (C := RX7) (T := TX7) (N := 4) hx hb hts hiX7 tyX7 tyX7_ok nmX7 hown hK hP hD hS 0 rfl rfl 3 (by decide) hw1 (fun _ h9 => h9) rfl (by decide +kernel) rfl rfl (Nat.le_of_ble_eq_true rfl) dX7_open_2 (fun H locs hP hD hS => ?_)
  have hP : va_P (dC, dI) vwCl [(t0, .inr (7, [.ref tb, .int 0, .int 0, .int ((-1))]))] H := hP
  have hD : va_D A [(t0, .inr (7, [.ref tb, .int 0, .int 0, .int ((-1))]))] := hD
  refine lv_aload_n hx hb dX7_open_5 rfl (lv_at hl 0 rfl) ?_
  refine lv_iconst (v := 0) hx hb dX7_open_6 (by decide) ?_
  refine va_put (D := (dC, dI)) (ci := 7) (v := .int 0) (ty := .int) (C := RX7) (T := TX7) (N := 4) hx hb hts hiX7 tyX7 tyX7_ok nmX7 hown hK hP hD hS 0 rfl rfl 2 (by decide) hw2 (fun _ h9 => h9) rfl (by decide +kernel) rfl rfl (Nat.le_of_ble_eq_true rfl) dX7_open_7 (fun H locs hP hD hS => ?_)
  have hP : va_P (dC, dI) vwCl [(t0, .inr (7, [.ref tb, .int 0, .int 0, .int ((-1))]))] H := hP
  have hD : va_D A [(t0, .inr (7, [.ref tb, .int 0, .int 0, .int ((-1))]))] := hD
  refine lv_aload_n hx hb dX7_open_10 rfl (lv_at hl 0 rfl) ?_
  refine lv_iconst (v := 0) hx hb dX7_open_11 (by decide) ?_
  have hPc := hP.sub (ws' := [(t0, .inr (7, [.ref tb, .int 0, .int 0, .int ((-1))]))]) [0] rfl
  have hDc := hD.sub (ws' := [(t0, .inr (7, [.ref tb, .int 0, .int 0, .int ((-1))]))]) [0] (by decide) rfl
  have hKc := hK.sub (tys' := []) [] rfl
  have hFc := va_free (wc := [(t0, .inr (7, [.ref tb, .int 0, .int 0, .int ((-1))]))]) hD hS hA [0] rfl
  refine va_callv (va_runV (As := [.int 0]) (rest := []) ⟨hx, hb, hml, hown, hts⟩ (c_skip_a l hl0 dC dI A0 ad H.size t0 tb (fun q h => hA0 q (hFc q h))) (cwV 1 hts gX7_open_X7_skip rfl rfl rfl (by decide +kernel) ⟨Nat.le_of_ble_eq_true rfl, Nat.le_of_ble_eq_true rfl⟩) ⟨zPc_bl, va_recv hKc hPc (ci := 7) (q0 := 0) rfl rfl, zPc_at hz hS hA0 hPc hKc hDc⟩ rfl rfl hl.1 rfl (lv_room (Nat.le_of_ble_eq_true rfl)) dX7_open_12 ⟨Nat.le_of_ble_eq_true rfl, Nat.le_of_ble_eq_true rfl⟩) hS (fun q _ h => hFc q h) hFc (fun u t H1 locs ht hvm hw hB hz1 hk1 hS => ?_)
  obtain ⟨hP1, hK1, hD1⟩ := hB
  rw [ht] at hP1
  have hK1 := va_K.moved hvm.symm hK1
  obtain ⟨hP, hD⟩ := va_join (wr := []) (w1 := [(t0, .inr (7, [.ref tb, .int 0, .int 0, .int ((-1))]))]) hP hD [0] [] rfl rfl (by decide) (by decide) hk1 hFc hP1 hD1
  have hK := (hK.sub (tys' := []) [] rfl).app hK1
  generalize H1 = H at hP hS ⊢
  have hP : va_P (dC, dI) vwCl [(t0, .inr (7, [.ref tb, .int 0, .int 0, .int ((-1))]))] H := hP
  have hD : va_D A [(t0, .inr (7, [.ref tb, .int 0, .int 0, .int ((-1))]))] := hD
  have hK : va_K (dC, dI) vwCl [] s := hK
  have hP9 := hP.sub (ws' := [(t0, .inr (7, [.ref tb, .int 0, .int 0, .int ((-1))]))]) [0] rfl
  have hD9 := hD.sub (ws' := [(t0, .inr (7, [.ref tb, .int 0, .int 0, .int ((-1))]))]) [0] (by decide) rfl
  have hK9 := hK.sub (tys' := []) [] rfl
  refine W.widen (k := 0) (n := 0) (by decide) (by decide) ?_
  exact W.vret hx hb hr (fun t ht hW => ⟨⟨(), rfl, trivial, ⟨by rw [ht]; exact hP9, va_K.moved hW.alike hK9, hD9⟩⟩, hS.F ht⟩) hS.2.2 dX7_open_15
set_option maxHeartbeats 4000000 in
set_option maxRecDepth 100000 in
/-- open() on an empty tape -/
theorem c_open_b (l : Launch) (hl0 : l.stackTraces = false) (dC : Nat → ClassId) (dI : Nat → Nat → Nat) (A0 : Nat → Prop) (ad : Nat → Nat) (sz : Nat) (t0 tb : Nat) (hA0 : ∀ q, va_A [(t0, .inr (7, [.ref tb, .int 0, .int 0, .int 0]))] sz q → A0 q) : Met l yX7_open wsX7_open ({ frames := 1, cells := 0, slots := 0, locals := 21 }) (va_Pc [.ref t0] (zPc A0 ad (dC, dI) [(t0, .inr (7, [.ref tb, .int 0, .int 0, .int 0]))] [] sz)) (va_Qv (fun (_ : Unit) => True) (fun (_ : Unit) (t : State) => zB (dC, dI) (va_A [(t0, .inr (7, [.ref tb, .int 0, .int 0, .int 0]))] sz) [(t0, .inr (7, [.ref tb, .int 0, .int 0, .int ((-1))]))] [] t) (va_A [(t0, .inr (7, [.ref tb, .int 0, .int 0, .int 0]))] sz)) 0 0 (va_A [(t0, .inr (7, [.ref tb, .int 0, .int 0, .int 0]))] sz) := by
  refine Met.ofW (cc := cX7_open) (maxL := 1) (ret := none) (by decide) rfl ?_
  intro p e s m args below meth c s₁ B hml hv
  obtain ⟨rfl, hsz, hz, hP, hK, hD0⟩ := hv
  have hx := B.exec
  have hb := B.bytes
  have hr := B.returns
  have hts := atoms_spec (ws := wsX7_open) B.pre
  have hown : s.vm.findClass RX7 = some m.cls := findClass_of_methodNamed B.named
  have hlocks := B.notSynchronized
  subst hsz
  have hD := hD0.self (sz := s.heap.size)
  generalize hAe : va_A [(t0, .inr (7, [.ref tb, .int 0, .int 0, .int 0]))] s.heap.size = A at hD hA0 ⊢
  have hA : ∀ q : Nat, s.heap.size ≤ q → A q := fun q h => by rw [← hAe]; exact Or.inr h
  have hS : va_S A s.heap s.heap [] := va_S.rf
  have hl := lv_entry ([.ref t0]) (n := 1) (Nat.le_of_ble_eq_true rfl)
  rw [lg_entry_eq]
  generalize (lg_sl ([.ref t0]) ++ List.replicate (1 - (lg_sl ([.ref t0])).length) Slot.unset).toArray = ls at hl ⊢
  have hl : lv_has ls 1 [(0, .ref t0)] := hl
  have hP : va_P (dC, dI) vwCl [(t0, .inr (7, [.ref tb, .int 0, .int 0, .int 0]))] s.heap := hP
  have hiX7 : ∀ w ∈ u_ws RX7 TX7 4, w ∈ wsX7_open := fun _ h => List.mem_cons_of_mem _ (List.mem_append_right _ h)
  have hw1 := hts (.fieldLink RX7 15 "PostHouse$Tape" "wrong" "I") (by decide +kernel)
  have hw2 := hts (.fieldLink RX7 22 "PostHouse$Tape" "next" "I") (by decide +kernel)
  refine lv_aload_n hx hb dX7_open_0 rfl (lv_at hl 0 rfl) ?_
  refine lv_iconst (v := (-1)) hx hb dX7_open_1 (by decide) ?_
  refine va_put (D := (dC, dI)) (ci := 7) (v := .int ((-1))) (ty := .int) (C := RX7) (T := TX7) (N := 4) hx hb hts hiX7 tyX7 tyX7_ok nmX7 hown hK hP hD hS 0 rfl rfl 3 (by decide) hw1 (fun _ h9 => h9) rfl (by decide +kernel) rfl rfl (Nat.le_of_ble_eq_true rfl) dX7_open_2 (fun H locs hP hD hS => ?_)
  have hP : va_P (dC, dI) vwCl [(t0, .inr (7, [.ref tb, .int 0, .int 0, .int ((-1))]))] H := hP
  have hD : va_D A [(t0, .inr (7, [.ref tb, .int 0, .int 0, .int ((-1))]))] := hD
  refine lv_aload_n hx hb dX7_open_5 rfl (lv_at hl 0 rfl) ?_
  refine lv_iconst (v := 0) hx hb dX7_open_6 (by decide) ?_
  refine va_put (D := (dC, dI)) (ci := 7) (v := .int 0) (ty := .int) (C := RX7) (T := TX7) (N := 4) hx hb hts hiX7 tyX7 tyX7_ok nmX7 hown hK hP hD hS 0 rfl rfl 2 (by decide) hw2 (fun _ h9 => h9) rfl (by decide +kernel) rfl rfl (Nat.le_of_ble_eq_true rfl) dX7_open_7 (fun H locs hP hD hS => ?_)
  have hP : va_P (dC, dI) vwCl [(t0, .inr (7, [.ref tb, .int 0, .int 0, .int ((-1))]))] H := hP
  have hD : va_D A [(t0, .inr (7, [.ref tb, .int 0, .int 0, .int ((-1))]))] := hD
  refine lv_aload_n hx hb dX7_open_10 rfl (lv_at hl 0 rfl) ?_
  refine lv_iconst (v := 0) hx hb dX7_open_11 (by decide) ?_
  have hPc := hP.sub (ws' := [(t0, .inr (7, [.ref tb, .int 0, .int 0, .int ((-1))]))]) [0] rfl
  have hDc := hD.sub (ws' := [(t0, .inr (7, [.ref tb, .int 0, .int 0, .int ((-1))]))]) [0] (by decide) rfl
  have hKc := hK.sub (tys' := []) [] rfl
  have hFc := va_free (wc := [(t0, .inr (7, [.ref tb, .int 0, .int 0, .int ((-1))]))]) hD hS hA [0] rfl
  refine va_callv (va_runV (As := [.int 0]) (rest := []) ⟨hx, hb, hml, hown, hts⟩ (c_skip_a l hl0 dC dI A0 ad H.size t0 tb (fun q h => hA0 q (hFc q h))) (cwV 1 hts gX7_open_X7_skip rfl rfl rfl (by decide +kernel) ⟨Nat.le_of_ble_eq_true rfl, Nat.le_of_ble_eq_true rfl⟩) ⟨zPc_bl, va_recv hKc hPc (ci := 7) (q0 := 0) rfl rfl, zPc_at hz hS hA0 hPc hKc hDc⟩ rfl rfl hl.1 rfl (lv_room (Nat.le_of_ble_eq_true rfl)) dX7_open_12 ⟨Nat.le_of_ble_eq_true rfl, Nat.le_of_ble_eq_true rfl⟩) hS (fun q _ h => hFc q h) hFc (fun u t H1 locs ht hvm hw hB hz1 hk1 hS => ?_)
  obtain ⟨hP1, hK1, hD1⟩ := hB
  rw [ht] at hP1
  have hK1 := va_K.moved hvm.symm hK1
  obtain ⟨hP, hD⟩ := va_join (wr := []) (w1 := [(t0, .inr (7, [.ref tb, .int 0, .int 0, .int ((-1))]))]) hP hD [0] [] rfl rfl (by decide) (by decide) hk1 hFc hP1 hD1
  have hK := (hK.sub (tys' := []) [] rfl).app hK1
  generalize H1 = H at hP hS ⊢
  have hP : va_P (dC, dI) vwCl [(t0, .inr (7, [.ref tb, .int 0, .int 0, .int ((-1))]))] H := hP
  have hD : va_D A [(t0, .inr (7, [.ref tb, .int 0, .int 0, .int ((-1))]))] := hD
  have hK : va_K (dC, dI) vwCl [] s := hK
  have hP9 := hP.sub (ws' := [(t0, .inr (7, [.ref tb, .int 0, .int 0, .int ((-1))]))]) [0] rfl
  have hD9 := hD.sub (ws' := [(t0, .inr (7, [.ref tb, .int 0, .int 0, .int ((-1))]))]) [0] (by decide) rfl
  have hK9 := hK.sub (tys' := []) [] rfl
  refine W.widen (k := 0) (n := 0) (by decide) (by decide) ?_
  exact W.vret hx hb hr (fun t ht hW => ⟨⟨(), rfl, trivial, ⟨by rw [ht]; exact hP9, va_K.moved hW.alike hK9, hD9⟩⟩, hS.F ht⟩) hS.2.2 dX7_open_15
set_option maxHeartbeats 4000000 in
set_option maxRecDepth 100000 in
/-- put at 0 -/
theorem c_put_0 (l : Launch) (hl0 : l.stackTraces = false) (dC : Nat → ClassId) (dI : Nat → Nat → Nat) (A0 : Nat → Prop) (ad : Nat → Nat) (sz : Nat) (t0 tb : Nat) (ctb : ClassId) (f : Nat → Int32) (x : Int32) (hA0 : ∀ q, va_A [(t0, .inr (7, [.ref tb, .int 0, .int 0, .int ((-1))])), (tb, .inl (ctb, 400, .inl f))] sz q → A0 q) : Met l yX7_put wsX7_put ({ frames := 0, cells := 0, slots := 0, locals := 0 }) (va_Pc [.ref t0, .int x] (zPc A0 ad (dC, dI) [(t0, .inr (7, [.ref tb, .int 0, .int 0, .int ((-1))])), (tb, .inl (ctb, 400, .inl f))] [(ctb, .byte)] sz)) (va_Qv (fun (_ : Unit) => True) (fun (_ : Unit) (t : State) => ∃ (f2 : Nat → Int32), zB (dC, dI) (va_A [(t0, .inr (7, [.ref tb, .int 0, .int 0, .int ((-1))])), (tb, .inl (ctb, 400, .inl f))] sz) [(t0, .inr (7, [.ref tb, .int 4, .int 0, .int ((-1))])), (tb, .inl (ctb, 400, .inl f2))] [(ctb, .byte)] t) (va_A [(t0, .inr (7, [.ref tb, .int 0, .int 0, .int ((-1))])), (tb, .inl (ctb, 400, .inl f))] sz)) 0 0 (va_A [(t0, .inr (7, [.ref tb, .int 0, .int 0, .int ((-1))])), (tb, .inl (ctb, 400, .inl f))] sz) := by
  refine Met.ofW (cc := cX7_put) (maxL := 3) (ret := none) (by decide) rfl ?_
  intro p e s m args below meth c s₁ B hml hv
  obtain ⟨rfl, hsz, hz, hP, hK, hD0⟩ := hv
  have hx := B.exec
  have hb := B.bytes
  have hr := B.returns
  have hts := atoms_spec (ws := wsX7_put) B.pre
  have hown : s.vm.findClass RX7 = some m.cls := findClass_of_methodNamed B.named
  have hlocks := B.notSynchronized
  subst hsz
  have hD := hD0.self (sz := s.heap.size)
  generalize hAe : va_A [(t0, .inr (7, [.ref tb, .int 0, .int 0, .int ((-1))])), (tb, .inl (ctb, 400, .inl f))] s.heap.size = A at hD hA0 ⊢
  have hA : ∀ q : Nat, s.heap.size ≤ q → A q := fun q h => by rw [← hAe]; exact Or.inr h
  have hS : va_S A s.heap s.heap [] := va_S.rf
  have hl := lv_entry ([.ref t0, .int x]) (n := 3) (Nat.le_of_ble_eq_true rfl)
  rw [lg_entry_eq]
  generalize (lg_sl ([.ref t0, .int x]) ++ List.replicate (3 - (lg_sl ([.ref t0, .int x])).length) Slot.unset).toArray = ls at hl ⊢
  have hl : lv_has ls 3 [(0, .ref t0), (1, .int x)] := hl
  have hP : va_P (dC, dI) vwCl [(t0, .inr (7, [.ref tb, .int 0, .int 0, .int ((-1))])), (tb, .inl (ctb, 400, .inl f))] s.heap := hP
  have hiX7 : ∀ w ∈ u_ws RX7 TX7 4, w ∈ wsX7_put := fun _ h => List.mem_cons_of_mem _ (List.mem_append_right _ h)
  have hw1 := hts (.fieldLink RX7 19 "PostHouse$Tape" "length" "I") (by decide +kernel)
  have hw2 := hts (.fieldLink RX7 11 "PostHouse$Tape" "bytes" "[B") (by decide +kernel)
  refine lv_bipush (v := 24) hx hb dX7_put_0 (by decide) ?_
  refine lv_istore_n (lv' := [(2, .int 24), (0, .ref t0), (1, .int x)]) hx hb dX7_put_2 rfl hl (by decide) rfl (fun ls hl => ?_)
  refine lv_iload_n hx hb dX7_put_3 rfl (lv_at hl 0 rfl) ?_
  refine lv_if_lt (tgt := 46) hx hb dX7_put_4 (by decide) (fun c1 => absurd c1 (by decide)) (fun c1 => ?_)
  refine lv_aload_n hx hb dX7_put_7 rfl (lv_at hl 1 rfl) ?_
  refine va_get (D := (dC, dI)) (ci := 7) (v := .int 0) (C := RX7) (T := TX7) (N := 4) hx hb hts hiX7 hown hK hP 0 rfl rfl 1 (by decide) hw1 (fun _ h9 => h9) rfl dX7_put_8 ?_
  refine lv_sipush (v := 400) hx hb dX7_put_11 (by decide) ?_
  refine lv_icmp_ge (tgt := 46) hx hb dX7_put_14 (by decide) (fun c2 => absurd c2 (by decide)) (fun c2 => ?_)
  refine lv_aload_n hx hb dX7_put_17 rfl (lv_at hl 1 rfl) ?_
  refine va_get (D := (dC, dI)) (ci := 7) (v := .ref tb) (C := RX7) (T := TX7) (N := 4) hx hb hts hiX7 hown hK hP 0 rfl rfl 0 (by decide) hw2 (fun _ h9 => h9) rfl dX7_put_18 ?_
  refine lv_aload_n hx hb dX7_put_21 rfl (lv_at hl 1 rfl) ?_
  refine va_get (D := (dC, dI)) (ci := 7) (v := .int 0) (C := RX7) (T := TX7) (N := 4) hx hb hts hiX7 hown hK hP 0 rfl rfl 1 (by decide) hw1 (fun _ h9 => h9) rfl dX7_put_22 ?_
  refine lv_iload_n hx hb dX7_put_25 rfl (lv_at hl 2 rfl) ?_
  refine lv_iload_n hx hb dX7_put_26 rfl (lv_at hl 0 rfl) ?_
  refine lv_ishr hx hb dX7_put_27 ?_
  refine lv_topi (fun v3 ev3 => ?_)
  refine lv_i2b hx hb dX7_put_28 rfl ?_
  refine lv_topi (fun v5 ev5 => ?_)
  refine va_bast (D := (dC, dI)) hx hb hK hP hD hS 1 0 rfl rfl (zIn (by decide) (by decide)) dX7_put_29 (fun H locs hP hD hS => ?_)
  have hP : va_P (dC, dI) vwCl [(t0, .inr (7, [.ref tb, .int 0, .int 0, .int ((-1))])), (tb, .inl (ctb, 400, .inl (upd f (0 : Int32).toNatClampNeg (vp_nar .byte v5))))] H := hP
  have hD : va_D A [(t0, .inr (7, [.ref tb, .int 0, .int 0, .int ((-1))])), (tb, .inl (ctb, 400, .inl (upd f (0 : Int32).toNatClampNeg (vp_nar .byte v5))))] := hD
  generalize (upd f (0 : Int32).toNatClampNeg (vp_nar .byte v5)) = f6 at hP hD
  refine lv_aload_n hx hb dX7_put_30 rfl (lv_at hl 1 rfl) ?_
  refine lv_dup hx hb dX7_put_31 rfl ?_
  refine va_get (D := (dC, dI)) (ci := 7) (v := .int 0) (C := RX7) (T := TX7) (N := 4) hx hb hts hiX7 hown hK hP 0 rfl rfl 1 (by decide) hw1 (fun _ h9 => h9) rfl dX7_put_32 ?_
  refine lv_iconst (v := 1) hx hb dX7_put_35 (by decide) ?_
  refine lv_iadd hx hb dX7_put_36 ?_
  refine lv_topi (fun v7 ev7 => ?_)
  obtain rfl : v7 = 1 := ev7.trans (by decide)
  refine va_put (D := (dC, dI)) (ci := 7) (v := .int 1) (ty := .int) (C := RX7) (T := TX7) (N := 4) hx hb hts hiX7 tyX7 tyX7_ok nmX7 hown hK hP hD hS 0 rfl rfl 1 (by decide) hw1 (fun _ h9 => h9) rfl (by decide +kernel) rfl rfl (Nat.le_of_ble_eq_true rfl) dX7_put_37 (fun H locs hP hD hS => ?_)
  have hP : va_P (dC, dI) vwCl [(t0, .inr (7, [.ref tb, .int 1, .int 0, .int ((-1))])), (tb, .inl (ctb, 400, .inl f6))] H := hP
  have hD : va_D A [(t0, .inr (7, [.ref tb, .int 1, .int 0, .int ((-1))])), (tb, .inl (ctb, 400, .inl f6))] := hD
  refine lv_iinc (v := 16) (lv' := [(2, .int 16), (0, .ref t0), (1, .int x)]) hx hb dX7_put_40 hl (k := 0) rfl (by decide) (by decide) rfl (fun ls hl => ?_)
  refine lv_goto (tgt := 3) hx hb dX7_put_43 (by decide) ?_
  refine lv_iload_n hx hb dX7_put_3 rfl (lv_at hl 0 rfl) ?_
  refine lv_if_lt (tgt := 46) hx hb dX7_put_4 (by decide) (fun c8 => absurd c8 (by decide)) (fun c8 => ?_)
  refine lv_aload_n hx hb dX7_put_7 rfl (lv_at hl 1 rfl) ?_
  refine va_get (D := (dC, dI)) (ci := 7) (v := .int 1) (C := RX7) (T := TX7) (N := 4) hx hb hts hiX7 hown hK hP 0 rfl rfl 1 (by decide) hw1 (fun _ h9 => h9) rfl dX7_put_8 ?_
  refine lv_sipush (v := 400) hx hb dX7_put_11 (by decide) ?_
  refine lv_icmp_ge (tgt := 46) hx hb dX7_put_14 (by decide) (fun c9 => absurd c9 (by decide)) (fun c9 => ?_)
  refine lv_aload_n hx hb dX7_put_17 rfl (lv_at hl 1 rfl) ?_
  refine va_get (D := (dC, dI)) (ci := 7) (v := .ref tb) (C := RX7) (T := TX7) (N := 4) hx hb hts hiX7 hown hK hP 0 rfl rfl 0 (by decide) hw2 (fun _ h9 => h9) rfl dX7_put_18 ?_
  refine lv_aload_n hx hb dX7_put_21 rfl (lv_at hl 1 rfl) ?_
  refine va_get (D := (dC, dI)) (ci := 7) (v := .int 1) (C := RX7) (T := TX7) (N := 4) hx hb hts hiX7 hown hK hP 0 rfl rfl 1 (by decide) hw1 (fun _ h9 => h9) rfl dX7_put_22 ?_
  refine lv_iload_n hx hb dX7_put_25 rfl (lv_at hl 2 rfl) ?_
  refine lv_iload_n hx hb dX7_put_26 rfl (lv_at hl 0 rfl) ?_
  refine lv_ishr hx hb dX7_put_27 ?_
  refine lv_topi (fun v10 ev10 => ?_)
  refine lv_i2b hx hb dX7_put_28 rfl ?_
  refine lv_topi (fun v12 ev12 => ?_)
  refine va_bast (D := (dC, dI)) hx hb hK hP hD hS 1 0 rfl rfl (zIn (by decide) (by decide)) dX7_put_29 (fun H locs hP hD hS => ?_)
  have hP : va_P (dC, dI) vwCl [(t0, .inr (7, [.ref tb, .int 1, .int 0, .int ((-1))])), (tb, .inl (ctb, 400, .inl (upd f6 (1 : Int32).toNatClampNeg (vp_nar .byte v12))))] H := hP
  have hD : va_D A [(t0, .inr (7, [.ref tb, .int 1, .int 0, .int ((-1))])), (tb, .inl (ctb, 400, .inl (upd f6 (1 : Int32).toNatClampNeg (vp_nar .byte v12))))] := hD
  generalize (upd f6 (1 : Int32).toNatClampNeg (vp_nar .byte v12)) = f13 at hP hD
  refine lv_aload_n hx hb dX7_put_30 rfl (lv_at hl 1 rfl) ?_
  refine lv_dup hx hb dX7_put_31 rfl ?_
  refine va_get (D := (dC, dI)) (ci := 7) (v := .int 1) (C := RX7) (T := TX7) (N := 4) hx hb hts hiX7 hown hK hP 0 rfl rfl 1 (by decide) hw1 (fun _ h9 => h9) rfl dX7_put_32 ?_
  refine lv_iconst (v := 1) hx hb dX7_put_35 (by decide) ?_
  refine lv_iadd hx hb dX7_put_36 ?_
  refine lv_topi (fun v14 ev14 => ?_)
  obtain rfl : v14 = 2 := ev14.trans (by decide)
  refine va_put (D := (dC, dI)) (ci := 7) (v := .int 2) (ty := .int) (C := RX7) (T := TX7) (N := 4) hx hb hts hiX7 tyX7 tyX7_ok nmX7 hown hK hP hD hS 0 rfl rfl 1 (by decide) hw1 (fun _ h9 => h9) rfl (by decide +kernel) rfl rfl (Nat.le_of_ble_eq_true rfl) dX7_put_37 (fun H locs hP hD hS => ?_)
  have hP : va_P (dC, dI) vwCl [(t0, .inr (7, [.ref tb, .int 2, .int 0, .int ((-1))])), (tb, .inl (ctb, 400, .inl f13))] H := hP
  have hD : va_D A [(t0, .inr (7, [.ref tb, .int 2, .int 0, .int ((-1))])), (tb, .inl (ctb, 400, .inl f13))] := hD
  refine lv_iinc (v := 8) (lv' := [(2, .int 8), (0, .ref t0), (1, .int x)]) hx hb dX7_put_40 hl (k := 0) rfl (by decide) (by decide) rfl (fun ls hl => ?_)
  refine lv_goto (tgt := 3) hx hb dX7_put_43 (by decide) ?_
  refine lv_iload_n hx hb dX7_put_3 rfl (lv_at hl 0 rfl) ?_
  refine lv_if_lt (tgt := 46) hx hb dX7_put_4 (by decide) (fun c15 => absurd c15 (by decide)) (fun c15 => ?_)
  refine lv_aload_n hx hb dX7_put_7 rfl (lv_at hl 1 rfl) ?_
  refine va_get (D := (dC, dI)) (ci := 7) (v := .int 2) (C := RX7) (T := TX7) (N := 4) hx hb hts hiX7 hown hK hP 0 rfl rfl 1 (by decide) hw1 (fun _ h9 => h9) rfl dX7_put_8 ?_
  refine lv_sipush (v := 400) hx hb dX7_put_11 (by decide) ?_
  refine lv_icmp_ge (tgt := 46) hx hb dX7_put_14 (by decide) (fun c16 => absurd c16 (by decide)) (fun c16 => ?_)
  refine lv_aload_n hx hb dX7_put_17 rfl (lv_at hl 1 rfl) ?_
  refine va_get (D := (dC, dI)) (ci := 7) (v := .ref tb) (C := RX7) (T := TX7) (N := 4) hx hb hts hiX7 hown hK hP 0 rfl rfl 0 (by decide) hw2 (fun _ h9 => h9) rfl dX7_put_18 ?_
  refine lv_aload_n hx hb dX7_put_21 rfl (lv_at hl 1 rfl) ?_
  refine va_get (D := (dC, dI)) (ci := 7) (v := .int 2) (C := RX7) (T := TX7) (N := 4) hx hb hts hiX7 hown hK hP 0 rfl rfl 1 (by decide) hw1 (fun _ h9 => h9) rfl dX7_put_22 ?_
  refine lv_iload_n hx hb dX7_put_25 rfl (lv_at hl 2 rfl) ?_
  refine lv_iload_n hx hb dX7_put_26 rfl (lv_at hl 0 rfl) ?_
  refine lv_ishr hx hb dX7_put_27 ?_
  refine lv_topi (fun v17 ev17 => ?_)
  refine lv_i2b hx hb dX7_put_28 rfl ?_
  refine lv_topi (fun v19 ev19 => ?_)
  refine va_bast (D := (dC, dI)) hx hb hK hP hD hS 1 0 rfl rfl (zIn (by decide) (by decide)) dX7_put_29 (fun H locs hP hD hS => ?_)
  have hP : va_P (dC, dI) vwCl [(t0, .inr (7, [.ref tb, .int 2, .int 0, .int ((-1))])), (tb, .inl (ctb, 400, .inl (upd f13 (2 : Int32).toNatClampNeg (vp_nar .byte v19))))] H := hP
  have hD : va_D A [(t0, .inr (7, [.ref tb, .int 2, .int 0, .int ((-1))])), (tb, .inl (ctb, 400, .inl (upd f13 (2 : Int32).toNatClampNeg (vp_nar .byte v19))))] := hD
  generalize (upd f13 (2 : Int32).toNatClampNeg (vp_nar .byte v19)) = f20 at hP hD
  refine lv_aload_n hx hb dX7_put_30 rfl (lv_at hl 1 rfl) ?_
  refine lv_dup hx hb dX7_put_31 rfl ?_
  refine va_get (D := (dC, dI)) (ci := 7) (v := .int 2) (C := RX7) (T := TX7) (N := 4) hx hb hts hiX7 hown hK hP 0 rfl rfl 1 (by decide) hw1 (fun _ h9 => h9) rfl dX7_put_32 ?_
  refine lv_iconst (v := 1) hx hb dX7_put_35 (by decide) ?_
  refine lv_iadd hx hb dX7_put_36 ?_
  refine lv_topi (fun v21 ev21 => ?_)
  obtain rfl : v21 = 3 := ev21.trans (by decide)
  refine va_put (D := (dC, dI)) (ci := 7) (v := .int 3) (ty := .int) (C := RX7) (T := TX7) (N := 4) hx hb hts hiX7 tyX7 tyX7_ok nmX7 hown hK hP hD hS 0 rfl rfl 1 (by decide) hw1 (fun _ h9 => h9) rfl (by decide +kernel) rfl rfl (Nat.le_of_ble_eq_true rfl) dX7_put_37 (fun H locs hP hD hS => ?_)
  have hP : va_P (dC, dI) vwCl [(t0, .inr (7, [.ref tb, .int 3, .int 0, .int ((-1))])), (tb, .inl (ctb, 400, .inl f20))] H := hP
  have hD : va_D A [(t0, .inr (7, [.ref tb, .int 3, .int 0, .int ((-1))])), (tb, .inl (ctb, 400, .inl f20))] := hD
  refine lv_iinc (v := 0) (lv' := [(2, .int 0), (0, .ref t0), (1, .int x)]) hx hb dX7_put_40 hl (k := 0) rfl (by decide) (by decide) rfl (fun ls hl => ?_)
  refine lv_goto (tgt := 3) hx hb dX7_put_43 (by decide) ?_
  refine lv_iload_n hx hb dX7_put_3 rfl (lv_at hl 0 rfl) ?_
  refine lv_if_lt (tgt := 46) hx hb dX7_put_4 (by decide) (fun c22 => absurd c22 (by decide)) (fun c22 => ?_)
  refine lv_aload_n hx hb dX7_put_7 rfl (lv_at hl 1 rfl) ?_
  refine va_get (D := (dC, dI)) (ci := 7) (v := .int 3) (C := RX7) (T := TX7) (N := 4) hx hb hts hiX7 hown hK hP 0 rfl rfl 1 (by decide) hw1 (fun _ h9 => h9) rfl dX7_put_8 ?_
  refine lv_sipush (v := 400) hx hb dX7_put_11 (by decide) ?_
  refine lv_icmp_ge (tgt := 46) hx hb dX7_put_14 (by decide) (fun c23 => absurd c23 (by decide)) (fun c23 => ?_)
  refine lv_aload_n hx hb dX7_put_17 rfl (lv_at hl 1 rfl) ?_
  refine va_get (D := (dC, dI)) (ci := 7) (v := .ref tb) (C := RX7) (T := TX7) (N := 4) hx hb hts hiX7 hown hK hP 0 rfl rfl 0 (by decide) hw2 (fun _ h9 => h9) rfl dX7_put_18 ?_
  refine lv_aload_n hx hb dX7_put_21 rfl (lv_at hl 1 rfl) ?_
  refine va_get (D := (dC, dI)) (ci := 7) (v := .int 3) (C := RX7) (T := TX7) (N := 4) hx hb hts hiX7 hown hK hP 0 rfl rfl 1 (by decide) hw1 (fun _ h9 => h9) rfl dX7_put_22 ?_
  refine lv_iload_n hx hb dX7_put_25 rfl (lv_at hl 2 rfl) ?_
  refine lv_iload_n hx hb dX7_put_26 rfl (lv_at hl 0 rfl) ?_
  refine lv_ishr hx hb dX7_put_27 ?_
  refine lv_topi (fun v24 ev24 => ?_)
  refine lv_i2b hx hb dX7_put_28 rfl ?_
  refine lv_topi (fun v26 ev26 => ?_)
  refine va_bast (D := (dC, dI)) hx hb hK hP hD hS 1 0 rfl rfl (zIn (by decide) (by decide)) dX7_put_29 (fun H locs hP hD hS => ?_)
  have hP : va_P (dC, dI) vwCl [(t0, .inr (7, [.ref tb, .int 3, .int 0, .int ((-1))])), (tb, .inl (ctb, 400, .inl (upd f20 (3 : Int32).toNatClampNeg (vp_nar .byte v26))))] H := hP
  have hD : va_D A [(t0, .inr (7, [.ref tb, .int 3, .int 0, .int ((-1))])), (tb, .inl (ctb, 400, .inl (upd f20 (3 : Int32).toNatClampNeg (vp_nar .byte v26))))] := hD
  generalize (upd f20 (3 : Int32).toNatClampNeg (vp_nar .byte v26)) = f27 at hP hD
  refine lv_aload_n hx hb dX7_put_30 rfl (lv_at hl 1 rfl) ?_
  refine lv_dup hx hb dX7_put_31 rfl ?_
  refine va_get (D := (dC, dI)) (ci := 7) (v := .int 3) (C := RX7) (T := TX7) (N := 4) hx hb hts hiX7 hown hK hP 0 rfl rfl 1 (by decide) hw1 (fun _ h9 => h9) rfl dX7_put_32 ?_
  refine lv_iconst (v := 1) hx hb dX7_put_35 (by decide) ?_
  refine lv_iadd hx hb dX7_put_36 ?_
  refine lv_topi (fun v28 ev28 => ?_)
  obtain rfl : v28 = 4 := ev28.trans (by decide)
  refine va_put (D := (dC, dI)) (ci := 7) (v := .int 4) (ty := .int) (C := RX7) (T := TX7) (N := 4) hx hb hts hiX7 tyX7 tyX7_ok nmX7 hown hK hP hD hS 0 rfl rfl 1 (by decide) hw1 (fun _ h9 => h9) rfl (by decide +kernel) rfl rfl (Nat.le_of_ble_eq_true rfl) dX7_put_37 (fun H locs hP hD hS => ?_)
  have hP : va_P (dC, dI) vwCl [(t0, .inr (7, [.ref tb, .int 4, .int 0, .int ((-1))])), (tb, .inl (ctb, 400, .inl f27))] H := hP
  have hD : va_D A [(t0, .inr (7, [.ref tb, .int 4, .int 0, .int ((-1))])), (tb, .inl (ctb, 400, .inl f27))] := hD
  refine lv_iinc (v := (-8)) (lv' := [(2, .int ((-8))), (0, .ref t0), (1, .int x)]) hx hb dX7_put_40 hl (k := 0) rfl (by decide) (by decide) rfl (fun ls hl => ?_)
  refine lv_goto (tgt := 3) hx hb dX7_put_43 (by decide) ?_
  refine lv_iload_n hx hb dX7_put_3 rfl (lv_at hl 0 rfl) ?_
  refine lv_if_lt (tgt := 46) hx hb dX7_put_4 (by decide) (fun c29 => ?_) (fun c29 => absurd (by decide) c29)
  have hP9 := hP.sub (ws' := [(t0, .inr (7, [.ref tb, .int 4, .int 0, .int ((-1))])), (tb, .inl (ctb, 400, .inl f27))]) [0, 1] rfl
  have hD9 := hD.sub (ws' := [(t0, .inr (7, [.ref tb, .int 4, .int 0, .int ((-1))])), (tb, .inl (ctb, 400, .inl f27))]) [0, 1] (by decide) rfl
  have hK9 := hK.sub (tys' := [(ctb, .byte)]) [0] rfl
  refine W.widen (k := 0) (n := 0) (by decide) (by decide) ?_
  exact W.vret hx hb hr (fun t ht hW => ⟨⟨(), rfl, trivial, ⟨f27, ⟨by rw [ht]; exact hP9, va_K.moved hW.alike hK9, hD9⟩⟩⟩, hS.F ht⟩) hS.2.2 dX7_put_46
set_option maxHeartbeats 4000000 in
set_option maxRecDepth 100000 in
/-- put at 4 -/
theorem c_put_4 (l : Launch) (hl0 : l.stackTraces = false) (dC : Nat → ClassId) (dI : Nat → Nat → Nat) (A0 : Nat → Prop) (ad : Nat → Nat) (sz : Nat) (t0 tb : Nat) (ctb : ClassId) (f : Nat → Int32) (x : Int32) (hA0 : ∀ q, va_A [(t0, .inr (7, [.ref tb, .int 4, .int 0, .int ((-1))])), (tb, .inl (ctb, 400, .inl f))] sz q → A0 q) : Met l yX7_put wsX7_put ({ frames := 0, cells := 0, slots := 0, locals := 0 }) (va_Pc [.ref t0, .int x] (zPc A0 ad (dC, dI) [(t0, .inr (7, [.ref tb, .int 4, .int 0, .int ((-1))])), (tb, .inl (ctb, 400, .inl f))] [(ctb, .byte)] sz)) (va_Qv (fun (_ : Unit) => True) (fun (_ : Unit) (t : State) => ∃ (f2 : Nat → Int32), zB (dC, dI) (va_A [(t0, .inr (7, [.ref tb, .int 4, .int 0, .int ((-1))])), (tb, .inl (ctb, 400, .inl f))] sz) [(t0, .inr (7, [.ref tb, .int 8, .int 0, .int ((-1))])), (tb, .inl (ctb, 400, .inl f2))] [(ctb, .byte)] t) (va_A [(t0, .inr (7, [.ref tb, .int 4, .int 0, .int ((-1))])), (tb, .inl (ctb, 400, .inl f))] sz)) 0 0 (va_A [(t0, .inr (7, [.ref tb, .int 4, .int 0, .int ((-1))])), (tb, .inl (ctb, 400, .inl f))] sz) := by
  refine Met.ofW (cc := cX7_put) (maxL := 3) (ret := none) (by decide) rfl ?_
  intro p e s m args below meth c s₁ B hml hv
  obtain ⟨rfl, hsz, hz, hP, hK, hD0⟩ := hv
  have hx := B.exec
  have hb := B.bytes
  have hr := B.returns
  have hts := atoms_spec (ws := wsX7_put) B.pre
  have hown : s.vm.findClass RX7 = some m.cls := findClass_of_methodNamed B.named
  have hlocks := B.notSynchronized
  subst hsz
  have hD := hD0.self (sz := s.heap.size)
  generalize hAe : va_A [(t0, .inr (7, [.ref tb, .int 4, .int 0, .int ((-1))])), (tb, .inl (ctb, 400, .inl f))] s.heap.size = A at hD hA0 ⊢
  have hA : ∀ q : Nat, s.heap.size ≤ q → A q := fun q h => by rw [← hAe]; exact Or.inr h
  have hS : va_S A s.heap s.heap [] := va_S.rf
  have hl := lv_entry ([.ref t0, .int x]) (n := 3) (Nat.le_of_ble_eq_true rfl)
  rw [lg_entry_eq]
  generalize (lg_sl ([.ref t0, .int x]) ++ List.replicate (3 - (lg_sl ([.ref t0, .int x])).length) Slot.unset).toArray = ls at hl ⊢
  have hl : lv_has ls 3 [(0, .ref t0), (1, .int x)] := hl
  have hP : va_P (dC, dI) vwCl [(t0, .inr (7, [.ref tb, .int 4, .int 0, .int ((-1))])), (tb, .inl (ctb, 400, .inl f))] s.heap := hP
  have hiX7 : ∀ w ∈ u_ws RX7 TX7 4, w ∈ wsX7_put := fun _ h => List.mem_cons_of_mem _ (List.mem_append_right _ h)
  have hw1 := hts (.fieldLink RX7 19 "PostHouse$Tape" "length" "I") (by decide +kernel)
  have hw2 := hts (.fieldLink RX7 11 "PostHouse$Tape" "bytes" "[B") (by decide +kernel)
  refine lv_bipush (v := 24) hx hb dX7_put_0 (by decide) ?_
  refine lv_istore_n (lv' := [(2, .int 24), (0, .ref t0), (1, .int x)]) hx hb dX7_put_2 rfl hl (by decide) rfl (fun ls hl => ?_)
  refine lv_iload_n hx hb dX7_put_3 rfl (lv_at hl 0 rfl) ?_
  refine lv_if_lt (tgt := 46) hx hb dX7_put_4 (by decide) (fun c1 => absurd c1 (by decide)) (fun c1 => ?_)
  refine lv_aload_n hx hb dX7_put_7 rfl (lv_at hl 1 rfl) ?_
  refine va_get (D := (dC, dI)) (ci := 7) (v := .int 4) (C := RX7) (T := TX7) (N := 4) hx hb hts hiX7 hown hK hP 0 rfl rfl 1 (by decide) hw1 (fun _ h9 => h9) rfl dX7_put_8 ?_
  refine lv_sipush (v := 400) hx hb dX7_put_11 (by decide) ?_
  refine lv_icmp_ge (tgt := 46) hx hb dX7_put_14 (by decide) (fun c2 => absurd c2 (by decide)) (fun c2 => ?_)
  refine lv_aload_n hx hb dX7_put_17 rfl (lv_at hl 1 rfl) ?_
  refine va_get (D := (dC, dI)) (ci := 7) (v := .ref tb) (C := RX7) (T := TX7) (N := 4) hx hb hts hiX7 hown hK hP 0 rfl rfl 0 (by decide) hw2 (fun _ h9 => h9) rfl dX7_put_18 ?_
  refine lv_aload_n hx hb dX7_put_21 rfl (lv_at hl 1 rfl) ?_
  refine va_get (D := (dC, dI)) (ci := 7) (v := .int 4) (C := RX7) (T := TX7) (N := 4) hx hb hts hiX7 hown hK hP 0 rfl rfl 1 (by decide) hw1 (fun _ h9 => h9) rfl dX7_put_22 ?_
  refine lv_iload_n hx hb dX7_put_25 rfl (lv_at hl 2 rfl) ?_
  refine lv_iload_n hx hb dX7_put_26 rfl (lv_at hl 0 rfl) ?_
  refine lv_ishr hx hb dX7_put_27 ?_
  refine lv_topi (fun v3 ev3 => ?_)
  refine lv_i2b hx hb dX7_put_28 rfl ?_
  refine lv_topi (fun v5 ev5 => ?_)
  refine va_bast (D := (dC, dI)) hx hb hK hP hD hS 1 0 rfl rfl (zIn (by decide) (by decide)) dX7_put_29 (fun H locs hP hD hS => ?_)
  have hP : va_P (dC, dI) vwCl [(t0, .inr (7, [.ref tb, .int 4, .int 0, .int ((-1))])), (tb, .inl (ctb, 400, .inl (upd f (4 : Int32).toNatClampNeg (vp_nar .byte v5))))] H := hP
  have hD : va_D A [(t0, .inr (7, [.ref tb, .int 4, .int 0, .int ((-1))])), (tb, .inl (ctb, 400, .inl (upd f (4 : Int32).toNatClampNeg (vp_nar .byte v5))))] := hD
  generalize (upd f (4 : Int32).toNatClampNeg (vp_nar .byte v5)) = f6 at hP hD
  refine lv_aload_n hx hb dX7_put_30 rfl (lv_at hl 1 rfl) ?_
  refine lv_dup hx hb dX7_put_31 rfl ?_
  refine va_get (D := (dC, dI)) (ci := 7) (v := .int 4) (C := RX7) (T := TX7) (N := 4) hx hb hts hiX7 hown hK hP 0 rfl rfl 1 (by decide) hw1 (fun _ h9 => h9) rfl dX7_put_32 ?_
  refine lv_iconst (v := 1) hx hb dX7_put_35 (by decide) ?_
  refine lv_iadd hx hb dX7_put_36 ?_
  refine lv_topi (fun v7 ev7 => ?_)
  obtain rfl : v7 = 5 := ev7.trans (by decide)
  refine va_put (D := (dC, dI)) (ci := 7) (v := .int 5) (ty := .int) (C := RX7) (T := TX7) (N := 4) hx hb hts hiX7 tyX7 tyX7_ok nmX7 hown hK hP hD hS 0 rfl rfl 1 (by decide) hw1 (fun _ h9 => h9) rfl (by decide +kernel) rfl rfl (Nat.le_of_ble_eq_true rfl) dX7_put_37 (fun H locs hP hD hS => ?_)
  have hP : va_P (dC, dI) vwCl [(t0, .inr (7, [.ref tb, .int 5, .int 0, .int ((-1))])), (tb, .inl (ctb, 400, .inl f6))] H := hP
  have hD : va_D A [(t0, .inr (7, [.ref tb, .int 5, .int 0, .int ((-1))])), (tb, .inl (ctb, 400, .inl f6))] := hD
  refine lv_iinc (v := 16) (lv' := [(2, .int 16), (0, .ref t0), (1, .int x)]) hx hb dX7_put_40 hl (k := 0) rfl (by decide) (by decide) rfl (fun ls hl => ?_)
  refine lv_goto (tgt := 3) hx hb dX7_put_43 (by decide) ?_
  refine lv_iload_n hx hb dX7_put_3 rfl (lv_at hl 0 rfl) ?_
  refine lv_if_lt (tgt := 46) hx hb dX7_put_4 (by decide) (fun c8 => absurd c8 (by decide)) (fun c8 => ?_)
  refine lv_aload_n hx hb dX7_put_7 rfl (lv_at hl 1 rfl) ?_
  refine va_get (D := (dC, dI)) (ci := 7) (v := .int 5) (C := RX7) (T := TX7) (N := 4) hx hb hts hiX7 hown hK hP 0 rfl rfl 1 (by decide) hw1 (fun _ h9 => h9) rfl dX7_put_8 ?_
  refine lv_sipush (v := 400) hx hb dX7_put_11 (by decide) ?_
  refine lv_icmp_ge (tgt := 46) hx hb dX7_put_14 (by decide) (fun c9 => absurd c9 (by decide)) (fun c9 => ?_)
  refine lv_aload_n hx hb dX7_put_17 rfl (lv_at hl 1 rfl) ?_
  refine va_get (D := (dC, dI)) (ci := 7) (v := .ref tb) (C := RX7) (T := TX7) (N := 4) hx hb hts hiX7 hown hK hP 0 rfl rfl 0 (by decide) hw2 (fun _ h9 => h9) rfl dX7_put_18 ?_
  refine lv_aload_n hx hb dX7_put_21 rfl (lv_at hl 1 rfl) ?_
  refine va_get (D := (dC, dI)) (ci := 7) (v := .int 5) (C := RX7) (T := TX7) (N := 4) hx hb hts hiX7 hown hK hP 0 rfl rfl 1 (by decide) hw1 (fun _ h9 => h9) rfl dX7_put_22 ?_
  refine lv_iload_n hx hb dX7_put_25 rfl (lv_at hl 2 rfl) ?_
  refine lv_iload_n hx hb dX7_put_26 rfl (lv_at hl 0 rfl) ?_
  refine lv_ishr hx hb dX7_put_27 ?_
  refine lv_topi (fun v10 ev10 => ?_)
  refine lv_i2b hx hb dX7_put_28 rfl ?_
  refine lv_topi (fun v12 ev12 => ?_)
  refine va_bast (D := (dC, dI)) hx hb hK hP hD hS 1 0 rfl rfl (zIn (by decide) (by decide)) dX7_put_29 (fun H locs hP hD hS => ?_)
  have hP : va_P (dC, dI) vwCl [(t0, .inr (7, [.ref tb, .int 5, .int 0, .int ((-1))])), (tb, .inl (ctb, 400, .inl (upd f6 (5 : Int32).toNatClampNeg (vp_nar .byte v12))))] H := hP
  have hD : va_D A [(t0, .inr (7, [.ref tb, .int 5, .int 0, .int ((-1))])), (tb, .inl (ctb, 400, .inl (upd f6 (5 : Int32).toNatClampNeg (vp_nar .byte v12))))] := hD
  generalize (upd f6 (5 : Int32).toNatClampNeg (vp_nar .byte v12)) = f13 at hP hD
  refine lv_aload_n hx hb dX7_put_30 rfl (lv_at hl 1 rfl) ?_
  refine lv_dup hx hb dX7_put_31 rfl ?_
  refine va_get (D := (dC, dI)) (ci := 7) (v := .int 5) (C := RX7) (T := TX7) (N := 4) hx hb hts hiX7 hown hK hP 0 rfl rfl 1 (by decide) hw1 (fun _ h9 => h9) rfl dX7_put_32 ?_
  refine lv_iconst (v := 1) hx hb dX7_put_35 (by decide) ?_
  refine lv_iadd hx hb dX7_put_36 ?_
  refine lv_topi (fun v14 ev14 => ?_)
  obtain rfl : v14 = 6 := ev14.trans (by decide)
  refine va_put (D := (dC, dI)) (ci := 7) (v := .int 6) (ty := .int) (C := RX7) (T := TX7) (N := 4) hx hb hts hiX7 tyX7 tyX7_ok nmX7 hown hK hP hD hS 0 rfl rfl 1 (by decide) hw1 (fun _ h9 => h9) rfl (by decide +kernel) rfl rfl (Nat.le_of_ble_eq_true rfl) dX7_put_37 (fun H locs hP hD hS => ?_)
  have hP : va_P (dC, dI) vwCl [(t0, .inr (7, [.ref tb, .int 6, .int 0, .int ((-1))])), (tb, .inl (ctb, 400, .inl f13))] H := hP
  have hD : va_D A [(t0, .inr (7, [.ref tb, .int 6, .int 0, .int ((-1))])), (tb, .inl (ctb, 400, .inl f13))] := hD
  refine lv_iinc (v := 8) (lv' := [(2, .int 8), (0, .ref t0), (1, .int x)]) hx hb dX7_put_40 hl (k := 0) rfl (by decide) (by decide) rfl (fun ls hl => ?_)
  refine lv_goto (tgt := 3) hx hb dX7_put_43 (by decide) ?_
  refine lv_iload_n hx hb dX7_put_3 rfl (lv_at hl 0 rfl) ?_
  refine lv_if_lt (tgt := 46) hx hb dX7_put_4 (by decide) (fun c15 => absurd c15 (by decide)) (fun c15 => ?_)
  refine lv_aload_n hx hb dX7_put_7 rfl (lv_at hl 1 rfl) ?_
  refine va_get (D := (dC, dI)) (ci := 7) (v := .int 6) (C := RX7) (T := TX7) (N := 4) hx hb hts hiX7 hown hK hP 0 rfl rfl 1 (by decide) hw1 (fun _ h9 => h9) rfl dX7_put_8 ?_
  refine lv_sipush (v := 400) hx hb dX7_put_11 (by decide) ?_
  refine lv_icmp_ge (tgt := 46) hx hb dX7_put_14 (by decide) (fun c16 => absurd c16 (by decide)) (fun c16 => ?_)
  refine lv_aload_n hx hb dX7_put_17 rfl (lv_at hl 1 rfl) ?_
  refine va_get (D := (dC, dI)) (ci := 7) (v := .ref tb) (C := RX7) (T := TX7) (N := 4) hx hb hts hiX7 hown hK hP 0 rfl rfl 0 (by decide) hw2 (fun _ h9 => h9) rfl dX7_put_18 ?_
  refine lv_aload_n hx hb dX7_put_21 rfl (lv_at hl 1 rfl) ?_
  refine va_get (D := (dC, dI)) (ci := 7) (v := .int 6) (C := RX7) (T := TX7) (N := 4) hx hb hts hiX7 hown hK hP 0 rfl rfl 1 (by decide) hw1 (fun _ h9 => h9) rfl dX7_put_22 ?_
  refine lv_iload_n hx hb dX7_put_25 rfl (lv_at hl 2 rfl) ?_
  refine lv_iload_n hx hb dX7_put_26 rfl (lv_at hl 0 rfl) ?_
  refine lv_ishr hx hb dX7_put_27 ?_
  refine lv_topi (fun v17 ev17 => ?_)
  refine lv_i2b hx hb dX7_put_28 rfl ?_
  refine lv_topi (fun v19 ev19 => ?_)
  refine va_bast (D := (dC, dI)) hx hb hK hP hD hS 1 0 rfl rfl (zIn (by decide) (by decide)) dX7_put_29 (fun H locs hP hD hS => ?_)
  have hP : va_P (dC, dI) vwCl [(t0, .inr (7, [.ref tb, .int 6, .int 0, .int ((-1))])), (tb, .inl (ctb, 400, .inl (upd f13 (6 : Int32).toNatClampNeg (vp_nar .byte v19))))] H := hP
  have hD : va_D A [(t0, .inr (7, [.ref tb, .int 6, .int 0, .int ((-1))])), (tb, .inl (ctb, 400, .inl (upd f13 (6 : Int32).toNatClampNeg (vp_nar .byte v19))))] := hD
  generalize (upd f13 (6 : Int32).toNatClampNeg (vp_nar .byte v19)) = f20 at hP hD
  refine lv_aload_n hx hb dX7_put_30 rfl (lv_at hl 1 rfl) ?_
  refine lv_dup hx hb dX7_put_31 rfl ?_
  refine va_get (D := (dC, dI)) (ci := 7) (v := .int 6) (C := RX7) (T := TX7) (N := 4) hx hb hts hiX7 hown hK hP 0 rfl rfl 1 (by decide) hw1 (fun _ h9 => h9) rfl dX7_put_32 ?_
  refine lv_iconst (v := 1) hx hb dX7_put_35 (by decide) ?_
  refine lv_iadd hx hb dX7_put_36 ?_
  refine lv_topi (fun v21 ev21 => ?_)
  obtain rfl : v21 = 7 := ev21.trans (by decide)
  refine va_put (D := (dC, dI)) (ci := 7) (v := .int 7) (ty := .int) (C := RX7) (T := TX7) (N := 4) hx hb hts hiX7 tyX7 tyX7_ok nmX7 hown hK hP hD hS 0 rfl rfl 1 (by decide) hw1 (fun _ h9 => h9) rfl (by decide +kernel) rfl rfl (Nat.le_of_ble_eq_true rfl) dX7_put_37 (fun H locs hP hD hS => ?_)
  have hP : va_P (dC, dI) vwCl [(t0, .inr (7, [.ref tb, .int 7, .int 0, .int ((-1))])), (tb, .inl (ctb, 400, .inl f20))] H := hP
  have hD : va_D A [(t0, .inr (7, [.ref tb, .int 7, .int 0, .int ((-1))])), (tb, .inl (ctb, 400, .inl f20))] := hD
  refine lv_iinc (v := 0) (lv' := [(2, .int 0), (0, .ref t0), (1, .int x)]) hx hb dX7_put_40 hl (k := 0) rfl (by decide) (by decide) rfl (fun ls hl => ?_)
  refine lv_goto (tgt := 3) hx hb dX7_put_43 (by decide) ?_
  refine lv_iload_n hx hb dX7_put_3 rfl (lv_at hl 0 rfl) ?_
  refine lv_if_lt (tgt := 46) hx hb dX7_put_4 (by decide) (fun c22 => absurd c22 (by decide)) (fun c22 => ?_)
  refine lv_aload_n hx hb dX7_put_7 rfl (lv_at hl 1 rfl) ?_
  refine va_get (D := (dC, dI)) (ci := 7) (v := .int 7) (C := RX7) (T := TX7) (N := 4) hx hb hts hiX7 hown hK hP 0 rfl rfl 1 (by decide) hw1 (fun _ h9 => h9) rfl dX7_put_8 ?_
  refine lv_sipush (v := 400) hx hb dX7_put_11 (by decide) ?_
  refine lv_icmp_ge (tgt := 46) hx hb dX7_put_14 (by decide) (fun c23 => absurd c23 (by decide)) (fun c23 => ?_)
  refine lv_aload_n hx hb dX7_put_17 rfl (lv_at hl 1 rfl) ?_
  refine va_get (D := (dC, dI)) (ci := 7) (v := .ref tb) (C := RX7) (T := TX7) (N := 4) hx hb hts hiX7 hown hK hP 0 rfl rfl 0 (by decide) hw2 (fun _ h9 => h9) rfl dX7_put_18 ?_
  refine lv_aload_n hx hb dX7_put_21 rfl (lv_at hl 1 rfl) ?_
  refine va_get (D := (dC, dI)) (ci := 7) (v := .int 7) (C := RX7) (T := TX7) (N := 4) hx hb hts hiX7 hown hK hP 0 rfl rfl 1 (by decide) hw1 (fun _ h9 => h9) rfl dX7_put_22 ?_
  refine lv_iload_n hx hb dX7_put_25 rfl (lv_at hl 2 rfl) ?_
  refine lv_iload_n hx hb dX7_put_26 rfl (lv_at hl 0 rfl) ?_
  refine lv_ishr hx hb dX7_put_27 ?_
  refine lv_topi (fun v24 ev24 => ?_)
  refine lv_i2b hx hb dX7_put_28 rfl ?_
  refine lv_topi (fun v26 ev26 => ?_)
  refine va_bast (D := (dC, dI)) hx hb hK hP hD hS 1 0 rfl rfl (zIn (by decide) (by decide)) dX7_put_29 (fun H locs hP hD hS => ?_)
  have hP : va_P (dC, dI) vwCl [(t0, .inr (7, [.ref tb, .int 7, .int 0, .int ((-1))])), (tb, .inl (ctb, 400, .inl (upd f20 (7 : Int32).toNatClampNeg (vp_nar .byte v26))))] H := hP
  have hD : va_D A [(t0, .inr (7, [.ref tb, .int 7, .int 0, .int ((-1))])), (tb, .inl (ctb, 400, .inl (upd f20 (7 : Int32).toNatClampNeg (vp_nar .byte v26))))] := hD
  generalize (upd f20 (7 : Int32).toNatClampNeg (vp_nar .byte v26)) = f27 at hP hD
  refine lv_aload_n hx hb dX7_put_30 rfl (lv_at hl 1 rfl) ?_
  refine lv_dup hx hb dX7_put_31 rfl ?_
  refine va_get (D := (dC, dI)) (ci := 7) (v := .int 7) (C := RX7) (T := TX7) (N := 4) hx hb hts hiX7 hown hK hP 0 rfl rfl 1 (by decide) hw1 (fun _ h9 => h9) rfl dX7_put_32 ?_
  refine lv_iconst (v := 1) hx hb dX7_put_35 (by decide) ?_
  refine lv_iadd hx hb dX7_put_36 ?_
  refine lv_topi (fun v28 ev28 => ?_)
  obtain rfl : v28 = 8 := ev28.trans (by decide)
  refine va_put (D := (dC, dI)) (ci := 7) (v := .int 8) (ty := .int) (C := RX7) (T := TX7) (N := 4) hx hb hts hiX7 tyX7 tyX7_ok nmX7 hown hK hP hD hS 0 rfl rfl 1 (by decide) hw1 (fun _ h9 => h9) rfl (by decide +kernel) rfl rfl (Nat.le_of_ble_eq_true rfl) dX7_put_37 (fun H locs hP hD hS => ?_)
  have hP : va_P (dC, dI) vwCl [(t0, .inr (7, [.ref tb, .int 8, .int 0, .int ((-1))])), (tb, .inl (ctb, 400, .inl f27))] H := hP
  have hD : va_D A [(t0, .inr (7, [.ref tb, .int 8, .int 0, .int ((-1))])), (tb, .inl (ctb, 400, .inl f27))] := hD
  refine lv_iinc (v := (-8)) (lv' := [(2, .int ((-8))), (0, .ref t0), (1, .int x)]) hx hb dX7_put_40 hl (k := 0) rfl (by decide) (by decide) rfl (fun ls hl => ?_)
  refine lv_goto (tgt := 3) hx hb dX7_put_43 (by decide) ?_
  refine lv_iload_n hx hb dX7_put_3 rfl (lv_at hl 0 rfl) ?_
  refine lv_if_lt (tgt := 46) hx hb dX7_put_4 (by decide) (fun c29 => ?_) (fun c29 => absurd (by decide) c29)
  have hP9 := hP.sub (ws' := [(t0, .inr (7, [.ref tb, .int 8, .int 0, .int ((-1))])), (tb, .inl (ctb, 400, .inl f27))]) [0, 1] rfl
  have hD9 := hD.sub (ws' := [(t0, .inr (7, [.ref tb, .int 8, .int 0, .int ((-1))])), (tb, .inl (ctb, 400, .inl f27))]) [0, 1] (by decide) rfl
  have hK9 := hK.sub (tys' := [(ctb, .byte)]) [0] rfl
  refine W.widen (k := 0) (n := 0) (by decide) (by decide) ?_
  exact W.vret hx hb hr (fun t ht hW => ⟨⟨(), rfl, trivial, ⟨f27, ⟨by rw [ht]; exact hP9, va_K.moved hW.alike hK9, hD9⟩⟩⟩, hS.F ht⟩) hS.2.2 dX7_put_46
set_option maxHeartbeats 4000000 in
set_option maxRecDepth 100000 in
/-- put at 8 -/
theorem c_put_8 (l : Launch) (hl0 : l.stackTraces = false) (dC : Nat → ClassId) (dI : Nat → Nat → Nat) (A0 : Nat → Prop) (ad : Nat → Nat) (sz : Nat) (t0 tb : Nat) (ctb : ClassId) (f : Nat → Int32) (x : Int32) (hA0 : ∀ q, va_A [(t0, .inr (7, [.ref tb, .int 8, .int 0, .int ((-1))])), (tb, .inl (ctb, 400, .inl f))] sz q → A0 q) : Met l yX7_put wsX7_put ({ frames := 0, cells := 0, slots := 0, locals := 0 }) (va_Pc [.ref t0, .int x] (zPc A0 ad (dC, dI) [(t0, .inr (7, [.ref tb, .int 8, .int 0, .int ((-1))])), (tb, .inl (ctb, 400, .inl f))] [(ctb, .byte)] sz)) (va_Qv (fun (_ : Unit) => True) (fun (_ : Unit) (t : State) => ∃ (f2 : Nat → Int32), zB (dC, dI) (va_A [(t0, .inr (7, [.ref tb, .int 8, .int 0, .int ((-1))])), (tb, .inl (ctb, 400, .inl f))] sz) [(t0, .inr (7, [.ref tb, .int 12, .int 0, .int ((-1))])), (tb, .inl (ctb, 400, .inl f2))] [(ctb, .byte)] t) (va_A [(t0, .inr (7, [.ref tb, .int 8, .int 0, .int ((-1))])), (tb, .inl (ctb, 400, .inl f))] sz)) 0 0 (va_A [(t0, .inr (7, [.ref tb, .int 8, .int 0, .int ((-1))])), (tb, .inl (ctb, 400, .inl f))] sz) := by
  refine Met.ofW (cc := cX7_put) (maxL := 3) (ret := none) (by decide) rfl ?_
  intro p e s m args below meth c s₁ B hml hv
  obtain ⟨rfl, hsz, hz, hP, hK, hD0⟩ := hv
  have hx := B.exec
  have hb := B.bytes
  have hr := B.returns
  have hts := atoms_spec (ws := wsX7_put) B.pre
  have hown : s.vm.findClass RX7 = some m.cls := findClass_of_methodNamed B.named
  have hlocks := B.notSynchronized
  subst hsz
  have hD := hD0.self (sz := s.heap.size)
  generalize hAe : va_A [(t0, .inr (7, [.ref tb, .int 8, .int 0, .int ((-1))])), (tb, .inl (ctb, 400, .inl f))] s.heap.size = A at hD hA0 ⊢
  have hA : ∀ q : Nat, s.heap.size ≤ q → A q := fun q h => by rw [← hAe]; exact Or.inr h
  have hS : va_S A s.heap s.heap [] := va_S.rf
  have hl := lv_entry ([.ref t0, .int x]) (n := 3) (Nat.le_of_ble_eq_true rfl)
  rw [lg_entry_eq]
  generalize (lg_sl ([.ref t0, .int x]) ++ List.replicate (3 - (lg_sl ([.ref t0, .int x])).length) Slot.unset).toArray = ls at hl ⊢
  have hl : lv_has ls 3 [(0, .ref t0), (1, .int x)] := hl
  have hP : va_P (dC, dI) vwCl [(t0, .inr (7, [.ref tb, .int 8, .int 0, .int ((-1))])), (tb, .inl (ctb, 400, .inl f))] s.heap := hP
  have hiX7 : ∀ w ∈ u_ws RX7 TX7 4, w ∈ wsX7_put := fun _ h => List.mem_cons_of_mem _ (List.mem_append_right _ h)
  have hw1 := hts (.fieldLink RX7 19 "PostHouse$Tape" "length" "I") (by decide +kernel)
  have hw2 := hts (.fieldLink RX7 11 "PostHouse$Tape" "bytes" "[B") (by decide +kernel)
  refine lv_bipush (v := 24) hx hb dX7_put_0 (by decide) ?_
  refine lv_istore_n (lv' := [(2, .int 24), (0, .ref t0), (1, .int x)]) hx hb dX7_put_2 rfl hl (by decide) rfl (fun ls hl => ?_)
  refine lv_iload_n hx hb dX7_put_3 rfl (lv_at hl 0 rfl) ?_
  refine lv_if_lt (tgt := 46) hx hb dX7_put_4 (by decide) (fun c1 => absurd c1 (by decide)) (fun c1 => ?_)
  refine lv_aload_n hx hb dX7_put_7 rfl (lv_at hl 1 rfl) ?_
  refine va_get (D := (dC, dI)) (ci := 7) (v := .int 8) (C := RX7) (T := TX7) (N := 4) hx hb hts hiX7 hown hK hP 0 rfl rfl 1 (by decide) hw1 (fun _ h9 => h9) rfl dX7_put_8 ?_
  refine lv_sipush (v := 400) hx hb dX7_put_11 (by decide) ?_
  refine lv_icmp_ge (tgt := 46) hx hb dX7_put_14 (by decide) (fun c2 => absurd c2 (by decide)) (fun c2 => ?_)
  refine lv_aload_n hx hb dX7_put_17 rfl (lv_at hl 1 rfl) ?_
  refine va_get (D := (dC, dI)) (ci := 7) (v := .ref tb) (C := RX7) (T := TX7) (N := 4) hx hb hts hiX7 hown hK hP 0 rfl rfl 0 (by decide) hw2 (fun _ h9 => h9) rfl dX7_put_18 ?_
  refine lv_aload_n hx hb dX7_put_21 rfl (lv_at hl 1 rfl) ?_
  refine va_get (D := (dC, dI)) (ci := 7) (v := .int 8) (C := RX7) (T := TX7) (N := 4) hx hb hts hiX7 hown hK hP 0 rfl rfl 1 (by decide) hw1 (fun _ h9 => h9) rfl dX7_put_22 ?_
  refine lv_iload_n hx hb dX7_put_25 rfl (lv_at hl 2 rfl) ?_
  refine lv_iload_n hx hb dX7_put_26 rfl (lv_at hl 0 rfl) ?_
  refine lv_ishr hx hb dX7_put_27 ?_
  refine lv_topi (fun v3 ev3 => ?_)
  refine lv_i2b hx hb dX7_put_28 rfl ?_
  refine lv_topi (fun v5 ev5 => ?_)
  refine va_bast (D := (dC, dI)) hx hb hK hP hD hS 1 0 rfl rfl (zIn (by decide) (by decide)) dX7_put_29 (fun H locs hP hD hS => ?_)
  have hP : va_P (dC, dI) vwCl [(t0, .inr (7, [.ref tb, .int 8, .int 0, .int ((-1))])), (tb, .inl (ctb, 400, .inl (upd f (8 : Int32).toNatClampNeg (vp_nar .byte v5))))] H := hP
  have hD : va_D A [(t0, .inr (7, [.ref tb, .int 8, .int 0, .int ((-1))])), (tb, .inl (ctb, 400, .inl (upd f (8 : Int32).toNatClampNeg (vp_nar .byte v5))))] := hD
  generalize (upd f (8 : Int32).toNatClampNeg (vp_nar .byte v5)) = f6 at hP hD
  refine lv_aload_n hx hb dX7_put_30 rfl (lv_at hl 1 rfl) ?_
  refine lv_dup hx hb dX7_put_31 rfl ?_
  refine va_get (D := (dC, dI)) (ci := 7) (v := .int 8) (C := RX7) (T := TX7) (N := 4) hx hb hts hiX7 hown hK hP 0 rfl rfl 1 (by decide) hw1 (fun _ h9 => h9) rfl dX7_put_32 ?_
  refine lv_iconst (v := 1) hx hb dX7_put_35 (by decide) ?_
  refine lv_iadd hx hb dX7_put_36 ?_
  refine lv_topi (fun v7 ev7 => ?_)
  obtain rfl : v7 = 9 := ev7.trans (by decide)
  refine va_put (D := (dC, dI)) (ci := 7) (v := .int 9) (ty := .int) (C := RX7) (T := TX7) (N := 4) hx hb hts hiX7 tyX7 tyX7_ok nmX7 hown hK hP hD hS 0 rfl rfl 1 (by decide) hw1 (fun _ h9 => h9) rfl (by decide +kernel) rfl rfl (Nat.le_of_ble_eq_true rfl) dX7_put_37 (fun H locs hP hD hS => ?_)
  have hP : va_P (dC, dI) vwCl [(t0, .inr (7, [.ref tb, .int 9, .int 0, .int ((-1))])), (tb, .inl (ctb, 400, .inl f6))] H := hP
  have hD : va_D A [(t0, .inr (7, [.ref tb, .int 9, .int 0, .int ((-1))])), (tb, .inl (ctb, 400, .inl f6))] := hD
  refine lv_iinc (v := 16) (lv' := [(2, .int 16), (0, .ref t0), (1, .int x)]) hx hb dX7_put_40 hl (k := 0) rfl (by decide) (by decide) rfl (fun ls hl => ?_)
  refine lv_goto (tgt := 3) hx hb dX7_put_43 (by decide) ?_
  refine lv_iload_n hx hb dX7_put_3 rfl (lv_at hl 0 rfl) ?_
  refine lv_if_lt (tgt := 46) hx hb dX7_put_4 (by decide) (fun c8 => absurd c8 (by decide)) (fun c8 => ?_)
  refine lv_aload_n hx hb dX7_put_7 rfl (lv_at hl 1 rfl) ?_
  refine va_get (D := (dC, dI)) (ci := 7) (v := .int 9) (C := RX7) (T := TX7) (N := 4) hx hb hts hiX7 hown hK hP 0 rfl rfl 1 (by decide) hw1 (fun _ h9 => h9) rfl dX7_put_8 ?_
  refine lv_sipush (v := 400) hx hb dX7_put_11 (by decide) ?_
  refine lv_icmp_ge (tgt := 46) hx hb dX7_put_14 (by decide) (fun c9 => absurd c9 (by decide)) (fun c9 => ?_)
  refine lv_aload_n hx hb dX7_put_17 rfl (lv_at hl 1 rfl) ?_
  refine va_get (D := (dC, dI)) (ci := 7) (v := .ref tb) (C := RX7) (T := TX7) (N := 4) hx hb hts hiX7 hown hK hP 0 rfl rfl 0 (by decide) hw2 (fun _ h9 => h9) rfl dX7_put_18 ?_
  refine lv_aload_n hx hb dX7_put_21 rfl (lv_at hl 1 rfl) ?_
  refine va_get (D := (dC, dI)) (ci := 7) (v := .int 9) (C := RX7) (T := TX7) (N := 4) hx hb hts hiX7 hown hK hP 0 rfl rfl 1 (by decide) hw1 (fun _ h9 => h9) rfl dX7_put_22 ?_
  refine lv_iload_n hx hb dX7_put_25 rfl (lv_at hl 2 rfl) ?_
  refine lv_iload_n hx hb dX7_put_26 rfl (lv_at hl 0 rfl) ?_
  refine lv_ishr hx hb dX7_put_27 ?_
  refine lv_topi (fun v10 ev10 => ?_)
  refine lv_i2b hx hb dX7_put_28 rfl ?_
  refine lv_topi (fun v12 ev12 => ?_)
  refine va_bast (D := (dC, dI)) hx hb hK hP hD hS 1 0 rfl rfl (zIn (by decide) (by decide)) dX7_put_29 (fun H locs hP hD hS => ?_)
  have hP : va_P (dC, dI) vwCl [(t0, .inr (7, [.ref tb, .int 9, .int 0, .int ((-1))])), (tb, .inl (ctb, 400, .inl (upd f6 (9 : Int32).toNatClampNeg (vp_nar .byte v12))))] H := hP
  have hD : va_D A [(t0, .inr (7, [.ref tb, .int 9, .int 0, .int ((-1))])), (tb, .inl (ctb, 400, .inl (upd f6 (9 : Int32).toNatClampNeg (vp_nar .byte v12))))] := hD
  generalize (upd f6 (9 : Int32).toNatClampNeg (vp_nar .byte v12)) = f13 at hP hD
  refine lv_aload_n hx hb dX7_put_30 rfl (lv_at hl 1 rfl) ?_
  refine lv_dup hx hb dX7_put_31 rfl ?_
  refine va_get (D := (dC, dI)) (ci := 7) (v := .int 9) (C := RX7) (T := TX7) (N := 4) hx hb hts hiX7 hown hK hP 0 rfl rfl 1 (by decide) hw1 (fun _ h9 => h9) rfl dX7_put_32 ?_
  refine lv_iconst (v := 1) hx hb dX7_put_35 (by decide) ?_
  refine lv_iadd hx hb dX7_put_36 ?_
  refine lv_topi (fun v14 ev14 => ?_)
  obtain rfl : v14 = 10 := ev14.trans (by decide)
  refine va_put (D := (dC, dI)) (ci := 7) (v := .int 10) (ty := .int) (C := RX7) (T := TX7) (N := 4) hx hb hts hiX7 tyX7 tyX7_ok nmX7 hown hK hP hD hS 0 rfl rfl 1 (by decide) hw1 (fun _ h9 => h9) rfl (by decide +kernel) rfl rfl (Nat.le_of_ble_eq_true rfl) dX7_put_37 (fun H locs hP hD hS => ?_)
  have hP : va_P (dC, dI) vwCl [(t0, .inr (7, [.ref tb, .int 10, .int 0, .int ((-1))])), (tb, .inl (ctb, 400, .inl f13))] H := hP
  have hD : va_D A [(t0, .inr (7, [.ref tb, .int 10, .int 0, .int ((-1))])), (tb, .inl (ctb, 400, .inl f13))] := hD
  refine lv_iinc (v := 8) (lv' := [(2, .int 8), (0, .ref t0), (1, .int x)]) hx hb dX7_put_40 hl (k := 0) rfl (by decide) (by decide) rfl (fun ls hl => ?_)
  refine lv_goto (tgt := 3) hx hb dX7_put_43 (by decide) ?_
  refine lv_iload_n hx hb dX7_put_3 rfl (lv_at hl 0 rfl) ?_
  refine lv_if_lt (tgt := 46) hx hb dX7_put_4 (by decide) (fun c15 => absurd c15 (by decide)) (fun c15 => ?_)
  refine lv_aload_n hx hb dX7_put_7 rfl (lv_at hl 1 rfl) ?_
  refine va_get (D := (dC, dI)) (ci := 7) (v := .int 10) (C := RX7) (T := TX7) (N := 4) hx hb hts hiX7 hown hK hP 0 rfl rfl 1 (by decide) hw1 (fun _ h9 => h9) rfl dX7_put_8 ?_
  refine lv_sipush (v := 400) hx hb dX7_put_11 (by decide) ?_
  refine lv_icmp_ge (tgt := 46) hx hb dX7_put_14 (by decide) (fun c16 => absurd c16 (by decide)) (fun c16 => ?_)
  refine lv_aload_n hx hb dX7_put_17 rfl (lv_at hl 1 rfl) ?_
  refine va_get (D := (dC, dI)) (ci := 7) (v := .ref tb) (C := RX7) (T := TX7) (N := 4) hx hb hts hiX7 hown hK hP 0 rfl rfl 0 (by decide) hw2 (fun _ h9 => h9) rfl dX7_put_18 ?_
  refine lv_aload_n hx hb dX7_put_21 rfl (lv_at hl 1 rfl) ?_
  refine va_get (D := (dC, dI)) (ci := 7) (v := .int 10) (C := RX7) (T := TX7) (N := 4) hx hb hts hiX7 hown hK hP 0 rfl rfl 1 (by decide) hw1 (fun _ h9 => h9) rfl dX7_put_22 ?_
  refine lv_iload_n hx hb dX7_put_25 rfl (lv_at hl 2 rfl) ?_
  refine lv_iload_n hx hb dX7_put_26 rfl (lv_at hl 0 rfl) ?_
  refine lv_ishr hx hb dX7_put_27 ?_
  refine lv_topi (fun v17 ev17 => ?_)
  refine lv_i2b hx hb dX7_put_28 rfl ?_
  refine lv_topi (fun v19 ev19 => ?_)
  refine va_bast (D := (dC, dI)) hx hb hK hP hD hS 1 0 rfl rfl (zIn (by decide) (by decide)) dX7_put_29 (fun H locs hP hD hS => ?_)
  have hP : va_P (dC, dI) vwCl [(t0, .inr (7, [.ref tb, .int 10, .int 0, .int ((-1))])), (tb, .inl (ctb, 400, .inl (upd f13 (10 : Int32).toNatClampNeg (vp_nar .byte v19))))] H := hP
  have hD : va_D A [(t0, .inr (7, [.ref tb, .int 10, .int 0, .int ((-1))])), (tb, .inl (ctb, 400, .inl (upd f13 (10 : Int32).toNatClampNeg (vp_nar .byte v19))))] := hD
  generalize (upd f13 (10 : Int32).toNatClampNeg (vp_nar .byte v19)) = f20 at hP hD
  refine lv_aload_n hx hb dX7_put_30 rfl (lv_at hl 1 rfl) ?_
  refine lv_dup hx hb dX7_put_31 rfl ?_
  refine va_get (D := (dC, dI)) (ci := 7) (v := .int 10) (C := RX7) (T := TX7) (N := 4) hx hb hts hiX7 hown hK hP 0 rfl rfl 1 (by decide) hw1 (fun _ h9 => h9) rfl dX7_put_32 ?_
  refine lv_iconst (v := 1) hx hb dX7_put_35 (by decide) ?_
  refine lv_iadd hx hb dX7_put_36 ?_
  refine lv_topi (fun v21 ev21 => ?_)
  obtain rfl : v21 = 11 := ev21.trans (by decide)
  refine va_put (D := (dC, dI)) (ci := 7) (v := .int 11) (ty := .int) (C := RX7) (T := TX7) (N := 4) hx hb hts hiX7 tyX7 tyX7_ok nmX7 hown hK hP hD hS 0 rfl rfl 1 (by decide) hw1 (fun _ h9 => h9) rfl (by decide +kernel) rfl rfl (Nat.le_of_ble_eq_true rfl) dX7_put_37 (fun H locs hP hD hS => ?_)
  have hP : va_P (dC, dI) vwCl [(t0, .inr (7, [.ref tb, .int 11, .int 0, .int ((-1))])), (tb, .inl (ctb, 400, .inl f20))] H := hP
  have hD : va_D A [(t0, .inr (7, [.ref tb, .int 11, .int 0, .int ((-1))])), (tb, .inl (ctb, 400, .inl f20))] := hD
  refine lv_iinc (v := 0) (lv' := [(2, .int 0), (0, .ref t0), (1, .int x)]) hx hb dX7_put_40 hl (k := 0) rfl (by decide) (by decide) rfl (fun ls hl => ?_)
  refine lv_goto (tgt := 3) hx hb dX7_put_43 (by decide) ?_
  refine lv_iload_n hx hb dX7_put_3 rfl (lv_at hl 0 rfl) ?_
  refine lv_if_lt (tgt := 46) hx hb dX7_put_4 (by decide) (fun c22 => absurd c22 (by decide)) (fun c22 => ?_)
  refine lv_aload_n hx hb dX7_put_7 rfl (lv_at hl 1 rfl) ?_
  refine va_get (D := (dC, dI)) (ci := 7) (v := .int 11) (C := RX7) (T := TX7) (N := 4) hx hb hts hiX7 hown hK hP 0 rfl rfl 1 (by decide) hw1 (fun _ h9 => h9) rfl dX7_put_8 ?_
  refine lv_sipush (v := 400) hx hb dX7_put_11 (by decide) ?_
  refine lv_icmp_ge (tgt := 46) hx hb dX7_put_14 (by decide) (fun c23 => absurd c23 (by decide)) (fun c23 => ?_)
  refine lv_aload_n hx hb dX7_put_17 rfl (lv_at hl 1 rfl) ?_
  refine va_get (D := (dC, dI)) (ci := 7) (v := .ref tb) (C := RX7) (T := TX7) (N := 4) hx hb hts hiX7 hown hK hP 0 rfl rfl 0 (by decide) hw2 (fun _ h9 => h9) rfl dX7_put_18 ?_
  refine lv_aload_n hx hb dX7_put_21 rfl (lv_at hl 1 rfl) ?_
  refine va_get (D := (dC, dI)) (ci := 7) (v := .int 11) (C := RX7) (T := TX7) (N := 4) hx hb hts hiX7 hown hK hP 0 rfl rfl 1 (by decide) hw1 (fun _ h9 => h9) rfl dX7_put_22 ?_
  refine lv_iload_n hx hb dX7_put_25 rfl (lv_at hl 2 rfl) ?_
  refine lv_iload_n hx hb dX7_put_26 rfl (lv_at hl 0 rfl) ?_
  refine lv_ishr hx hb dX7_put_27 ?_
  refine lv_topi (fun v24 ev24 => ?_)
  refine lv_i2b hx hb dX7_put_28 rfl ?_
  refine lv_topi (fun v26 ev26 => ?_)
  refine va_bast (D := (dC, dI)) hx hb hK hP hD hS 1 0 rfl rfl (zIn (by decide) (by decide)) dX7_put_29 (fun H locs hP hD hS => ?_)
  have hP : va_P (dC, dI) vwCl [(t0, .inr (7, [.ref tb, .int 11, .int 0, .int ((-1))])), (tb, .inl (ctb, 400, .inl (upd f20 (11 : Int32).toNatClampNeg (vp_nar .byte v26))))] H := hP
  have hD : va_D A [(t0, .inr (7, [.ref tb, .int 11, .int 0, .int ((-1))])), (tb, .inl (ctb, 400, .inl (upd f20 (11 : Int32).toNatClampNeg (vp_nar .byte v26))))] := hD
  generalize (upd f20 (11 : Int32).toNatClampNeg (vp_nar .byte v26)) = f27 at hP hD
  refine lv_aload_n hx hb dX7_put_30 rfl (lv_at hl 1 rfl) ?_
  refine lv_dup hx hb dX7_put_31 rfl ?_
  refine va_get (D := (dC, dI)) (ci := 7) (v := .int 11) (C := RX7) (T := TX7) (N := 4) hx hb hts hiX7 hown hK hP 0 rfl rfl 1 (by decide) hw1 (fun _ h9 => h9) rfl dX7_put_32 ?_
  refine lv_iconst (v := 1) hx hb dX7_put_35 (by decide) ?_
  refine lv_iadd hx hb dX7_put_36 ?_
  refine lv_topi (fun v28 ev28 => ?_)
  obtain rfl : v28 = 12 := ev28.trans (by decide)
  refine va_put (D := (dC, dI)) (ci := 7) (v := .int 12) (ty := .int) (C := RX7) (T := TX7) (N := 4) hx hb hts hiX7 tyX7 tyX7_ok nmX7 hown hK hP hD hS 0 rfl rfl 1 (by decide) hw1 (fun _ h9 => h9) rfl (by decide +kernel) rfl rfl (Nat.le_of_ble_eq_true rfl) dX7_put_37 (fun H locs hP hD hS => ?_)
  have hP : va_P (dC, dI) vwCl [(t0, .inr (7, [.ref tb, .int 12, .int 0, .int ((-1))])), (tb, .inl (ctb, 400, .inl f27))] H := hP
  have hD : va_D A [(t0, .inr (7, [.ref tb, .int 12, .int 0, .int ((-1))])), (tb, .inl (ctb, 400, .inl f27))] := hD
  refine lv_iinc (v := (-8)) (lv' := [(2, .int ((-8))), (0, .ref t0), (1, .int x)]) hx hb dX7_put_40 hl (k := 0) rfl (by decide) (by decide) rfl (fun ls hl => ?_)
  refine lv_goto (tgt := 3) hx hb dX7_put_43 (by decide) ?_
  refine lv_iload_n hx hb dX7_put_3 rfl (lv_at hl 0 rfl) ?_
  refine lv_if_lt (tgt := 46) hx hb dX7_put_4 (by decide) (fun c29 => ?_) (fun c29 => absurd (by decide) c29)
  have hP9 := hP.sub (ws' := [(t0, .inr (7, [.ref tb, .int 12, .int 0, .int ((-1))])), (tb, .inl (ctb, 400, .inl f27))]) [0, 1] rfl
  have hD9 := hD.sub (ws' := [(t0, .inr (7, [.ref tb, .int 12, .int 0, .int ((-1))])), (tb, .inl (ctb, 400, .inl f27))]) [0, 1] (by decide) rfl
  have hK9 := hK.sub (tys' := [(ctb, .byte)]) [0] rfl
  refine W.widen (k := 0) (n := 0) (by decide) (by decide) ?_
  exact W.vret hx hb hr (fun t ht hW => ⟨⟨(), rfl, trivial, ⟨f27, ⟨by rw [ht]; exact hP9, va_K.moved hW.alike hK9, hD9⟩⟩⟩, hS.F ht⟩) hS.2.2 dX7_put_46
set_option maxHeartbeats 4000000 in
set_option maxRecDepth 100000 in
/-- put at 12 -/
theorem c_put_12 (l : Launch) (hl0 : l.stackTraces = false) (dC : Nat → ClassId) (dI : Nat → Nat → Nat) (A0 : Nat → Prop) (ad : Nat → Nat) (sz : Nat) (t0 tb : Nat) (ctb : ClassId) (f : Nat → Int32) (x : Int32) (hA0 : ∀ q, va_A [(t0, .inr (7, [.ref tb, .int 12, .int 0, .int ((-1))])), (tb, .inl (ctb, 400, .inl f))] sz q → A0 q) : Met l yX7_put wsX7_put ({ frames := 0, cells := 0, slots := 0, locals := 0 }) (va_Pc [.ref t0, .int x] (zPc A0 ad (dC, dI) [(t0, .inr (7, [.ref tb, .int 12, .int 0, .int ((-1))])), (tb, .inl (ctb, 400, .inl f))] [(ctb, .byte)] sz)) (va_Qv (fun (_ : Unit) => True) (fun (_ : Unit) (t : State) => ∃ (f2 : Nat → Int32), zB (dC, dI) (va_A [(t0, .inr (7, [.ref tb, .int 12, .int 0, .int ((-1))])), (tb, .inl (ctb, 400, .inl f))] sz) [(t0, .inr (7, [.ref tb, .int 16, .int 0, .int ((-1))])), (tb, .inl (ctb, 400, .inl f2))] [(ctb, .byte)] t) (va_A [(t0, .inr (7, [.ref tb, .int 12, .int 0, .int ((-1))])), (tb, .inl (ctb, 400, .inl f))] sz)) 0 0 (va_A [(t0, .inr (7, [.ref tb, .int 12, .int 0, .int ((-1))])), (tb, .inl (ctb, 400, .inl f))] sz) := by
  refine Met.ofW (cc := cX7_put) (maxL := 3) (ret := none) (by decide) rfl ?_
  intro p e s m args below meth c s₁ B hml hv
  obtain ⟨rfl, hsz, hz, hP, hK, hD0⟩ := hv
  have hx := B.exec
  have hb := B.bytes
  have hr := B.returns
  have hts := atoms_spec (ws := wsX7_put) B.pre
  have hown : s.vm.findClass RX7 = some m.cls := findClass_of_methodNamed B.named
  have hlocks := B.notSynchronized
  subst hsz
  have hD := hD0.self (sz := s.heap.size)
  generalize hAe : va_A [(t0, .inr (7, [.ref tb, .int 12, .int 0, .int ((-1))])), (tb, .inl (ctb, 400, .inl f))] s.heap.size = A at hD hA0 ⊢
  have hA : ∀ q : Nat, s.heap.size ≤ q → A q := fun q h => by rw [← hAe]; exact Or.inr h
  have hS : va_S A s.heap s.heap [] := va_S.rf
  have hl := lv_entry ([.ref t0, .int x]) (n := 3) (Nat.le_of_ble_eq_true rfl)
  rw [lg_entry_eq]
  generalize (lg_sl ([.ref t0, .int x]) ++ List.replicate (3 - (lg_sl ([.ref t0, .int x])).length) Slot.unset).toArray = ls at hl ⊢
  have hl : lv_has ls 3 [(0, .ref t0), (1, .int x)] := hl
  have hP : va_P (dC, dI) vwCl [(t0, .inr (7, [.ref tb, .int 12, .int 0, .int ((-1))])), (tb, .inl (ctb, 400, .inl f))] s.heap := hP
  have hiX7 : ∀ w ∈ u_ws RX7 TX7 4, w ∈ wsX7_put := fun _ h => List.mem_cons_of_mem _ (List.mem_append_right _ h)
  have hw1 := hts (.fieldLink RX7 19 "PostHouse$Tape" "length" "I") (by decide +kernel)
  have hw2 := hts (.fieldLink RX7 11 "PostHouse$Tape" "bytes" "[B") (by decide +kernel)
  refine lv_bipush (v := 24) hx hb dX7_put_0 (by decide) ?_
  refine lv_istore_n (lv' := [(2, .int 24), (0, .ref t0), (1, .int x)]) hx hb dX7_put_2 rfl hl (by decide) rfl (fun ls hl => ?_)
  refine lv_iload_n hx hb dX7_put_3 rfl (lv_at hl 0 rfl) ?_
  refine lv_if_lt (tgt := 46) hx hb dX7_put_4 (by decide) (fun c1 => absurd c1 (by decide)) (fun c1 => ?_)
  refine lv_aload_n hx hb dX7_put_7 rfl (lv_at hl 1 rfl) ?_
  refine va_get (D := (dC, dI)) (ci := 7) (v := .int 12) (C := RX7) (T := TX7) (N := 4) hx hb hts hiX7 hown hK hP 0 rfl rfl 1 (by decide) hw1 (fun _ h9 => h9) rfl dX7_put_8 ?_
  refine lv_sipush (v := 400) hx hb dX7_put_11 (by decide) ?_
  refine lv_icmp_ge (tgt := 46) hx hb dX7_put_14 (by decide) (fun c2 => absurd c2 (by decide)) (fun c2 => ?_)
  refine lv_aload_n hx hb dX7_put_17 rfl (lv_at hl 1 rfl) ?_
  refine va_get (D := (dC, dI)) (ci := 7) (v := .ref tb) (C := RX7) (T := TX7) (N := 4) hx hb hts hiX7 hown hK hP 0 rfl rfl 0 (by decide) hw2 (fun _ h9 => h9) rfl dX7_put_18 ?_
  refine lv_aload_n hx hb dX7_put_21 rfl (lv_at hl 1 rfl) ?_
  refine va_get (D := (dC, dI)) (ci := 7) (v := .int 12) (C := RX7) (T := TX7) (N := 4) hx hb hts hiX7 hown hK hP 0 rfl rfl 1 (by decide) hw1 (fun _ h9 => h9) rfl dX7_put_22 ?_
  refine lv_iload_n hx hb dX7_put_25 rfl (lv_at hl 2 rfl) ?_
  refine lv_iload_n hx hb dX7_put_26 rfl (lv_at hl 0 rfl) ?_
  refine lv_ishr hx hb dX7_put_27 ?_
  refine lv_topi (fun v3 ev3 => ?_)
  refine lv_i2b hx hb dX7_put_28 rfl ?_
  refine lv_topi (fun v5 ev5 => ?_)
  refine va_bast (D := (dC, dI)) hx hb hK hP hD hS 1 0 rfl rfl (zIn (by decide) (by decide)) dX7_put_29 (fun H locs hP hD hS => ?_)
  have hP : va_P (dC, dI) vwCl [(t0, .inr (7, [.ref tb, .int 12, .int 0, .int ((-1))])), (tb, .inl (ctb, 400, .inl (upd f (12 : Int32).toNatClampNeg (vp_nar .byte v5))))] H := hP
  have hD : va_D A [(t0, .inr (7, [.ref tb, .int 12, .int 0, .int ((-1))])), (tb, .inl (ctb, 400, .inl (upd f (12 : Int32).toNatClampNeg (vp_nar .byte v5))))] := hD
  generalize (upd f (12 : Int32).toNatClampNeg (vp_nar .byte v5)) = f6 at hP hD
  refine lv_aload_n hx hb dX7_put_30 rfl (lv_at hl 1 rfl) ?_
  refine lv_dup hx hb dX7_put_31 rfl ?_
  refine va_get (D := (dC, dI)) (ci := 7) (v := .int 12) (C := RX7) (T := TX7) (N := 4) hx hb hts hiX7 hown hK hP 0 rfl rfl 1 (by decide) hw1 (fun _ h9 => h9) rfl dX7_put_32 ?_
  refine lv_iconst (v := 1) hx hb dX7_put_35 (by decide) ?_
  refine lv_iadd hx hb dX7_put_36 ?_
  refine lv_topi (fun v7 ev7 => ?_)
  obtain rfl : v7 = 13 := ev7.trans (by decide)
  refine va_put (D := (dC, dI)) (ci := 7) (v := .int 13) (ty := .int) (C := RX7) (T := TX7) (N := 4) hx hb hts hiX7 tyX7 tyX7_ok nmX7 hown hK hP hD hS 0 rfl rfl 1 (by decide) hw1 (fun _ h9 => h9) rfl (by decide +kernel) rfl rfl (Nat.le_of_ble_eq_true rfl) dX7_put_37 (fun H locs hP hD hS => ?_)
  have hP : va_P (dC, dI) vwCl [(t0, .inr (7, [.ref tb, .int 13, .int 0, .int ((-1))])), (tb, .inl (ctb, 400, .inl f6))] H := hP
  have hD : va_D A [(t0, .inr (7, [.ref tb, .int 13, .int 0, .int ((-1))])), (tb, .inl (ctb, 400, .inl f6))] := hD
  refine lv_iinc (v := 16) (lv' := [(2, .int 16), (0, .ref t0), (1, .int x)]) hx hb dX7_put_40 hl (k := 0) rfl (by decide) (by decide) rfl (fun ls hl => ?_)
  refine lv_goto (tgt := 3) hx hb dX7_put_43 (by decide) ?_
  refine lv_iload_n hx hb dX7_put_3 rfl (lv_at hl 0 rfl) ?_
  refine lv_if_lt (tgt := 46) hx hb dX7_put_4 (by decide) (fun c8 => absurd c8 (by decide)) (fun c8 => ?_)
  refine lv_aload_n hx hb dX7_put_7 rfl (lv_at hl 1 rfl) ?_
  refine va_get (D := (dC, dI)) (ci := 7) (v := .int 13) (C := RX7) (T := TX7) (N := 4) hx hb hts hiX7 hown hK hP 0 rfl rfl 1 (by decide) hw1 (fun _ h9 => h9) rfl dX7_put_8 ?_
  refine lv_sipush (v := 400) hx hb dX7_put_11 (by decide) ?_
  refine lv_icmp_ge (tgt := 46) hx hb dX7_put_14 (by decide) (fun c9 => absurd c9 (by decide)) (fun c9 => ?_)
  refine lv_aload_n hx hb dX7_put_17 rfl (lv_at hl 1 rfl) ?_
  refine va_get (D := (dC, dI)) (ci := 7) (v := .ref tb) (C := RX7) (T := TX7) (N := 4) hx hb hts hiX7 hown hK hP 0 rfl rfl 0 (by decide) hw2 (fun _ h9 => h9) rfl dX7_put_18 ?_
  refine lv_aload_n hx hb dX7_put_21 rfl (lv_at hl 1 rfl) ?_
  refine va_get (D := (dC, dI)) (ci := 7) (v := .int 13) (C := RX7) (T := TX7) (N := 4) hx hb hts hiX7 hown hK hP 0 rfl rfl 1 (by decide) hw1 (fun _ h9 => h9) rfl dX7_put_22 ?_
  refine lv_iload_n hx hb dX7_put_25 rfl (lv_at hl 2 rfl) ?_
  refine lv_iload_n hx hb dX7_put_26 rfl (lv_at hl 0 rfl) ?_
  refine lv_ishr hx hb dX7_put_27 ?_
  refine lv_topi (fun v10 ev10 => ?_)
  refine lv_i2b hx hb dX7_put_28 rfl ?_
  refine lv_topi (fun v12 ev12 => ?_)
  refine va_bast (D := (dC, dI)) hx hb hK hP hD hS 1 0 rfl rfl (zIn (by decide) (by decide)) dX7_put_29 (fun H locs hP hD hS => ?_)
  have hP : va_P (dC, dI) vwCl [(t0, .inr (7, [.ref tb, .int 13, .int 0, .int ((-1))])), (tb, .inl (ctb, 400, .inl (upd f6 (13 : Int32).toNatClampNeg (vp_nar .byte v12))))] H := hP
  have hD : va_D A [(t0, .inr (7, [.ref tb, .int 13, .int 0, .int ((-1))])), (tb, .inl (ctb, 400, .inl (upd f6 (13 : Int32).toNatClampNeg (vp_nar .byte v12))))] := hD
  generalize (upd f6 (13 : Int32).toNatClampNeg (vp_nar .byte v12)) = f13 at hP hD
  refine lv_aload_n hx hb dX7_put_30 rfl (lv_at hl 1 rfl) ?_
  refine lv_dup hx hb dX7_put_31 rfl ?_
  refine va_get (D := (dC, dI)) (ci := 7) (v := .int 13) (C := RX7) (T := TX7) (N := 4) hx hb hts hiX7 hown hK hP 0 rfl rfl 1 (by decide) hw1 (fun _ h9 => h9) rfl dX7_put_32 ?_
  refine lv_iconst (v := 1) hx hb dX7_put_35 (by decide) ?_
  refine lv_iadd hx hb dX7_put_36 ?_
  refine lv_topi (fun v14 ev14 => ?_)
  obtain rfl : v14 = 14 := ev14.trans (by decide)
  refine va_put (D := (dC, dI)) (ci := 7) (v := .int 14) (ty := .int) (C := RX7) (T := TX7) (N := 4) hx hb hts hiX7 tyX7 tyX7_ok nmX7 hown hK hP hD hS 0 rfl rfl 1 (by decide) hw1 (fun _ h9 => h9) rfl (by decide +kernel) rfl rfl (Nat.le_of_ble_eq_true rfl) dX7_put_37 (fun H locs hP hD hS => ?_)
  have hP : va_P (dC, dI) vwCl [(t0, .inr (7, [.ref tb, .int 14, .int 0, .int ((-1))])), (tb, .inl (ctb, 400, .inl f13))] H := hP
  have hD : va_D A [(t0, .inr (7, [.ref tb, .int 14, .int 0, .int ((-1))])), (tb, .inl (ctb, 400, .inl f13))] := hD
  refine lv_iinc (v := 8) (lv' := [(2, .int 8), (0, .ref t0), (1, .int x)]) hx hb dX7_put_40 hl (k := 0) rfl (by decide) (by decide) rfl (fun ls hl => ?_)
  refine lv_goto (tgt := 3) hx hb dX7_put_43 (by decide) ?_
  refine lv_iload_n hx hb dX7_put_3 rfl (lv_at hl 0 rfl) ?_
  refine lv_if_lt (tgt := 46) hx hb dX7_put_4 (by decide) (fun c15 => absurd c15 (by decide)) (fun c15 => ?_)
  refine lv_aload_n hx hb dX7_put_7 rfl (lv_at hl 1 rfl) ?_
  refine va_get (D := (dC, dI)) (ci := 7) (v := .int 14) (C := RX7) (T := TX7) (N := 4) hx hb hts hiX7 hown hK hP 0 rfl rfl 1 (by decide) hw1 (fun _ h9 => h9) rfl dX7_put_8 ?_
  refine lv_sipush (v := 400) hx hb dX7_put_11 (by decide) ?_
  refine lv_icmp_ge (tgt := 46) hx hb dX7_put_14 (by decide) (fun c16 => absurd c16 (by decide)) (fun c16 => ?_)
  refine lv_aload_n hx hb dX7_put_17 rfl (lv_at hl 1 rfl) ?_
  refine va_get (D := (dC, dI)) (ci := 7) (v := .ref tb) (C := RX7) (T := TX7) (N := 4) hx hb hts hiX7 hown hK hP 0 rfl rfl 0 (by decide) hw2 (fun _ h9 => h9) rfl dX7_put_18 ?_
  refine lv_aload_n hx hb dX7_put_21 rfl (lv_at hl 1 rfl) ?_
  refine va_get (D := (dC, dI)) (ci := 7) (v := .int 14) (C := RX7) (T := TX7) (N := 4) hx hb hts hiX7 hown hK hP 0 rfl rfl 1 (by decide) hw1 (fun _ h9 => h9) rfl dX7_put_22 ?_
  refine lv_iload_n hx hb dX7_put_25 rfl (lv_at hl 2 rfl) ?_
  refine lv_iload_n hx hb dX7_put_26 rfl (lv_at hl 0 rfl) ?_
  refine lv_ishr hx hb dX7_put_27 ?_
  refine lv_topi (fun v17 ev17 => ?_)
  refine lv_i2b hx hb dX7_put_28 rfl ?_
  refine lv_topi (fun v19 ev19 => ?_)
  refine va_bast (D := (dC, dI)) hx hb hK hP hD hS 1 0 rfl rfl (zIn (by decide) (by decide)) dX7_put_29 (fun H locs hP hD hS => ?_)
  have hP : va_P (dC, dI) vwCl [(t0, .inr (7, [.ref tb, .int 14, .int 0, .int ((-1))])), (tb, .inl (ctb, 400, .inl (upd f13 (14 : Int32).toNatClampNeg (vp_nar .byte v19))))] H := hP
  have hD : va_D A [(t0, .inr (7, [.ref tb, .int 14, .int 0, .int ((-1))])), (tb, .inl (ctb, 400, .inl (upd f13 (14 : Int32).toNatClampNeg (vp_nar .byte v19))))] := hD
  generalize (upd f13 (14 : Int32).toNatClampNeg (vp_nar .byte v19)) = f20 at hP hD
  refine lv_aload_n hx hb dX7_put_30 rfl (lv_at hl 1 rfl) ?_
  refine lv_dup hx hb dX7_put_31 rfl ?_
  refine va_get (D := (dC, dI)) (ci := 7) (v := .int 14) (C := RX7) (T := TX7) (N := 4) hx hb hts hiX7 hown hK hP 0 rfl rfl 1 (by decide) hw1 (fun _ h9 => h9) rfl dX7_put_32 ?_
  refine lv_iconst (v := 1) hx hb dX7_put_35 (by decide) ?_
  refine lv_iadd hx hb dX7_put_36 ?_
  refine lv_topi (fun v21 ev21 => ?_)
  obtain rfl : v21 = 15 := ev21.trans (by decide)
  refine va_put (D := (dC, dI)) (ci := 7) (v := .int 15) (ty := .int) (C := RX7) (T := TX7) (N := 4) hx hb hts hiX7 tyX7 tyX7_ok nmX7 hown hK hP hD hS 0 rfl rfl 1 (by decide) hw1 (fun _ h9 => h9) rfl (by decide +kernel) rfl rfl (Nat.le_of_ble_eq_true rfl) dX7_put_37 (fun H locs hP hD hS => ?_)
  have hP : va_P (dC, dI) vwCl [(t0, .inr (7, [.ref tb, .int 15, .int 0, .int ((-1))])), (tb, .inl (ctb, 400, .inl f20))] H := hP
  have hD : va_D A [(t0, .inr (7, [.ref tb, .int 15, .int 0, .int ((-1))])), (tb, .inl (ctb, 400, .inl f20))] := hD
  refine lv_iinc (v := 0) (lv' := [(2, .int 0), (0, .ref t0), (1, .int x)]) hx hb dX7_put_40 hl (k := 0) rfl (by decide) (by decide) rfl (fun ls hl => ?_)
  refine lv_goto (tgt := 3) hx hb dX7_put_43 (by decide) ?_
  refine lv_iload_n hx hb dX7_put_3 rfl (lv_at hl 0 rfl) ?_
  refine lv_if_lt (tgt := 46) hx hb dX7_put_4 (by decide) (fun c22 => absurd c22 (by decide)) (fun c22 => ?_)
  refine lv_aload_n hx hb dX7_put_7 rfl (lv_at hl 1 rfl) ?_
  refine va_get (D := (dC, dI)) (ci := 7) (v := .int 15) (C := RX7) (T := TX7) (N := 4) hx hb hts hiX7 hown hK hP 0 rfl rfl 1 (by decide) hw1 (fun _ h9 => h9) rfl dX7_put_8 ?_
  refine lv_sipush (v := 400) hx hb dX7_put_11 (by decide) ?_
  refine lv_icmp_ge (tgt := 46) hx hb dX7_put_14 (by decide) (fun c23 => absurd c23 (by decide)) (fun c23 => ?_)
  refine lv_aload_n hx hb dX7_put_17 rfl (lv_at hl 1 rfl) ?_
  refine va_get (D := (dC, dI)) (ci := 7) (v := .ref tb) (C := RX7) (T := TX7) (N := 4) hx hb hts hiX7 hown hK hP 0 rfl rfl 0 (by decide) hw2 (fun _ h9 => h9) rfl dX7_put_18 ?_
  refine lv_aload_n hx hb dX7_put_21 rfl (lv_at hl 1 rfl) ?_
  refine va_get (D := (dC, dI)) (ci := 7) (v := .int 15) (C := RX7) (T := TX7) (N := 4) hx hb hts hiX7 hown hK hP 0 rfl rfl 1 (by decide) hw1 (fun _ h9 => h9) rfl dX7_put_22 ?_
  refine lv_iload_n hx hb dX7_put_25 rfl (lv_at hl 2 rfl) ?_
  refine lv_iload_n hx hb dX7_put_26 rfl (lv_at hl 0 rfl) ?_
  refine lv_ishr hx hb dX7_put_27 ?_
  refine lv_topi (fun v24 ev24 => ?_)
  refine lv_i2b hx hb dX7_put_28 rfl ?_
  refine lv_topi (fun v26 ev26 => ?_)
  refine va_bast (D := (dC, dI)) hx hb hK hP hD hS 1 0 rfl rfl (zIn (by decide) (by decide)) dX7_put_29 (fun H locs hP hD hS => ?_)
  have hP : va_P (dC, dI) vwCl [(t0, .inr (7, [.ref tb, .int 15, .int 0, .int ((-1))])), (tb, .inl (ctb, 400, .inl (upd f20 (15 : Int32).toNatClampNeg (vp_nar .byte v26))))] H := hP
  have hD : va_D A [(t0, .inr (7, [.ref tb, .int 15, .int 0, .int ((-1))])), (tb, .inl (ctb, 400, .inl (upd f20 (15 : Int32).toNatClampNeg (vp_nar .byte v26))))] := hD
  generalize (upd f20 (15 : Int32).toNatClampNeg (vp_nar .byte v26)) = f27 at hP hD
  refine lv_aload_n hx hb dX7_put_30 rfl (lv_at hl 1 rfl) ?_
  refine lv_dup hx hb dX7_put_31 rfl ?_
  refine va_get (D := (dC, dI)) (ci := 7) (v := .int 15) (C := RX7) (T := TX7) (N := 4) hx hb hts hiX7 hown hK hP 0 rfl rfl 1 (by decide) hw1 (fun _ h9 => h9) rfl dX7_put_32 ?_
  refine lv_iconst (v := 1) hx hb dX7_put_35 (by decide) ?_
  refine lv_iadd hx hb dX7_put_36 ?_
  refine lv_topi (fun v28 ev28 => ?_)
  obtain rfl : v28 = 16 := ev28.trans (by decide)
  refine va_put (D := (dC, dI)) (ci := 7) (v := .int 16) (ty := .int) (C := RX7) (T := TX7) (N := 4) hx hb hts hiX7 tyX7 tyX7_ok nmX7 hown hK hP hD hS 0 rfl rfl 1 (by decide) hw1 (fun _ h9 => h9) rfl (by decide +kernel) rfl rfl (Nat.le_of_ble_eq_true rfl) dX7_put_37 (fun H locs hP hD hS => ?_)
  have hP : va_P (dC, dI) vwCl [(t0, .inr (7, [.ref tb, .int 16, .int 0, .int ((-1))])), (tb, .inl (ctb, 400, .inl f27))] H := hP
  have hD : va_D A [(t0, .inr (7, [.ref tb, .int 16, .int 0, .int ((-1))])), (tb, .inl (ctb, 400, .inl f27))] := hD
  refine lv_iinc (v := (-8)) (lv' := [(2, .int ((-8))), (0, .ref t0), (1, .int x)]) hx hb dX7_put_40 hl (k := 0) rfl (by decide) (by decide) rfl (fun ls hl => ?_)
  refine lv_goto (tgt := 3) hx hb dX7_put_43 (by decide) ?_
  refine lv_iload_n hx hb dX7_put_3 rfl (lv_at hl 0 rfl) ?_
  refine lv_if_lt (tgt := 46) hx hb dX7_put_4 (by decide) (fun c29 => ?_) (fun c29 => absurd (by decide) c29)
  have hP9 := hP.sub (ws' := [(t0, .inr (7, [.ref tb, .int 16, .int 0, .int ((-1))])), (tb, .inl (ctb, 400, .inl f27))]) [0, 1] rfl
  have hD9 := hD.sub (ws' := [(t0, .inr (7, [.ref tb, .int 16, .int 0, .int ((-1))])), (tb, .inl (ctb, 400, .inl f27))]) [0, 1] (by decide) rfl
  have hK9 := hK.sub (tys' := [(ctb, .byte)]) [0] rfl
  refine W.widen (k := 0) (n := 0) (by decide) (by decide) ?_
  exact W.vret hx hb hr (fun t ht hW => ⟨⟨(), rfl, trivial, ⟨f27, ⟨by rw [ht]; exact hP9, va_K.moved hW.alike hK9, hD9⟩⟩⟩, hS.F ht⟩) hS.2.2 dX7_put_46
set_option maxHeartbeats 4000000 in
set_option maxRecDepth 100000 in
/-- put at 16 -/
theorem c_put_16 (l : Launch) (hl0 : l.stackTraces = false) (dC : Nat → ClassId) (dI : Nat → Nat → Nat) (A0 : Nat → Prop) (ad : Nat → Nat) (sz : Nat) (t0 tb : Nat) (ctb : ClassId) (f : Nat → Int32) (x : Int32) (hA0 : ∀ q, va_A [(t0, .inr (7, [.ref tb, .int 16, .int 0, .int ((-1))])), (tb, .inl (ctb, 400, .inl f))] sz q → A0 q) : Met l yX7_put wsX7_put ({ frames := 0, cells := 0, slots := 0, locals := 0 }) (va_Pc [.ref t0, .int x] (zPc A0 ad (dC, dI) [(t0, .inr (7, [.ref tb, .int 16, .int 0, .int ((-1))])), (tb, .inl (ctb, 400, .inl f))] [(ctb, .byte)] sz)) (va_Qv (fun (_ : Unit) => True) (fun (_ : Unit) (t : State) => ∃ (f2 : Nat → Int32), zB (dC, dI) (va_A [(t0, .inr (7, [.ref tb, .int 16, .int 0, .int ((-1))])), (tb, .inl (ctb, 400, .inl f))] sz) [(t0, .inr (7, [.ref tb, .int 20, .int 0, .int ((-1))])), (tb, .inl (ctb, 400, .inl f2))] [(ctb, .byte)] t) (va_A [(t0, .inr (7, [.ref tb, .int 16, .int 0, .int ((-1))])), (tb, .inl (ctb, 400, .inl f))] sz)) 0 0 (va_A [(t0, .inr (7, [.ref tb, .int 16, .int 0, .int ((-1))])), (tb, .inl (ctb, 400, .inl f))] sz) := by
  refine Met.ofW (cc := cX7_put) (maxL := 3) (ret := none) (by decide) rfl ?_
  intro p e s m args below meth c s₁ B hml hv
  obtain ⟨rfl, hsz, hz, hP, hK, hD0⟩ := hv
  have hx := B.exec
  have hb := B.bytes
  have hr := B.returns
  have hts := atoms_spec (ws := wsX7_put) B.pre
  have hown : s.vm.findClass RX7 = some m.cls := findClass_of_methodNamed B.named
  have hlocks := B.notSynchronized
  subst hsz
  have hD := hD0.self (sz := s.heap.size)
  generalize hAe : va_A [(t0, .inr (7, [.ref tb, .int 16, .int 0, .int ((-1))])), (tb, .inl (ctb, 400, .inl f))] s.heap.size = A at hD hA0 ⊢
  have hA : ∀ q : Nat, s.heap.size ≤ q → A q := fun q h => by rw [← hAe]; exact Or.inr h
  have hS : va_S A s.heap s.heap [] := va_S.rf
  have hl := lv_entry ([.ref t0, .int x]) (n := 3) (Nat.le_of_ble_eq_true rfl)
  rw [lg_entry_eq]
  generalize (lg_sl ([.ref t0, .int x]) ++ List.replicate (3 - (lg_sl ([.ref t0, .int x])).length) Slot.unset).toArray = ls at hl ⊢
  have hl : lv_has ls 3 [(0, .ref t0), (1, .int x)] := hl
  have hP : va_P (dC, dI) vwCl [(t0, .inr (7, [.ref tb, .int 16, .int 0, .int ((-1))])), (tb, .inl (ctb, 400, .inl f))] s.heap := hP
  have hiX7 : ∀ w ∈ u_ws RX7 TX7 4, w ∈ wsX7_put := fun _ h => List.mem_cons_of_mem _ (List.mem_append_right _ h)
  have hw1 := hts (.fieldLink RX7 19 "PostHouse$Tape" "length" "I") (by decide +kernel)
  have hw2 := hts (.fieldLink RX7 11 "PostHouse$Tape" "bytes" "[B") (by decide +kernel)
  refine lv_bipush (v := 24) hx hb dX7_put_0 (by decide) ?_
  refine lv_istore_n (lv' := [(2, .int 24), (0, .ref t0), (1, .int x)]) hx hb dX7_put_2 rfl hl (by decide) rfl (fun ls hl => ?_)
  refine lv_iload_n hx hb dX7_put_3 rfl (lv_at hl 0 rfl) ?_
  refine lv_if_lt (tgt := 46) hx hb dX7_put_4 (by decide) (fun c1 => absurd c1 (by decide)) (fun c1 => ?_)
  refine lv_aload_n hx hb dX7_put_7 rfl (lv_at hl 1 rfl) ?_
  refine va_get (D := (dC, dI)) (ci := 7) (v := .int 16) (C := RX7) (T := TX7) (N := 4) hx hb hts hiX7 hown hK hP 0 rfl rfl 1 (by decide) hw1 (fun _ h9 => h9) rfl dX7_put_8 ?_
  refine lv_sipush (v := 400) hx hb dX7_put_11 (by decide) ?_
  refine lv_icmp_ge (tgt := 46) hx hb dX7_put_14 (by decide) (fun c2 => absurd c2 (by decide)) (fun c2 => ?_)
  refine lv_aload_n hx hb dX7_put_17 rfl (lv_at hl 1 rfl) ?_
  refine va_get (D := (dC, dI)) (ci := 7) (v := .ref tb) (C := RX7) (T := TX7) (N := 4) hx hb hts hiX7 hown hK hP 0 rfl rfl 0 (by decide) hw2 (fun _ h9 => h9) rfl dX7_put_18 ?_
  refine lv_aload_n hx hb dX7_put_21 rfl (lv_at hl 1 rfl) ?_
  refine va_get (D := (dC, dI)) (ci := 7) (v := .int 16) (C := RX7) (T := TX7) (N := 4) hx hb hts hiX7 hown hK hP 0 rfl rfl 1 (by decide) hw1 (fun _ h9 => h9) rfl dX7_put_22 ?_
  refine lv_iload_n hx hb dX7_put_25 rfl (lv_at hl 2 rfl) ?_
  refine lv_iload_n hx hb dX7_put_26 rfl (lv_at hl 0 rfl) ?_
  refine lv_ishr hx hb dX7_put_27 ?_
  refine lv_topi (fun v3 ev3 => ?_)
  refine lv_i2b hx hb dX7_put_28 rfl ?_
  refine lv_topi (fun v5 ev5 => ?_)
  refine va_bast (D := (dC, dI)) hx hb hK hP hD hS 1 0 rfl rfl (zIn (by decide) (by decide)) dX7_put_29 (fun H locs hP hD hS => ?_)
  have hP : va_P (dC, dI) vwCl [(t0, .inr (7, [.ref tb, .int 16, .int 0, .int ((-1))])), (tb, .inl (ctb, 400, .inl (upd f (16 : Int32).toNatClampNeg (vp_nar .byte v5))))] H := hP
  have hD : va_D A [(t0, .inr (7, [.ref tb, .int 16, .int 0, .int ((-1))])), (tb, .inl (ctb, 400, .inl (upd f (16 : Int32).toNatClampNeg (vp_nar .byte v5))))] := hD
  generalize (upd f (16 : Int32).toNatClampNeg (vp_nar .byte v5)) = f6 at hP hD
  refine lv_aload_n hx hb dX7_put_30 rfl (lv_at hl 1 rfl) ?_
  refine lv_dup hx hb dX7_put_31 rfl ?_
  refine va_get (D := (dC, dI)) (ci := 7) (v := .int 16) (C := RX7) (T := TX7) (N := 4) hx hb hts hiX7 hown hK hP 0 rfl rfl 1 (by decide) hw1 (fun _ h9 => h9) rfl dX7_put_32 ?_
  refine lv_iconst (v := 1) hx hb dX7_put_35 (by decide) ?_
  refine lv_iadd hx hb dX7_put_36 ?_
  refine lv_topi (fun v7 ev7 => ?_)
  obtain rfl : v7 = 17 := ev7.trans (by decide)
  refine va_put (D := (dC, dI)) (ci := 7) (v := .int 17) (ty := .int) (C := RX7) (T := TX7) (N := 4) hx hb hts hiX7 tyX7 tyX7_ok nmX7 hown hK hP hD hS 0 rfl rfl 1 (by decide) hw1 (fun _ h9 => h9) rfl (by decide +kernel) rfl rfl (Nat.le_of_ble_eq_true rfl) dX7_put_37 (fun H locs hP hD hS => ?_)
  have hP : va_P (dC, dI) vwCl [(t0, .inr (7, [.ref tb, .int 17, .int 0, .int ((-1))])), (tb, .inl (ctb, 400, .inl f6))] H := hP
  have hD : va_D A [(t0, .inr (7, [.ref tb, .int 17, .int 0, .int ((-1))])), (tb, .inl (ctb, 400, .inl f6))] := hD
  refine lv_iinc (v := 16) (lv' := [(2, .int 16), (0, .ref t0), (1, .int x)]) hx hb dX7_put_40 hl (k := 0) rfl (by decide) (by decide) rfl (fun ls hl => ?_)
  refine lv_goto (tgt := 3) hx hb dX7_put_43 (by decide) ?_
  refine lv_iload_n hx hb dX7_put_3 rfl (lv_at hl 0 rfl) ?_
  refine lv_if_lt (tgt := 46) hx hb dX7_put_4 (by decide) (fun c8 => absurd c8 (by decide)) (fun c8 => ?_)
  refine lv_aload_n hx hb dX7_put_7 rfl (lv_at hl 1 rfl) ?_
  refine va_get (D := (dC, dI)) (ci := 7) (v := .int 17) (C := RX7) (T := TX7) (N := 4) hx hb hts hiX7 hown hK hP 0 rfl rfl 1 (by decide) hw1 (fun _ h9 => h9) rfl dX7_put_8 ?_
  refine lv_sipush (v := 400) hx hb dX7_put_11 (by decide) ?_
  refine lv_icmp_ge (tgt := 46) hx hb dX7_put_14 (by decide) (fun c9 => absurd c9 (by decide)) (fun c9 => ?_)
  refine lv_aload_n hx hb dX7_put_17 rfl (lv_at hl 1 rfl) ?_
  refine va_get (D := (dC, dI)) (ci := 7) (v := .ref tb) (C := RX7) (T := TX7) (N := 4) hx hb hts hiX7 hown hK hP 0 rfl rfl 0 (by decide) hw2 (fun _ h9 => h9) rfl dX7_put_18 ?_
  refine lv_aload_n hx hb dX7_put_21 rfl (lv_at hl 1 rfl) ?_
  refine va_get (D := (dC, dI)) (ci := 7) (v := .int 17) (C := RX7) (T := TX7) (N := 4) hx hb hts hiX7 hown hK hP 0 rfl rfl 1 (by decide) hw1 (fun _ h9 => h9) rfl dX7_put_22 ?_
  refine lv_iload_n hx hb dX7_put_25 rfl (lv_at hl 2 rfl) ?_
  refine lv_iload_n hx hb dX7_put_26 rfl (lv_at hl 0 rfl) ?_
  refine lv_ishr hx hb dX7_put_27 ?_
  refine lv_topi (fun v10 ev10 => ?_)
  refine lv_i2b hx hb dX7_put_28 rfl ?_
  refine lv_topi (fun v12 ev12 => ?_)
  refine va_bast (D := (dC, dI)) hx hb hK hP hD hS 1 0 rfl rfl (zIn (by decide) (by decide)) dX7_put_29 (fun H locs hP hD hS => ?_)
  have hP : va_P (dC, dI) vwCl [(t0, .inr (7, [.ref tb, .int 17, .int 0, .int ((-1))])), (tb, .inl (ctb, 400, .inl (upd f6 (17 : Int32).toNatClampNeg (vp_nar .byte v12))))] H := hP
  have hD : va_D A [(t0, .inr (7, [.ref tb, .int 17, .int 0, .int ((-1))])), (tb, .inl (ctb, 400, .inl (upd f6 (17 : Int32).toNatClampNeg (vp_nar .byte v12))))] := hD
  generalize (upd f6 (17 : Int32).toNatClampNeg (vp_nar .byte v12)) = f13 at hP hD
  refine lv_aload_n hx hb dX7_put_30 rfl (lv_at hl 1 rfl) ?_
  refine lv_dup hx hb dX7_put_31 rfl ?_
  refine va_get (D := (dC, dI)) (ci := 7) (v := .int 17) (C := RX7) (T := TX7) (N := 4) hx hb hts hiX7 hown hK hP 0 rfl rfl 1 (by decide) hw1 (fun _ h9 => h9) rfl dX7_put_32 ?_
  refine lv_iconst (v := 1) hx hb dX7_put_35 (by decide) ?_
  refine lv_iadd hx hb dX7_put_36 ?_
  refine lv_topi (fun v14 ev14 => ?_)
  obtain rfl : v14 = 18 := ev14.trans (by decide)
  refine va_put (D := (dC, dI)) (ci := 7) (v := .int 18) (ty := .int) (C := RX7) (T := TX7) (N := 4) hx hb hts hiX7 tyX7 tyX7_ok nmX7 hown hK hP hD hS 0 rfl rfl 1 (by decide) hw1 (fun _ h9 => h9) rfl (by decide +kernel) rfl rfl (Nat.le_of_ble_eq_true rfl) dX7_put_37 (fun H locs hP hD hS => ?_)
  have hP : va_P (dC, dI) vwCl [(t0, .inr (7, [.ref tb, .int 18, .int 0, .int ((-1))])), (tb, .inl (ctb, 400, .inl f13))] H := hP
  have hD : va_D A [(t0, .inr (7, [.ref tb, .int 18, .int 0, .int ((-1))])), (tb, .inl (ctb, 400, .inl f13))] := hD
  refine lv_iinc (v := 8) (lv' := [(2, .int 8), (0, .ref t0), (1, .int x)]) hx hb dX7_put_40 hl (k := 0) rfl (by decide) (by decide) rfl (fun ls hl => ?_)
  refine lv_goto (tgt := 3) hx hb dX7_put_43 (by decide) ?_
  refine lv_iload_n hx hb dX7_put_3 rfl (lv_at hl 0 rfl) ?_
  refine lv_if_lt (tgt := 46) hx hb dX7_put_4 (by decide) (fun c15 => absurd c15 (by decide)) (fun c15 => ?_)
  refine lv_aload_n hx hb dX7_put_7 rfl (lv_at hl 1 rfl) ?_
  refine va_get (D := (dC, dI)) (ci := 7) (v := .int 18) (C := RX7) (T := TX7) (N := 4) hx hb hts hiX7 hown hK hP 0 rfl rfl 1 (by decide) hw1 (fun _ h9 => h9) rfl dX7_put_8 ?_
  refine lv_sipush (v := 400) hx hb dX7_put_11 (by decide) ?_
  refine lv_icmp_ge (tgt := 46) hx hb dX7_put_14 (by decide) (fun c16 => absurd c16 (by decide)) (fun c16 => ?_)
  refine lv_aload_n hx hb dX7_put_17 rfl (lv_at hl 1 rfl) ?_
  refine va_get (D := (dC, dI)) (ci := 7) (v := .ref tb) (C := RX7) (T := TX7) (N := 4) hx hb hts hiX7 hown hK hP 0 rfl rfl 0 (by decide) hw2 (fun _ h9 => h9) rfl dX7_put_18 ?_
  refine lv_aload_n hx hb dX7_put_21 rfl (lv_at hl 1 rfl) ?_
  refine va_get (D := (dC, dI)) (ci := 7) (v := .int 18) (C := RX7) (T := TX7) (N := 4) hx hb hts hiX7 hown hK hP 0 rfl rfl 1 (by decide) hw1 (fun _ h9 => h9) rfl dX7_put_22 ?_
  refine lv_iload_n hx hb dX7_put_25 rfl (lv_at hl 2 rfl) ?_
  refine lv_iload_n hx hb dX7_put_26 rfl (lv_at hl 0 rfl) ?_
  refine lv_ishr hx hb dX7_put_27 ?_
  refine lv_topi (fun v17 ev17 => ?_)
  refine lv_i2b hx hb dX7_put_28 rfl ?_
  refine lv_topi (fun v19 ev19 => ?_)
  refine va_bast (D := (dC, dI)) hx hb hK hP hD hS 1 0 rfl rfl (zIn (by decide) (by decide)) dX7_put_29 (fun H locs hP hD hS => ?_)
  have hP : va_P (dC, dI) vwCl [(t0, .inr (7, [.ref tb, .int 18, .int 0, .int ((-1))])), (tb, .inl (ctb, 400, .inl (upd f13 (18 : Int32).toNatClampNeg (vp_nar .byte v19))))] H := hP
  have hD : va_D A [(t0, .inr (7, [.ref tb, .int 18, .int 0, .int ((-1))])), (tb, .inl (ctb, 400, .inl (upd f13 (18 : Int32).toNatClampNeg (vp_nar .byte v19))))] := hD
  generalize (upd f13 (18 : Int32).toNatClampNeg (vp_nar .byte v19)) = f20 at hP hD
  refine lv_aload_n hx hb dX7_put_30 rfl (lv_at hl 1 rfl) ?_
  refine lv_dup hx hb dX7_put_31 rfl ?_
  refine va_get (D := (dC, dI)) (ci := 7) (v := .int 18) (C := RX7) (T := TX7) (N := 4) hx hb hts hiX7 hown hK hP 0 rfl rfl 1 (by decide) hw1 (fun _ h9 => h9) rfl dX7_put_32 ?_
  refine lv_iconst (v := 1) hx hb dX7_put_35 (by decide) ?_
  refine lv_iadd hx hb dX7_put_36 ?_
  refine lv_topi (fun v21 ev21 => ?_)
  obtain rfl : v21 = 19 := ev21.trans (by decide)
  refine va_put (D := (dC, dI)) (ci := 7) (v := .int 19) (ty := .int) (C := RX7) (T := TX7) (N := 4) hx hb hts hiX7 tyX7 tyX7_ok nmX7 hown hK hP hD hS 0 rfl rfl 1 (by decide) hw1 (fun _ h9 => h9) rfl (by decide +kernel) rfl rfl (Nat.le_of_ble_eq_true rfl) dX7_put_37 (fun H locs hP hD hS => ?_)
  have hP : va_P (dC, dI) vwCl [(t0, .inr (7, [.ref tb, .int 19, .int 0, .int ((-1))])), (tb, .inl (ctb, 400, .inl f20))] H := hP
  have hD : va_D A [(t0, .inr (7, [.ref tb, .int 19, .int 0, .int ((-1))])), (tb, .inl (ctb, 400, .inl f20))] := hD
  refine lv_iinc (v := 0) (lv' := [(2, .int 0), (0, .ref t0), (1, .int x)]) hx hb dX7_put_40 hl (k := 0) rfl (by decide) (by decide) rfl (fun ls hl => ?_)
  refine lv_goto (tgt := 3) hx hb dX7_put_43 (by decide) ?_
  refine lv_iload_n hx hb dX7_put_3 rfl (lv_at hl 0 rfl) ?_
  refine lv_if_lt (tgt := 46) hx hb dX7_put_4 (by decide) (fun c22 => absurd c22 (by decide)) (fun c22 => ?_)
  refine lv_aload_n hx hb dX7_put_7 rfl (lv_at hl 1 rfl) ?_
  refine va_get (D := (dC, dI)) (ci := 7) (v := .int 19) (C := RX7) (T := TX7) (N := 4) hx hb hts hiX7 hown hK hP 0 rfl rfl 1 (by decide) hw1 (fun _ h9 => h9) rfl dX7_put_8 ?_
  refine lv_sipush (v := 400) hx hb dX7_put_11 (by decide) ?_
  refine lv_icmp_ge (tgt := 46) hx hb dX7_put_14 (by decide) (fun c23 => absurd c23 (by decide)) (fun c23 => ?_)
  refine lv_aload_n hx hb dX7_put_17 rfl (lv_at hl 1 rfl) ?_
  refine va_get (D := (dC, dI)) (ci := 7) (v := .ref tb) (C := RX7) (T := TX7) (N := 4) hx hb hts hiX7 hown hK hP 0 rfl rfl 0 (by decide) hw2 (fun _ h9 => h9) rfl dX7_put_18 ?_
  refine lv_aload_n hx hb dX7_put_21 rfl (lv_at hl 1 rfl) ?_
  refine va_get (D := (dC, dI)) (ci := 7) (v := .int 19) (C := RX7) (T := TX7) (N := 4) hx hb hts hiX7 hown hK hP 0 rfl rfl 1 (by decide) hw1 (fun _ h9 => h9) rfl dX7_put_22 ?_
  refine lv_iload_n hx hb dX7_put_25 rfl (lv_at hl 2 rfl) ?_
  refine lv_iload_n hx hb dX7_put_26 rfl (lv_at hl 0 rfl) ?_
  refine lv_ishr hx hb dX7_put_27 ?_
  refine lv_topi (fun v24 ev24 => ?_)
  refine lv_i2b hx hb dX7_put_28 rfl ?_
  refine lv_topi (fun v26 ev26 => ?_)
  refine va_bast (D := (dC, dI)) hx hb hK hP hD hS 1 0 rfl rfl (zIn (by decide) (by decide)) dX7_put_29 (fun H locs hP hD hS => ?_)
  have hP : va_P (dC, dI) vwCl [(t0, .inr (7, [.ref tb, .int 19, .int 0, .int ((-1))])), (tb, .inl (ctb, 400, .inl (upd f20 (19 : Int32).toNatClampNeg (vp_nar .byte v26))))] H := hP
  have hD : va_D A [(t0, .inr (7, [.ref tb, .int 19, .int 0, .int ((-1))])), (tb, .inl (ctb, 400, .inl (upd f20 (19 : Int32).toNatClampNeg (vp_nar .byte v26))))] := hD
  generalize (upd f20 (19 : Int32).toNatClampNeg (vp_nar .byte v26)) = f27 at hP hD
  refine lv_aload_n hx hb dX7_put_30 rfl (lv_at hl 1 rfl) ?_
  refine lv_dup hx hb dX7_put_31 rfl ?_
  refine va_get (D := (dC, dI)) (ci := 7) (v := .int 19) (C := RX7) (T := TX7) (N := 4) hx hb hts hiX7 hown hK hP 0 rfl rfl 1 (by decide) hw1 (fun _ h9 => h9) rfl dX7_put_32 ?_
  refine lv_iconst (v := 1) hx hb dX7_put_35 (by decide) ?_
  refine lv_iadd hx hb dX7_put_36 ?_
  refine lv_topi (fun v28 ev28 => ?_)
  obtain rfl : v28 = 20 := ev28.trans (by decide)
  refine va_put (D := (dC, dI)) (ci := 7) (v := .int 20) (ty := .int) (C := RX7) (T := TX7) (N := 4) hx hb hts hiX7 tyX7 tyX7_ok nmX7 hown hK hP hD hS 0 rfl rfl 1 (by decide) hw1 (fun _ h9 => h9) rfl (by decide +kernel) rfl rfl (Nat.le_of_ble_eq_true rfl) dX7_put_37 (fun H locs hP hD hS => ?_)
  have hP : va_P (dC, dI) vwCl [(t0, .inr (7, [.ref tb, .int 20, .int 0, .int ((-1))])), (tb, .inl (ctb, 400, .inl f27))] H := hP
  have hD : va_D A [(t0, .inr (7, [.ref tb, .int 20, .int 0, .int ((-1))])), (tb, .inl (ctb, 400, .inl f27))] := hD
  refine lv_iinc (v := (-8)) (lv' := [(2, .int ((-8))), (0, .ref t0), (1, .int x)]) hx hb dX7_put_40 hl (k := 0) rfl (by decide) (by decide) rfl (fun ls hl => ?_)
  refine lv_goto (tgt := 3) hx hb dX7_put_43 (by decide) ?_
  refine lv_iload_n hx hb dX7_put_3 rfl (lv_at hl 0 rfl) ?_
  refine lv_if_lt (tgt := 46) hx hb dX7_put_4 (by decide) (fun c29 => ?_) (fun c29 => absurd (by decide) c29)
  have hP9 := hP.sub (ws' := [(t0, .inr (7, [.ref tb, .int 20, .int 0, .int ((-1))])), (tb, .inl (ctb, 400, .inl f27))]) [0, 1] rfl
  have hD9 := hD.sub (ws' := [(t0, .inr (7, [.ref tb, .int 20, .int 0, .int ((-1))])), (tb, .inl (ctb, 400, .inl f27))]) [0, 1] (by decide) rfl
  have hK9 := hK.sub (tys' := [(ctb, .byte)]) [0] rfl
  refine W.widen (k := 0) (n := 0) (by decide) (by decide) ?_
  exact W.vret hx hb hr (fun t ht hW => ⟨⟨(), rfl, trivial, ⟨f27, ⟨by rw [ht]; exact hP9, va_K.moved hW.alike hK9, hD9⟩⟩⟩, hS.F ht⟩) hS.2.2 dX7_put_46
set_option maxHeartbeats 4000000 in
set_option maxRecDepth 100000 in
/-- hasRoom of an empty tape -/
theorem c_hasRoom (l : Launch) (hl0 : l.stackTraces = false) (dC : Nat → ClassId) (dI : Nat → Nat → Nat) (A0 : Nat → Prop) (ad : Nat → Nat) (sz : Nat) (t0 tb : Nat) (hA0 : ∀ q, va_A [(t0, .inr (7, [.ref tb, .int 0, .int 0, .int ((-1))]))] sz q → A0 q) : Met l yX7_hasRoom wsX7_hasRoom ({ frames := 0, cells := 0, slots := 0, locals := 0 }) (va_Pc [.ref t0] (zPc A0 ad (dC, dI) [(t0, .inr (7, [.ref tb, .int 0, .int 0, .int ((-1))]))] [] sz)) (va_Qi (fun (r : Int32) (_ : Unit) => r = 1) (fun (_ : Unit) (t : State) => zB (dC, dI) (va_A [(t0, .inr (7, [.ref tb, .int 0, .int 0, .int ((-1))]))] sz) [(t0, .inr (7, [.ref tb, .int 0, .int 0, .int ((-1))]))] [] t) (va_A [(t0, .inr (7, [.ref tb, .int 0, .int 0, .int ((-1))]))] sz)) 0 0 (va_A [(t0, .inr (7, [.ref tb, .int 0, .int 0, .int ((-1))]))] sz) := by
  refine Met.ofW (cc := cX7_hasRoom) (maxL := 1) (ret := (some .boolean)) (by decide) rfl ?_
  intro p e s m args below meth c s₁ B hml hv
  obtain ⟨rfl, hsz, hz, hP, hK, hD0⟩ := hv
  have hx := B.exec
  have hb := B.bytes
  have hr := B.returns
  have hts := atoms_spec (ws := wsX7_hasRoom) B.pre
  have hown : s.vm.findClass RX7 = some m.cls := findClass_of_methodNamed B.named
  have hlocks := B.notSynchronized
  subst hsz
  have hD := hD0.self (sz := s.heap.size)
  generalize hAe : va_A [(t0, .inr (7, [.ref tb, .int 0, .int 0, .int ((-1))]))] s.heap.size = A at hD hA0 ⊢
  have hA : ∀ q : Nat, s.heap.size ≤ q → A q := fun q h => by rw [← hAe]; exact Or.inr h
  have hS : va_S A s.heap s.heap [] := va_S.rf
  have hl := lv_entry ([.ref t0]) (n := 1) (Nat.le_of_ble_eq_true rfl)
  rw [lg_entry_eq]
  generalize (lg_sl ([.ref t0]) ++ List.replicate (1 - (lg_sl ([.ref t0])).length) Slot.unset).toArray = ls at hl ⊢
  have hl : lv_has ls 1 [(0, .ref t0)] := hl
  have hP : va_P (dC, dI) vwCl [(t0, .inr (7, [.ref tb, .int 0, .int 0, .int ((-1))]))] s.heap := hP
  have hiX7 : ∀ w ∈ u_ws RX7 TX7 4, w ∈ wsX7_hasRoom := fun _ h => List.mem_cons_of_mem _ (List.mem_append_right _ h)
  have hw1 := hts (.fieldLink RX7 19 "PostHouse$Tape" "length" "I") (by decide +kernel)
  refine lv_aload_n hx hb dX7_hasRoom_0 rfl (lv_at hl 0 rfl) ?_
  refine va_get (D := (dC, dI)) (ci := 7) (v := .int 0) (C := RX7) (T := TX7) (N := 4) hx hb hts hiX7 hown hK hP 0 rfl rfl 1 (by decide) hw1 (fun _ h9 => h9) rfl dX7_hasRoom_1 ?_
  refine lv_bipush (v := 20) hx hb dX7_hasRoom_4 (by decide) ?_
  refine lv_iadd hx hb dX7_hasRoom_6 ?_
  refine lv_topi (fun v1 ev1 => ?_)
  obtain rfl : v1 = 20 := ev1.trans (by decide)
  refine lv_sipush (v := 400) hx hb dX7_hasRoom_7 (by decide) ?_
  refine lv_icmp_gt (tgt := 17) hx hb dX7_hasRoom_10 (by decide) (fun c2 => absurd c2 (by decide)) (fun c2 => ?_)
  refine lv_iconst (v := 1) hx hb dX7_hasRoom_13 (by decide) ?_
  refine lv_goto (tgt := 18) hx hb dX7_hasRoom_14 (by decide) ?_
  have hP9 := hP.sub (ws' := [(t0, .inr (7, [.ref tb, .int 0, .int 0, .int ((-1))]))]) [0] rfl
  have hD9 := hD.sub (ws' := [(t0, .inr (7, [.ref tb, .int 0, .int 0, .int ((-1))]))]) [0] (by decide) rfl
  have hK9 := hK.sub (tys' := []) [] rfl
  refine W.widen (k := 0) (n := 0) (by decide) (by decide) ?_
  exact W.zret (v := 1) hx hb hr (by decide) (fun t ht hW => ⟨⟨1, (), rfl, rfl, ⟨by rw [ht]; exact hP9, va_K.moved hW.alike hK9, hD9⟩⟩, hS.F ht⟩) hS.2.2 dX7_hasRoom_18
