/-! ===== the words of the contracts ===== -/
def zWi (n a b : Int32) : Int32 := if n < a then 0 else if b < n then 0 else 1
theorem zWi_empty (n : Int32) : zWi n 0 (-1) = 0 := by
  unfold zWi
  by_cases h : n < 0
  · rw [if_pos h]
  · rw [if_neg h, if_pos]
    have h1 : ¬ n.toInt < 0 := fun q => h (Int32.lt_iff_toInt_lt.mpr q)
    exact Int32.lt_iff_toInt_lt.mpr (by show (-1 : Int) < n.toInt; omega)
def zGood (c w s p : Int32) : Prop := ¬ zWi c 0 9999 = 0 ∧ ¬ zWi w 1 2000 = 0 ∧ ¬ zWi s 0 7 = 0 ∧ ¬ zWi p 1 20 = 0
def zEnd (n : Int32) : Int32 := if n < 0 then 0 else if 0 < n then 0 else 1
set_option maxHeartbeats 4000000 in
set_option maxRecDepth 100000 in
/-- within(number, least, most) -/
theorem c_within (l : Launch) (hl0 : l.stackTraces = false) (dC : Nat → ClassId) (dI : Nat → Nat → Nat) (A0 : Nat → Prop) (ad : Nat → Nat) (sz : Nat) (n a b : Int32) (hA0 : ∀ q, va_A [] sz q → A0 q) : Met l yX11_within wsX11_within ({ frames := 0, cells := 0, slots := 0, locals := 0 }) (va_Pc [.int n, .int a, .int b] (zPc A0 ad (dC, dI) [] [] sz)) (va_Qi (fun (r : Int32) (_ : Unit) => r = zWi n a b) (fun (_ : Unit) (t : State) => zB (dC, dI) (va_A [] sz) [] [] t) (va_A [] sz)) 0 0 (va_A [] sz) := by
  refine Met.ofW (cc := cX11_within) (maxL := 3) (ret := (some .boolean)) (by decide) rfl ?_
  intro p e s m args below meth c s₁ B hml hv
  obtain ⟨rfl, hsz, hz, hP, hK, hD0⟩ := hv
  have hx := B.exec
  have hb := B.bytes
  have hr := B.returns
  have hts := atoms_spec (ws := wsX11_within) B.pre
  have hown : s.vm.findClass RX11 = some m.cls := findClass_of_methodNamed B.named
  have hlocks := B.notSynchronized
  subst hsz
  have hD := hD0.self (sz := s.heap.size)
  generalize hAe : va_A [] s.heap.size = A at hD hA0 ⊢
  have hA : ∀ q : Nat, s.heap.size ≤ q → A q := fun q h => by rw [← hAe]; exact Or.inr h
  have hS : va_S A s.heap s.heap [] := va_S.rf
  have hl := lv_entry ([.int n, .int a, .int b]) (n := 3) (Nat.le_of_ble_eq_true rfl)
  rw [lg_entry_eq]
  generalize (lg_sl ([.int n, .int a, .int b]) ++ List.replicate (3 - (lg_sl ([.int n, .int a, .int b])).length) Slot.unset).toArray = ls at hl ⊢
  have hl : lv_has ls 3 [(0, .int n), (1, .int a), (2, .int b)] := hl
  have hP : va_P (dC, dI) vwCl [] s.heap := hP
  refine lv_iload_n hx hb dX11_within_0 rfl (lv_at hl 0 rfl) ?_
  refine lv_iload_n hx hb dX11_within_1 rfl (lv_at hl 1 rfl) ?_
  refine lv_icmp_lt (tgt := 14) hx hb dX11_within_2 (by decide) (fun c1 => ?_) (fun c1 => ?_)
  · refine lv_iconst (v := 0) hx hb dX11_within_14 (by decide) ?_
    have hP9 := hP.sub (ws' := []) [] rfl
    have hD9 := hD.sub (ws' := []) [] (by decide) rfl
    have hK9 := hK.sub (tys' := []) [] rfl
    refine W.widen (k := 0) (n := 0) (by decide) (by decide) ?_
    exact W.zret (v := 0) hx hb hr (by decide) (fun t ht hW => ⟨⟨0, (), rfl, by simp [zWi, c1], ⟨by rw [ht]; exact hP9, va_K.moved hW.alike hK9, hD9⟩⟩, hS.F ht⟩) hS.2.2 dX11_within_15
  · refine lv_iload_n hx hb dX11_within_5 rfl (lv_at hl 0 rfl) ?_
    refine lv_iload_n hx hb dX11_within_6 rfl (lv_at hl 2 rfl) ?_
    refine lv_icmp_gt (tgt := 14) hx hb dX11_within_7 (by decide) (fun c2 => ?_) (fun c2 => ?_)
    · refine lv_iconst (v := 0) hx hb dX11_within_14 (by decide) ?_
      have hP9 := hP.sub (ws' := []) [] rfl
      have hD9 := hD.sub (ws' := []) [] (by decide) rfl
      have hK9 := hK.sub (tys' := []) [] rfl
      refine W.widen (k := 0) (n := 0) (by decide) (by decide) ?_
      exact W.zret (v := 0) hx hb hr (by decide) (fun t ht hW => ⟨⟨0, (), rfl, by simp [zWi, c1, c2], ⟨by rw [ht]; exact hP9, va_K.moved hW.alike hK9, hD9⟩⟩, hS.F ht⟩) hS.2.2 dX11_within_15
    · refine lv_iconst (v := 1) hx hb dX11_within_10 (by decide) ?_
      refine lv_goto (tgt := 15) hx hb dX11_within_11 (by decide) ?_
      have hP9 := hP.sub (ws' := []) [] rfl
      have hD9 := hD.sub (ws' := []) [] (by decide) rfl
      have hK9 := hK.sub (tys' := []) [] rfl
      refine W.widen (k := 0) (n := 0) (by decide) (by decide) ?_
      exact W.zret (v := 1) hx hb hr (by decide) (fun t ht hW => ⟨⟨1, (), rfl, by simp [zWi, c1, c2], ⟨by rw [ht]; exact hP9, va_K.moved hW.alike hK9, hD9⟩⟩, hS.F ht⟩) hS.2.2 dX11_within_15
set_option maxHeartbeats 4000000 in
set_option maxRecDepth 100000 in
/-- Book.at on an empty book: null -/
theorem c_Book_at (l : Launch) (hl0 : l.stackTraces = false) (dC : Nat → ClassId) (dI : Nat → Nat → Nat) (A0 : Nat → Prop) (ad : Nat → Nat) (sz : Nat) (h1 bt : Nat) (n : Int32) (hA0 : ∀ q, va_A [(h1, .inr (0, [.ref bt, .int 0]))] sz q → A0 q) : Met l yX0_at wsX0_at ({ frames := 1, cells := 0, slots := 0, locals := 22 }) (va_Pc [.ref h1, .int n] (zPc A0 ad (dC, dI) [(h1, .inr (0, [.ref bt, .int 0]))] [] sz)) (va_Qq (fun (r : Option Nat) (_ : Unit) => r = none) (fun (_ : Unit) (t : State) => zB (dC, dI) (va_A [(h1, .inr (0, [.ref bt, .int 0]))] sz) [(h1, .inr (0, [.ref bt, .int 0]))] [] t) (va_A [(h1, .inr (0, [.ref bt, .int 0]))] sz)) 0 0 (va_A [(h1, .inr (0, [.ref bt, .int 0]))] sz) := by
  refine Met.ofW (cc := cX0_at) (maxL := 2) (ret := (some (.object "PostHouse$Thing"))) (by decide) rfl ?_
  intro p e s m args below meth c s₁ B hml hv
  obtain ⟨rfl, hsz, hz, hP, hK, hD0⟩ := hv
  have hx := B.exec
  have hb := B.bytes
  have hr := B.returns
  have hts := atoms_spec (ws := wsX0_at) B.pre
  have hown : s.vm.findClass RX0 = some m.cls := findClass_of_methodNamed B.named
  have hlocks := B.notSynchronized
  subst hsz
  have hD := hD0.self (sz := s.heap.size)
  generalize hAe : va_A [(h1, .inr (0, [.ref bt, .int 0]))] s.heap.size = A at hD hA0 ⊢
  have hA : ∀ q : Nat, s.heap.size ≤ q → A q := fun q h => by rw [← hAe]; exact Or.inr h
  have hS : va_S A s.heap s.heap [] := va_S.rf
  have hl := lv_entry ([.ref h1, .int n]) (n := 2) (Nat.le_of_ble_eq_true rfl)
  rw [lg_entry_eq]
  generalize (lg_sl ([.ref h1, .int n]) ++ List.replicate (2 - (lg_sl ([.ref h1, .int n])).length) Slot.unset).toArray = ls at hl ⊢
  have hl : lv_has ls 2 [(0, .ref h1), (1, .int n)] := hl
  have hP : va_P (dC, dI) vwCl [(h1, .inr (0, [.ref bt, .int 0]))] s.heap := hP
  have hiX0 : ∀ w ∈ u_ws RX0 TX0 2, w ∈ wsX0_at := fun _ h => List.mem_cons_of_mem _ (List.mem_append_right _ h)
  have hw1 := hts (.fieldLink RX0 17 "PostHouse$Book" "size" "I") (by decide +kernel)
  have hw2 := hts (.initialized RX11) (by decide +kernel)
  have hw3 := hts (.static yX11_within) (by decide +kernel)
  refine lv_iload_n hx hb dX0_at_0 rfl (lv_at hl 1 rfl) ?_
  refine lv_iconst (v := 0) hx hb dX0_at_1 (by decide) ?_
  refine lv_aload_n hx hb dX0_at_2 rfl (lv_at hl 0 rfl) ?_
  refine va_get (D := (dC, dI)) (ci := 0) (v := .int 0) (C := RX0) (T := TX0) (N := 2) hx hb hts hiX0 hown hK hP 0 rfl rfl 1 (by decide) hw1 (fun _ h9 => h9) rfl dX0_at_3 ?_
  refine lv_iconst (v := 1) hx hb dX0_at_6 (by decide) ?_
  refine lv_isub hx hb dX0_at_7 ?_
  refine lv_topi (fun v1 ev1 => ?_)
  obtain rfl : v1 = (-1) := ev1.trans (by decide)
  have hPc := hP.sub (ws' := []) [] rfl
  have hDc := hD.sub (ws' := []) [] (by decide) rfl
  have hKc := hK.sub (tys' := []) [] rfl
  have hFc := va_free (wc := []) hD hS hA [] rfl
  refine va_calli (va_runSN (host := RX11) (As := [.int n, .int 0, .int ((-1))]) (rest := []) ⟨hx, hb, hml, hown, hts⟩ (c_within l hl0 dC dI A0 ad s.heap.size n 0 ((-1)) (fun q h => hA0 q (hFc q h))) ⟨va_cnB (host := RX11) (y := yX11_within) 3 hts gX0_at_X11_within_n24 rfl rfl rfl (hz.2.2.2.2.2.1 _ (List.mem_of_getElem? (i := 6) rfl)) hw2 (by decide +kernel) ⟨Nat.le_of_ble_eq_true rfl, Nat.le_of_ble_eq_true rfl⟩, hw3, trivial⟩ ⟨zPc_bl, zPc_at hz hS hA0 hPc hKc hDc⟩ rfl rfl hl.1 rfl (lv_room (Nat.le_of_ble_eq_true rfl)) dX0_at_8 ⟨Nat.le_of_ble_eq_true rfl, Nat.le_of_ble_eq_true rfl⟩) hS (fun q _ h => hFc q h) hFc (fun r2 u t H1 locs ht hvm hw hB hz1 hk1 hS => ?_)
  obtain ⟨hP1, hK1, hD1⟩ := hB
  rw [ht] at hP1
  have hK1 := va_K.moved hvm.symm hK1
  obtain ⟨hP, hD⟩ := va_join (wr := [(h1, .inr (0, [.ref bt, .int 0]))]) (w1 := []) hP hD [] [0] rfl rfl (by decide) (by decide) hk1 hFc hP1 hD1
  have hK := (hK.sub (tys' := []) [] rfl).app hK1
  generalize H1 = H at hP hS ⊢
  have hP : va_P (dC, dI) vwCl [(h1, .inr (0, [.ref bt, .int 0]))] H := hP
  have hD : va_D A [(h1, .inr (0, [.ref bt, .int 0]))] := hD
  have hK : va_K (dC, dI) vwCl [] s := hK
  obtain rfl : r2 = 0 := hw.trans (zWi_empty _)
  refine lv_if_eq (tgt := 23) hx hb dX0_at_11 (by decide) (fun c3 => ?_) (fun c3 => absurd (by decide) c3)
  refine lv_null hx hb dX0_at_23 ?_
  have hP9 := hP.sub (ws' := [(h1, .inr (0, [.ref bt, .int 0]))]) [0] rfl
  have hD9 := hD.sub (ws' := [(h1, .inr (0, [.ref bt, .int 0]))]) [0] (by decide) rfl
  have hK9 := hK.sub (tys' := []) [] rfl
  refine W.widen (k := 0) (n := 0) (by decide) (by decide) ?_
  exact W.aret (v := .null) hx hb hr (Or.inl ⟨_, rfl⟩) (Or.inl rfl) (fun t ht hW => ⟨⟨none, (), rfl, rfl, ⟨by rw [ht]; exact hP9, va_K.moved hW.alike hK9, hD9⟩⟩, hS.F ht⟩) hS.2.2 dX0_at_24
set_option maxHeartbeats 4000000 in
set_option maxRecDepth 100000 in
/-- thingAt on an empty book throws -/
theorem c_thingAt (l : Launch) (hl0 : l.stackTraces = false) (dC : Nat → ClassId) (dI : Nat → Nat → Nat) (A0 : Nat → Prop) (ad : Nat → Nat) (sz : Nat) (h0 t0 b0 c0 r0 d0 e0 o0 s0 p0 w0 : Nat) (bt : Nat) (n : Int32) (hA0 : ∀ q, va_A [(h0, .inr (11, [.ref t0, .ref b0, .ref c0, .ref r0, .ref d0, .ref e0, .ref o0, .ref s0, .ref p0, .ref w0, .int 0, .int 0, .int 0, .int 0, .int ((-1)), .int 0])), (b0, .inr (0, [.ref bt, .int 0]))] sz q → A0 q) : vx_Met l yX11_thingAt wsX11_thingAt ({ frames := 6, cells := 1, slots := 6, locals := 82 }) (va_Pc [.ref h0, .int n] (zPc A0 ad (dC, dI) [(h0, .inr (11, [.ref t0, .ref b0, .ref c0, .ref r0, .ref d0, .ref e0, .ref o0, .ref s0, .ref p0, .ref w0, .int 0, .int 0, .int 0, .int 0, .int ((-1)), .int 0])), (b0, .inr (0, [.ref bt, .int 0]))] [] sz)) (va_Qq (fun (_ : Option Nat) (_ : Unit) => False) (fun (_ : Unit) (t : State) => zB (dC, dI) (va_A [(h0, .inr (11, [.ref t0, .ref b0, .ref c0, .ref r0, .ref d0, .ref e0, .ref o0, .ref s0, .ref p0, .ref w0, .int 0, .int 0, .int 0, .int 0, .int ((-1)), .int 0])), (b0, .inr (0, [.ref bt, .int 0]))] sz) [(h0, .inr (11, [.ref t0, .ref b0, .ref c0, .ref r0, .ref d0, .ref e0, .ref o0, .ref s0, .ref p0, .ref w0, .int 0, .int 0, .int 0, .int 0, .int ((-1)), .int 0])), (b0, .inr (0, [.ref bt, .int 0]))] [] t) (va_A [(h0, .inr (11, [.ref t0, .ref b0, .ref c0, .ref r0, .ref d0, .ref e0, .ref o0, .ref s0, .ref p0, .ref w0, .int 0, .int 0, .int 0, .int 0, .int ((-1)), .int 0])), (b0, .inr (0, [.ref bt, .int 0]))] sz)) (vx_X (fun _ : Unit => True) (fun (E : String) (_ : Unit) (_ : State) => E = "java/lang/IndexOutOfBoundsException") (va_A [(h0, .inr (11, [.ref t0, .ref b0, .ref c0, .ref r0, .ref d0, .ref e0, .ref o0, .ref s0, .ref p0, .ref w0, .int 0, .int 0, .int 0, .int 0, .int ((-1)), .int 0])), (b0, .inr (0, [.ref bt, .int 0]))] sz)) 1 6 (va_A [(h0, .inr (11, [.ref t0, .ref b0, .ref c0, .ref r0, .ref d0, .ref e0, .ref o0, .ref s0, .ref p0, .ref w0, .int 0, .int 0, .int 0, .int 0, .int ((-1)), .int 0])), (b0, .inr (0, [.ref bt, .int 0]))] sz) := by
  refine vx_ofW (cc := cX11_thingAt) (maxL := 3) (ret := (some (.object "PostHouse$Thing"))) (by decide) rfl ?_
  intro p e s m args below meth c s₁ B hml ht0 hv
  obtain ⟨rfl, hsz, hz, hP, hK, hD0⟩ := hv
  have hx := B.exec
  have hb := B.bytes
  have hr := B.returns
  have hts := atoms_spec (ws := wsX11_thingAt) B.pre
  have hown : s.vm.findClass RX11 = some m.cls := findClass_of_methodNamed B.named
  have hlocks := B.notSynchronized
  subst hsz
  have hD := hD0.self (sz := s.heap.size)
  generalize hAe : va_A [(h0, .inr (11, [.ref t0, .ref b0, .ref c0, .ref r0, .ref d0, .ref e0, .ref o0, .ref s0, .ref p0, .ref w0, .int 0, .int 0, .int 0, .int 0, .int ((-1)), .int 0])), (b0, .inr (0, [.ref bt, .int 0]))] s.heap.size = A at hD hA0 ⊢
  have hA : ∀ q : Nat, s.heap.size ≤ q → A q := fun q h => by rw [← hAe]; exact Or.inr h
  have hS : va_S A s.heap s.heap [] := va_S.rf
  have hl := lv_entry ([.ref h0, .int n]) (n := 3) (Nat.le_of_ble_eq_true rfl)
  rw [lg_entry_eq]
  generalize (lg_sl ([.ref h0, .int n]) ++ List.replicate (3 - (lg_sl ([.ref h0, .int n])).length) Slot.unset).toArray = ls at hl ⊢
  have hl : lv_has ls 3 [(0, .ref h0), (1, .int n)] := hl
  have hP : va_P (dC, dI) vwCl [(h0, .inr (11, [.ref t0, .ref b0, .ref c0, .ref r0, .ref d0, .ref e0, .ref o0, .ref s0, .ref p0, .ref w0, .int 0, .int 0, .int 0, .int 0, .int ((-1)), .int 0])), (b0, .inr (0, [.ref bt, .int 0]))] s.heap := hP
  have hiX11 : ∀ w ∈ u_ws RX11 TX11 16, w ∈ wsX11_thingAt := fun _ h => List.mem_cons_of_mem _ (List.mem_append_left _ (List.mem_append_left _ (List.mem_append_right _ h)))
  have hw1 := hts (.fieldLink RX11 19 "PostHouse" "book" "LPostHouse$Book;") (by decide +kernel)
  have hw2 := hts (.classLink RX11 322 "java/lang/IndexOutOfBoundsException") (by decide +kernel)
  have hw3 := hts (.initialized "java/lang/IndexOutOfBoundsException") (by decide +kernel)
  refine lv_aload_n hx hb dX11_thingAt_0 rfl (lv_at hl 0 rfl) ?_
  refine va_get (D := (dC, dI)) (ci := 11) (v := .ref b0) (C := RX11) (T := TX11) (N := 16) hx hb hts hiX11 hown hK hP 0 rfl rfl 1 (by decide) hw1 (fun _ h9 => h9) rfl dX11_thingAt_1 ?_
  refine lv_iload_n hx hb dX11_thingAt_4 rfl (lv_at hl 1 rfl) ?_
  have hPc := hP.sub (ws' := [(b0, .inr (0, [.ref bt, .int 0]))]) [1] rfl
  have hDc := hD.sub (ws' := [(b0, .inr (0, [.ref bt, .int 0]))]) [1] (by decide) rfl
  have hKc := hK.sub (tys' := []) [] rfl
  have hFc := va_free (wc := [(b0, .inr (0, [.ref bt, .int 0]))]) hD hS hA [1] rfl
  refine va_callq (va_runV (As := [.int n]) (rest := []) ⟨hx, hb, hml, hown, hts⟩ (c_Book_at l hl0 dC dI A0 ad s.heap.size b0 bt n (fun q h => hA0 q (hFc q h))) (cwV 1 hts gX11_thingAt_X0_at rfl rfl rfl (by decide +kernel) ⟨Nat.le_of_ble_eq_true rfl, Nat.le_of_ble_eq_true rfl⟩) ⟨zPc_bl, va_recv hKc hPc (ci := 0) (q0 := 0) rfl rfl, zPc_at hz hS hA0 hPc hKc hDc⟩ rfl rfl hl.1 rfl (lv_room (Nat.le_of_ble_eq_true rfl)) dX11_thingAt_5 ⟨Nat.le_of_ble_eq_true rfl, Nat.le_of_ble_eq_true rfl⟩) hS (fun q _ h => hFc q h) hFc (fun r1 u t H1 locs ht hvm hw hB hz1 hk1 hS => ?_)
  obtain ⟨hP1, hK1, hD1⟩ := hB
  rw [ht] at hP1
  have hK1 := va_K.moved hvm.symm hK1
  obtain ⟨hP, hD⟩ := va_join (wr := [(h0, .inr (11, [.ref t0, .ref b0, .ref c0, .ref r0, .ref d0, .ref e0, .ref o0, .ref s0, .ref p0, .ref w0, .int 0, .int 0, .int 0, .int 0, .int ((-1)), .int 0]))]) (w1 := [(b0, .inr (0, [.ref bt, .int 0]))]) hP hD [1] [0] rfl rfl (by decide) (by decide) hk1 hFc hP1 hD1
  have hK := (hK.sub (tys' := []) [] rfl).app hK1
  generalize H1 = H at hP hS ⊢
  have hP : va_P (dC, dI) vwCl [(h0, .inr (11, [.ref t0, .ref b0, .ref c0, .ref r0, .ref d0, .ref e0, .ref o0, .ref s0, .ref p0, .ref w0, .int 0, .int 0, .int 0, .int 0, .int ((-1)), .int 0])), (b0, .inr (0, [.ref bt, .int 0]))] H := hP
  have hD : va_D A [(h0, .inr (11, [.ref t0, .ref b0, .ref c0, .ref r0, .ref d0, .ref e0, .ref o0, .ref s0, .ref p0, .ref w0, .int 0, .int 0, .int 0, .int 0, .int ((-1)), .int 0])), (b0, .inr (0, [.ref bt, .int 0]))] := hD
  have hK : va_K (dC, dI) vwCl [] s := hK
  obtain rfl : r1 = none := hw
  refine lv_astore_nN (lv' := [(2, .null), (0, .ref h0), (1, .int n)]) hx hb dX11_thingAt_8 rfl hl (by decide) rfl (fun ls hl => ?_)
  refine lv_aload_nN hx hb dX11_thingAt_9 rfl (lv_at hl 0 rfl) ?_
  refine lv_ifnonnullN hx hb dX11_thingAt_10 ?_
  obtain ⟨a2, ha2⟩ := hz.2.2.2.2.1 _ (List.mem_of_getElem? (i := 21) rfl)
  have hat : ∀ w ∈ vx_atS RX11 326 "java/lang/IndexOutOfBoundsException" ["java/lang/RuntimeException", "java/lang/Exception"], w.before _ s = true := vx_hat (fun w h => hts w (List.mem_cons_of_mem _ (List.mem_append_right _ h))) (B := [.castable "java/lang/IndexOutOfBoundsException" "java/lang/IndexOutOfBoundsException", .declares (Bundle.initS "java/lang/RuntimeException"), .declares (Bundle.initS "java/lang/Exception"), .declares (Bundle.initS Bundle.tN)]) (by decide +kernel) (vx_c (va_Nw.use rfl (hz.2.2.2.2.2.2.2.1 _ (List.mem_of_getElem? (i := 0) rfl))) (vx_c (va_Nw.use rfl (hz.2.2.2.2.2.2.2.2 _ (List.mem_of_getElem? (i := 0) rfl))) (vx_c (va_Nw.use rfl (hz.2.2.2.2.2.2.2.2 _ (List.mem_of_getElem? (i := 1) rfl))) (vx_c (va_Nw.use rfl (hz.2.2.2.2.2.2.2.2 _ (List.mem_of_getElem? (i := 2) rfl))) vx_n))))
  exact vx_throwSW hx hb hl0 (own := RX11) (cls := "java/lang/IndexOutOfBoundsException") (text := "no such thing") (names := ["java/lang/RuntimeException", "java/lang/Exception"]) hown (by decide +kernel) (by decide +kernel) hw2 hw3 ha2 hat (by decide +kernel) (hz.1.narrow hA0) (hz.2.1.narrow hA0) hS (by rw [hml]; exact hl.1) dX11_thingAt_13 dX11_thingAt_16 dX11_thingAt_17 dX11_thingAt_20 dX11_thingAt_23 (fun x h9 => (ht0 x h9).elim) (Nat.le_of_ble_eq_true rfl) (Nat.le_of_ble_eq_true rfl) (Nat.le_of_ble_eq_true rfl) (Nat.le_of_ble_eq_true rfl) hlocks (fun t hvm h1 h2 => ⟨(), trivial, rfl, zF2 hS h1 h2⟩) hS.2.2 (by decide) (by decide)
set_option maxHeartbeats 4000000 in
set_option maxRecDepth 100000 in
/-- price on an empty book throws -/
theorem c_price (l : Launch) (hl0 : l.stackTraces = false) (dC : Nat → ClassId) (dI : Nat → Nat → Nat) (A0 : Nat → Prop) (ad : Nat → Nat) (sz : Nat) (h0 t0 b0 c0 r0 d0 e0 o0 s0 p0 w0 : Nat) (bt : Nat) (x0 x1 x2 x3 : Int32) (hA0 : ∀ q, va_A [(h0, .inr (11, [.ref t0, .ref b0, .ref c0, .ref r0, .ref d0, .ref e0, .ref o0, .ref s0, .ref p0, .ref w0, .int 0, .int 0, .int 0, .int 0, .int ((-1)), .int 0])), (b0, .inr (0, [.ref bt, .int 0]))] sz q → A0 q) : vx_Met l yX11_price wsX11_price ({ frames := 7, cells := 1, slots := 6, locals := 104 }) (va_Pc [.ref h0, .int x0, .int x1, .int x2, .int x3] (zPc A0 ad (dC, dI) [(h0, .inr (11, [.ref t0, .ref b0, .ref c0, .ref r0, .ref d0, .ref e0, .ref o0, .ref s0, .ref p0, .ref w0, .int 0, .int 0, .int 0, .int 0, .int ((-1)), .int 0])), (b0, .inr (0, [.ref bt, .int 0]))] [] sz)) (va_Qi (fun (_ : Int32) (_ : Unit) => False) (fun (_ : Unit) (t : State) => zB (dC, dI) (va_A [(h0, .inr (11, [.ref t0, .ref b0, .ref c0, .ref r0, .ref d0, .ref e0, .ref o0, .ref s0, .ref p0, .ref w0, .int 0, .int 0, .int 0, .int 0, .int ((-1)), .int 0])), (b0, .inr (0, [.ref bt, .int 0]))] sz) [(h0, .inr (11, [.ref t0, .ref b0, .ref c0, .ref r0, .ref d0, .ref e0, .ref o0, .ref s0, .ref p0, .ref w0, .int 0, .int 0, .int 0, .int 0, .int ((-1)), .int 0])), (b0, .inr (0, [.ref bt, .int 0]))] [] t) (va_A [(h0, .inr (11, [.ref t0, .ref b0, .ref c0, .ref r0, .ref d0, .ref e0, .ref o0, .ref s0, .ref p0, .ref w0, .int 0, .int 0, .int 0, .int 0, .int ((-1)), .int 0])), (b0, .inr (0, [.ref bt, .int 0]))] sz)) (vx_X (fun _ : Unit => True) (fun (E : String) (_ : Unit) (_ : State) => E = "java/lang/IndexOutOfBoundsException") (va_A [(h0, .inr (11, [.ref t0, .ref b0, .ref c0, .ref r0, .ref d0, .ref e0, .ref o0, .ref s0, .ref p0, .ref w0, .int 0, .int 0, .int 0, .int 0, .int ((-1)), .int 0])), (b0, .inr (0, [.ref bt, .int 0]))] sz)) 1 6 (va_A [(h0, .inr (11, [.ref t0, .ref b0, .ref c0, .ref r0, .ref d0, .ref e0, .ref o0, .ref s0, .ref p0, .ref w0, .int 0, .int 0, .int 0, .int 0, .int ((-1)), .int 0])), (b0, .inr (0, [.ref bt, .int 0]))] sz) := by
  refine vx_ofW (cc := cX11_price) (maxL := 6) (ret := (some .int)) (by decide) rfl ?_
  intro p e s m args below meth c s₁ B hml ht0 hv
  obtain ⟨rfl, hsz, hz, hP, hK, hD0⟩ := hv
  have hx := B.exec
  have hb := B.bytes
  have hr := B.returns
  have hts := atoms_spec (ws := wsX11_price) B.pre
  have hown : s.vm.findClass RX11 = some m.cls := findClass_of_methodNamed B.named
  have hlocks := B.notSynchronized
  subst hsz
  have hD := hD0.self (sz := s.heap.size)
  generalize hAe : va_A [(h0, .inr (11, [.ref t0, .ref b0, .ref c0, .ref r0, .ref d0, .ref e0, .ref o0, .ref s0, .ref p0, .ref w0, .int 0, .int 0, .int 0, .int 0, .int ((-1)), .int 0])), (b0, .inr (0, [.ref bt, .int 0]))] s.heap.size = A at hD hA0 ⊢
  have hA : ∀ q : Nat, s.heap.size ≤ q → A q := fun q h => by rw [← hAe]; exact Or.inr h
  have hS : va_S A s.heap s.heap [] := va_S.rf
  have hl := lv_entry ([.ref h0, .int x0, .int x1, .int x2, .int x3]) (n := 6) (Nat.le_of_ble_eq_true rfl)
  rw [lg_entry_eq]
  generalize (lg_sl ([.ref h0, .int x0, .int x1, .int x2, .int x3]) ++ List.replicate (6 - (lg_sl ([.ref h0, .int x0, .int x1, .int x2, .int x3])).length) Slot.unset).toArray = ls at hl ⊢
  have hl : lv_has ls 6 [(0, .ref h0), (1, .int x0), (2, .int x1), (3, .int x2), (4, .int x3)] := hl
  have hP : va_P (dC, dI) vwCl [(h0, .inr (11, [.ref t0, .ref b0, .ref c0, .ref r0, .ref d0, .ref e0, .ref o0, .ref s0, .ref p0, .ref w0, .int 0, .int 0, .int 0, .int 0, .int ((-1)), .int 0])), (b0, .inr (0, [.ref bt, .int 0]))] s.heap := hP
  refine lv_aload_n hx hb dX11_price_0 rfl (lv_at hl 0 rfl) ?_
  refine lv_iload_n hx hb dX11_price_1 rfl (lv_at hl 1 rfl) ?_
  have hPc := hP.sub (ws' := [(h0, .inr (11, [.ref t0, .ref b0, .ref c0, .ref r0, .ref d0, .ref e0, .ref o0, .ref s0, .ref p0, .ref w0, .int 0, .int 0, .int 0, .int 0, .int ((-1)), .int 0])), (b0, .inr (0, [.ref bt, .int 0]))]) [0, 1] rfl
  have hDc := hD.sub (ws' := [(h0, .inr (11, [.ref t0, .ref b0, .ref c0, .ref r0, .ref d0, .ref e0, .ref o0, .ref s0, .ref p0, .ref w0, .int 0, .int 0, .int 0, .int 0, .int ((-1)), .int 0])), (b0, .inr (0, [.ref bt, .int 0]))]) [0, 1] (by decide) rfl
  have hKc := hK.sub (tys' := []) [] rfl
  have hFc := va_free (wc := [(h0, .inr (11, [.ref t0, .ref b0, .ref c0, .ref r0, .ref d0, .ref e0, .ref o0, .ref s0, .ref p0, .ref w0, .int 0, .int 0, .int 0, .int 0, .int ((-1)), .int 0])), (b0, .inr (0, [.ref bt, .int 0]))]) hD hS hA [0, 1] rfl
  refine vx_callq (vx_runV (As := [.int x0]) (rest := []) ⟨hx, hb, hml, hown, hts⟩ (c_thingAt l hl0 dC dI A0 ad s.heap.size h0 t0 b0 c0 r0 d0 e0 o0 s0 p0 w0 bt x0 (fun q h => hA0 q (hFc q h))) (cwV 1 hts gX11_price_X11_thingAt rfl rfl rfl (by decide +kernel) ⟨Nat.le_of_ble_eq_true rfl, Nat.le_of_ble_eq_true rfl⟩) ⟨zPc_bl, va_recv hKc hPc (ci := 11) (q0 := 0) rfl rfl, zPc_at hz hS hA0 hPc hKc hDc⟩ rfl rfl hl.1 rfl (lv_room (Nat.le_of_ble_eq_true rfl)) dX11_price_2 ⟨Nat.le_of_ble_eq_true rfl, Nat.le_of_ble_eq_true rfl⟩) hS (fun q _ h => hFc q h) hFc (fun q _ h => hFc q h) (fun E ce q9 u t H1 locs ht hvm hw hB hz1 hk1 hS hce hcv hcl => ?_) (fun r1 u t H1 locs ht hvm hw hB hz1 hk1 hS => ?_)
  · skip
    have hB : E = "java/lang/IndexOutOfBoundsException" := hB
    exact vx_out (fun x h9 => (ht0 x h9).elim) hlocks hce hcv hcl (fun t ht hvm => ⟨(), trivial, hB, hS.F ht⟩) hS.2.2 (by decide) (by decide)
  · exact hw.elim
set_option maxHeartbeats 4000000 in
set_option maxRecDepth 100000 in
/-- costs on an empty book throws -/
theorem c_costs (l : Launch) (hl0 : l.stackTraces = false) (dC : Nat → ClassId) (dI : Nat → Nat → Nat) (A0 : Nat → Prop) (ad : Nat → Nat) (sz : Nat) (h0 t0 b0 c0 r0 d0 e0 o0 s0 p0 w0 : Nat) (bt : Nat) (x0 x1 : Int32) (hA0 : ∀ q, va_A [(h0, .inr (11, [.ref t0, .ref b0, .ref c0, .ref r0, .ref d0, .ref e0, .ref o0, .ref s0, .ref p0, .ref w0, .int 0, .int 0, .int 0, .int 0, .int ((-1)), .int 0])), (b0, .inr (0, [.ref bt, .int 0]))] sz q → A0 q) : vx_Met l yX11_costs wsX11_costs ({ frames := 7, cells := 1, slots := 6, locals := 104 }) (va_Pc [.ref h0, .int x0, .int x1] (zPc A0 ad (dC, dI) [(h0, .inr (11, [.ref t0, .ref b0, .ref c0, .ref r0, .ref d0, .ref e0, .ref o0, .ref s0, .ref p0, .ref w0, .int 0, .int 0, .int 0, .int 0, .int ((-1)), .int 0])), (b0, .inr (0, [.ref bt, .int 0]))] [] sz)) (va_Qi (fun (_ : Int32) (_ : Unit) => False) (fun (_ : Unit) (t : State) => zB (dC, dI) (va_A [(h0, .inr (11, [.ref t0, .ref b0, .ref c0, .ref r0, .ref d0, .ref e0, .ref o0, .ref s0, .ref p0, .ref w0, .int 0, .int 0, .int 0, .int 0, .int ((-1)), .int 0])), (b0, .inr (0, [.ref bt, .int 0]))] sz) [(h0, .inr (11, [.ref t0, .ref b0, .ref c0, .ref r0, .ref d0, .ref e0, .ref o0, .ref s0, .ref p0, .ref w0, .int 0, .int 0, .int 0, .int 0, .int ((-1)), .int 0])), (b0, .inr (0, [.ref bt, .int 0]))] [] t) (va_A [(h0, .inr (11, [.ref t0, .ref b0, .ref c0, .ref r0, .ref d0, .ref e0, .ref o0, .ref s0, .ref p0, .ref w0, .int 0, .int 0, .int 0, .int 0, .int ((-1)), .int 0])), (b0, .inr (0, [.ref bt, .int 0]))] sz)) (vx_X (fun _ : Unit => True) (fun (E : String) (_ : Unit) (_ : State) => E = "java/lang/IndexOutOfBoundsException") (va_A [(h0, .inr (11, [.ref t0, .ref b0, .ref c0, .ref r0, .ref d0, .ref e0, .ref o0, .ref s0, .ref p0, .ref w0, .int 0, .int 0, .int 0, .int 0, .int ((-1)), .int 0])), (b0, .inr (0, [.ref bt, .int 0]))] sz)) 1 6 (va_A [(h0, .inr (11, [.ref t0, .ref b0, .ref c0, .ref r0, .ref d0, .ref e0, .ref o0, .ref s0, .ref p0, .ref w0, .int 0, .int 0, .int 0, .int 0, .int ((-1)), .int 0])), (b0, .inr (0, [.ref bt, .int 0]))] sz) := by
  refine vx_ofW (cc := cX11_costs) (maxL := 3) (ret := (some .int)) (by decide) rfl ?_
  intro p e s m args below meth c s₁ B hml ht0 hv
  obtain ⟨rfl, hsz, hz, hP, hK, hD0⟩ := hv
  have hx := B.exec
  have hb := B.bytes
  have hr := B.returns
  have hts := atoms_spec (ws := wsX11_costs) B.pre
  have hown : s.vm.findClass RX11 = some m.cls := findClass_of_methodNamed B.named
  have hlocks := B.notSynchronized
  subst hsz
  have hD := hD0.self (sz := s.heap.size)
  generalize hAe : va_A [(h0, .inr (11, [.ref t0, .ref b0, .ref c0, .ref r0, .ref d0, .ref e0, .ref o0, .ref s0, .ref p0, .ref w0, .int 0, .int 0, .int 0, .int 0, .int ((-1)), .int 0])), (b0, .inr (0, [.ref bt, .int 0]))] s.heap.size = A at hD hA0 ⊢
  have hA : ∀ q : Nat, s.heap.size ≤ q → A q := fun q h => by rw [← hAe]; exact Or.inr h
  have hS : va_S A s.heap s.heap [] := va_S.rf
  have hl := lv_entry ([.ref h0, .int x0, .int x1]) (n := 3) (Nat.le_of_ble_eq_true rfl)
  rw [lg_entry_eq]
  generalize (lg_sl ([.ref h0, .int x0, .int x1]) ++ List.replicate (3 - (lg_sl ([.ref h0, .int x0, .int x1])).length) Slot.unset).toArray = ls at hl ⊢
  have hl : lv_has ls 3 [(0, .ref h0), (1, .int x0), (2, .int x1)] := hl
  have hP : va_P (dC, dI) vwCl [(h0, .inr (11, [.ref t0, .ref b0, .ref c0, .ref r0, .ref d0, .ref e0, .ref o0, .ref s0, .ref p0, .ref w0, .int 0, .int 0, .int 0, .int 0, .int ((-1)), .int 0])), (b0, .inr (0, [.ref bt, .int 0]))] s.heap := hP
  refine lv_aload_n hx hb dX11_costs_0 rfl (lv_at hl 0 rfl) ?_
  refine lv_iload_n hx hb dX11_costs_1 rfl (lv_at hl 1 rfl) ?_
  have hPc := hP.sub (ws' := [(h0, .inr (11, [.ref t0, .ref b0, .ref c0, .ref r0, .ref d0, .ref e0, .ref o0, .ref s0, .ref p0, .ref w0, .int 0, .int 0, .int 0, .int 0, .int ((-1)), .int 0])), (b0, .inr (0, [.ref bt, .int 0]))]) [0, 1] rfl
  have hDc := hD.sub (ws' := [(h0, .inr (11, [.ref t0, .ref b0, .ref c0, .ref r0, .ref d0, .ref e0, .ref o0, .ref s0, .ref p0, .ref w0, .int 0, .int 0, .int 0, .int 0, .int ((-1)), .int 0])), (b0, .inr (0, [.ref bt, .int 0]))]) [0, 1] (by decide) rfl
  have hKc := hK.sub (tys' := []) [] rfl
  have hFc := va_free (wc := [(h0, .inr (11, [.ref t0, .ref b0, .ref c0, .ref r0, .ref d0, .ref e0, .ref o0, .ref s0, .ref p0, .ref w0, .int 0, .int 0, .int 0, .int 0, .int ((-1)), .int 0])), (b0, .inr (0, [.ref bt, .int 0]))]) hD hS hA [0, 1] rfl
  refine vx_callq (vx_runV (As := [.int x0]) (rest := []) ⟨hx, hb, hml, hown, hts⟩ (c_thingAt l hl0 dC dI A0 ad s.heap.size h0 t0 b0 c0 r0 d0 e0 o0 s0 p0 w0 bt x0 (fun q h => hA0 q (hFc q h))) (cwV 1 hts gX11_costs_X11_thingAt rfl rfl rfl (by decide +kernel) ⟨Nat.le_of_ble_eq_true rfl, Nat.le_of_ble_eq_true rfl⟩) ⟨zPc_bl, va_recv hKc hPc (ci := 11) (q0 := 0) rfl rfl, zPc_at hz hS hA0 hPc hKc hDc⟩ rfl rfl hl.1 rfl (lv_room (Nat.le_of_ble_eq_true rfl)) dX11_costs_2 ⟨Nat.le_of_ble_eq_true rfl, Nat.le_of_ble_eq_true rfl⟩) hS (fun q _ h => hFc q h) hFc (fun q _ h => hFc q h) (fun E ce q9 u t H1 locs ht hvm hw hB hz1 hk1 hS hce hcv hcl => ?_) (fun r1 u t H1 locs ht hvm hw hB hz1 hk1 hS => ?_)
  · skip
    have hB : E = "java/lang/IndexOutOfBoundsException" := hB
    exact vx_out (fun x h9 => (ht0 x h9).elim) hlocks hce hcv hcl (fun t ht hvm => ⟨(), trivial, hB, hS.F ht⟩) hS.2.2 (by decide) (by decide)
  · exact hw.elim
set_option maxHeartbeats 4000000 in
set_option maxRecDepth 100000 in
/-- coming on an empty book throws -/
theorem c_coming (l : Launch) (hl0 : l.stackTraces = false) (dC : Nat → ClassId) (dI : Nat → Nat → Nat) (A0 : Nat → Prop) (ad : Nat → Nat) (sz : Nat) (h0 t0 b0 c0 r0 d0 e0 o0 s0 p0 w0 : Nat) (bt : Nat) (x0 x1 x2 : Int32) (hA0 : ∀ q, va_A [(h0, .inr (11, [.ref t0, .ref b0, .ref c0, .ref r0, .ref d0, .ref e0, .ref o0, .ref s0, .ref p0, .ref w0, .int 0, .int 0, .int 0, .int 0, .int ((-1)), .int 0])), (b0, .inr (0, [.ref bt, .int 0]))] sz q → A0 q) : vx_Met l yX11_coming wsX11_coming ({ frames := 7, cells := 1, slots := 6, locals := 104 }) (va_Pc [.ref h0, .int x0, .int x1, .int x2] (zPc A0 ad (dC, dI) [(h0, .inr (11, [.ref t0, .ref b0, .ref c0, .ref r0, .ref d0, .ref e0, .ref o0, .ref s0, .ref p0, .ref w0, .int 0, .int 0, .int 0, .int 0, .int ((-1)), .int 0])), (b0, .inr (0, [.ref bt, .int 0]))] [] sz)) (va_Qi (fun (_ : Int32) (_ : Unit) => False) (fun (_ : Unit) (t : State) => zB (dC, dI) (va_A [(h0, .inr (11, [.ref t0, .ref b0, .ref c0, .ref r0, .ref d0, .ref e0, .ref o0, .ref s0, .ref p0, .ref w0, .int 0, .int 0, .int 0, .int 0, .int ((-1)), .int 0])), (b0, .inr (0, [.ref bt, .int 0]))] sz) [(h0, .inr (11, [.ref t0, .ref b0, .ref c0, .ref r0, .ref d0, .ref e0, .ref o0, .ref s0, .ref p0, .ref w0, .int 0, .int 0, .int 0, .int 0, .int ((-1)), .int 0])), (b0, .inr (0, [.ref bt, .int 0]))] [] t) (va_A [(h0, .inr (11, [.ref t0, .ref b0, .ref c0, .ref r0, .ref d0, .ref e0, .ref o0, .ref s0, .ref p0, .ref w0, .int 0, .int 0, .int 0, .int 0, .int ((-1)), .int 0])), (b0, .inr (0, [.ref bt, .int 0]))] sz)) (vx_X (fun _ : Unit => True) (fun (E : String) (_ : Unit) (_ : State) => E = "java/lang/IndexOutOfBoundsException") (va_A [(h0, .inr (11, [.ref t0, .ref b0, .ref c0, .ref r0, .ref d0, .ref e0, .ref o0, .ref s0, .ref p0, .ref w0, .int 0, .int 0, .int 0, .int 0, .int ((-1)), .int 0])), (b0, .inr (0, [.ref bt, .int 0]))] sz)) 1 6 (va_A [(h0, .inr (11, [.ref t0, .ref b0, .ref c0, .ref r0, .ref d0, .ref e0, .ref o0, .ref s0, .ref p0, .ref w0, .int 0, .int 0, .int 0, .int 0, .int ((-1)), .int 0])), (b0, .inr (0, [.ref bt, .int 0]))] sz) := by
  refine vx_ofW (cc := cX11_coming) (maxL := 5) (ret := (some .int)) (by decide) rfl ?_
  intro p e s m args below meth c s₁ B hml ht0 hv
  obtain ⟨rfl, hsz, hz, hP, hK, hD0⟩ := hv
  have hx := B.exec
  have hb := B.bytes
  have hr := B.returns
  have hts := atoms_spec (ws := wsX11_coming) B.pre
  have hown : s.vm.findClass RX11 = some m.cls := findClass_of_methodNamed B.named
  have hlocks := B.notSynchronized
  subst hsz
  have hD := hD0.self (sz := s.heap.size)
  generalize hAe : va_A [(h0, .inr (11, [.ref t0, .ref b0, .ref c0, .ref r0, .ref d0, .ref e0, .ref o0, .ref s0, .ref p0, .ref w0, .int 0, .int 0, .int 0, .int 0, .int ((-1)), .int 0])), (b0, .inr (0, [.ref bt, .int 0]))] s.heap.size = A at hD hA0 ⊢
  have hA : ∀ q : Nat, s.heap.size ≤ q → A q := fun q h => by rw [← hAe]; exact Or.inr h
  have hS : va_S A s.heap s.heap [] := va_S.rf
  have hl := lv_entry ([.ref h0, .int x0, .int x1, .int x2]) (n := 5) (Nat.le_of_ble_eq_true rfl)
  rw [lg_entry_eq]
  generalize (lg_sl ([.ref h0, .int x0, .int x1, .int x2]) ++ List.replicate (5 - (lg_sl ([.ref h0, .int x0, .int x1, .int x2])).length) Slot.unset).toArray = ls at hl ⊢
  have hl : lv_has ls 5 [(0, .ref h0), (1, .int x0), (2, .int x1), (3, .int x2)] := hl
  have hP : va_P (dC, dI) vwCl [(h0, .inr (11, [.ref t0, .ref b0, .ref c0, .ref r0, .ref d0, .ref e0, .ref o0, .ref s0, .ref p0, .ref w0, .int 0, .int 0, .int 0, .int 0, .int ((-1)), .int 0])), (b0, .inr (0, [.ref bt, .int 0]))] s.heap := hP
  refine lv_aload_n hx hb dX11_coming_0 rfl (lv_at hl 0 rfl) ?_
  refine lv_iload_n hx hb dX11_coming_1 rfl (lv_at hl 1 rfl) ?_
  have hPc := hP.sub (ws' := [(h0, .inr (11, [.ref t0, .ref b0, .ref c0, .ref r0, .ref d0, .ref e0, .ref o0, .ref s0, .ref p0, .ref w0, .int 0, .int 0, .int 0, .int 0, .int ((-1)), .int 0])), (b0, .inr (0, [.ref bt, .int 0]))]) [0, 1] rfl
  have hDc := hD.sub (ws' := [(h0, .inr (11, [.ref t0, .ref b0, .ref c0, .ref r0, .ref d0, .ref e0, .ref o0, .ref s0, .ref p0, .ref w0, .int 0, .int 0, .int 0, .int 0, .int ((-1)), .int 0])), (b0, .inr (0, [.ref bt, .int 0]))]) [0, 1] (by decide) rfl
  have hKc := hK.sub (tys' := []) [] rfl
  have hFc := va_free (wc := [(h0, .inr (11, [.ref t0, .ref b0, .ref c0, .ref r0, .ref d0, .ref e0, .ref o0, .ref s0, .ref p0, .ref w0, .int 0, .int 0, .int 0, .int 0, .int ((-1)), .int 0])), (b0, .inr (0, [.ref bt, .int 0]))]) hD hS hA [0, 1] rfl
  refine vx_callq (vx_runV (As := [.int x0]) (rest := []) ⟨hx, hb, hml, hown, hts⟩ (c_thingAt l hl0 dC dI A0 ad s.heap.size h0 t0 b0 c0 r0 d0 e0 o0 s0 p0 w0 bt x0 (fun q h => hA0 q (hFc q h))) (cwV 1 hts gX11_coming_X11_thingAt rfl rfl rfl (by decide +kernel) ⟨Nat.le_of_ble_eq_true rfl, Nat.le_of_ble_eq_true rfl⟩) ⟨zPc_bl, va_recv hKc hPc (ci := 11) (q0 := 0) rfl rfl, zPc_at hz hS hA0 hPc hKc hDc⟩ rfl rfl hl.1 rfl (lv_room (Nat.le_of_ble_eq_true rfl)) dX11_coming_2 ⟨Nat.le_of_ble_eq_true rfl, Nat.le_of_ble_eq_true rfl⟩) hS (fun q _ h => hFc q h) hFc (fun q _ h => hFc q h) (fun E ce q9 u t H1 locs ht hvm hw hB hz1 hk1 hS hce hcv hcl => ?_) (fun r1 u t H1 locs ht hvm hw hB hz1 hk1 hS => ?_)
  · skip
    have hB : E = "java/lang/IndexOutOfBoundsException" := hB
    exact vx_out (fun x h9 => (ht0 x h9).elim) hlocks hce hcv hcl (fun t ht hvm => ⟨(), trivial, hB, hS.F ht⟩) hS.2.2 (by decide) (by decide)
  · exact hw.elim
set_option maxHeartbeats 4000000 in
set_option maxRecDepth 100000 in
/-- stock on an empty book throws -/
theorem c_stock (l : Launch) (hl0 : l.stackTraces = false) (dC : Nat → ClassId) (dI : Nat → Nat → Nat) (A0 : Nat → Prop) (ad : Nat → Nat) (sz : Nat) (h0 t0 b0 c0 r0 d0 e0 o0 s0 p0 w0 : Nat) (bt : Nat) (x0 : Int32) (hA0 : ∀ q, va_A [(h0, .inr (11, [.ref t0, .ref b0, .ref c0, .ref r0, .ref d0, .ref e0, .ref o0, .ref s0, .ref p0, .ref w0, .int 0, .int 0, .int 0, .int 0, .int ((-1)), .int 0])), (b0, .inr (0, [.ref bt, .int 0]))] sz q → A0 q) : vx_Met l yX11_stock wsX11_stock ({ frames := 7, cells := 1, slots := 6, locals := 104 }) (va_Pc [.ref h0, .int x0] (zPc A0 ad (dC, dI) [(h0, .inr (11, [.ref t0, .ref b0, .ref c0, .ref r0, .ref d0, .ref e0, .ref o0, .ref s0, .ref p0, .ref w0, .int 0, .int 0, .int 0, .int 0, .int ((-1)), .int 0])), (b0, .inr (0, [.ref bt, .int 0]))] [] sz)) (va_Qi (fun (_ : Int32) (_ : Unit) => False) (fun (_ : Unit) (t : State) => zB (dC, dI) (va_A [(h0, .inr (11, [.ref t0, .ref b0, .ref c0, .ref r0, .ref d0, .ref e0, .ref o0, .ref s0, .ref p0, .ref w0, .int 0, .int 0, .int 0, .int 0, .int ((-1)), .int 0])), (b0, .inr (0, [.ref bt, .int 0]))] sz) [(h0, .inr (11, [.ref t0, .ref b0, .ref c0, .ref r0, .ref d0, .ref e0, .ref o0, .ref s0, .ref p0, .ref w0, .int 0, .int 0, .int 0, .int 0, .int ((-1)), .int 0])), (b0, .inr (0, [.ref bt, .int 0]))] [] t) (va_A [(h0, .inr (11, [.ref t0, .ref b0, .ref c0, .ref r0, .ref d0, .ref e0, .ref o0, .ref s0, .ref p0, .ref w0, .int 0, .int 0, .int 0, .int 0, .int ((-1)), .int 0])), (b0, .inr (0, [.ref bt, .int 0]))] sz)) (vx_X (fun _ : Unit => True) (fun (E : String) (_ : Unit) (_ : State) => E = "java/lang/IndexOutOfBoundsException") (va_A [(h0, .inr (11, [.ref t0, .ref b0, .ref c0, .ref r0, .ref d0, .ref e0, .ref o0, .ref s0, .ref p0, .ref w0, .int 0, .int 0, .int 0, .int 0, .int ((-1)), .int 0])), (b0, .inr (0, [.ref bt, .int 0]))] sz)) 1 6 (va_A [(h0, .inr (11, [.ref t0, .ref b0, .ref c0, .ref r0, .ref d0, .ref e0, .ref o0, .ref s0, .ref p0, .ref w0, .int 0, .int 0, .int 0, .int 0, .int ((-1)), .int 0])), (b0, .inr (0, [.ref bt, .int 0]))] sz) := by
  refine vx_ofW (cc := cX11_stock) (maxL := 2) (ret := (some .int)) (by decide) rfl ?_
  intro p e s m args below meth c s₁ B hml ht0 hv
  obtain ⟨rfl, hsz, hz, hP, hK, hD0⟩ := hv
  have hx := B.exec
  have hb := B.bytes
  have hr := B.returns
  have hts := atoms_spec (ws := wsX11_stock) B.pre
  have hown : s.vm.findClass RX11 = some m.cls := findClass_of_methodNamed B.named
  have hlocks := B.notSynchronized
  subst hsz
  have hD := hD0.self (sz := s.heap.size)
  generalize hAe : va_A [(h0, .inr (11, [.ref t0, .ref b0, .ref c0, .ref r0, .ref d0, .ref e0, .ref o0, .ref s0, .ref p0, .ref w0, .int 0, .int 0, .int 0, .int 0, .int ((-1)), .int 0])), (b0, .inr (0, [.ref bt, .int 0]))] s.heap.size = A at hD hA0 ⊢
  have hA : ∀ q : Nat, s.heap.size ≤ q → A q := fun q h => by rw [← hAe]; exact Or.inr h
  have hS : va_S A s.heap s.heap [] := va_S.rf
  have hl := lv_entry ([.ref h0, .int x0]) (n := 2) (Nat.le_of_ble_eq_true rfl)
  rw [lg_entry_eq]
  generalize (lg_sl ([.ref h0, .int x0]) ++ List.replicate (2 - (lg_sl ([.ref h0, .int x0])).length) Slot.unset).toArray = ls at hl ⊢
  have hl : lv_has ls 2 [(0, .ref h0), (1, .int x0)] := hl
  have hP : va_P (dC, dI) vwCl [(h0, .inr (11, [.ref t0, .ref b0, .ref c0, .ref r0, .ref d0, .ref e0, .ref o0, .ref s0, .ref p0, .ref w0, .int 0, .int 0, .int 0, .int 0, .int ((-1)), .int 0])), (b0, .inr (0, [.ref bt, .int 0]))] s.heap := hP
  refine lv_aload_n hx hb dX11_stock_0 rfl (lv_at hl 0 rfl) ?_
  refine lv_iload_n hx hb dX11_stock_1 rfl (lv_at hl 1 rfl) ?_
  have hPc := hP.sub (ws' := [(h0, .inr (11, [.ref t0, .ref b0, .ref c0, .ref r0, .ref d0, .ref e0, .ref o0, .ref s0, .ref p0, .ref w0, .int 0, .int 0, .int 0, .int 0, .int ((-1)), .int 0])), (b0, .inr (0, [.ref bt, .int 0]))]) [0, 1] rfl
  have hDc := hD.sub (ws' := [(h0, .inr (11, [.ref t0, .ref b0, .ref c0, .ref r0, .ref d0, .ref e0, .ref o0, .ref s0, .ref p0, .ref w0, .int 0, .int 0, .int 0, .int 0, .int ((-1)), .int 0])), (b0, .inr (0, [.ref bt, .int 0]))]) [0, 1] (by decide) rfl
  have hKc := hK.sub (tys' := []) [] rfl
  have hFc := va_free (wc := [(h0, .inr (11, [.ref t0, .ref b0, .ref c0, .ref r0, .ref d0, .ref e0, .ref o0, .ref s0, .ref p0, .ref w0, .int 0, .int 0, .int 0, .int 0, .int ((-1)), .int 0])), (b0, .inr (0, [.ref bt, .int 0]))]) hD hS hA [0, 1] rfl
  refine vx_callq (vx_runV (As := [.int x0]) (rest := []) ⟨hx, hb, hml, hown, hts⟩ (c_thingAt l hl0 dC dI A0 ad s.heap.size h0 t0 b0 c0 r0 d0 e0 o0 s0 p0 w0 bt x0 (fun q h => hA0 q (hFc q h))) (cwV 1 hts gX11_stock_X11_thingAt rfl rfl rfl (by decide +kernel) ⟨Nat.le_of_ble_eq_true rfl, Nat.le_of_ble_eq_true rfl⟩) ⟨zPc_bl, va_recv hKc hPc (ci := 11) (q0 := 0) rfl rfl, zPc_at hz hS hA0 hPc hKc hDc⟩ rfl rfl hl.1 rfl (lv_room (Nat.le_of_ble_eq_true rfl)) dX11_stock_2 ⟨Nat.le_of_ble_eq_true rfl, Nat.le_of_ble_eq_true rfl⟩) hS (fun q _ h => hFc q h) hFc (fun q _ h => hFc q h) (fun E ce q9 u t H1 locs ht hvm hw hB hz1 hk1 hS hce hcv hcl => ?_) (fun r1 u t H1 locs ht hvm hw hB hz1 hk1 hS => ?_)
  · skip
    have hB : E = "java/lang/IndexOutOfBoundsException" := hB
    exact vx_out (fun x h9 => (ht0 x h9).elim) hlocks hce hcv hcl (fun t ht hvm => ⟨(), trivial, hB, hS.F ht⟩) hS.2.2 (by decide) (by decide)
  · exact hw.elim
set_option maxHeartbeats 4000000 in
set_option maxRecDepth 100000 in
/-- pick on an empty book throws -/
theorem c_pick (l : Launch) (hl0 : l.stackTraces = false) (dC : Nat → ClassId) (dI : Nat → Nat → Nat) (A0 : Nat → Prop) (ad : Nat → Nat) (sz : Nat) (h0 t0 b0 c0 r0 d0 e0 o0 s0 p0 w0 : Nat) (bt : Nat) (x0 : Int32) (hA0 : ∀ q, va_A [(h0, .inr (11, [.ref t0, .ref b0, .ref c0, .ref r0, .ref d0, .ref e0, .ref o0, .ref s0, .ref p0, .ref w0, .int 0, .int 0, .int 0, .int 0, .int ((-1)), .int 0])), (b0, .inr (0, [.ref bt, .int 0]))] sz q → A0 q) : vx_Met l yX11_pick wsX11_pick ({ frames := 7, cells := 1, slots := 6, locals := 104 }) (va_Pc [.ref h0, .int x0] (zPc A0 ad (dC, dI) [(h0, .inr (11, [.ref t0, .ref b0, .ref c0, .ref r0, .ref d0, .ref e0, .ref o0, .ref s0, .ref p0, .ref w0, .int 0, .int 0, .int 0, .int 0, .int ((-1)), .int 0])), (b0, .inr (0, [.ref bt, .int 0]))] [] sz)) (va_Qi (fun (_ : Int32) (_ : Unit) => False) (fun (_ : Unit) (t : State) => zB (dC, dI) (va_A [(h0, .inr (11, [.ref t0, .ref b0, .ref c0, .ref r0, .ref d0, .ref e0, .ref o0, .ref s0, .ref p0, .ref w0, .int 0, .int 0, .int 0, .int 0, .int ((-1)), .int 0])), (b0, .inr (0, [.ref bt, .int 0]))] sz) [(h0, .inr (11, [.ref t0, .ref b0, .ref c0, .ref r0, .ref d0, .ref e0, .ref o0, .ref s0, .ref p0, .ref w0, .int 0, .int 0, .int 0, .int 0, .int ((-1)), .int 0])), (b0, .inr (0, [.ref bt, .int 0]))] [] t) (va_A [(h0, .inr (11, [.ref t0, .ref b0, .ref c0, .ref r0, .ref d0, .ref e0, .ref o0, .ref s0, .ref p0, .ref w0, .int 0, .int 0, .int 0, .int 0, .int ((-1)), .int 0])), (b0, .inr (0, [.ref bt, .int 0]))] sz)) (vx_X (fun _ : Unit => True) (fun (E : String) (_ : Unit) (_ : State) => E = "java/lang/IndexOutOfBoundsException") (va_A [(h0, .inr (11, [.ref t0, .ref b0, .ref c0, .ref r0, .ref d0, .ref e0, .ref o0, .ref s0, .ref p0, .ref w0, .int 0, .int 0, .int 0, .int 0, .int ((-1)), .int 0])), (b0, .inr (0, [.ref bt, .int 0]))] sz)) 1 6 (va_A [(h0, .inr (11, [.ref t0, .ref b0, .ref c0, .ref r0, .ref d0, .ref e0, .ref o0, .ref s0, .ref p0, .ref w0, .int 0, .int 0, .int 0, .int 0, .int ((-1)), .int 0])), (b0, .inr (0, [.ref bt, .int 0]))] sz) := by
  refine vx_ofW (cc := cX11_pick) (maxL := 2) (ret := (some .int)) (by decide) rfl ?_
  intro p e s m args below meth c s₁ B hml ht0 hv
  obtain ⟨rfl, hsz, hz, hP, hK, hD0⟩ := hv
  have hx := B.exec
  have hb := B.bytes
  have hr := B.returns
  have hts := atoms_spec (ws := wsX11_pick) B.pre
  have hown : s.vm.findClass RX11 = some m.cls := findClass_of_methodNamed B.named
  have hlocks := B.notSynchronized
  subst hsz
  have hD := hD0.self (sz := s.heap.size)
  generalize hAe : va_A [(h0, .inr (11, [.ref t0, .ref b0, .ref c0, .ref r0, .ref d0, .ref e0, .ref o0, .ref s0, .ref p0, .ref w0, .int 0, .int 0, .int 0, .int 0, .int ((-1)), .int 0])), (b0, .inr (0, [.ref bt, .int 0]))] s.heap.size = A at hD hA0 ⊢
  have hA : ∀ q : Nat, s.heap.size ≤ q → A q := fun q h => by rw [← hAe]; exact Or.inr h
  have hS : va_S A s.heap s.heap [] := va_S.rf
  have hl := lv_entry ([.ref h0, .int x0]) (n := 2) (Nat.le_of_ble_eq_true rfl)
  rw [lg_entry_eq]
  generalize (lg_sl ([.ref h0, .int x0]) ++ List.replicate (2 - (lg_sl ([.ref h0, .int x0])).length) Slot.unset).toArray = ls at hl ⊢
  have hl : lv_has ls 2 [(0, .ref h0), (1, .int x0)] := hl
  have hP : va_P (dC, dI) vwCl [(h0, .inr (11, [.ref t0, .ref b0, .ref c0, .ref r0, .ref d0, .ref e0, .ref o0, .ref s0, .ref p0, .ref w0, .int 0, .int 0, .int 0, .int 0, .int ((-1)), .int 0])), (b0, .inr (0, [.ref bt, .int 0]))] s.heap := hP
  have hiX11 : ∀ w ∈ u_ws RX11 TX11 16, w ∈ wsX11_pick := fun _ h => List.mem_cons_of_mem _ (List.mem_append_left _ (List.mem_append_left _ (List.mem_append_left _ (List.mem_append_right _ h))))
  have hw1 := hts (.fieldLink RX11 68 "PostHouse" "walk" "LPostHouse$Walk;") (by decide +kernel)
  refine lv_aload_n hx hb dX11_pick_0 rfl (lv_at hl 0 rfl) ?_
  refine va_get (D := (dC, dI)) (ci := 11) (v := .ref w0) (C := RX11) (T := TX11) (N := 16) hx hb hts hiX11 hown hK hP 0 rfl rfl 9 (by decide) hw1 (fun _ h9 => h9) rfl dX11_pick_1 ?_
  refine lv_aload_n hx hb dX11_pick_4 rfl (lv_at hl 0 rfl) ?_
  refine lv_iload_n hx hb dX11_pick_5 rfl (lv_at hl 1 rfl) ?_
  have hPc := hP.sub (ws' := [(h0, .inr (11, [.ref t0, .ref b0, .ref c0, .ref r0, .ref d0, .ref e0, .ref o0, .ref s0, .ref p0, .ref w0, .int 0, .int 0, .int 0, .int 0, .int ((-1)), .int 0])), (b0, .inr (0, [.ref bt, .int 0]))]) [0, 1] rfl
  have hDc := hD.sub (ws' := [(h0, .inr (11, [.ref t0, .ref b0, .ref c0, .ref r0, .ref d0, .ref e0, .ref o0, .ref s0, .ref p0, .ref w0, .int 0, .int 0, .int 0, .int 0, .int ((-1)), .int 0])), (b0, .inr (0, [.ref bt, .int 0]))]) [0, 1] (by decide) rfl
  have hKc := hK.sub (tys' := []) [] rfl
  have hFc := va_free (wc := [(h0, .inr (11, [.ref t0, .ref b0, .ref c0, .ref r0, .ref d0, .ref e0, .ref o0, .ref s0, .ref p0, .ref w0, .int 0, .int 0, .int 0, .int 0, .int ((-1)), .int 0])), (b0, .inr (0, [.ref bt, .int 0]))]) hD hS hA [0, 1] rfl
  refine vx_callq (vx_runV (As := [.int x0]) (rest := [.ref w0]) ⟨hx, hb, hml, hown, hts⟩ (c_thingAt l hl0 dC dI A0 ad s.heap.size h0 t0 b0 c0 r0 d0 e0 o0 s0 p0 w0 bt x0 (fun q h => hA0 q (hFc q h))) (cwV 1 hts gX11_pick_X11_thingAt rfl rfl rfl (by decide +kernel) ⟨Nat.le_of_ble_eq_true rfl, Nat.le_of_ble_eq_true rfl⟩) ⟨zPc_bl, va_recv hKc hPc (ci := 11) (q0 := 0) rfl rfl, zPc_at hz hS hA0 hPc hKc hDc⟩ rfl rfl hl.1 rfl (lv_room (Nat.le_of_ble_eq_true rfl)) dX11_pick_6 ⟨Nat.le_of_ble_eq_true rfl, Nat.le_of_ble_eq_true rfl⟩) hS (fun q _ h => hFc q h) hFc (fun q _ h => hFc q h) (fun E ce q9 u t H1 locs ht hvm hw hB hz1 hk1 hS hce hcv hcl => ?_) (fun r1 u t H1 locs ht hvm hw hB hz1 hk1 hS => ?_)
  · skip
    have hB : E = "java/lang/IndexOutOfBoundsException" := hB
    exact vx_out (fun x h9 => (ht0 x h9).elim) hlocks hce hcv hcl (fun t ht hvm => ⟨(), trivial, hB, hS.F ht⟩) hS.2.2 (by decide) (by decide)
  · exact hw.elim
set_option maxHeartbeats 4000000 in
set_option maxRecDepth 100000 in
/-- foretold on an empty book throws -/
theorem c_foretold (l : Launch) (hl0 : l.stackTraces = false) (dC : Nat → ClassId) (dI : Nat → Nat → Nat) (A0 : Nat → Prop) (ad : Nat → Nat) (sz : Nat) (h0 t0 b0 c0 r0 d0 e0 o0 s0 p0 w0 : Nat) (bt : Nat) (x0 x1 x2 x3 x4 : Int32) (hA0 : ∀ q, va_A [(h0, .inr (11, [.ref t0, .ref b0, .ref c0, .ref r0, .ref d0, .ref e0, .ref o0, .ref s0, .ref p0, .ref w0, .int 0, .int 0, .int 0, .int 0, .int ((-1)), .int 0])), (b0, .inr (0, [.ref bt, .int 0]))] sz q → A0 q) : vx_Met l yX11_foretold wsX11_foretold ({ frames := 7, cells := 1, slots := 6, locals := 104 }) (va_Pc [.ref h0, .int x0, .int x1, .int x2, .int x3, .int x4] (zPc A0 ad (dC, dI) [(h0, .inr (11, [.ref t0, .ref b0, .ref c0, .ref r0, .ref d0, .ref e0, .ref o0, .ref s0, .ref p0, .ref w0, .int 0, .int 0, .int 0, .int 0, .int ((-1)), .int 0])), (b0, .inr (0, [.ref bt, .int 0]))] [] sz)) (va_Qi (fun (_ : Int32) (_ : Unit) => False) (fun (_ : Unit) (t : State) => zB (dC, dI) (va_A [(h0, .inr (11, [.ref t0, .ref b0, .ref c0, .ref r0, .ref d0, .ref e0, .ref o0, .ref s0, .ref p0, .ref w0, .int 0, .int 0, .int 0, .int 0, .int ((-1)), .int 0])), (b0, .inr (0, [.ref bt, .int 0]))] sz) [(h0, .inr (11, [.ref t0, .ref b0, .ref c0, .ref r0, .ref d0, .ref e0, .ref o0, .ref s0, .ref p0, .ref w0, .int 0, .int 0, .int 0, .int 0, .int ((-1)), .int 0])), (b0, .inr (0, [.ref bt, .int 0]))] [] t) (va_A [(h0, .inr (11, [.ref t0, .ref b0, .ref c0, .ref r0, .ref d0, .ref e0, .ref o0, .ref s0, .ref p0, .ref w0, .int 0, .int 0, .int 0, .int 0, .int ((-1)), .int 0])), (b0, .inr (0, [.ref bt, .int 0]))] sz)) (vx_X (fun _ : Unit => True) (fun (E : String) (_ : Unit) (_ : State) => E = "java/lang/IndexOutOfBoundsException") (va_A [(h0, .inr (11, [.ref t0, .ref b0, .ref c0, .ref r0, .ref d0, .ref e0, .ref o0, .ref s0, .ref p0, .ref w0, .int 0, .int 0, .int 0, .int 0, .int ((-1)), .int 0])), (b0, .inr (0, [.ref bt, .int 0]))] sz)) 1 6 (va_A [(h0, .inr (11, [.ref t0, .ref b0, .ref c0, .ref r0, .ref d0, .ref e0, .ref o0, .ref s0, .ref p0, .ref w0, .int 0, .int 0, .int 0, .int 0, .int ((-1)), .int 0])), (b0, .inr (0, [.ref bt, .int 0]))] sz) := by
  refine vx_ofW (cc := cX11_foretold) (maxL := 10) (ret := (some .int)) (by decide) rfl ?_
  intro p e s m args below meth c s₁ B hml ht0 hv
  obtain ⟨rfl, hsz, hz, hP, hK, hD0⟩ := hv
  have hx := B.exec
  have hb := B.bytes
  have hr := B.returns
  have hts := atoms_spec (ws := wsX11_foretold) B.pre
  have hown : s.vm.findClass RX11 = some m.cls := findClass_of_methodNamed B.named
  have hlocks := B.notSynchronized
  subst hsz
  have hD := hD0.self (sz := s.heap.size)
  generalize hAe : va_A [(h0, .inr (11, [.ref t0, .ref b0, .ref c0, .ref r0, .ref d0, .ref e0, .ref o0, .ref s0, .ref p0, .ref w0, .int 0, .int 0, .int 0, .int 0, .int ((-1)), .int 0])), (b0, .inr (0, [.ref bt, .int 0]))] s.heap.size = A at hD hA0 ⊢
  have hA : ∀ q : Nat, s.heap.size ≤ q → A q := fun q h => by rw [← hAe]; exact Or.inr h
  have hS : va_S A s.heap s.heap [] := va_S.rf
  have hl := lv_entry ([.ref h0, .int x0, .int x1, .int x2, .int x3, .int x4]) (n := 10) (Nat.le_of_ble_eq_true rfl)
  rw [lg_entry_eq]
  generalize (lg_sl ([.ref h0, .int x0, .int x1, .int x2, .int x3, .int x4]) ++ List.replicate (10 - (lg_sl ([.ref h0, .int x0, .int x1, .int x2, .int x3, .int x4])).length) Slot.unset).toArray = ls at hl ⊢
  have hl : lv_has ls 10 [(0, .ref h0), (1, .int x0), (2, .int x1), (3, .int x2), (4, .int x3), (5, .int x4)] := hl
  have hP : va_P (dC, dI) vwCl [(h0, .inr (11, [.ref t0, .ref b0, .ref c0, .ref r0, .ref d0, .ref e0, .ref o0, .ref s0, .ref p0, .ref w0, .int 0, .int 0, .int 0, .int 0, .int ((-1)), .int 0])), (b0, .inr (0, [.ref bt, .int 0]))] s.heap := hP
  refine lv_aload_n hx hb dX11_foretold_0 rfl (lv_at hl 0 rfl) ?_
  refine lv_iload_n hx hb dX11_foretold_1 rfl (lv_at hl 1 rfl) ?_
  have hPc := hP.sub (ws' := [(h0, .inr (11, [.ref t0, .ref b0, .ref c0, .ref r0, .ref d0, .ref e0, .ref o0, .ref s0, .ref p0, .ref w0, .int 0, .int 0, .int 0, .int 0, .int ((-1)), .int 0])), (b0, .inr (0, [.ref bt, .int 0]))]) [0, 1] rfl
  have hDc := hD.sub (ws' := [(h0, .inr (11, [.ref t0, .ref b0, .ref c0, .ref r0, .ref d0, .ref e0, .ref o0, .ref s0, .ref p0, .ref w0, .int 0, .int 0, .int 0, .int 0, .int ((-1)), .int 0])), (b0, .inr (0, [.ref bt, .int 0]))]) [0, 1] (by decide) rfl
  have hKc := hK.sub (tys' := []) [] rfl
  have hFc := va_free (wc := [(h0, .inr (11, [.ref t0, .ref b0, .ref c0, .ref r0, .ref d0, .ref e0, .ref o0, .ref s0, .ref p0, .ref w0, .int 0, .int 0, .int 0, .int 0, .int ((-1)), .int 0])), (b0, .inr (0, [.ref bt, .int 0]))]) hD hS hA [0, 1] rfl
  refine vx_callq (vx_runV (As := [.int x0]) (rest := []) ⟨hx, hb, hml, hown, hts⟩ (c_thingAt l hl0 dC dI A0 ad s.heap.size h0 t0 b0 c0 r0 d0 e0 o0 s0 p0 w0 bt x0 (fun q h => hA0 q (hFc q h))) (cwV 1 hts gX11_foretold_X11_thingAt rfl rfl rfl (by decide +kernel) ⟨Nat.le_of_ble_eq_true rfl, Nat.le_of_ble_eq_true rfl⟩) ⟨zPc_bl, va_recv hKc hPc (ci := 11) (q0 := 0) rfl rfl, zPc_at hz hS hA0 hPc hKc hDc⟩ rfl rfl hl.1 rfl (lv_room (Nat.le_of_ble_eq_true rfl)) dX11_foretold_2 ⟨Nat.le_of_ble_eq_true rfl, Nat.le_of_ble_eq_true rfl⟩) hS (fun q _ h => hFc q h) hFc (fun q _ h => hFc q h) (fun E ce q9 u t H1 locs ht hvm hw hB hz1 hk1 hS hce hcv hcl => ?_) (fun r1 u t H1 locs ht hvm hw hB hz1 hk1 hS => ?_)
  · skip
    have hB : E = "java/lang/IndexOutOfBoundsException" := hB
    exact vx_out (fun x h9 => (ht0 x h9).elim) hlocks hce hcv hcl (fun t ht hvm => ⟨(), trivial, hB, hS.F ht⟩) hS.2.2 (by decide) (by decide)
  · exact hw.elim
set_option maxHeartbeats 4000000 in
set_option maxRecDepth 100000 in
/-- instead on an empty book throws -/
theorem c_instead (l : Launch) (hl0 : l.stackTraces = false) (dC : Nat → ClassId) (dI : Nat → Nat → Nat) (A0 : Nat → Prop) (ad : Nat → Nat) (sz : Nat) (h0 t0 b0 c0 r0 d0 e0 o0 s0 p0 w0 : Nat) (bt rn rp : Nat) (x0 : Int32) (hA0 : ∀ q, va_A [(h0, .inr (11, [.ref t0, .ref b0, .ref c0, .ref r0, .ref d0, .ref e0, .ref o0, .ref s0, .ref p0, .ref w0, .int 0, .int 0, .int 0, .int 0, .int ((-1)), .int 0])), (b0, .inr (0, [.ref bt, .int 0])), (r0, .inr (5, [.ref rn, .ref rp]))] sz q → A0 q) : vx_Met l yX11_instead wsX11_instead ({ frames := 7, cells := 1, slots := 6, locals := 104 }) (va_Pc [.ref h0, .int x0] (zPc A0 ad (dC, dI) [(h0, .inr (11, [.ref t0, .ref b0, .ref c0, .ref r0, .ref d0, .ref e0, .ref o0, .ref s0, .ref p0, .ref w0, .int 0, .int 0, .int 0, .int 0, .int ((-1)), .int 0])), (b0, .inr (0, [.ref bt, .int 0])), (r0, .inr (5, [.ref rn, .ref rp]))] [] sz)) (va_Qi (fun (_ : Int32) (_ : Unit) => False) (fun (_ : Unit) (t : State) => zB (dC, dI) (va_A [(h0, .inr (11, [.ref t0, .ref b0, .ref c0, .ref r0, .ref d0, .ref e0, .ref o0, .ref s0, .ref p0, .ref w0, .int 0, .int 0, .int 0, .int 0, .int ((-1)), .int 0])), (b0, .inr (0, [.ref bt, .int 0])), (r0, .inr (5, [.ref rn, .ref rp]))] sz) [(h0, .inr (11, [.ref t0, .ref b0, .ref c0, .ref r0, .ref d0, .ref e0, .ref o0, .ref s0, .ref p0, .ref w0, .int 0, .int 0, .int 0, .int 0, .int ((-1)), .int 0])), (b0, .inr (0, [.ref bt, .int 0])), (r0, .inr (5, [.ref rn, .ref rp]))] [] t) (va_A [(h0, .inr (11, [.ref t0, .ref b0, .ref c0, .ref r0, .ref d0, .ref e0, .ref o0, .ref s0, .ref p0, .ref w0, .int 0, .int 0, .int 0, .int 0, .int ((-1)), .int 0])), (b0, .inr (0, [.ref bt, .int 0])), (r0, .inr (5, [.ref rn, .ref rp]))] sz)) (vx_X (fun _ : Unit => True) (fun (E : String) (_ : Unit) (_ : State) => E = "java/lang/IndexOutOfBoundsException") (va_A [(h0, .inr (11, [.ref t0, .ref b0, .ref c0, .ref r0, .ref d0, .ref e0, .ref o0, .ref s0, .ref p0, .ref w0, .int 0, .int 0, .int 0, .int 0, .int ((-1)), .int 0])), (b0, .inr (0, [.ref bt, .int 0])), (r0, .inr (5, [.ref rn, .ref rp]))] sz)) 1 6 (va_A [(h0, .inr (11, [.ref t0, .ref b0, .ref c0, .ref r0, .ref d0, .ref e0, .ref o0, .ref s0, .ref p0, .ref w0, .int 0, .int 0, .int 0, .int 0, .int ((-1)), .int 0])), (b0, .inr (0, [.ref bt, .int 0])), (r0, .inr (5, [.ref rn, .ref rp]))] sz) := by
  refine vx_ofW (cc := cX11_instead) (maxL := 2) (ret := (some .int)) (by decide) rfl ?_
  intro p e s m args below meth c s₁ B hml ht0 hv
  obtain ⟨rfl, hsz, hz, hP, hK, hD0⟩ := hv
  have hx := B.exec
  have hb := B.bytes
  have hr := B.returns
  have hts := atoms_spec (ws := wsX11_instead) B.pre
  have hown : s.vm.findClass RX11 = some m.cls := findClass_of_methodNamed B.named
  have hlocks := B.notSynchronized
  subst hsz
  have hD := hD0.self (sz := s.heap.size)
  generalize hAe : va_A [(h0, .inr (11, [.ref t0, .ref b0, .ref c0, .ref r0, .ref d0, .ref e0, .ref o0, .ref s0, .ref p0, .ref w0, .int 0, .int 0, .int 0, .int 0, .int ((-1)), .int 0])), (b0, .inr (0, [.ref bt, .int 0])), (r0, .inr (5, [.ref rn, .ref rp]))] s.heap.size = A at hD hA0 ⊢
  have hA : ∀ q : Nat, s.heap.size ≤ q → A q := fun q h => by rw [← hAe]; exact Or.inr h
  have hS : va_S A s.heap s.heap [] := va_S.rf
  have hl := lv_entry ([.ref h0, .int x0]) (n := 2) (Nat.le_of_ble_eq_true rfl)
  rw [lg_entry_eq]
  generalize (lg_sl ([.ref h0, .int x0]) ++ List.replicate (2 - (lg_sl ([.ref h0, .int x0])).length) Slot.unset).toArray = ls at hl ⊢
  have hl : lv_has ls 2 [(0, .ref h0), (1, .int x0)] := hl
  have hP : va_P (dC, dI) vwCl [(h0, .inr (11, [.ref t0, .ref b0, .ref c0, .ref r0, .ref d0, .ref e0, .ref o0, .ref s0, .ref p0, .ref w0, .int 0, .int 0, .int 0, .int 0, .int ((-1)), .int 0])), (b0, .inr (0, [.ref bt, .int 0])), (r0, .inr (5, [.ref rn, .ref rp]))] s.heap := hP
  have hiX11 : ∀ w ∈ u_ws RX11 TX11 16, w ∈ wsX11_instead := fun _ h => List.mem_cons_of_mem _ (List.mem_append_left _ (List.mem_append_left _ (List.mem_append_left _ (List.mem_append_left _ (List.mem_append_right _ h)))))
  have hw1 := hts (.fieldLink RX11 33 "PostHouse" "rules" "LPostHouse$Rules;") (by decide +kernel)
  have hiX5 : ∀ w ∈ u_ws RX5 TX5 2, w ∈ wsX11_instead := fun _ h => List.mem_cons_of_mem _ (List.mem_append_left _ (List.mem_append_left _ (List.mem_append_left _ (List.mem_append_right _ h))))
  have hw3 := hts (.fieldLink RX11 178 "PostHouse$Rules" "places" "[I") (by decide +kernel)
  refine lv_aload_n hx hb dX11_instead_0 rfl (lv_at hl 0 rfl) ?_
  refine va_get (D := (dC, dI)) (ci := 11) (v := .ref r0) (C := RX11) (T := TX11) (N := 16) hx hb hts hiX11 hown hK hP 0 rfl rfl 3 (by decide) hw1 (fun _ h9 => h9) rfl dX11_instead_1 ?_
  refine va_get (D := (dC, dI)) (ci := 5) (v := .ref rp) (C := RX5) (T := TX5) (N := 2) hx hb hts hiX5 hown hK hP 2 rfl rfl 1 (by decide) hw3 (fun _ h9 => h9) rfl dX11_instead_4 ?_
  refine lv_aload_n hx hb dX11_instead_7 rfl (lv_at hl 0 rfl) ?_
  refine lv_iload_n hx hb dX11_instead_8 rfl (lv_at hl 1 rfl) ?_
  have hPc := hP.sub (ws' := [(h0, .inr (11, [.ref t0, .ref b0, .ref c0, .ref r0, .ref d0, .ref e0, .ref o0, .ref s0, .ref p0, .ref w0, .int 0, .int 0, .int 0, .int 0, .int ((-1)), .int 0])), (b0, .inr (0, [.ref bt, .int 0]))]) [0, 1] rfl
  have hDc := hD.sub (ws' := [(h0, .inr (11, [.ref t0, .ref b0, .ref c0, .ref r0, .ref d0, .ref e0, .ref o0, .ref s0, .ref p0, .ref w0, .int 0, .int 0, .int 0, .int 0, .int ((-1)), .int 0])), (b0, .inr (0, [.ref bt, .int 0]))]) [0, 1] (by decide) rfl
  have hKc := hK.sub (tys' := []) [] rfl
  have hFc := va_free (wc := [(h0, .inr (11, [.ref t0, .ref b0, .ref c0, .ref r0, .ref d0, .ref e0, .ref o0, .ref s0, .ref p0, .ref w0, .int 0, .int 0, .int 0, .int 0, .int ((-1)), .int 0])), (b0, .inr (0, [.ref bt, .int 0]))]) hD hS hA [0, 1] rfl
  refine vx_callq (vx_runV (As := [.int x0]) (rest := [.ref rp]) ⟨hx, hb, hml, hown, hts⟩ (c_thingAt l hl0 dC dI A0 ad s.heap.size h0 t0 b0 c0 r0 d0 e0 o0 s0 p0 w0 bt x0 (fun q h => hA0 q (hFc q h))) (cwV 1 hts gX11_instead_X11_thingAt rfl rfl rfl (by decide +kernel) ⟨Nat.le_of_ble_eq_true rfl, Nat.le_of_ble_eq_true rfl⟩) ⟨zPc_bl, va_recv hKc hPc (ci := 11) (q0 := 0) rfl rfl, zPc_at hz hS hA0 hPc hKc hDc⟩ rfl rfl hl.1 rfl (lv_room (Nat.le_of_ble_eq_true rfl)) dX11_instead_9 ⟨Nat.le_of_ble_eq_true rfl, Nat.le_of_ble_eq_true rfl⟩) hS (fun q _ h => hFc q h) hFc (fun q _ h => hFc q h) (fun E ce q9 u t H1 locs ht hvm hw hB hz1 hk1 hS hce hcv hcl => ?_) (fun r1 u t H1 locs ht hvm hw hB hz1 hk1 hS => ?_)
  · skip
    have hB : E = "java/lang/IndexOutOfBoundsException" := hB
    exact vx_out (fun x h9 => (ht0 x h9).elim) hlocks hce hcv hcl (fun t ht hvm => ⟨(), trivial, hB, hS.F ht⟩) hS.2.2 (by decide) (by decide)
  · exact hw.elim
set_option maxHeartbeats 4000000 in
set_option maxRecDepth 100000 in
/-- doubtAt where there is none throws -/
theorem c_doubtAt (l : Launch) (hl0 : l.stackTraces = false) (dC : Nat → ClassId) (dI : Nat → Nat → Nat) (A0 : Nat → Prop) (ad : Nat → Nat) (sz : Nat) (h0 t0 b0 c0 r0 d0 e0 o0 s0 p0 w0 : Nat) (n : Int32) (hA0 : ∀ q, va_A [(h0, .inr (11, [.ref t0, .ref b0, .ref c0, .ref r0, .ref d0, .ref e0, .ref o0, .ref s0, .ref p0, .ref w0, .int 0, .int 0, .int 0, .int 0, .int ((-1)), .int 0]))] sz q → A0 q) : vx_Met l yX11_doubtAt wsX11_doubtAt ({ frames := 6, cells := 1, slots := 6, locals := 82 }) (va_Pc [.ref h0, .int n] (zPc A0 ad (dC, dI) [(h0, .inr (11, [.ref t0, .ref b0, .ref c0, .ref r0, .ref d0, .ref e0, .ref o0, .ref s0, .ref p0, .ref w0, .int 0, .int 0, .int 0, .int 0, .int ((-1)), .int 0]))] [] sz)) (va_Qq (fun (_ : Option Nat) (_ : Unit) => False) (fun (_ : Unit) (t : State) => zB (dC, dI) (va_A [(h0, .inr (11, [.ref t0, .ref b0, .ref c0, .ref r0, .ref d0, .ref e0, .ref o0, .ref s0, .ref p0, .ref w0, .int 0, .int 0, .int 0, .int 0, .int ((-1)), .int 0]))] sz) [(h0, .inr (11, [.ref t0, .ref b0, .ref c0, .ref r0, .ref d0, .ref e0, .ref o0, .ref s0, .ref p0, .ref w0, .int 0, .int 0, .int 0, .int 0, .int ((-1)), .int 0]))] [] t) (va_A [(h0, .inr (11, [.ref t0, .ref b0, .ref c0, .ref r0, .ref d0, .ref e0, .ref o0, .ref s0, .ref p0, .ref w0, .int 0, .int 0, .int 0, .int 0, .int ((-1)), .int 0]))] sz)) (vx_X (fun _ : Unit => True) (fun (E : String) (_ : Unit) (_ : State) => E = "java/lang/IndexOutOfBoundsException") (va_A [(h0, .inr (11, [.ref t0, .ref b0, .ref c0, .ref r0, .ref d0, .ref e0, .ref o0, .ref s0, .ref p0, .ref w0, .int 0, .int 0, .int 0, .int 0, .int ((-1)), .int 0]))] sz)) 1 6 (va_A [(h0, .inr (11, [.ref t0, .ref b0, .ref c0, .ref r0, .ref d0, .ref e0, .ref o0, .ref s0, .ref p0, .ref w0, .int 0, .int 0, .int 0, .int 0, .int ((-1)), .int 0]))] sz) := by
  refine vx_ofW (cc := cX11_doubtAt) (maxL := 2) (ret := (some (.object "PostHouse$Letter"))) (by decide) rfl ?_
  intro p e s m args below meth c s₁ B hml ht0 hv
  obtain ⟨rfl, hsz, hz, hP, hK, hD0⟩ := hv
  have hx := B.exec
  have hb := B.bytes
  have hr := B.returns
  have hts := atoms_spec (ws := wsX11_doubtAt) B.pre
  have hown : s.vm.findClass RX11 = some m.cls := findClass_of_methodNamed B.named
  have hlocks := B.notSynchronized
  subst hsz
  have hD := hD0.self (sz := s.heap.size)
  generalize hAe : va_A [(h0, .inr (11, [.ref t0, .ref b0, .ref c0, .ref r0, .ref d0, .ref e0, .ref o0, .ref s0, .ref p0, .ref w0, .int 0, .int 0, .int 0, .int 0, .int ((-1)), .int 0]))] s.heap.size = A at hD hA0 ⊢
  have hA : ∀ q : Nat, s.heap.size ≤ q → A q := fun q h => by rw [← hAe]; exact Or.inr h
  have hS : va_S A s.heap s.heap [] := va_S.rf
  have hl := lv_entry ([.ref h0, .int n]) (n := 2) (Nat.le_of_ble_eq_true rfl)
  rw [lg_entry_eq]
  generalize (lg_sl ([.ref h0, .int n]) ++ List.replicate (2 - (lg_sl ([.ref h0, .int n])).length) Slot.unset).toArray = ls at hl ⊢
  have hl : lv_has ls 2 [(0, .ref h0), (1, .int n)] := hl
  have hP : va_P (dC, dI) vwCl [(h0, .inr (11, [.ref t0, .ref b0, .ref c0, .ref r0, .ref d0, .ref e0, .ref o0, .ref s0, .ref p0, .ref w0, .int 0, .int 0, .int 0, .int 0, .int ((-1)), .int 0]))] s.heap := hP
  have hiX11 : ∀ w ∈ u_ws RX11 TX11 16, w ∈ wsX11_doubtAt := fun _ h => List.mem_cons_of_mem _ (List.mem_append_left _ (List.mem_append_right _ h))
  have hw1 := hts (.fieldLink RX11 215 "PostHouse" "doubtCount" "I") (by decide +kernel)
  have hw2 := hts (.classLink RX11 322 "java/lang/IndexOutOfBoundsException") (by decide +kernel)
  have hw3 := hts (.initialized "java/lang/IndexOutOfBoundsException") (by decide +kernel)
  refine lv_iload_n hx hb dX11_doubtAt_0 rfl (lv_at hl 1 rfl) ?_
  refine lv_iconst (v := 0) hx hb dX11_doubtAt_1 (by decide) ?_
  refine lv_aload_n hx hb dX11_doubtAt_2 rfl (lv_at hl 0 rfl) ?_
  refine va_get (D := (dC, dI)) (ci := 11) (v := .int 0) (C := RX11) (T := TX11) (N := 16) hx hb hts hiX11 hown hK hP 0 rfl rfl 10 (by decide) hw1 (fun _ h9 => h9) rfl dX11_doubtAt_3 ?_
  refine lv_iconst (v := 1) hx hb dX11_doubtAt_6 (by decide) ?_
  refine lv_isub hx hb dX11_doubtAt_7 ?_
  refine lv_topi (fun v1 ev1 => ?_)
  obtain rfl : v1 = (-1) := ev1.trans (by decide)
  have hPc := hP.sub (ws' := []) [] rfl
  have hDc := hD.sub (ws' := []) [] (by decide) rfl
  have hKc := hK.sub (tys' := []) [] rfl
  have hFc := va_free (wc := []) hD hS hA [] rfl
  refine va_calli (va_runS (As := [.int n, .int 0, .int ((-1))]) (rest := []) ⟨hx, hb, hml, hown, hts⟩ (c_within l hl0 dC dI A0 ad s.heap.size n 0 ((-1)) (fun q h => hA0 q (hFc q h))) (cwS 3 hts gX11_doubtAt_X11_within rfl rfl rfl (by decide +kernel) ⟨Nat.le_of_ble_eq_true rfl, Nat.le_of_ble_eq_true rfl⟩) ⟨zPc_bl, zPc_at hz hS hA0 hPc hKc hDc⟩ rfl rfl hl.1 rfl (lv_room (Nat.le_of_ble_eq_true rfl)) dX11_doubtAt_8 ⟨Nat.le_of_ble_eq_true rfl, Nat.le_of_ble_eq_true rfl⟩) hS (fun q _ h => hFc q h) hFc (fun r2 u t H1 locs ht hvm hw hB hz1 hk1 hS => ?_)
  obtain ⟨hP1, hK1, hD1⟩ := hB
  rw [ht] at hP1
  have hK1 := va_K.moved hvm.symm hK1
  obtain ⟨hP, hD⟩ := va_join (wr := [(h0, .inr (11, [.ref t0, .ref b0, .ref c0, .ref r0, .ref d0, .ref e0, .ref o0, .ref s0, .ref p0, .ref w0, .int 0, .int 0, .int 0, .int 0, .int ((-1)), .int 0]))]) (w1 := []) hP hD [] [0] rfl rfl (by decide) (by decide) hk1 hFc hP1 hD1
  have hK := (hK.sub (tys' := []) [] rfl).app hK1
  generalize H1 = H at hP hS ⊢
  have hP : va_P (dC, dI) vwCl [(h0, .inr (11, [.ref t0, .ref b0, .ref c0, .ref r0, .ref d0, .ref e0, .ref o0, .ref s0, .ref p0, .ref w0, .int 0, .int 0, .int 0, .int 0, .int ((-1)), .int 0]))] H := hP
  have hD : va_D A [(h0, .inr (11, [.ref t0, .ref b0, .ref c0, .ref r0, .ref d0, .ref e0, .ref o0, .ref s0, .ref p0, .ref w0, .int 0, .int 0, .int 0, .int 0, .int ((-1)), .int 0]))] := hD
  have hK : va_K (dC, dI) vwCl [] s := hK
  obtain rfl : r2 = 0 := hw.trans (zWi_empty _)
  refine lv_if_ne (tgt := 25) hx hb dX11_doubtAt_11 (by decide) (fun c3 => absurd c3 (by decide)) (fun c3 => ?_)
  obtain ⟨a4, ha4⟩ := hz.2.2.2.2.1 _ (List.mem_of_getElem? (i := 22) rfl)
  have hat : ∀ w ∈ vx_atS RX11 326 "java/lang/IndexOutOfBoundsException" ["java/lang/RuntimeException", "java/lang/Exception"], w.before _ s = true := vx_hat (fun w h => hts w (List.mem_cons_of_mem _ (List.mem_append_right _ h))) (B := [.castable "java/lang/IndexOutOfBoundsException" "java/lang/IndexOutOfBoundsException", .declares (Bundle.initS "java/lang/RuntimeException"), .declares (Bundle.initS "java/lang/Exception"), .declares (Bundle.initS Bundle.tN)]) (by decide +kernel) (vx_c (va_Nw.use rfl (hz.2.2.2.2.2.2.2.1 _ (List.mem_of_getElem? (i := 0) rfl))) (vx_c (va_Nw.use rfl (hz.2.2.2.2.2.2.2.2 _ (List.mem_of_getElem? (i := 0) rfl))) (vx_c (va_Nw.use rfl (hz.2.2.2.2.2.2.2.2 _ (List.mem_of_getElem? (i := 1) rfl))) (vx_c (va_Nw.use rfl (hz.2.2.2.2.2.2.2.2 _ (List.mem_of_getElem? (i := 2) rfl))) vx_n))))
  exact vx_throwSW hx hb hl0 (own := RX11) (cls := "java/lang/IndexOutOfBoundsException") (text := "no such doubt") (names := ["java/lang/RuntimeException", "java/lang/Exception"]) hown (by decide +kernel) (by decide +kernel) hw2 hw3 ha4 hat (by decide +kernel) (hz.1.narrow hA0) (hz.2.1.narrow hA0) hS (by rw [hml]; exact hl.1) dX11_doubtAt_14 dX11_doubtAt_17 dX11_doubtAt_18 dX11_doubtAt_21 dX11_doubtAt_24 (fun x h9 => (ht0 x h9).elim) (Nat.le_of_ble_eq_true rfl) (Nat.le_of_ble_eq_true rfl) (Nat.le_of_ble_eq_true rfl) (Nat.le_of_ble_eq_true rfl) hlocks (fun t hvm h1 h2 => ⟨(), trivial, rfl, zF2 hS h1 h2⟩) hS.2.2 (by decide) (by decide)
set_option maxHeartbeats 4000000 in
set_option maxRecDepth 100000 in
/-- orderAt where there is none throws -/
theorem c_orderAt (l : Launch) (hl0 : l.stackTraces = false) (dC : Nat → ClassId) (dI : Nat → Nat → Nat) (A0 : Nat → Prop) (ad : Nat → Nat) (sz : Nat) (h0 t0 b0 c0 r0 d0 e0 o0 s0 p0 w0 : Nat) (n : Int32) (hA0 : ∀ q, va_A [(h0, .inr (11, [.ref t0, .ref b0, .ref c0, .ref r0, .ref d0, .ref e0, .ref o0, .ref s0, .ref p0, .ref w0, .int 0, .int 0, .int 0, .int 0, .int ((-1)), .int 0]))] sz q → A0 q) : vx_Met l yX11_orderAt wsX11_orderAt ({ frames := 6, cells := 1, slots := 6, locals := 82 }) (va_Pc [.ref h0, .int n] (zPc A0 ad (dC, dI) [(h0, .inr (11, [.ref t0, .ref b0, .ref c0, .ref r0, .ref d0, .ref e0, .ref o0, .ref s0, .ref p0, .ref w0, .int 0, .int 0, .int 0, .int 0, .int ((-1)), .int 0]))] [] sz)) (va_Qq (fun (_ : Option Nat) (_ : Unit) => False) (fun (_ : Unit) (t : State) => zB (dC, dI) (va_A [(h0, .inr (11, [.ref t0, .ref b0, .ref c0, .ref r0, .ref d0, .ref e0, .ref o0, .ref s0, .ref p0, .ref w0, .int 0, .int 0, .int 0, .int 0, .int ((-1)), .int 0]))] sz) [(h0, .inr (11, [.ref t0, .ref b0, .ref c0, .ref r0, .ref d0, .ref e0, .ref o0, .ref s0, .ref p0, .ref w0, .int 0, .int 0, .int 0, .int 0, .int ((-1)), .int 0]))] [] t) (va_A [(h0, .inr (11, [.ref t0, .ref b0, .ref c0, .ref r0, .ref d0, .ref e0, .ref o0, .ref s0, .ref p0, .ref w0, .int 0, .int 0, .int 0, .int 0, .int ((-1)), .int 0]))] sz)) (vx_X (fun _ : Unit => True) (fun (E : String) (_ : Unit) (_ : State) => E = "java/lang/IndexOutOfBoundsException") (va_A [(h0, .inr (11, [.ref t0, .ref b0, .ref c0, .ref r0, .ref d0, .ref e0, .ref o0, .ref s0, .ref p0, .ref w0, .int 0, .int 0, .int 0, .int 0, .int ((-1)), .int 0]))] sz)) 1 6 (va_A [(h0, .inr (11, [.ref t0, .ref b0, .ref c0, .ref r0, .ref d0, .ref e0, .ref o0, .ref s0, .ref p0, .ref w0, .int 0, .int 0, .int 0, .int 0, .int ((-1)), .int 0]))] sz) := by
  refine vx_ofW (cc := cX11_orderAt) (maxL := 2) (ret := (some (.object "PostHouse$Order"))) (by decide) rfl ?_
  intro p e s m args below meth c s₁ B hml ht0 hv
  obtain ⟨rfl, hsz, hz, hP, hK, hD0⟩ := hv
  have hx := B.exec
  have hb := B.bytes
  have hr := B.returns
  have hts := atoms_spec (ws := wsX11_orderAt) B.pre
  have hown : s.vm.findClass RX11 = some m.cls := findClass_of_methodNamed B.named
  have hlocks := B.notSynchronized
  subst hsz
  have hD := hD0.self (sz := s.heap.size)
  generalize hAe : va_A [(h0, .inr (11, [.ref t0, .ref b0, .ref c0, .ref r0, .ref d0, .ref e0, .ref o0, .ref s0, .ref p0, .ref w0, .int 0, .int 0, .int 0, .int 0, .int ((-1)), .int 0]))] s.heap.size = A at hD hA0 ⊢
  have hA : ∀ q : Nat, s.heap.size ≤ q → A q := fun q h => by rw [← hAe]; exact Or.inr h
  have hS : va_S A s.heap s.heap [] := va_S.rf
  have hl := lv_entry ([.ref h0, .int n]) (n := 2) (Nat.le_of_ble_eq_true rfl)
  rw [lg_entry_eq]
  generalize (lg_sl ([.ref h0, .int n]) ++ List.replicate (2 - (lg_sl ([.ref h0, .int n])).length) Slot.unset).toArray = ls at hl ⊢
  have hl : lv_has ls 2 [(0, .ref h0), (1, .int n)] := hl
  have hP : va_P (dC, dI) vwCl [(h0, .inr (11, [.ref t0, .ref b0, .ref c0, .ref r0, .ref d0, .ref e0, .ref o0, .ref s0, .ref p0, .ref w0, .int 0, .int 0, .int 0, .int 0, .int ((-1)), .int 0]))] s.heap := hP
  have hiX11 : ∀ w ∈ u_ws RX11 TX11 16, w ∈ wsX11_orderAt := fun _ h => List.mem_cons_of_mem _ (List.mem_append_left _ (List.mem_append_right _ h))
  have hw1 := hts (.fieldLink RX11 366 "PostHouse" "orderCount" "I") (by decide +kernel)
  have hw2 := hts (.classLink RX11 322 "java/lang/IndexOutOfBoundsException") (by decide +kernel)
  have hw3 := hts (.initialized "java/lang/IndexOutOfBoundsException") (by decide +kernel)
  refine lv_iload_n hx hb dX11_orderAt_0 rfl (lv_at hl 1 rfl) ?_
  refine lv_iconst (v := 0) hx hb dX11_orderAt_1 (by decide) ?_
  refine lv_aload_n hx hb dX11_orderAt_2 rfl (lv_at hl 0 rfl) ?_
  refine va_get (D := (dC, dI)) (ci := 11) (v := .int 0) (C := RX11) (T := TX11) (N := 16) hx hb hts hiX11 hown hK hP 0 rfl rfl 11 (by decide) hw1 (fun _ h9 => h9) rfl dX11_orderAt_3 ?_
  refine lv_iconst (v := 1) hx hb dX11_orderAt_6 (by decide) ?_
  refine lv_isub hx hb dX11_orderAt_7 ?_
  refine lv_topi (fun v1 ev1 => ?_)
  obtain rfl : v1 = (-1) := ev1.trans (by decide)
  have hPc := hP.sub (ws' := []) [] rfl
  have hDc := hD.sub (ws' := []) [] (by decide) rfl
  have hKc := hK.sub (tys' := []) [] rfl
  have hFc := va_free (wc := []) hD hS hA [] rfl
  refine va_calli (va_runS (As := [.int n, .int 0, .int ((-1))]) (rest := []) ⟨hx, hb, hml, hown, hts⟩ (c_within l hl0 dC dI A0 ad s.heap.size n 0 ((-1)) (fun q h => hA0 q (hFc q h))) (cwS 3 hts gX11_orderAt_X11_within rfl rfl rfl (by decide +kernel) ⟨Nat.le_of_ble_eq_true rfl, Nat.le_of_ble_eq_true rfl⟩) ⟨zPc_bl, zPc_at hz hS hA0 hPc hKc hDc⟩ rfl rfl hl.1 rfl (lv_room (Nat.le_of_ble_eq_true rfl)) dX11_orderAt_8 ⟨Nat.le_of_ble_eq_true rfl, Nat.le_of_ble_eq_true rfl⟩) hS (fun q _ h => hFc q h) hFc (fun r2 u t H1 locs ht hvm hw hB hz1 hk1 hS => ?_)
  obtain ⟨hP1, hK1, hD1⟩ := hB
  rw [ht] at hP1
  have hK1 := va_K.moved hvm.symm hK1
  obtain ⟨hP, hD⟩ := va_join (wr := [(h0, .inr (11, [.ref t0, .ref b0, .ref c0, .ref r0, .ref d0, .ref e0, .ref o0, .ref s0, .ref p0, .ref w0, .int 0, .int 0, .int 0, .int 0, .int ((-1)), .int 0]))]) (w1 := []) hP hD [] [0] rfl rfl (by decide) (by decide) hk1 hFc hP1 hD1
  have hK := (hK.sub (tys' := []) [] rfl).app hK1
  generalize H1 = H at hP hS ⊢
  have hP : va_P (dC, dI) vwCl [(h0, .inr (11, [.ref t0, .ref b0, .ref c0, .ref r0, .ref d0, .ref e0, .ref o0, .ref s0, .ref p0, .ref w0, .int 0, .int 0, .int 0, .int 0, .int ((-1)), .int 0]))] H := hP
  have hD : va_D A [(h0, .inr (11, [.ref t0, .ref b0, .ref c0, .ref r0, .ref d0, .ref e0, .ref o0, .ref s0, .ref p0, .ref w0, .int 0, .int 0, .int 0, .int 0, .int ((-1)), .int 0]))] := hD
  have hK : va_K (dC, dI) vwCl [] s := hK
  obtain rfl : r2 = 0 := hw.trans (zWi_empty _)
  refine lv_if_ne (tgt := 25) hx hb dX11_orderAt_11 (by decide) (fun c3 => absurd c3 (by decide)) (fun c3 => ?_)
  obtain ⟨a4, ha4⟩ := hz.2.2.2.2.1 _ (List.mem_of_getElem? (i := 23) rfl)
  have hat : ∀ w ∈ vx_atS RX11 326 "java/lang/IndexOutOfBoundsException" ["java/lang/RuntimeException", "java/lang/Exception"], w.before _ s = true := vx_hat (fun w h => hts w (List.mem_cons_of_mem _ (List.mem_append_right _ h))) (B := [.castable "java/lang/IndexOutOfBoundsException" "java/lang/IndexOutOfBoundsException", .declares (Bundle.initS "java/lang/RuntimeException"), .declares (Bundle.initS "java/lang/Exception"), .declares (Bundle.initS Bundle.tN)]) (by decide +kernel) (vx_c (va_Nw.use rfl (hz.2.2.2.2.2.2.2.1 _ (List.mem_of_getElem? (i := 0) rfl))) (vx_c (va_Nw.use rfl (hz.2.2.2.2.2.2.2.2 _ (List.mem_of_getElem? (i := 0) rfl))) (vx_c (va_Nw.use rfl (hz.2.2.2.2.2.2.2.2 _ (List.mem_of_getElem? (i := 1) rfl))) (vx_c (va_Nw.use rfl (hz.2.2.2.2.2.2.2.2 _ (List.mem_of_getElem? (i := 2) rfl))) vx_n))))
  exact vx_throwSW hx hb hl0 (own := RX11) (cls := "java/lang/IndexOutOfBoundsException") (text := "no such order") (names := ["java/lang/RuntimeException", "java/lang/Exception"]) hown (by decide +kernel) (by decide +kernel) hw2 hw3 ha4 hat (by decide +kernel) (hz.1.narrow hA0) (hz.2.1.narrow hA0) hS (by rw [hml]; exact hl.1) dX11_orderAt_14 dX11_orderAt_17 dX11_orderAt_18 dX11_orderAt_21 dX11_orderAt_24 (fun x h9 => (ht0 x h9).elim) (Nat.le_of_ble_eq_true rfl) (Nat.le_of_ble_eq_true rfl) (Nat.le_of_ble_eq_true rfl) (Nat.le_of_ble_eq_true rfl) hlocks (fun t hvm h1 h2 => ⟨(), trivial, rfl, zF2 hS h1 h2⟩) hS.2.2 (by decide) (by decide)
set_option maxHeartbeats 4000000 in
set_option maxRecDepth 100000 in
/-- doubt where there is none throws -/
theorem c_doubt (l : Launch) (hl0 : l.stackTraces = false) (dC : Nat → ClassId) (dI : Nat → Nat → Nat) (A0 : Nat → Prop) (ad : Nat → Nat) (sz : Nat) (h0 t0 b0 c0 r0 d0 e0 o0 s0 p0 w0 : Nat) (x0 x1 : Int32) (hA0 : ∀ q, va_A [(h0, .inr (11, [.ref t0, .ref b0, .ref c0, .ref r0, .ref d0, .ref e0, .ref o0, .ref s0, .ref p0, .ref w0, .int 0, .int 0, .int 0, .int 0, .int ((-1)), .int 0]))] sz q → A0 q) : vx_Met l yX11_doubt wsX11_doubt ({ frames := 7, cells := 1, slots := 6, locals := 103 }) (va_Pc [.ref h0, .int x0, .int x1] (zPc A0 ad (dC, dI) [(h0, .inr (11, [.ref t0, .ref b0, .ref c0, .ref r0, .ref d0, .ref e0, .ref o0, .ref s0, .ref p0, .ref w0, .int 0, .int 0, .int 0, .int 0, .int ((-1)), .int 0]))] [] sz)) (va_Qi (fun (_ : Int32) (_ : Unit) => False) (fun (_ : Unit) (t : State) => zB (dC, dI) (va_A [(h0, .inr (11, [.ref t0, .ref b0, .ref c0, .ref r0, .ref d0, .ref e0, .ref o0, .ref s0, .ref p0, .ref w0, .int 0, .int 0, .int 0, .int 0, .int ((-1)), .int 0]))] sz) [(h0, .inr (11, [.ref t0, .ref b0, .ref c0, .ref r0, .ref d0, .ref e0, .ref o0, .ref s0, .ref p0, .ref w0, .int 0, .int 0, .int 0, .int 0, .int ((-1)), .int 0]))] [] t) (va_A [(h0, .inr (11, [.ref t0, .ref b0, .ref c0, .ref r0, .ref d0, .ref e0, .ref o0, .ref s0, .ref p0, .ref w0, .int 0, .int 0, .int 0, .int 0, .int ((-1)), .int 0]))] sz)) (vx_X (fun _ : Unit => True) (fun (E : String) (_ : Unit) (_ : State) => E = "java/lang/IndexOutOfBoundsException") (va_A [(h0, .inr (11, [.ref t0, .ref b0, .ref c0, .ref r0, .ref d0, .ref e0, .ref o0, .ref s0, .ref p0, .ref w0, .int 0, .int 0, .int 0, .int 0, .int ((-1)), .int 0]))] sz)) 1 6 (va_A [(h0, .inr (11, [.ref t0, .ref b0, .ref c0, .ref r0, .ref d0, .ref e0, .ref o0, .ref s0, .ref p0, .ref w0, .int 0, .int 0, .int 0, .int 0, .int ((-1)), .int 0]))] sz) := by
  refine vx_ofW (cc := cX11_doubt) (maxL := 4) (ret := (some .int)) (by decide) rfl ?_
  intro p e s m args below meth c s₁ B hml ht0 hv
  obtain ⟨rfl, hsz, hz, hP, hK, hD0⟩ := hv
  have hx := B.exec
  have hb := B.bytes
  have hr := B.returns
  have hts := atoms_spec (ws := wsX11_doubt) B.pre
  have hown : s.vm.findClass RX11 = some m.cls := findClass_of_methodNamed B.named
  have hlocks := B.notSynchronized
  subst hsz
  have hD := hD0.self (sz := s.heap.size)
  generalize hAe : va_A [(h0, .inr (11, [.ref t0, .ref b0, .ref c0, .ref r0, .ref d0, .ref e0, .ref o0, .ref s0, .ref p0, .ref w0, .int 0, .int 0, .int 0, .int 0, .int ((-1)), .int 0]))] s.heap.size = A at hD hA0 ⊢
  have hA : ∀ q : Nat, s.heap.size ≤ q → A q := fun q h => by rw [← hAe]; exact Or.inr h
  have hS : va_S A s.heap s.heap [] := va_S.rf
  have hl := lv_entry ([.ref h0, .int x0, .int x1]) (n := 4) (Nat.le_of_ble_eq_true rfl)
  rw [lg_entry_eq]
  generalize (lg_sl ([.ref h0, .int x0, .int x1]) ++ List.replicate (4 - (lg_sl ([.ref h0, .int x0, .int x1])).length) Slot.unset).toArray = ls at hl ⊢
  have hl : lv_has ls 4 [(0, .ref h0), (1, .int x0), (2, .int x1)] := hl
  have hP : va_P (dC, dI) vwCl [(h0, .inr (11, [.ref t0, .ref b0, .ref c0, .ref r0, .ref d0, .ref e0, .ref o0, .ref s0, .ref p0, .ref w0, .int 0, .int 0, .int 0, .int 0, .int ((-1)), .int 0]))] s.heap := hP
  refine lv_aload_n hx hb dX11_doubt_0 rfl (lv_at hl 0 rfl) ?_
  refine lv_iload_n hx hb dX11_doubt_1 rfl (lv_at hl 1 rfl) ?_
  have hPc := hP.sub (ws' := [(h0, .inr (11, [.ref t0, .ref b0, .ref c0, .ref r0, .ref d0, .ref e0, .ref o0, .ref s0, .ref p0, .ref w0, .int 0, .int 0, .int 0, .int 0, .int ((-1)), .int 0]))]) [0] rfl
  have hDc := hD.sub (ws' := [(h0, .inr (11, [.ref t0, .ref b0, .ref c0, .ref r0, .ref d0, .ref e0, .ref o0, .ref s0, .ref p0, .ref w0, .int 0, .int 0, .int 0, .int 0, .int ((-1)), .int 0]))]) [0] (by decide) rfl
  have hKc := hK.sub (tys' := []) [] rfl
  have hFc := va_free (wc := [(h0, .inr (11, [.ref t0, .ref b0, .ref c0, .ref r0, .ref d0, .ref e0, .ref o0, .ref s0, .ref p0, .ref w0, .int 0, .int 0, .int 0, .int 0, .int ((-1)), .int 0]))]) hD hS hA [0] rfl
  refine vx_callq (vx_runV (As := [.int x0]) (rest := []) ⟨hx, hb, hml, hown, hts⟩ (c_doubtAt l hl0 dC dI A0 ad s.heap.size h0 t0 b0 c0 r0 d0 e0 o0 s0 p0 w0 x0 (fun q h => hA0 q (hFc q h))) (cwV 1 hts gX11_doubt_X11_doubtAt rfl rfl rfl (by decide +kernel) ⟨Nat.le_of_ble_eq_true rfl, Nat.le_of_ble_eq_true rfl⟩) ⟨zPc_bl, va_recv hKc hPc (ci := 11) (q0 := 0) rfl rfl, zPc_at hz hS hA0 hPc hKc hDc⟩ rfl rfl hl.1 rfl (lv_room (Nat.le_of_ble_eq_true rfl)) dX11_doubt_2 ⟨Nat.le_of_ble_eq_true rfl, Nat.le_of_ble_eq_true rfl⟩) hS (fun q _ h => hFc q h) hFc (fun q _ h => hFc q h) (fun E ce q9 u t H1 locs ht hvm hw hB hz1 hk1 hS hce hcv hcl => ?_) (fun r1 u t H1 locs ht hvm hw hB hz1 hk1 hS => ?_)
  · skip
    have hB : E = "java/lang/IndexOutOfBoundsException" := hB
    exact vx_out (fun x h9 => (ht0 x h9).elim) hlocks hce hcv hcl (fun t ht hvm => ⟨(), trivial, hB, hS.F ht⟩) hS.2.2 (by decide) (by decide)
  · exact hw.elim
set_option maxHeartbeats 4000000 in
set_option maxRecDepth 100000 in
/-- settle where there is none throws -/
theorem c_settle (l : Launch) (hl0 : l.stackTraces = false) (dC : Nat → ClassId) (dI : Nat → Nat → Nat) (A0 : Nat → Prop) (ad : Nat → Nat) (sz : Nat) (h0 t0 b0 c0 r0 d0 e0 o0 s0 p0 w0 : Nat) (x0 x1 : Int32) (hA0 : ∀ q, va_A [(h0, .inr (11, [.ref t0, .ref b0, .ref c0, .ref r0, .ref d0, .ref e0, .ref o0, .ref s0, .ref p0, .ref w0, .int 0, .int 0, .int 0, .int 0, .int ((-1)), .int 0]))] sz q → A0 q) : vx_Met l yX11_settle wsX11_settle ({ frames := 7, cells := 1, slots := 6, locals := 103 }) (va_Pc [.ref h0, .int x0, .int x1] (zPc A0 ad (dC, dI) [(h0, .inr (11, [.ref t0, .ref b0, .ref c0, .ref r0, .ref d0, .ref e0, .ref o0, .ref s0, .ref p0, .ref w0, .int 0, .int 0, .int 0, .int 0, .int ((-1)), .int 0]))] [] sz)) (va_Qi (fun (_ : Int32) (_ : Unit) => False) (fun (_ : Unit) (t : State) => zB (dC, dI) (va_A [(h0, .inr (11, [.ref t0, .ref b0, .ref c0, .ref r0, .ref d0, .ref e0, .ref o0, .ref s0, .ref p0, .ref w0, .int 0, .int 0, .int 0, .int 0, .int ((-1)), .int 0]))] sz) [(h0, .inr (11, [.ref t0, .ref b0, .ref c0, .ref r0, .ref d0, .ref e0, .ref o0, .ref s0, .ref p0, .ref w0, .int 0, .int 0, .int 0, .int 0, .int ((-1)), .int 0]))] [] t) (va_A [(h0, .inr (11, [.ref t0, .ref b0, .ref c0, .ref r0, .ref d0, .ref e0, .ref o0, .ref s0, .ref p0, .ref w0, .int 0, .int 0, .int 0, .int 0, .int ((-1)), .int 0]))] sz)) (vx_X (fun _ : Unit => True) (fun (E : String) (_ : Unit) (_ : State) => E = "java/lang/IndexOutOfBoundsException") (va_A [(h0, .inr (11, [.ref t0, .ref b0, .ref c0, .ref r0, .ref d0, .ref e0, .ref o0, .ref s0, .ref p0, .ref w0, .int 0, .int 0, .int 0, .int 0, .int ((-1)), .int 0]))] sz)) 1 6 (va_A [(h0, .inr (11, [.ref t0, .ref b0, .ref c0, .ref r0, .ref d0, .ref e0, .ref o0, .ref s0, .ref p0, .ref w0, .int 0, .int 0, .int 0, .int 0, .int ((-1)), .int 0]))] sz) := by
  refine vx_ofW (cc := cX11_settle) (maxL := 4) (ret := (some .int)) (by decide) rfl ?_
  intro p e s m args below meth c s₁ B hml ht0 hv
  obtain ⟨rfl, hsz, hz, hP, hK, hD0⟩ := hv
  have hx := B.exec
  have hb := B.bytes
  have hr := B.returns
  have hts := atoms_spec (ws := wsX11_settle) B.pre
  have hown : s.vm.findClass RX11 = some m.cls := findClass_of_methodNamed B.named
  have hlocks := B.notSynchronized
  subst hsz
  have hD := hD0.self (sz := s.heap.size)
  generalize hAe : va_A [(h0, .inr (11, [.ref t0, .ref b0, .ref c0, .ref r0, .ref d0, .ref e0, .ref o0, .ref s0, .ref p0, .ref w0, .int 0, .int 0, .int 0, .int 0, .int ((-1)), .int 0]))] s.heap.size = A at hD hA0 ⊢
  have hA : ∀ q : Nat, s.heap.size ≤ q → A q := fun q h => by rw [← hAe]; exact Or.inr h
  have hS : va_S A s.heap s.heap [] := va_S.rf
  have hl := lv_entry ([.ref h0, .int x0, .int x1]) (n := 4) (Nat.le_of_ble_eq_true rfl)
  rw [lg_entry_eq]
  generalize (lg_sl ([.ref h0, .int x0, .int x1]) ++ List.replicate (4 - (lg_sl ([.ref h0, .int x0, .int x1])).length) Slot.unset).toArray = ls at hl ⊢
  have hl : lv_has ls 4 [(0, .ref h0), (1, .int x0), (2, .int x1)] := hl
  have hP : va_P (dC, dI) vwCl [(h0, .inr (11, [.ref t0, .ref b0, .ref c0, .ref r0, .ref d0, .ref e0, .ref o0, .ref s0, .ref p0, .ref w0, .int 0, .int 0, .int 0, .int 0, .int ((-1)), .int 0]))] s.heap := hP
  refine lv_aload_n hx hb dX11_settle_0 rfl (lv_at hl 0 rfl) ?_
  refine lv_iload_n hx hb dX11_settle_1 rfl (lv_at hl 1 rfl) ?_
  have hPc := hP.sub (ws' := [(h0, .inr (11, [.ref t0, .ref b0, .ref c0, .ref r0, .ref d0, .ref e0, .ref o0, .ref s0, .ref p0, .ref w0, .int 0, .int 0, .int 0, .int 0, .int ((-1)), .int 0]))]) [0] rfl
  have hDc := hD.sub (ws' := [(h0, .inr (11, [.ref t0, .ref b0, .ref c0, .ref r0, .ref d0, .ref e0, .ref o0, .ref s0, .ref p0, .ref w0, .int 0, .int 0, .int 0, .int 0, .int ((-1)), .int 0]))]) [0] (by decide) rfl
  have hKc := hK.sub (tys' := []) [] rfl
  have hFc := va_free (wc := [(h0, .inr (11, [.ref t0, .ref b0, .ref c0, .ref r0, .ref d0, .ref e0, .ref o0, .ref s0, .ref p0, .ref w0, .int 0, .int 0, .int 0, .int 0, .int ((-1)), .int 0]))]) hD hS hA [0] rfl
  refine vx_callq (vx_runV (As := [.int x0]) (rest := []) ⟨hx, hb, hml, hown, hts⟩ (c_doubtAt l hl0 dC dI A0 ad s.heap.size h0 t0 b0 c0 r0 d0 e0 o0 s0 p0 w0 x0 (fun q h => hA0 q (hFc q h))) (cwV 1 hts gX11_settle_X11_doubtAt rfl rfl rfl (by decide +kernel) ⟨Nat.le_of_ble_eq_true rfl, Nat.le_of_ble_eq_true rfl⟩) ⟨zPc_bl, va_recv hKc hPc (ci := 11) (q0 := 0) rfl rfl, zPc_at hz hS hA0 hPc hKc hDc⟩ rfl rfl hl.1 rfl (lv_room (Nat.le_of_ble_eq_true rfl)) dX11_settle_2 ⟨Nat.le_of_ble_eq_true rfl, Nat.le_of_ble_eq_true rfl⟩) hS (fun q _ h => hFc q h) hFc (fun q _ h => hFc q h) (fun E ce q9 u t H1 locs ht hvm hw hB hz1 hk1 hS hce hcv hcl => ?_) (fun r1 u t H1 locs ht hvm hw hB hz1 hk1 hS => ?_)
  · skip
    have hB : E = "java/lang/IndexOutOfBoundsException" := hB
    exact vx_out (fun x h9 => (ht0 x h9).elim) hlocks hce hcv hcl (fun t ht hvm => ⟨(), trivial, hB, hS.F ht⟩) hS.2.2 (by decide) (by decide)
  · exact hw.elim
set_option maxHeartbeats 4000000 in
set_option maxRecDepth 100000 in
/-- order where there is none throws -/
theorem c_order (l : Launch) (hl0 : l.stackTraces = false) (dC : Nat → ClassId) (dI : Nat → Nat → Nat) (A0 : Nat → Prop) (ad : Nat → Nat) (sz : Nat) (h0 t0 b0 c0 r0 d0 e0 o0 s0 p0 w0 : Nat) (x0 x1 : Int32) (hA0 : ∀ q, va_A [(h0, .inr (11, [.ref t0, .ref b0, .ref c0, .ref r0, .ref d0, .ref e0, .ref o0, .ref s0, .ref p0, .ref w0, .int 0, .int 0, .int 0, .int 0, .int ((-1)), .int 0]))] sz q → A0 q) : vx_Met l yX11_order wsX11_order ({ frames := 7, cells := 1, slots := 6, locals := 103 }) (va_Pc [.ref h0, .int x0, .int x1] (zPc A0 ad (dC, dI) [(h0, .inr (11, [.ref t0, .ref b0, .ref c0, .ref r0, .ref d0, .ref e0, .ref o0, .ref s0, .ref p0, .ref w0, .int 0, .int 0, .int 0, .int 0, .int ((-1)), .int 0]))] [] sz)) (va_Qi (fun (_ : Int32) (_ : Unit) => False) (fun (_ : Unit) (t : State) => zB (dC, dI) (va_A [(h0, .inr (11, [.ref t0, .ref b0, .ref c0, .ref r0, .ref d0, .ref e0, .ref o0, .ref s0, .ref p0, .ref w0, .int 0, .int 0, .int 0, .int 0, .int ((-1)), .int 0]))] sz) [(h0, .inr (11, [.ref t0, .ref b0, .ref c0, .ref r0, .ref d0, .ref e0, .ref o0, .ref s0, .ref p0, .ref w0, .int 0, .int 0, .int 0, .int 0, .int ((-1)), .int 0]))] [] t) (va_A [(h0, .inr (11, [.ref t0, .ref b0, .ref c0, .ref r0, .ref d0, .ref e0, .ref o0, .ref s0, .ref p0, .ref w0, .int 0, .int 0, .int 0, .int 0, .int ((-1)), .int 0]))] sz)) (vx_X (fun _ : Unit => True) (fun (E : String) (_ : Unit) (_ : State) => E = "java/lang/IndexOutOfBoundsException") (va_A [(h0, .inr (11, [.ref t0, .ref b0, .ref c0, .ref r0, .ref d0, .ref e0, .ref o0, .ref s0, .ref p0, .ref w0, .int 0, .int 0, .int 0, .int 0, .int ((-1)), .int 0]))] sz)) 1 6 (va_A [(h0, .inr (11, [.ref t0, .ref b0, .ref c0, .ref r0, .ref d0, .ref e0, .ref o0, .ref s0, .ref p0, .ref w0, .int 0, .int 0, .int 0, .int 0, .int ((-1)), .int 0]))] sz) := by
  refine vx_ofW (cc := cX11_order) (maxL := 4) (ret := (some .int)) (by decide) rfl ?_
  intro p e s m args below meth c s₁ B hml ht0 hv
  obtain ⟨rfl, hsz, hz, hP, hK, hD0⟩ := hv
  have hx := B.exec
  have hb := B.bytes
  have hr := B.returns
  have hts := atoms_spec (ws := wsX11_order) B.pre
  have hown : s.vm.findClass RX11 = some m.cls := findClass_of_methodNamed B.named
  have hlocks := B.notSynchronized
  subst hsz
  have hD := hD0.self (sz := s.heap.size)
  generalize hAe : va_A [(h0, .inr (11, [.ref t0, .ref b0, .ref c0, .ref r0, .ref d0, .ref e0, .ref o0, .ref s0, .ref p0, .ref w0, .int 0, .int 0, .int 0, .int 0, .int ((-1)), .int 0]))] s.heap.size = A at hD hA0 ⊢
  have hA : ∀ q : Nat, s.heap.size ≤ q → A q := fun q h => by rw [← hAe]; exact Or.inr h
  have hS : va_S A s.heap s.heap [] := va_S.rf
  have hl := lv_entry ([.ref h0, .int x0, .int x1]) (n := 4) (Nat.le_of_ble_eq_true rfl)
  rw [lg_entry_eq]
  generalize (lg_sl ([.ref h0, .int x0, .int x1]) ++ List.replicate (4 - (lg_sl ([.ref h0, .int x0, .int x1])).length) Slot.unset).toArray = ls at hl ⊢
  have hl : lv_has ls 4 [(0, .ref h0), (1, .int x0), (2, .int x1)] := hl
  have hP : va_P (dC, dI) vwCl [(h0, .inr (11, [.ref t0, .ref b0, .ref c0, .ref r0, .ref d0, .ref e0, .ref o0, .ref s0, .ref p0, .ref w0, .int 0, .int 0, .int 0, .int 0, .int ((-1)), .int 0]))] s.heap := hP
  refine lv_aload_n hx hb dX11_order_0 rfl (lv_at hl 0 rfl) ?_
  refine lv_iload_n hx hb dX11_order_1 rfl (lv_at hl 1 rfl) ?_
  have hPc := hP.sub (ws' := [(h0, .inr (11, [.ref t0, .ref b0, .ref c0, .ref r0, .ref d0, .ref e0, .ref o0, .ref s0, .ref p0, .ref w0, .int 0, .int 0, .int 0, .int 0, .int ((-1)), .int 0]))]) [0] rfl
  have hDc := hD.sub (ws' := [(h0, .inr (11, [.ref t0, .ref b0, .ref c0, .ref r0, .ref d0, .ref e0, .ref o0, .ref s0, .ref p0, .ref w0, .int 0, .int 0, .int 0, .int 0, .int ((-1)), .int 0]))]) [0] (by decide) rfl
  have hKc := hK.sub (tys' := []) [] rfl
  have hFc := va_free (wc := [(h0, .inr (11, [.ref t0, .ref b0, .ref c0, .ref r0, .ref d0, .ref e0, .ref o0, .ref s0, .ref p0, .ref w0, .int 0, .int 0, .int 0, .int 0, .int ((-1)), .int 0]))]) hD hS hA [0] rfl
  refine vx_callq (vx_runV (As := [.int x0]) (rest := []) ⟨hx, hb, hml, hown, hts⟩ (c_orderAt l hl0 dC dI A0 ad s.heap.size h0 t0 b0 c0 r0 d0 e0 o0 s0 p0 w0 x0 (fun q h => hA0 q (hFc q h))) (cwV 1 hts gX11_order_X11_orderAt rfl rfl rfl (by decide +kernel) ⟨Nat.le_of_ble_eq_true rfl, Nat.le_of_ble_eq_true rfl⟩) ⟨zPc_bl, va_recv hKc hPc (ci := 11) (q0 := 0) rfl rfl, zPc_at hz hS hA0 hPc hKc hDc⟩ rfl rfl hl.1 rfl (lv_room (Nat.le_of_ble_eq_true rfl)) dX11_order_2 ⟨Nat.le_of_ble_eq_true rfl, Nat.le_of_ble_eq_true rfl⟩) hS (fun q _ h => hFc q h) hFc (fun q _ h => hFc q h) (fun E ce q9 u t H1 locs ht hvm hw hB hz1 hk1 hS hce hcv hcl => ?_) (fun r1 u t H1 locs ht hvm hw hB hz1 hk1 hS => ?_)
  · skip
    have hB : E = "java/lang/IndexOutOfBoundsException" := hB
    exact vx_out (fun x h9 => (ht0 x h9).elim) hlocks hce hcv hcl (fun t ht hvm => ⟨(), trivial, hB, hS.F ht⟩) hS.2.2 (by decide) (by decide)
  · exact hw.elim
set_option maxHeartbeats 4000000 in
set_option maxRecDepth 100000 in
/-- want where there is none throws -/
theorem c_want (l : Launch) (hl0 : l.stackTraces = false) (dC : Nat → ClassId) (dI : Nat → Nat → Nat) (A0 : Nat → Prop) (ad : Nat → Nat) (sz : Nat) (h0 t0 b0 c0 r0 d0 e0 o0 s0 p0 w0 : Nat) (x0 x1 x2 : Int32) (hA0 : ∀ q, va_A [(h0, .inr (11, [.ref t0, .ref b0, .ref c0, .ref r0, .ref d0, .ref e0, .ref o0, .ref s0, .ref p0, .ref w0, .int 0, .int 0, .int 0, .int 0, .int ((-1)), .int 0]))] sz q → A0 q) : vx_Met l yX11_want wsX11_want ({ frames := 7, cells := 1, slots := 6, locals := 103 }) (va_Pc [.ref h0, .int x0, .int x1, .int x2] (zPc A0 ad (dC, dI) [(h0, .inr (11, [.ref t0, .ref b0, .ref c0, .ref r0, .ref d0, .ref e0, .ref o0, .ref s0, .ref p0, .ref w0, .int 0, .int 0, .int 0, .int 0, .int ((-1)), .int 0]))] [] sz)) (va_Qi (fun (_ : Int32) (_ : Unit) => False) (fun (_ : Unit) (t : State) => zB (dC, dI) (va_A [(h0, .inr (11, [.ref t0, .ref b0, .ref c0, .ref r0, .ref d0, .ref e0, .ref o0, .ref s0, .ref p0, .ref w0, .int 0, .int 0, .int 0, .int 0, .int ((-1)), .int 0]))] sz) [(h0, .inr (11, [.ref t0, .ref b0, .ref c0, .ref r0, .ref d0, .ref e0, .ref o0, .ref s0, .ref p0, .ref w0, .int 0, .int 0, .int 0, .int 0, .int ((-1)), .int 0]))] [] t) (va_A [(h0, .inr (11, [.ref t0, .ref b0, .ref c0, .ref r0, .ref d0, .ref e0, .ref o0, .ref s0, .ref p0, .ref w0, .int 0, .int 0, .int 0, .int 0, .int ((-1)), .int 0]))] sz)) (vx_X (fun _ : Unit => True) (fun (E : String) (_ : Unit) (_ : State) => E = "java/lang/IndexOutOfBoundsException") (va_A [(h0, .inr (11, [.ref t0, .ref b0, .ref c0, .ref r0, .ref d0, .ref e0, .ref o0, .ref s0, .ref p0, .ref w0, .int 0, .int 0, .int 0, .int 0, .int ((-1)), .int 0]))] sz)) 1 6 (va_A [(h0, .inr (11, [.ref t0, .ref b0, .ref c0, .ref r0, .ref d0, .ref e0, .ref o0, .ref s0, .ref p0, .ref w0, .int 0, .int 0, .int 0, .int 0, .int ((-1)), .int 0]))] sz) := by
  refine vx_ofW (cc := cX11_want) (maxL := 5) (ret := (some .int)) (by decide) rfl ?_
  intro p e s m args below meth c s₁ B hml ht0 hv
  obtain ⟨rfl, hsz, hz, hP, hK, hD0⟩ := hv
  have hx := B.exec
  have hb := B.bytes
  have hr := B.returns
  have hts := atoms_spec (ws := wsX11_want) B.pre
  have hown : s.vm.findClass RX11 = some m.cls := findClass_of_methodNamed B.named
  have hlocks := B.notSynchronized
  subst hsz
  have hD := hD0.self (sz := s.heap.size)
  generalize hAe : va_A [(h0, .inr (11, [.ref t0, .ref b0, .ref c0, .ref r0, .ref d0, .ref e0, .ref o0, .ref s0, .ref p0, .ref w0, .int 0, .int 0, .int 0, .int 0, .int ((-1)), .int 0]))] s.heap.size = A at hD hA0 ⊢
  have hA : ∀ q : Nat, s.heap.size ≤ q → A q := fun q h => by rw [← hAe]; exact Or.inr h
  have hS : va_S A s.heap s.heap [] := va_S.rf
  have hl := lv_entry ([.ref h0, .int x0, .int x1, .int x2]) (n := 5) (Nat.le_of_ble_eq_true rfl)
  rw [lg_entry_eq]
  generalize (lg_sl ([.ref h0, .int x0, .int x1, .int x2]) ++ List.replicate (5 - (lg_sl ([.ref h0, .int x0, .int x1, .int x2])).length) Slot.unset).toArray = ls at hl ⊢
  have hl : lv_has ls 5 [(0, .ref h0), (1, .int x0), (2, .int x1), (3, .int x2)] := hl
  have hP : va_P (dC, dI) vwCl [(h0, .inr (11, [.ref t0, .ref b0, .ref c0, .ref r0, .ref d0, .ref e0, .ref o0, .ref s0, .ref p0, .ref w0, .int 0, .int 0, .int 0, .int 0, .int ((-1)), .int 0]))] s.heap := hP
  refine lv_aload_n hx hb dX11_want_0 rfl (lv_at hl 0 rfl) ?_
  refine lv_iload_n hx hb dX11_want_1 rfl (lv_at hl 1 rfl) ?_
  have hPc := hP.sub (ws' := [(h0, .inr (11, [.ref t0, .ref b0, .ref c0, .ref r0, .ref d0, .ref e0, .ref o0, .ref s0, .ref p0, .ref w0, .int 0, .int 0, .int 0, .int 0, .int ((-1)), .int 0]))]) [0] rfl
  have hDc := hD.sub (ws' := [(h0, .inr (11, [.ref t0, .ref b0, .ref c0, .ref r0, .ref d0, .ref e0, .ref o0, .ref s0, .ref p0, .ref w0, .int 0, .int 0, .int 0, .int 0, .int ((-1)), .int 0]))]) [0] (by decide) rfl
  have hKc := hK.sub (tys' := []) [] rfl
  have hFc := va_free (wc := [(h0, .inr (11, [.ref t0, .ref b0, .ref c0, .ref r0, .ref d0, .ref e0, .ref o0, .ref s0, .ref p0, .ref w0, .int 0, .int 0, .int 0, .int 0, .int ((-1)), .int 0]))]) hD hS hA [0] rfl
  refine vx_callq (vx_runV (As := [.int x0]) (rest := []) ⟨hx, hb, hml, hown, hts⟩ (c_orderAt l hl0 dC dI A0 ad s.heap.size h0 t0 b0 c0 r0 d0 e0 o0 s0 p0 w0 x0 (fun q h => hA0 q (hFc q h))) (cwV 1 hts gX11_want_X11_orderAt rfl rfl rfl (by decide +kernel) ⟨Nat.le_of_ble_eq_true rfl, Nat.le_of_ble_eq_true rfl⟩) ⟨zPc_bl, va_recv hKc hPc (ci := 11) (q0 := 0) rfl rfl, zPc_at hz hS hA0 hPc hKc hDc⟩ rfl rfl hl.1 rfl (lv_room (Nat.le_of_ble_eq_true rfl)) dX11_want_2 ⟨Nat.le_of_ble_eq_true rfl, Nat.le_of_ble_eq_true rfl⟩) hS (fun q _ h => hFc q h) hFc (fun q _ h => hFc q h) (fun E ce q9 u t H1 locs ht hvm hw hB hz1 hk1 hS hce hcv hcl => ?_) (fun r1 u t H1 locs ht hvm hw hB hz1 hk1 hS => ?_)
  · skip
    have hB : E = "java/lang/IndexOutOfBoundsException" := hB
    exact vx_out (fun x h9 => (ht0 x h9).elim) hlocks hce hcv hcl (fun t ht hvm => ⟨(), trivial, hB, hS.F ht⟩) hS.2.2 (by decide) (by decide)
  · exact hw.elim
set_option maxHeartbeats 4000000 in
set_option maxRecDepth 100000 in
/-- back where there is none throws -/
theorem c_back (l : Launch) (hl0 : l.stackTraces = false) (dC : Nat → ClassId) (dI : Nat → Nat → Nat) (A0 : Nat → Prop) (ad : Nat → Nat) (sz : Nat) (h0 t0 b0 c0 r0 d0 e0 o0 s0 p0 w0 : Nat) (x0 x1 x2 : Int32) (hA0 : ∀ q, va_A [(h0, .inr (11, [.ref t0, .ref b0, .ref c0, .ref r0, .ref d0, .ref e0, .ref o0, .ref s0, .ref p0, .ref w0, .int 0, .int 0, .int 0, .int 0, .int ((-1)), .int 0]))] sz q → A0 q) : vx_Met l yX11_back wsX11_back ({ frames := 7, cells := 1, slots := 6, locals := 103 }) (va_Pc [.ref h0, .int x0, .int x1, .int x2] (zPc A0 ad (dC, dI) [(h0, .inr (11, [.ref t0, .ref b0, .ref c0, .ref r0, .ref d0, .ref e0, .ref o0, .ref s0, .ref p0, .ref w0, .int 0, .int 0, .int 0, .int 0, .int ((-1)), .int 0]))] [] sz)) (va_Qi (fun (_ : Int32) (_ : Unit) => False) (fun (_ : Unit) (t : State) => zB (dC, dI) (va_A [(h0, .inr (11, [.ref t0, .ref b0, .ref c0, .ref r0, .ref d0, .ref e0, .ref o0, .ref s0, .ref p0, .ref w0, .int 0, .int 0, .int 0, .int 0, .int ((-1)), .int 0]))] sz) [(h0, .inr (11, [.ref t0, .ref b0, .ref c0, .ref r0, .ref d0, .ref e0, .ref o0, .ref s0, .ref p0, .ref w0, .int 0, .int 0, .int 0, .int 0, .int ((-1)), .int 0]))] [] t) (va_A [(h0, .inr (11, [.ref t0, .ref b0, .ref c0, .ref r0, .ref d0, .ref e0, .ref o0, .ref s0, .ref p0, .ref w0, .int 0, .int 0, .int 0, .int 0, .int ((-1)), .int 0]))] sz)) (vx_X (fun _ : Unit => True) (fun (E : String) (_ : Unit) (_ : State) => E = "java/lang/IndexOutOfBoundsException") (va_A [(h0, .inr (11, [.ref t0, .ref b0, .ref c0, .ref r0, .ref d0, .ref e0, .ref o0, .ref s0, .ref p0, .ref w0, .int 0, .int 0, .int 0, .int 0, .int ((-1)), .int 0]))] sz)) 1 6 (va_A [(h0, .inr (11, [.ref t0, .ref b0, .ref c0, .ref r0, .ref d0, .ref e0, .ref o0, .ref s0, .ref p0, .ref w0, .int 0, .int 0, .int 0, .int 0, .int ((-1)), .int 0]))] sz) := by
  refine vx_ofW (cc := cX11_back) (maxL := 6) (ret := (some .boolean)) (by decide) rfl ?_
  intro p e s m args below meth c s₁ B hml ht0 hv
  obtain ⟨rfl, hsz, hz, hP, hK, hD0⟩ := hv
  have hx := B.exec
  have hb := B.bytes
  have hr := B.returns
  have hts := atoms_spec (ws := wsX11_back) B.pre
  have hown : s.vm.findClass RX11 = some m.cls := findClass_of_methodNamed B.named
  have hlocks := B.notSynchronized
  subst hsz
  have hD := hD0.self (sz := s.heap.size)
  generalize hAe : va_A [(h0, .inr (11, [.ref t0, .ref b0, .ref c0, .ref r0, .ref d0, .ref e0, .ref o0, .ref s0, .ref p0, .ref w0, .int 0, .int 0, .int 0, .int 0, .int ((-1)), .int 0]))] s.heap.size = A at hD hA0 ⊢
  have hA : ∀ q : Nat, s.heap.size ≤ q → A q := fun q h => by rw [← hAe]; exact Or.inr h
  have hS : va_S A s.heap s.heap [] := va_S.rf
  have hl := lv_entry ([.ref h0, .int x0, .int x1, .int x2]) (n := 6) (Nat.le_of_ble_eq_true rfl)
  rw [lg_entry_eq]
  generalize (lg_sl ([.ref h0, .int x0, .int x1, .int x2]) ++ List.replicate (6 - (lg_sl ([.ref h0, .int x0, .int x1, .int x2])).length) Slot.unset).toArray = ls at hl ⊢
  have hl : lv_has ls 6 [(0, .ref h0), (1, .int x0), (2, .int x1), (3, .int x2)] := hl
  have hP : va_P (dC, dI) vwCl [(h0, .inr (11, [.ref t0, .ref b0, .ref c0, .ref r0, .ref d0, .ref e0, .ref o0, .ref s0, .ref p0, .ref w0, .int 0, .int 0, .int 0, .int 0, .int ((-1)), .int 0]))] s.heap := hP
  refine lv_aload_n hx hb dX11_back_0 rfl (lv_at hl 0 rfl) ?_
  refine lv_iload_n hx hb dX11_back_1 rfl (lv_at hl 1 rfl) ?_
  have hPc := hP.sub (ws' := [(h0, .inr (11, [.ref t0, .ref b0, .ref c0, .ref r0, .ref d0, .ref e0, .ref o0, .ref s0, .ref p0, .ref w0, .int 0, .int 0, .int 0, .int 0, .int ((-1)), .int 0]))]) [0] rfl
  have hDc := hD.sub (ws' := [(h0, .inr (11, [.ref t0, .ref b0, .ref c0, .ref r0, .ref d0, .ref e0, .ref o0, .ref s0, .ref p0, .ref w0, .int 0, .int 0, .int 0, .int 0, .int ((-1)), .int 0]))]) [0] (by decide) rfl
  have hKc := hK.sub (tys' := []) [] rfl
  have hFc := va_free (wc := [(h0, .inr (11, [.ref t0, .ref b0, .ref c0, .ref r0, .ref d0, .ref e0, .ref o0, .ref s0, .ref p0, .ref w0, .int 0, .int 0, .int 0, .int 0, .int ((-1)), .int 0]))]) hD hS hA [0] rfl
  refine vx_callq (vx_runV (As := [.int x0]) (rest := []) ⟨hx, hb, hml, hown, hts⟩ (c_orderAt l hl0 dC dI A0 ad s.heap.size h0 t0 b0 c0 r0 d0 e0 o0 s0 p0 w0 x0 (fun q h => hA0 q (hFc q h))) (cwV 1 hts gX11_back_X11_orderAt rfl rfl rfl (by decide +kernel) ⟨Nat.le_of_ble_eq_true rfl, Nat.le_of_ble_eq_true rfl⟩) ⟨zPc_bl, va_recv hKc hPc (ci := 11) (q0 := 0) rfl rfl, zPc_at hz hS hA0 hPc hKc hDc⟩ rfl rfl hl.1 rfl (lv_room (Nat.le_of_ble_eq_true rfl)) dX11_back_2 ⟨Nat.le_of_ble_eq_true rfl, Nat.le_of_ble_eq_true rfl⟩) hS (fun q _ h => hFc q h) hFc (fun q _ h => hFc q h) (fun E ce q9 u t H1 locs ht hvm hw hB hz1 hk1 hS hce hcv hcl => ?_) (fun r1 u t H1 locs ht hvm hw hB hz1 hk1 hS => ?_)
  · skip
    have hB : E = "java/lang/IndexOutOfBoundsException" := hB
    exact vx_out (fun x h9 => (ht0 x h9).elim) hlocks hce hcv hcl (fun t ht hvm => ⟨(), trivial, hB, hS.F ht⟩) hS.2.2 (by decide) (by decide)
  · exact hw.elim
set_option maxHeartbeats 4000000 in
set_option maxRecDepth 100000 in
/-- sending where there is none throws -/
theorem c_sending (l : Launch) (hl0 : l.stackTraces = false) (dC : Nat → ClassId) (dI : Nat → Nat → Nat) (A0 : Nat → Prop) (ad : Nat → Nat) (sz : Nat) (h0 t0 b0 c0 r0 d0 e0 o0 s0 p0 w0 : Nat) (x0 x1 : Int32) (hA0 : ∀ q, va_A [(h0, .inr (11, [.ref t0, .ref b0, .ref c0, .ref r0, .ref d0, .ref e0, .ref o0, .ref s0, .ref p0, .ref w0, .int 0, .int 0, .int 0, .int 0, .int ((-1)), .int 0]))] sz q → A0 q) : vx_Met l yX11_sending wsX11_sending ({ frames := 6, cells := 1, slots := 6, locals := 82 }) (va_Pc [.ref h0, .int x0, .int x1] (zPc A0 ad (dC, dI) [(h0, .inr (11, [.ref t0, .ref b0, .ref c0, .ref r0, .ref d0, .ref e0, .ref o0, .ref s0, .ref p0, .ref w0, .int 0, .int 0, .int 0, .int 0, .int ((-1)), .int 0]))] [] sz)) (va_Qi (fun (_ : Int32) (_ : Unit) => False) (fun (_ : Unit) (t : State) => zB (dC, dI) (va_A [(h0, .inr (11, [.ref t0, .ref b0, .ref c0, .ref r0, .ref d0, .ref e0, .ref o0, .ref s0, .ref p0, .ref w0, .int 0, .int 0, .int 0, .int 0, .int ((-1)), .int 0]))] sz) [(h0, .inr (11, [.ref t0, .ref b0, .ref c0, .ref r0, .ref d0, .ref e0, .ref o0, .ref s0, .ref p0, .ref w0, .int 0, .int 0, .int 0, .int 0, .int ((-1)), .int 0]))] [] t) (va_A [(h0, .inr (11, [.ref t0, .ref b0, .ref c0, .ref r0, .ref d0, .ref e0, .ref o0, .ref s0, .ref p0, .ref w0, .int 0, .int 0, .int 0, .int 0, .int ((-1)), .int 0]))] sz)) (vx_X (fun _ : Unit => True) (fun (E : String) (_ : Unit) (_ : State) => E = "java/lang/IndexOutOfBoundsException") (va_A [(h0, .inr (11, [.ref t0, .ref b0, .ref c0, .ref r0, .ref d0, .ref e0, .ref o0, .ref s0, .ref p0, .ref w0, .int 0, .int 0, .int 0, .int 0, .int ((-1)), .int 0]))] sz)) 1 6 (va_A [(h0, .inr (11, [.ref t0, .ref b0, .ref c0, .ref r0, .ref d0, .ref e0, .ref o0, .ref s0, .ref p0, .ref w0, .int 0, .int 0, .int 0, .int 0, .int ((-1)), .int 0]))] sz) := by
  refine vx_ofW (cc := cX11_sending) (maxL := 4) (ret := (some .int)) (by decide) rfl ?_
  intro p e s m args below meth c s₁ B hml ht0 hv
  obtain ⟨rfl, hsz, hz, hP, hK, hD0⟩ := hv
  have hx := B.exec
  have hb := B.bytes
  have hr := B.returns
  have hts := atoms_spec (ws := wsX11_sending) B.pre
  have hown : s.vm.findClass RX11 = some m.cls := findClass_of_methodNamed B.named
  have hlocks := B.notSynchronized
  subst hsz
  have hD := hD0.self (sz := s.heap.size)
  generalize hAe : va_A [(h0, .inr (11, [.ref t0, .ref b0, .ref c0, .ref r0, .ref d0, .ref e0, .ref o0, .ref s0, .ref p0, .ref w0, .int 0, .int 0, .int 0, .int 0, .int ((-1)), .int 0]))] s.heap.size = A at hD hA0 ⊢
  have hA : ∀ q : Nat, s.heap.size ≤ q → A q := fun q h => by rw [← hAe]; exact Or.inr h
  have hS : va_S A s.heap s.heap [] := va_S.rf
  have hl := lv_entry ([.ref h0, .int x0, .int x1]) (n := 4) (Nat.le_of_ble_eq_true rfl)
  rw [lg_entry_eq]
  generalize (lg_sl ([.ref h0, .int x0, .int x1]) ++ List.replicate (4 - (lg_sl ([.ref h0, .int x0, .int x1])).length) Slot.unset).toArray = ls at hl ⊢
  have hl : lv_has ls 4 [(0, .ref h0), (1, .int x0), (2, .int x1)] := hl
  have hP : va_P (dC, dI) vwCl [(h0, .inr (11, [.ref t0, .ref b0, .ref c0, .ref r0, .ref d0, .ref e0, .ref o0, .ref s0, .ref p0, .ref w0, .int 0, .int 0, .int 0, .int 0, .int ((-1)), .int 0]))] s.heap := hP
  have hiX11 : ∀ w ∈ u_ws RX11 TX11 16, w ∈ wsX11_sending := fun _ h => List.mem_cons_of_mem _ (List.mem_append_left _ (List.mem_append_left _ (List.mem_append_left _ (List.mem_append_right _ h))))
  have hw1 := hts (.fieldLink RX11 319 "PostHouse" "sendingCount" "I") (by decide +kernel)
  have hw2 := hts (.classLink RX11 322 "java/lang/IndexOutOfBoundsException") (by decide +kernel)
  have hw3 := hts (.initialized "java/lang/IndexOutOfBoundsException") (by decide +kernel)
  refine lv_iload_n hx hb dX11_sending_0 rfl (lv_at hl 1 rfl) ?_
  refine lv_iconst (v := 0) hx hb dX11_sending_1 (by decide) ?_
  refine lv_aload_n hx hb dX11_sending_2 rfl (lv_at hl 0 rfl) ?_
  refine va_get (D := (dC, dI)) (ci := 11) (v := .int 0) (C := RX11) (T := TX11) (N := 16) hx hb hts hiX11 hown hK hP 0 rfl rfl 12 (by decide) hw1 (fun _ h9 => h9) rfl dX11_sending_3 ?_
  refine lv_iconst (v := 1) hx hb dX11_sending_6 (by decide) ?_
  refine lv_isub hx hb dX11_sending_7 ?_
  refine lv_topi (fun v1 ev1 => ?_)
  obtain rfl : v1 = (-1) := ev1.trans (by decide)
  have hPc := hP.sub (ws' := []) [] rfl
  have hDc := hD.sub (ws' := []) [] (by decide) rfl
  have hKc := hK.sub (tys' := []) [] rfl
  have hFc := va_free (wc := []) hD hS hA [] rfl
  refine va_calli (va_runS (As := [.int x0, .int 0, .int ((-1))]) (rest := []) ⟨hx, hb, hml, hown, hts⟩ (c_within l hl0 dC dI A0 ad s.heap.size x0 0 ((-1)) (fun q h => hA0 q (hFc q h))) (cwS 3 hts gX11_sending_X11_within rfl rfl rfl (by decide +kernel) ⟨Nat.le_of_ble_eq_true rfl, Nat.le_of_ble_eq_true rfl⟩) ⟨zPc_bl, zPc_at hz hS hA0 hPc hKc hDc⟩ rfl rfl hl.1 rfl (lv_room (Nat.le_of_ble_eq_true rfl)) dX11_sending_8 ⟨Nat.le_of_ble_eq_true rfl, Nat.le_of_ble_eq_true rfl⟩) hS (fun q _ h => hFc q h) hFc (fun r2 u t H1 locs ht hvm hw hB hz1 hk1 hS => ?_)
  obtain ⟨hP1, hK1, hD1⟩ := hB
  rw [ht] at hP1
  have hK1 := va_K.moved hvm.symm hK1
  obtain ⟨hP, hD⟩ := va_join (wr := [(h0, .inr (11, [.ref t0, .ref b0, .ref c0, .ref r0, .ref d0, .ref e0, .ref o0, .ref s0, .ref p0, .ref w0, .int 0, .int 0, .int 0, .int 0, .int ((-1)), .int 0]))]) (w1 := []) hP hD [] [0] rfl rfl (by decide) (by decide) hk1 hFc hP1 hD1
  have hK := (hK.sub (tys' := []) [] rfl).app hK1
  generalize H1 = H at hP hS ⊢
  have hP : va_P (dC, dI) vwCl [(h0, .inr (11, [.ref t0, .ref b0, .ref c0, .ref r0, .ref d0, .ref e0, .ref o0, .ref s0, .ref p0, .ref w0, .int 0, .int 0, .int 0, .int 0, .int ((-1)), .int 0]))] H := hP
  have hD : va_D A [(h0, .inr (11, [.ref t0, .ref b0, .ref c0, .ref r0, .ref d0, .ref e0, .ref o0, .ref s0, .ref p0, .ref w0, .int 0, .int 0, .int 0, .int 0, .int ((-1)), .int 0]))] := hD
  have hK : va_K (dC, dI) vwCl [] s := hK
  obtain rfl : r2 = 0 := hw.trans (zWi_empty _)
  refine lv_if_ne (tgt := 25) hx hb dX11_sending_11 (by decide) (fun c3 => absurd c3 (by decide)) (fun c3 => ?_)
  obtain ⟨a4, ha4⟩ := hz.2.2.2.2.1 _ (List.mem_of_getElem? (i := 17) rfl)
  have hat : ∀ w ∈ vx_atS RX11 326 "java/lang/IndexOutOfBoundsException" ["java/lang/RuntimeException", "java/lang/Exception"], w.before _ s = true := vx_hat (fun w h => hts w (List.mem_cons_of_mem _ (List.mem_append_left _ (List.mem_append_right _ h)))) (B := [.castable "java/lang/IndexOutOfBoundsException" "java/lang/IndexOutOfBoundsException", .declares (Bundle.initS "java/lang/RuntimeException"), .declares (Bundle.initS "java/lang/Exception"), .declares (Bundle.initS Bundle.tN)]) (by decide +kernel) (vx_c (va_Nw.use rfl (hz.2.2.2.2.2.2.2.1 _ (List.mem_of_getElem? (i := 0) rfl))) (vx_c (va_Nw.use rfl (hz.2.2.2.2.2.2.2.2 _ (List.mem_of_getElem? (i := 0) rfl))) (vx_c (va_Nw.use rfl (hz.2.2.2.2.2.2.2.2 _ (List.mem_of_getElem? (i := 1) rfl))) (vx_c (va_Nw.use rfl (hz.2.2.2.2.2.2.2.2 _ (List.mem_of_getElem? (i := 2) rfl))) vx_n))))
  exact vx_throwSW hx hb hl0 (own := RX11) (cls := "java/lang/IndexOutOfBoundsException") (text := "no such sending") (names := ["java/lang/RuntimeException", "java/lang/Exception"]) hown (by decide +kernel) (by decide +kernel) hw2 hw3 ha4 hat (by decide +kernel) (hz.1.narrow hA0) (hz.2.1.narrow hA0) hS (by rw [hml]; exact hl.1) dX11_sending_14 dX11_sending_17 dX11_sending_18 dX11_sending_21 dX11_sending_24 (fun x h9 => (ht0 x h9).elim) (Nat.le_of_ble_eq_true rfl) (Nat.le_of_ble_eq_true rfl) (Nat.le_of_ble_eq_true rfl) (Nat.le_of_ble_eq_true rfl) hlocks (fun t hvm h1 h2 => ⟨(), trivial, rfl, zF2 hS h1 h2⟩) hS.2.2 (by decide) (by decide)
