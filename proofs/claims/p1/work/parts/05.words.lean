set_option maxHeartbeats 4000000 in
set_option maxRecDepth 100000 in
/-- coder() of a string constant -/
theorem c_coder (l : Launch) (hl0 : l.stackTraces = false) (dC : Nat → ClassId) (dI : Nat → Nat → Nat) (A0 : Nat → Prop) (ad : Nat → Nat) (sz : Nat) (i : Nat) (w : Nat × String × List Int32) (hi : zWd[i]? = some w) (hA0 : ∀ q, va_A [] sz q → A0 q) : Met l yJ0_coder_7d493 wsJ0_coder_7d493 ({ frames := 0, cells := 0, slots := 0, locals := 0 }) (va_Pc [.ref (ad i)] (zPc A0 ad (dC, dI) [] [] sz)) (va_Qi (fun (r : Int32) (_ : Unit) => r = 0) (fun (_ : Unit) (t : State) => zB (dC, dI) (va_A [] sz) [] [] t) (va_A [] sz)) 0 0 (va_A [] sz) := by
  refine Met.ofW (cc := cJ0_coder_7d493) (maxL := 1) (ret := (some .byte)) (by decide) rfl ?_
  intro p e s m args below meth c s₁ B hml hv
  obtain ⟨rfl, hsz, hz, hP, hK, hD0⟩ := hv
  have hx := B.exec
  have hb := B.bytes
  have hr := B.returns
  have hts := atoms_spec (ws := wsJ0_coder_7d493) B.pre
  have hown : s.vm.findClass RJ0 = some m.cls := findClass_of_methodNamed B.named
  have hlocks := B.notSynchronized
  subst hsz
  have hD := hD0.self (sz := s.heap.size)
  generalize hAe : va_A [] s.heap.size = A at hD hA0 ⊢
  have hA : ∀ q : Nat, s.heap.size ≤ q → A q := fun q h => by rw [← hAe]; exact Or.inr h
  have hS : va_S A s.heap s.heap [] := va_S.rf
  have hl := lv_entry ([.ref (ad i)]) (n := 1) (Nat.le_of_ble_eq_true rfl)
  rw [lg_entry_eq]
  generalize (lg_sl ([.ref (ad i)]) ++ List.replicate (1 - (lg_sl ([.ref (ad i)])).length) Slot.unset).toArray = ls at hl ⊢
  have hl : lv_has ls 1 [(0, .ref (ad i))] := hl
  have hP : va_P (dC, dI) vwCl [] s.heap := hP
  have hw1 := hts (.fieldLink RJ0 38 "java/lang/String" "COMPACT_STRINGS" "Z") (by decide +kernel)
  have hw2 := hts (.fieldLink RJ0 15 "java/lang/String" "coder" "B") (by decide +kernel)
  obtain ⟨⟨v, hE⟩, hR⟩ := hz.2.2.2.1 i w hi
  obtain ⟨hE1, hE2, hE3, hE4⟩ := (hE.narrow hA0).1 0 (by decide)
  refine va_gets hx hb (hz.2.2.1.narrow hA0) hS hown hw1 (fun _ h9 => h9) dJ0_coder_7d493_0 ?_
  refine lv_if_eq (tgt := 13) hx hb dJ0_coder_7d493_3 (by decide) (fun c1 => absurd c1 (by decide)) (fun c1 => ?_)
  refine lv_aload_n hx hb dJ0_coder_7d493_6 rfl (lv_at hl 0 rfl) ?_
  refine vk_getf hx hb hE2 hS hown hw2 (fun _ h9 => h9) dJ0_coder_7d493_7 ?_
  refine lv_goto (tgt := 14) hx hb dJ0_coder_7d493_10 (by decide) ?_
  exact W.zret (v := 0) hx hb hr (by decide) (fun t ht hW => ⟨⟨0, (), rfl, rfl, ⟨by rw [ht]; exact hP, va_K.moved hW.alike hK, hD⟩⟩, hS.F ht⟩) hS.2.2 dJ0_coder_7d493_14
set_option maxHeartbeats 4000000 in
set_option maxRecDepth 100000 in
/-- length() of a string constant -/
theorem c_length (l : Launch) (hl0 : l.stackTraces = false) (dC : Nat → ClassId) (dI : Nat → Nat → Nat) (A0 : Nat → Prop) (ad : Nat → Nat) (sz : Nat) (i : Nat) (w : Nat × String × List Int32) (hi : zWd[i]? = some w) (hA0 : ∀ q, va_A [] sz q → A0 q) : Met l yJ0_length_8abf5 wsJ0_length_8abf5 ({ frames := 1, cells := 0, slots := 0, locals := 20 }) (va_Pc [.ref (ad i)] (zPc A0 ad (dC, dI) [] [] sz)) (va_Qi (fun (r : Int32) (_ : Unit) => r = nI w.2.2.length) (fun (_ : Unit) (t : State) => zB (dC, dI) (va_A [] sz) [] [] t) (va_A [] sz)) 0 0 (va_A [] sz) := by
  refine Met.ofW (cc := cJ0_length_8abf5) (maxL := 1) (ret := (some .int)) (by decide) rfl ?_
  intro p e s m args below meth c s₁ B hml hv
  obtain ⟨rfl, hsz, hz, hP, hK, hD0⟩ := hv
  have hx := B.exec
  have hb := B.bytes
  have hr := B.returns
  have hts := atoms_spec (ws := wsJ0_length_8abf5) B.pre
  have hown : s.vm.findClass RJ0 = some m.cls := findClass_of_methodNamed B.named
  have hlocks := B.notSynchronized
  subst hsz
  have hD := hD0.self (sz := s.heap.size)
  generalize hAe : va_A [] s.heap.size = A at hD hA0 ⊢
  have hA : ∀ q : Nat, s.heap.size ≤ q → A q := fun q h => by rw [← hAe]; exact Or.inr h
  have hS : va_S A s.heap s.heap [] := va_S.rf
  have hl := lv_entry ([.ref (ad i)]) (n := 1) (Nat.le_of_ble_eq_true rfl)
  rw [lg_entry_eq]
  generalize (lg_sl ([.ref (ad i)]) ++ List.replicate (1 - (lg_sl ([.ref (ad i)])).length) Slot.unset).toArray = ls at hl ⊢
  have hl : lv_has ls 1 [(0, .ref (ad i))] := hl
  have hP : va_P (dC, dI) vwCl [] s.heap := hP
  have hw1 := hts (.fieldLink RJ0 9 "java/lang/String" "value" "[B") (by decide +kernel)
  obtain ⟨⟨v, hE⟩, hR⟩ := hz.2.2.2.1 i w hi
  obtain ⟨hE1, hE2, hE3, hE4⟩ := (hE.narrow hA0).1 0 (by decide)
  refine lv_aload_n hx hb dJ0_length_8abf5_0 rfl (lv_at hl 0 rfl) ?_
  refine vk_getf hx hb hE3 hS hown hw1 (fun _ h9 => h9) dJ0_length_8abf5_1 ?_
  refine va_tlen hx hb hE4 hS rfl dJ0_length_8abf5_4 ?_
  refine lv_aload_n hx hb dJ0_length_8abf5_5 rfl (lv_at hl 0 rfl) ?_
  have hPc := hP.sub (ws' := []) [] rfl
  have hDc := hD.sub (ws' := []) [] (by decide) rfl
  have hKc := hK.sub (tys' := []) [] rfl
  have hFc := va_free (wc := []) hD hS hA [] rfl
  refine va_calli (va_runV (As := []) (rest := [.int (Int32.ofNat ([w.2.2.length].getD 0 0))]) ⟨hx, hb, hml, hown, hts⟩ (c_coder l hl0 dC dI A0 ad s.heap.size i w hi (fun q h => hA0 q (hFc q h))) (cwV 0 hts gJ0_length_8abf5_J0_coder_7d493 rfl rfl rfl (by decide +kernel) ⟨Nat.le_of_ble_eq_true rfl, Nat.le_of_ble_eq_true rfl⟩) ⟨zPc_bl, vk_recv (i := 0) (hE.narrow hA0) (by decide) hS, zPc_at hz hS hA0 hPc hKc hDc⟩ rfl rfl hl.1 rfl (lv_room (Nat.le_of_ble_eq_true rfl)) dJ0_length_8abf5_6 ⟨Nat.le_of_ble_eq_true rfl, Nat.le_of_ble_eq_true rfl⟩) hS (fun q _ h => hFc q h) hFc (fun r2 u t H1 locs ht hvm hw hB hz1 hk1 hS => ?_)
  obtain rfl : r2 = 0 := hw
  obtain ⟨hP1, hK1, hD1⟩ := hB
  rw [ht] at hP1
  refine lv_ishr hx hb dJ0_length_8abf5_9 ?_
  have hP9 : va_P (dC, dI) vwCl [] H1 := hP1
  have hN : w.2.2.length < 2 ^ 31 := by
    have : ∀ q ∈ zWd, q.2.2.length < 2 ^ 31 := by decide +kernel
    exact this w (List.mem_of_getElem? hi)
  exact W.iret (v := nI w.2.2.length >>> ((0 : Int32) &&& 31)) hx hb hr (fun t ht hW => ⟨⟨_, (), rfl, sc_shr0 hN, ⟨by rw [ht]; exact hP9, va_K.moved hW.alike hK, hD⟩⟩, hS.F ht⟩) hS.2.2 dJ0_length_8abf5_10
theorem zWd_pos {i : Nat} {w : Nat × String × List Int32} (hi : zWd[i]? = some w) : ¬ (0 : Int32) = nI w.2.2.length := by
  have : ∀ q ∈ zWd, ¬ (0 : Int32) = nI q.2.2.length := by decide +kernel
  exact this w (List.mem_of_getElem? hi)
set_option maxHeartbeats 4000000 in
set_option maxRecDepth 100000 in
/-- takesWord on an empty tape -/
theorem c_takesWord_a (l : Launch) (hl0 : l.stackTraces = false) (dC : Nat → ClassId) (dI : Nat → Nat → Nat) (A0 : Nat → Prop) (ad : Nat → Nat) (sz : Nat) (t0 tb : Nat) (i : Nat) (w : Nat × String × List Int32) (hi : zWd[i]? = some w) (hA0 : ∀ q, va_A [(t0, .inr (7, [.ref tb, .int 0, .int 0, .int ((-1))]))] sz q → A0 q) : Met l yX7_takesWord wsX7_takesWord ({ frames := 2, cells := 0, slots := 0, locals := 40 }) (va_Pc [.ref t0, .ref ((ad i))] (zPc A0 ad (dC, dI) [(t0, .inr (7, [.ref tb, .int 0, .int 0, .int ((-1))]))] [] sz)) (va_Qi (fun (r : Int32) (_ : Unit) => r = 0) (fun (_ : Unit) (t : State) => zB (dC, dI) (va_A [(t0, .inr (7, [.ref tb, .int 0, .int 0, .int ((-1))]))] sz) [(t0, .inr (7, [.ref tb, .int 0, .int 0, .int ((-1))]))] [] t) (va_A [(t0, .inr (7, [.ref tb, .int 0, .int 0, .int ((-1))]))] sz)) 0 0 (va_A [(t0, .inr (7, [.ref tb, .int 0, .int 0, .int ((-1))]))] sz) := by
  refine Met.ofW (cc := cX7_takesWord) (maxL := 4) (ret := (some .boolean)) (by decide) rfl ?_
  intro p e s m args below meth c s₁ B hml hv
  obtain ⟨rfl, hsz, hz, hP, hK, hD0⟩ := hv
  have hx := B.exec
  have hb := B.bytes
  have hr := B.returns
  have hts := atoms_spec (ws := wsX7_takesWord) B.pre
  have hown : s.vm.findClass RX7 = some m.cls := findClass_of_methodNamed B.named
  have hlocks := B.notSynchronized
  subst hsz
  have hD := hD0.self (sz := s.heap.size)
  generalize hAe : va_A [(t0, .inr (7, [.ref tb, .int 0, .int 0, .int ((-1))]))] s.heap.size = A at hD hA0 ⊢
  have hA : ∀ q : Nat, s.heap.size ≤ q → A q := fun q h => by rw [← hAe]; exact Or.inr h
  have hS : va_S A s.heap s.heap [] := va_S.rf
  have hl := lv_entry ([.ref t0, .ref ((ad i))]) (n := 4) (Nat.le_of_ble_eq_true rfl)
  rw [lg_entry_eq]
  generalize (lg_sl ([.ref t0, .ref ((ad i))]) ++ List.replicate (4 - (lg_sl ([.ref t0, .ref ((ad i))])).length) Slot.unset).toArray = ls at hl ⊢
  have hl : lv_has ls 4 [(0, .ref t0), (1, .ref ((ad i)))] := hl
  have hP : va_P (dC, dI) vwCl [(t0, .inr (7, [.ref tb, .int 0, .int 0, .int ((-1))]))] s.heap := hP
  refine lv_aload_n hx hb dX7_takesWord_0 rfl (lv_at hl 1 rfl) ?_
  have hPc := hP.sub (ws' := []) [] rfl
  have hDc := hD.sub (ws' := []) [] (by decide) rfl
  have hKc := hK.sub (tys' := []) [] rfl
  have hFc := va_free (wc := []) hD hS hA [] rfl
  refine va_calli (va_runV (As := []) (rest := []) ⟨hx, hb, hml, hown, hts⟩ (c_length l hl0 dC dI A0 ad s.heap.size i w hi (fun q h => hA0 q (hFc q h))) (cwV 0 hts gX7_takesWord_J0_length_8abf5 rfl rfl rfl (by decide +kernel) ⟨Nat.le_of_ble_eq_true rfl, Nat.le_of_ble_eq_true rfl⟩) ⟨zPc_bl, vk_recv (i := 0) ((hz.2.2.2.1 i w hi).1.choose_spec.narrow hA0) (by decide) hS, zPc_at hz hS hA0 hPc hKc hDc⟩ rfl rfl hl.1 rfl (lv_room (Nat.le_of_ble_eq_true rfl)) dX7_takesWord_1 ⟨Nat.le_of_ble_eq_true rfl, Nat.le_of_ble_eq_true rfl⟩) hS (fun q _ h => hFc q h) hFc (fun r1 u t H1 locs ht hvm hw hB hz1 hk1 hS => ?_)
  obtain ⟨hP1, hK1, hD1⟩ := hB
  rw [ht] at hP1
  have hK1 := va_K.moved hvm.symm hK1
  obtain ⟨hP, hD⟩ := va_join (wr := [(t0, .inr (7, [.ref tb, .int 0, .int 0, .int ((-1))]))]) (w1 := []) hP hD [] [0] rfl rfl (by decide) (by decide) hk1 hFc hP1 hD1
  have hK := (hK.sub (tys' := []) [] rfl).app hK1
  generalize H1 = H at hP hS ⊢
  have hP : va_P (dC, dI) vwCl [(t0, .inr (7, [.ref tb, .int 0, .int 0, .int ((-1))]))] H := hP
  have hD : va_D A [(t0, .inr (7, [.ref tb, .int 0, .int 0, .int ((-1))]))] := hD
  have hK : va_K (dC, dI) vwCl [] s := hK
  obtain rfl : r1 = nI w.2.2.length := hw
  refine lv_istore_n (lv' := [(2, .int (nI w.2.2.length)), (0, .ref t0), (1, .ref ((ad i)))]) hx hb dX7_takesWord_4 rfl hl (by decide) rfl (fun ls hl => ?_)
  refine lv_aload_n hx hb dX7_takesWord_5 rfl (lv_at hl 1 rfl) ?_
  refine lv_bipush (v := 97) hx hb dX7_takesWord_6 (by decide) ?_
  refine lv_bipush (v := 122) hx hb dX7_takesWord_8 (by decide) ?_
  have hPc := hP.sub (ws' := [(t0, .inr (7, [.ref tb, .int 0, .int 0, .int ((-1))]))]) [0] rfl
  have hDc := hD.sub (ws' := [(t0, .inr (7, [.ref tb, .int 0, .int 0, .int ((-1))]))]) [0] (by decide) rfl
  have hKc := hK.sub (tys' := []) [] rfl
  have hFc := va_free (wc := [(t0, .inr (7, [.ref tb, .int 0, .int 0, .int ((-1))]))]) hD hS hA [0] rfl
  refine va_calli (va_runV (As := [.int 97, .int 122]) (rest := []) ⟨hx, hb, hml, hown, hts⟩ (c_run_a l hl0 dC dI A0 ad H.size t0 tb 97 122 (fun q h => hA0 q (hFc q h))) (cwV 2 hts gX7_takesWord_X7_run rfl rfl rfl (by decide +kernel) ⟨Nat.le_of_ble_eq_true rfl, Nat.le_of_ble_eq_true rfl⟩) ⟨zPc_bl, va_recv hKc hPc (ci := 7) (q0 := 0) rfl rfl, zPc_at hz hS hA0 hPc hKc hDc⟩ rfl rfl hl.1 rfl (lv_room (Nat.le_of_ble_eq_true rfl)) dX7_takesWord_10 ⟨Nat.le_of_ble_eq_true rfl, Nat.le_of_ble_eq_true rfl⟩) hS (fun q _ h => hFc q h) hFc (fun r2 u t H1 locs ht hvm hw hB hz1 hk1 hS => ?_)
  obtain ⟨hP1, hK1, hD1⟩ := hB
  rw [ht] at hP1
  have hK1 := va_K.moved hvm.symm hK1
  obtain ⟨hP, hD⟩ := va_join (wr := []) (w1 := [(t0, .inr (7, [.ref tb, .int 0, .int 0, .int ((-1))]))]) hP hD [0] [] rfl rfl (by decide) (by decide) hk1 hFc hP1 hD1
  have hK := (hK.sub (tys' := []) [] rfl).app hK1
  generalize H1 = H at hP hS ⊢
  have hP : va_P (dC, dI) vwCl [(t0, .inr (7, [.ref tb, .int 0, .int 0, .int ((-1))]))] H := hP
  have hD : va_D A [(t0, .inr (7, [.ref tb, .int 0, .int 0, .int ((-1))]))] := hD
  have hK : va_K (dC, dI) vwCl [] s := hK
  obtain rfl : r2 = 0 := hw
  refine lv_iload_n hx hb dX7_takesWord_13 rfl (lv_at hl 0 rfl) ?_
  refine lv_icmp_eq (tgt := 19) hx hb dX7_takesWord_14 (by decide) (fun c3 => absurd c3 (zWd_pos hi)) (fun c3 => ?_)
  refine lv_iconst (v := 0) hx hb dX7_takesWord_17 (by decide) ?_
  have hP9 := hP.sub (ws' := [(t0, .inr (7, [.ref tb, .int 0, .int 0, .int ((-1))]))]) [0] rfl
  have hD9 := hD.sub (ws' := [(t0, .inr (7, [.ref tb, .int 0, .int 0, .int ((-1))]))]) [0] (by decide) rfl
  have hK9 := hK.sub (tys' := []) [] rfl
  refine W.widen (k := 0) (n := 0) (by decide) (by decide) ?_
  exact W.zret (v := 0) hx hb hr (by decide) (fun t ht hW => ⟨⟨0, (), rfl, rfl, ⟨by rw [ht]; exact hP9, va_K.moved hW.alike hK9, hD9⟩⟩, hS.F ht⟩) hS.2.2 dX7_takesWord_18
set_option maxHeartbeats 4000000 in
set_option maxRecDepth 100000 in
/-- takesWord on an empty tape -/
theorem c_takesWord_b (l : Launch) (hl0 : l.stackTraces = false) (dC : Nat → ClassId) (dI : Nat → Nat → Nat) (A0 : Nat → Prop) (ad : Nat → Nat) (sz : Nat) (t0 tb : Nat) (i : Nat) (w : Nat × String × List Int32) (hi : zWd[i]? = some w) (hA0 : ∀ q, va_A [(t0, .inr (7, [.ref tb, .int 0, .int 0, .int 0]))] sz q → A0 q) : Met l yX7_takesWord wsX7_takesWord ({ frames := 2, cells := 0, slots := 0, locals := 40 }) (va_Pc [.ref t0, .ref ((ad i))] (zPc A0 ad (dC, dI) [(t0, .inr (7, [.ref tb, .int 0, .int 0, .int 0]))] [] sz)) (va_Qi (fun (r : Int32) (_ : Unit) => r = 0) (fun (_ : Unit) (t : State) => zB (dC, dI) (va_A [(t0, .inr (7, [.ref tb, .int 0, .int 0, .int 0]))] sz) [(t0, .inr (7, [.ref tb, .int 0, .int 0, .int 0]))] [] t) (va_A [(t0, .inr (7, [.ref tb, .int 0, .int 0, .int 0]))] sz)) 0 0 (va_A [(t0, .inr (7, [.ref tb, .int 0, .int 0, .int 0]))] sz) := by
  refine Met.ofW (cc := cX7_takesWord) (maxL := 4) (ret := (some .boolean)) (by decide) rfl ?_
  intro p e s m args below meth c s₁ B hml hv
  obtain ⟨rfl, hsz, hz, hP, hK, hD0⟩ := hv
  have hx := B.exec
  have hb := B.bytes
  have hr := B.returns
  have hts := atoms_spec (ws := wsX7_takesWord) B.pre
  have hown : s.vm.findClass RX7 = some m.cls := findClass_of_methodNamed B.named
  have hlocks := B.notSynchronized
  subst hsz
  have hD := hD0.self (sz := s.heap.size)
  generalize hAe : va_A [(t0, .inr (7, [.ref tb, .int 0, .int 0, .int 0]))] s.heap.size = A at hD hA0 ⊢
  have hA : ∀ q : Nat, s.heap.size ≤ q → A q := fun q h => by rw [← hAe]; exact Or.inr h
  have hS : va_S A s.heap s.heap [] := va_S.rf
  have hl := lv_entry ([.ref t0, .ref ((ad i))]) (n := 4) (Nat.le_of_ble_eq_true rfl)
  rw [lg_entry_eq]
  generalize (lg_sl ([.ref t0, .ref ((ad i))]) ++ List.replicate (4 - (lg_sl ([.ref t0, .ref ((ad i))])).length) Slot.unset).toArray = ls at hl ⊢
  have hl : lv_has ls 4 [(0, .ref t0), (1, .ref ((ad i)))] := hl
  have hP : va_P (dC, dI) vwCl [(t0, .inr (7, [.ref tb, .int 0, .int 0, .int 0]))] s.heap := hP
  refine lv_aload_n hx hb dX7_takesWord_0 rfl (lv_at hl 1 rfl) ?_
  have hPc := hP.sub (ws' := []) [] rfl
  have hDc := hD.sub (ws' := []) [] (by decide) rfl
  have hKc := hK.sub (tys' := []) [] rfl
  have hFc := va_free (wc := []) hD hS hA [] rfl
  refine va_calli (va_runV (As := []) (rest := []) ⟨hx, hb, hml, hown, hts⟩ (c_length l hl0 dC dI A0 ad s.heap.size i w hi (fun q h => hA0 q (hFc q h))) (cwV 0 hts gX7_takesWord_J0_length_8abf5 rfl rfl rfl (by decide +kernel) ⟨Nat.le_of_ble_eq_true rfl, Nat.le_of_ble_eq_true rfl⟩) ⟨zPc_bl, vk_recv (i := 0) ((hz.2.2.2.1 i w hi).1.choose_spec.narrow hA0) (by decide) hS, zPc_at hz hS hA0 hPc hKc hDc⟩ rfl rfl hl.1 rfl (lv_room (Nat.le_of_ble_eq_true rfl)) dX7_takesWord_1 ⟨Nat.le_of_ble_eq_true rfl, Nat.le_of_ble_eq_true rfl⟩) hS (fun q _ h => hFc q h) hFc (fun r1 u t H1 locs ht hvm hw hB hz1 hk1 hS => ?_)
  obtain ⟨hP1, hK1, hD1⟩ := hB
  rw [ht] at hP1
  have hK1 := va_K.moved hvm.symm hK1
  obtain ⟨hP, hD⟩ := va_join (wr := [(t0, .inr (7, [.ref tb, .int 0, .int 0, .int 0]))]) (w1 := []) hP hD [] [0] rfl rfl (by decide) (by decide) hk1 hFc hP1 hD1
  have hK := (hK.sub (tys' := []) [] rfl).app hK1
  generalize H1 = H at hP hS ⊢
  have hP : va_P (dC, dI) vwCl [(t0, .inr (7, [.ref tb, .int 0, .int 0, .int 0]))] H := hP
  have hD : va_D A [(t0, .inr (7, [.ref tb, .int 0, .int 0, .int 0]))] := hD
  have hK : va_K (dC, dI) vwCl [] s := hK
  obtain rfl : r1 = nI w.2.2.length := hw
  refine lv_istore_n (lv' := [(2, .int (nI w.2.2.length)), (0, .ref t0), (1, .ref ((ad i)))]) hx hb dX7_takesWord_4 rfl hl (by decide) rfl (fun ls hl => ?_)
  refine lv_aload_n hx hb dX7_takesWord_5 rfl (lv_at hl 1 rfl) ?_
  refine lv_bipush (v := 97) hx hb dX7_takesWord_6 (by decide) ?_
  refine lv_bipush (v := 122) hx hb dX7_takesWord_8 (by decide) ?_
  have hPc := hP.sub (ws' := [(t0, .inr (7, [.ref tb, .int 0, .int 0, .int 0]))]) [0] rfl
  have hDc := hD.sub (ws' := [(t0, .inr (7, [.ref tb, .int 0, .int 0, .int 0]))]) [0] (by decide) rfl
  have hKc := hK.sub (tys' := []) [] rfl
  have hFc := va_free (wc := [(t0, .inr (7, [.ref tb, .int 0, .int 0, .int 0]))]) hD hS hA [0] rfl
  refine va_calli (va_runV (As := [.int 97, .int 122]) (rest := []) ⟨hx, hb, hml, hown, hts⟩ (c_run_b l hl0 dC dI A0 ad H.size t0 tb 97 122 (fun q h => hA0 q (hFc q h))) (cwV 2 hts gX7_takesWord_X7_run rfl rfl rfl (by decide +kernel) ⟨Nat.le_of_ble_eq_true rfl, Nat.le_of_ble_eq_true rfl⟩) ⟨zPc_bl, va_recv hKc hPc (ci := 7) (q0 := 0) rfl rfl, zPc_at hz hS hA0 hPc hKc hDc⟩ rfl rfl hl.1 rfl (lv_room (Nat.le_of_ble_eq_true rfl)) dX7_takesWord_10 ⟨Nat.le_of_ble_eq_true rfl, Nat.le_of_ble_eq_true rfl⟩) hS (fun q _ h => hFc q h) hFc (fun r2 u t H1 locs ht hvm hw hB hz1 hk1 hS => ?_)
  obtain ⟨hP1, hK1, hD1⟩ := hB
  rw [ht] at hP1
  have hK1 := va_K.moved hvm.symm hK1
  obtain ⟨hP, hD⟩ := va_join (wr := []) (w1 := [(t0, .inr (7, [.ref tb, .int 0, .int 0, .int 0]))]) hP hD [0] [] rfl rfl (by decide) (by decide) hk1 hFc hP1 hD1
  have hK := (hK.sub (tys' := []) [] rfl).app hK1
  generalize H1 = H at hP hS ⊢
  have hP : va_P (dC, dI) vwCl [(t0, .inr (7, [.ref tb, .int 0, .int 0, .int 0]))] H := hP
  have hD : va_D A [(t0, .inr (7, [.ref tb, .int 0, .int 0, .int 0]))] := hD
  have hK : va_K (dC, dI) vwCl [] s := hK
  obtain rfl : r2 = 0 := hw
  refine lv_iload_n hx hb dX7_takesWord_13 rfl (lv_at hl 0 rfl) ?_
  refine lv_icmp_eq (tgt := 19) hx hb dX7_takesWord_14 (by decide) (fun c3 => absurd c3 (zWd_pos hi)) (fun c3 => ?_)
  refine lv_iconst (v := 0) hx hb dX7_takesWord_17 (by decide) ?_
  have hP9 := hP.sub (ws' := [(t0, .inr (7, [.ref tb, .int 0, .int 0, .int 0]))]) [0] rfl
  have hD9 := hD.sub (ws' := [(t0, .inr (7, [.ref tb, .int 0, .int 0, .int 0]))]) [0] (by decide) rfl
  have hK9 := hK.sub (tys' := []) [] rfl
  refine W.widen (k := 0) (n := 0) (by decide) (by decide) ?_
  exact W.zret (v := 0) hx hb hr (by decide) (fun t ht hW => ⟨⟨0, (), rfl, rfl, ⟨by rw [ht]; exact hP9, va_K.moved hW.alike hK9, hD9⟩⟩, hS.F ht⟩) hS.2.2 dX7_takesWord_18
set_option maxHeartbeats 4000000 in
set_option maxRecDepth 100000 in
/-- needWord on an empty tape -/
theorem c_needWord_a (l : Launch) (hl0 : l.stackTraces = false) (dC : Nat → ClassId) (dI : Nat → Nat → Nat) (A0 : Nat → Prop) (ad : Nat → Nat) (sz : Nat) (t0 tb : Nat) (i : Nat) (w : Nat × String × List Int32) (hi : zWd[i]? = some w) (hA0 : ∀ q, va_A [(t0, .inr (7, [.ref tb, .int 0, .int 0, .int ((-1))]))] sz q → A0 q) : Met l yX7_needWord wsX7_needWord ({ frames := 3, cells := 0, slots := 0, locals := 63 }) (va_Pc [.ref t0, .ref ((ad i))] (zPc A0 ad (dC, dI) [(t0, .inr (7, [.ref tb, .int 0, .int 0, .int ((-1))]))] [] sz)) (va_Qv (fun (_ : Unit) => True) (fun (_ : Unit) (t : State) => zB (dC, dI) (va_A [(t0, .inr (7, [.ref tb, .int 0, .int 0, .int ((-1))]))] sz) [(t0, .inr (7, [.ref tb, .int 0, .int 0, .int 0]))] [] t) (va_A [(t0, .inr (7, [.ref tb, .int 0, .int 0, .int ((-1))]))] sz)) 0 0 (va_A [(t0, .inr (7, [.ref tb, .int 0, .int 0, .int ((-1))]))] sz) := by
  refine Met.ofW (cc := cX7_needWord) (maxL := 2) (ret := none) (by decide) rfl ?_
  intro p e s m args below meth c s₁ B hml hv
  obtain ⟨rfl, hsz, hz, hP, hK, hD0⟩ := hv
  have hx := B.exec
  have hb := B.bytes
  have hr := B.returns
  have hts := atoms_spec (ws := wsX7_needWord) B.pre
  have hown : s.vm.findClass RX7 = some m.cls := findClass_of_methodNamed B.named
  have hlocks := B.notSynchronized
  subst hsz
  have hD := hD0.self (sz := s.heap.size)
  generalize hAe : va_A [(t0, .inr (7, [.ref tb, .int 0, .int 0, .int ((-1))]))] s.heap.size = A at hD hA0 ⊢
  have hA : ∀ q : Nat, s.heap.size ≤ q → A q := fun q h => by rw [← hAe]; exact Or.inr h
  have hS : va_S A s.heap s.heap [] := va_S.rf
  have hl := lv_entry ([.ref t0, .ref ((ad i))]) (n := 2) (Nat.le_of_ble_eq_true rfl)
  rw [lg_entry_eq]
  generalize (lg_sl ([.ref t0, .ref ((ad i))]) ++ List.replicate (2 - (lg_sl ([.ref t0, .ref ((ad i))])).length) Slot.unset).toArray = ls at hl ⊢
  have hl : lv_has ls 2 [(0, .ref t0), (1, .ref ((ad i)))] := hl
  have hP : va_P (dC, dI) vwCl [(t0, .inr (7, [.ref tb, .int 0, .int 0, .int ((-1))]))] s.heap := hP
  have hiX7 : ∀ w ∈ u_ws RX7 TX7 4, w ∈ wsX7_needWord := fun _ h => List.mem_cons_of_mem _ (List.mem_append_right _ h)
  have hw1 := hts (.fieldLink RX7 22 "PostHouse$Tape" "next" "I") (by decide +kernel)
  refine lv_aload_n hx hb dX7_needWord_0 rfl (lv_at hl 0 rfl) ?_
  refine lv_aload_n hx hb dX7_needWord_1 rfl (lv_at hl 1 rfl) ?_
  have hPc := hP.sub (ws' := [(t0, .inr (7, [.ref tb, .int 0, .int 0, .int ((-1))]))]) [0] rfl
  have hDc := hD.sub (ws' := [(t0, .inr (7, [.ref tb, .int 0, .int 0, .int ((-1))]))]) [0] (by decide) rfl
  have hKc := hK.sub (tys' := []) [] rfl
  have hFc := va_free (wc := [(t0, .inr (7, [.ref tb, .int 0, .int 0, .int ((-1))]))]) hD hS hA [0] rfl
  refine va_calli (va_runV (As := [.ref ((ad i))]) (rest := []) ⟨hx, hb, hml, hown, hts⟩ (c_takesWord_a l hl0 dC dI A0 ad s.heap.size t0 tb i w hi (fun q h => hA0 q (hFc q h))) (cwV 1 hts gX7_needWord_X7_takesWord rfl rfl rfl (by decide +kernel) ⟨Nat.le_of_ble_eq_true rfl, Nat.le_of_ble_eq_true rfl⟩) ⟨zPc_bl, va_recv hKc hPc (ci := 7) (q0 := 0) rfl rfl, zPc_at hz hS hA0 hPc hKc hDc⟩ rfl rfl hl.1 rfl (lv_room (Nat.le_of_ble_eq_true rfl)) dX7_needWord_2 ⟨Nat.le_of_ble_eq_true rfl, Nat.le_of_ble_eq_true rfl⟩) hS (fun q _ h => hFc q h) hFc (fun r1 u t H1 locs ht hvm hw hB hz1 hk1 hS => ?_)
  obtain ⟨hP1, hK1, hD1⟩ := hB
  rw [ht] at hP1
  have hK1 := va_K.moved hvm.symm hK1
  obtain ⟨hP, hD⟩ := va_join (wr := []) (w1 := [(t0, .inr (7, [.ref tb, .int 0, .int 0, .int ((-1))]))]) hP hD [0] [] rfl rfl (by decide) (by decide) hk1 hFc hP1 hD1
  have hK := (hK.sub (tys' := []) [] rfl).app hK1
  generalize H1 = H at hP hS ⊢
  have hP : va_P (dC, dI) vwCl [(t0, .inr (7, [.ref tb, .int 0, .int 0, .int ((-1))]))] H := hP
  have hD : va_D A [(t0, .inr (7, [.ref tb, .int 0, .int 0, .int ((-1))]))] := hD
  have hK : va_K (dC, dI) vwCl [] s := hK
  obtain rfl : r1 = 0 := hw
  refine lv_if_ne (tgt := 16) hx hb dX7_needWord_5 (by decide) (fun c2 => absurd (by decide) c2) (fun c2 => ?_)
  refine lv_aload_n hx hb dX7_needWord_8 rfl (lv_at hl 0 rfl) ?_
  refine lv_aload_n hx hb dX7_needWord_9 rfl (lv_at hl 0 rfl) ?_
  refine va_get (D := (dC, dI)) (ci := 7) (v := .int 0) (C := RX7) (T := TX7) (N := 4) hx hb hts hiX7 hown hK hP 0 rfl rfl 2 (by decide) hw1 (fun _ h9 => h9) rfl dX7_needWord_10 ?_
  have hPc := hP.sub (ws' := [(t0, .inr (7, [.ref tb, .int 0, .int 0, .int ((-1))]))]) [0] rfl
  have hDc := hD.sub (ws' := [(t0, .inr (7, [.ref tb, .int 0, .int 0, .int ((-1))]))]) [0] (by decide) rfl
  have hKc := hK.sub (tys' := []) [] rfl
  have hFc := va_free (wc := [(t0, .inr (7, [.ref tb, .int 0, .int 0, .int ((-1))]))]) hD hS hA [0] rfl
  refine va_callv (va_runV (As := [.int 0]) (rest := []) ⟨hx, hb, hml, hown, hts⟩ (c_refuse_a l hl0 dC dI A0 ad H.size t0 tb (fun q h => hA0 q (hFc q h))) (cwV 1 hts gX7_needWord_X7_refuse rfl rfl rfl (by decide +kernel) ⟨Nat.le_of_ble_eq_true rfl, Nat.le_of_ble_eq_true rfl⟩) ⟨zPc_bl, va_recv hKc hPc (ci := 7) (q0 := 0) rfl rfl, zPc_at hz hS hA0 hPc hKc hDc⟩ rfl rfl hl.1 rfl (lv_room (Nat.le_of_ble_eq_true rfl)) dX7_needWord_13 ⟨Nat.le_of_ble_eq_true rfl, Nat.le_of_ble_eq_true rfl⟩) hS (fun q _ h => hFc q h) hFc (fun u t H1 locs ht hvm hw hB hz1 hk1 hS => ?_)
  obtain ⟨hP1, hK1, hD1⟩ := hB
  rw [ht] at hP1
  have hK1 := va_K.moved hvm.symm hK1
  obtain ⟨hP, hD⟩ := va_join (wr := []) (w1 := [(t0, .inr (7, [.ref tb, .int 0, .int 0, .int 0]))]) hP hD [0] [] rfl rfl (by decide) (by decide) hk1 hFc hP1 hD1
  have hK := (hK.sub (tys' := []) [] rfl).app hK1
  generalize H1 = H at hP hS ⊢
  have hP : va_P (dC, dI) vwCl [(t0, .inr (7, [.ref tb, .int 0, .int 0, .int 0]))] H := hP
  have hD : va_D A [(t0, .inr (7, [.ref tb, .int 0, .int 0, .int 0]))] := hD
  have hK : va_K (dC, dI) vwCl [] s := hK
  have hP9 := hP.sub (ws' := [(t0, .inr (7, [.ref tb, .int 0, .int 0, .int 0]))]) [0] rfl
  have hD9 := hD.sub (ws' := [(t0, .inr (7, [.ref tb, .int 0, .int 0, .int 0]))]) [0] (by decide) rfl
  have hK9 := hK.sub (tys' := []) [] rfl
  refine W.widen (k := 0) (n := 0) (by decide) (by decide) ?_
  exact W.vret hx hb hr (fun t ht hW => ⟨⟨(), rfl, trivial, ⟨by rw [ht]; exact hP9, va_K.moved hW.alike hK9, hD9⟩⟩, hS.F ht⟩) hS.2.2 dX7_needWord_16
set_option maxHeartbeats 4000000 in
set_option maxRecDepth 100000 in
/-- needWord on an empty tape -/
theorem c_needWord_b (l : Launch) (hl0 : l.stackTraces = false) (dC : Nat → ClassId) (dI : Nat → Nat → Nat) (A0 : Nat → Prop) (ad : Nat → Nat) (sz : Nat) (t0 tb : Nat) (i : Nat) (w : Nat × String × List Int32) (hi : zWd[i]? = some w) (hA0 : ∀ q, va_A [(t0, .inr (7, [.ref tb, .int 0, .int 0, .int 0]))] sz q → A0 q) : Met l yX7_needWord wsX7_needWord ({ frames := 3, cells := 0, slots := 0, locals := 63 }) (va_Pc [.ref t0, .ref ((ad i))] (zPc A0 ad (dC, dI) [(t0, .inr (7, [.ref tb, .int 0, .int 0, .int 0]))] [] sz)) (va_Qv (fun (_ : Unit) => True) (fun (_ : Unit) (t : State) => zB (dC, dI) (va_A [(t0, .inr (7, [.ref tb, .int 0, .int 0, .int 0]))] sz) [(t0, .inr (7, [.ref tb, .int 0, .int 0, .int 0]))] [] t) (va_A [(t0, .inr (7, [.ref tb, .int 0, .int 0, .int 0]))] sz)) 0 0 (va_A [(t0, .inr (7, [.ref tb, .int 0, .int 0, .int 0]))] sz) := by
  refine Met.ofW (cc := cX7_needWord) (maxL := 2) (ret := none) (by decide) rfl ?_
  intro p e s m args below meth c s₁ B hml hv
  obtain ⟨rfl, hsz, hz, hP, hK, hD0⟩ := hv
  have hx := B.exec
  have hb := B.bytes
  have hr := B.returns
  have hts := atoms_spec (ws := wsX7_needWord) B.pre
  have hown : s.vm.findClass RX7 = some m.cls := findClass_of_methodNamed B.named
  have hlocks := B.notSynchronized
  subst hsz
  have hD := hD0.self (sz := s.heap.size)
  generalize hAe : va_A [(t0, .inr (7, [.ref tb, .int 0, .int 0, .int 0]))] s.heap.size = A at hD hA0 ⊢
  have hA : ∀ q : Nat, s.heap.size ≤ q → A q := fun q h => by rw [← hAe]; exact Or.inr h
  have hS : va_S A s.heap s.heap [] := va_S.rf
  have hl := lv_entry ([.ref t0, .ref ((ad i))]) (n := 2) (Nat.le_of_ble_eq_true rfl)
  rw [lg_entry_eq]
  generalize (lg_sl ([.ref t0, .ref ((ad i))]) ++ List.replicate (2 - (lg_sl ([.ref t0, .ref ((ad i))])).length) Slot.unset).toArray = ls at hl ⊢
  have hl : lv_has ls 2 [(0, .ref t0), (1, .ref ((ad i)))] := hl
  have hP : va_P (dC, dI) vwCl [(t0, .inr (7, [.ref tb, .int 0, .int 0, .int 0]))] s.heap := hP
  have hiX7 : ∀ w ∈ u_ws RX7 TX7 4, w ∈ wsX7_needWord := fun _ h => List.mem_cons_of_mem _ (List.mem_append_right _ h)
  have hw1 := hts (.fieldLink RX7 22 "PostHouse$Tape" "next" "I") (by decide +kernel)
  refine lv_aload_n hx hb dX7_needWord_0 rfl (lv_at hl 0 rfl) ?_
  refine lv_aload_n hx hb dX7_needWord_1 rfl (lv_at hl 1 rfl) ?_
  have hPc := hP.sub (ws' := [(t0, .inr (7, [.ref tb, .int 0, .int 0, .int 0]))]) [0] rfl
  have hDc := hD.sub (ws' := [(t0, .inr (7, [.ref tb, .int 0, .int 0, .int 0]))]) [0] (by decide) rfl
  have hKc := hK.sub (tys' := []) [] rfl
  have hFc := va_free (wc := [(t0, .inr (7, [.ref tb, .int 0, .int 0, .int 0]))]) hD hS hA [0] rfl
  refine va_calli (va_runV (As := [.ref ((ad i))]) (rest := []) ⟨hx, hb, hml, hown, hts⟩ (c_takesWord_b l hl0 dC dI A0 ad s.heap.size t0 tb i w hi (fun q h => hA0 q (hFc q h))) (cwV 1 hts gX7_needWord_X7_takesWord rfl rfl rfl (by decide +kernel) ⟨Nat.le_of_ble_eq_true rfl, Nat.le_of_ble_eq_true rfl⟩) ⟨zPc_bl, va_recv hKc hPc (ci := 7) (q0 := 0) rfl rfl, zPc_at hz hS hA0 hPc hKc hDc⟩ rfl rfl hl.1 rfl (lv_room (Nat.le_of_ble_eq_true rfl)) dX7_needWord_2 ⟨Nat.le_of_ble_eq_true rfl, Nat.le_of_ble_eq_true rfl⟩) hS (fun q _ h => hFc q h) hFc (fun r1 u t H1 locs ht hvm hw hB hz1 hk1 hS => ?_)
  obtain ⟨hP1, hK1, hD1⟩ := hB
  rw [ht] at hP1
  have hK1 := va_K.moved hvm.symm hK1
  obtain ⟨hP, hD⟩ := va_join (wr := []) (w1 := [(t0, .inr (7, [.ref tb, .int 0, .int 0, .int 0]))]) hP hD [0] [] rfl rfl (by decide) (by decide) hk1 hFc hP1 hD1
  have hK := (hK.sub (tys' := []) [] rfl).app hK1
  generalize H1 = H at hP hS ⊢
  have hP : va_P (dC, dI) vwCl [(t0, .inr (7, [.ref tb, .int 0, .int 0, .int 0]))] H := hP
  have hD : va_D A [(t0, .inr (7, [.ref tb, .int 0, .int 0, .int 0]))] := hD
  have hK : va_K (dC, dI) vwCl [] s := hK
  obtain rfl : r1 = 0 := hw
  refine lv_if_ne (tgt := 16) hx hb dX7_needWord_5 (by decide) (fun c2 => absurd (by decide) c2) (fun c2 => ?_)
  refine lv_aload_n hx hb dX7_needWord_8 rfl (lv_at hl 0 rfl) ?_
  refine lv_aload_n hx hb dX7_needWord_9 rfl (lv_at hl 0 rfl) ?_
  refine va_get (D := (dC, dI)) (ci := 7) (v := .int 0) (C := RX7) (T := TX7) (N := 4) hx hb hts hiX7 hown hK hP 0 rfl rfl 2 (by decide) hw1 (fun _ h9 => h9) rfl dX7_needWord_10 ?_
  have hPc := hP.sub (ws' := [(t0, .inr (7, [.ref tb, .int 0, .int 0, .int 0]))]) [0] rfl
  have hDc := hD.sub (ws' := [(t0, .inr (7, [.ref tb, .int 0, .int 0, .int 0]))]) [0] (by decide) rfl
  have hKc := hK.sub (tys' := []) [] rfl
  have hFc := va_free (wc := [(t0, .inr (7, [.ref tb, .int 0, .int 0, .int 0]))]) hD hS hA [0] rfl
  refine va_callv (va_runV (As := [.int 0]) (rest := []) ⟨hx, hb, hml, hown, hts⟩ (c_refuse_b l hl0 dC dI A0 ad H.size t0 tb (fun q h => hA0 q (hFc q h))) (cwV 1 hts gX7_needWord_X7_refuse rfl rfl rfl (by decide +kernel) ⟨Nat.le_of_ble_eq_true rfl, Nat.le_of_ble_eq_true rfl⟩) ⟨zPc_bl, va_recv hKc hPc (ci := 7) (q0 := 0) rfl rfl, zPc_at hz hS hA0 hPc hKc hDc⟩ rfl rfl hl.1 rfl (lv_room (Nat.le_of_ble_eq_true rfl)) dX7_needWord_13 ⟨Nat.le_of_ble_eq_true rfl, Nat.le_of_ble_eq_true rfl⟩) hS (fun q _ h => hFc q h) hFc (fun u t H1 locs ht hvm hw hB hz1 hk1 hS => ?_)
  obtain ⟨hP1, hK1, hD1⟩ := hB
  rw [ht] at hP1
  have hK1 := va_K.moved hvm.symm hK1
  obtain ⟨hP, hD⟩ := va_join (wr := []) (w1 := [(t0, .inr (7, [.ref tb, .int 0, .int 0, .int 0]))]) hP hD [0] [] rfl rfl (by decide) (by decide) hk1 hFc hP1 hD1
  have hK := (hK.sub (tys' := []) [] rfl).app hK1
  generalize H1 = H at hP hS ⊢
  have hP : va_P (dC, dI) vwCl [(t0, .inr (7, [.ref tb, .int 0, .int 0, .int 0]))] H := hP
  have hD : va_D A [(t0, .inr (7, [.ref tb, .int 0, .int 0, .int 0]))] := hD
  have hK : va_K (dC, dI) vwCl [] s := hK
  have hP9 := hP.sub (ws' := [(t0, .inr (7, [.ref tb, .int 0, .int 0, .int 0]))]) [0] rfl
  have hD9 := hD.sub (ws' := [(t0, .inr (7, [.ref tb, .int 0, .int 0, .int 0]))]) [0] (by decide) rfl
  have hK9 := hK.sub (tys' := []) [] rfl
  refine W.widen (k := 0) (n := 0) (by decide) (by decide) ?_
  exact W.vret hx hb hr (fun t ht hW => ⟨⟨(), rfl, trivial, ⟨by rw [ht]; exact hP9, va_K.moved hW.alike hK9, hD9⟩⟩, hS.F ht⟩) hS.2.2 dX7_needWord_16
