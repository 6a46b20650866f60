set_option maxHeartbeats 4000000 in
set_option maxRecDepth 100000 in
/-- feed on an empty tape answers 20 -/
theorem c_feed (l : Launch) (hl0 : l.stackTraces = false) (dC : Nat → ClassId) (dI : Nat → Nat → Nat) (A0 : Nat → Prop) (ad : Nat → Nat) (sz : Nat) (h0 t0 b0 c0 r0 d0 e0 o0 s0 p0 w0 : Nat) (tb : Nat) (ctb : ClassId) (f : Nat → Int32) (x0 x1 x2 x3 x4 : Int32) (hA0 : ∀ q, va_A [(h0, .inr (11, [.ref t0, .ref b0, .ref c0, .ref r0, .ref d0, .ref e0, .ref o0, .ref s0, .ref p0, .ref w0, .int 0, .int 0, .int 0, .int 0, .int ((-1)), .int 0])), (t0, .inr (7, [.ref tb, .int 0, .int 0, .int ((-1))])), (tb, .inl (ctb, 400, .inl f))] sz q → A0 q) : Met l yX11_feed wsX11_feed ({ frames := 1, cells := 0, slots := 0, locals := 22 }) (va_Pc [.ref h0, .int x0, .int x1, .int x2, .int x3, .int x4] (zPc A0 ad (dC, dI) [(h0, .inr (11, [.ref t0, .ref b0, .ref c0, .ref r0, .ref d0, .ref e0, .ref o0, .ref s0, .ref p0, .ref w0, .int 0, .int 0, .int 0, .int 0, .int ((-1)), .int 0])), (t0, .inr (7, [.ref tb, .int 0, .int 0, .int ((-1))])), (tb, .inl (ctb, 400, .inl f))] [(ctb, .byte)] sz)) (va_Qi (fun (r : Int32) (_ : Unit) => r = 20) (fun (_ : Unit) (t : State) => ∃ (f2 : Nat → Int32), zB (dC, dI) (va_A [(h0, .inr (11, [.ref t0, .ref b0, .ref c0, .ref r0, .ref d0, .ref e0, .ref o0, .ref s0, .ref p0, .ref w0, .int 0, .int 0, .int 0, .int 0, .int ((-1)), .int 0])), (t0, .inr (7, [.ref tb, .int 0, .int 0, .int ((-1))])), (tb, .inl (ctb, 400, .inl f))] sz) [(h0, .inr (11, [.ref t0, .ref b0, .ref c0, .ref r0, .ref d0, .ref e0, .ref o0, .ref s0, .ref p0, .ref w0, .int 0, .int 0, .int 0, .int 0, .int ((-1)), .int 0])), (t0, .inr (7, [.ref tb, .int 20, .int 0, .int ((-1))])), (tb, .inl (ctb, 400, .inl f2))] [(ctb, .byte)] t) (va_A [(h0, .inr (11, [.ref t0, .ref b0, .ref c0, .ref r0, .ref d0, .ref e0, .ref o0, .ref s0, .ref p0, .ref w0, .int 0, .int 0, .int 0, .int 0, .int ((-1)), .int 0])), (t0, .inr (7, [.ref tb, .int 0, .int 0, .int ((-1))])), (tb, .inl (ctb, 400, .inl f))] sz)) 0 0 (va_A [(h0, .inr (11, [.ref t0, .ref b0, .ref c0, .ref r0, .ref d0, .ref e0, .ref o0, .ref s0, .ref p0, .ref w0, .int 0, .int 0, .int 0, .int 0, .int ((-1)), .int 0])), (t0, .inr (7, [.ref tb, .int 0, .int 0, .int ((-1))])), (tb, .inl (ctb, 400, .inl f))] sz) := by
  refine Met.ofW (cc := cX11_feed) (maxL := 6) (ret := (some .int)) (by decide) rfl ?_
  intro p e s m args below meth c s₁ B hml hv
  obtain ⟨rfl, hsz, hz, hP, hK, hD0⟩ := hv
  have hx := B.exec
  have hb := B.bytes
  have hr := B.returns
  have hts := atoms_spec (ws := wsX11_feed) B.pre
  have hown : s.vm.findClass RX11 = some m.cls := findClass_of_methodNamed B.named
  have hlocks := B.notSynchronized
  subst hsz
  have hD := hD0.self (sz := s.heap.size)
  generalize hAe : va_A [(h0, .inr (11, [.ref t0, .ref b0, .ref c0, .ref r0, .ref d0, .ref e0, .ref o0, .ref s0, .ref p0, .ref w0, .int 0, .int 0, .int 0, .int 0, .int ((-1)), .int 0])), (t0, .inr (7, [.ref tb, .int 0, .int 0, .int ((-1))])), (tb, .inl (ctb, 400, .inl f))] s.heap.size = A at hD hA0 ⊢
  have hA : ∀ q : Nat, s.heap.size ≤ q → A q := fun q h => by rw [← hAe]; exact Or.inr h
  have hS : va_S A s.heap s.heap [] := va_S.rf
  have hl := lv_entry ([.ref h0, .int x0, .int x1, .int x2, .int x3, .int x4]) (n := 6) (Nat.le_of_ble_eq_true rfl)
  rw [lg_entry_eq]
  generalize (lg_sl ([.ref h0, .int x0, .int x1, .int x2, .int x3, .int x4]) ++ List.replicate (6 - (lg_sl ([.ref h0, .int x0, .int x1, .int x2, .int x3, .int x4])).length) Slot.unset).toArray = ls at hl ⊢
  have hl : lv_has ls 6 [(0, .ref h0), (1, .int x0), (2, .int x1), (3, .int x2), (4, .int x3), (5, .int x4)] := hl
  have hP : va_P (dC, dI) vwCl [(h0, .inr (11, [.ref t0, .ref b0, .ref c0, .ref r0, .ref d0, .ref e0, .ref o0, .ref s0, .ref p0, .ref w0, .int 0, .int 0, .int 0, .int 0, .int ((-1)), .int 0])), (t0, .inr (7, [.ref tb, .int 0, .int 0, .int ((-1))])), (tb, .inl (ctb, 400, .inl f))] s.heap := hP
  have hiX11 : ∀ w ∈ u_ws RX11 TX11 16, w ∈ wsX11_feed := fun _ h => List.mem_cons_of_mem _ (List.mem_append_left _ (List.mem_append_right _ h))
  have hw1 := hts (.fieldLink RX11 10 "PostHouse" "tape" "LPostHouse$Tape;") (by decide +kernel)
  have hiX7 : ∀ w ∈ u_ws RX7 TX7 4, w ∈ wsX11_feed := fun _ h => List.mem_cons_of_mem _ (List.mem_append_right _ h)
  have hw3 := hts (.fieldLink RX11 84 "PostHouse$Tape" "length" "I") (by decide +kernel)
  refine lv_aload_n hx hb dX11_feed_0 rfl (lv_at hl 0 rfl) ?_
  refine va_get (D := (dC, dI)) (ci := 11) (v := .ref t0) (C := RX11) (T := TX11) (N := 16) hx hb hts hiX11 hown hK hP 0 rfl rfl 0 (by decide) hw1 (fun _ h9 => h9) rfl dX11_feed_1 ?_
  have hPc := hP.sub (ws' := [(t0, .inr (7, [.ref tb, .int 0, .int 0, .int ((-1))]))]) [1] rfl
  have hDc := hD.sub (ws' := [(t0, .inr (7, [.ref tb, .int 0, .int 0, .int ((-1))]))]) [1] (by decide) rfl
  have hKc := hK.sub (tys' := []) [] rfl
  have hFc := va_free (wc := [(t0, .inr (7, [.ref tb, .int 0, .int 0, .int ((-1))]))]) hD hS hA [1] rfl
  refine va_calli (va_runV (As := []) (rest := []) ⟨hx, hb, hml, hown, hts⟩ (c_hasRoom l hl0 dC dI A0 ad s.heap.size t0 tb (fun q h => hA0 q (hFc q h))) (cwV 0 hts gX11_feed_X7_hasRoom rfl rfl rfl (by decide +kernel) ⟨Nat.le_of_ble_eq_true rfl, Nat.le_of_ble_eq_true rfl⟩) ⟨zPc_bl, va_recv hKc hPc (ci := 7) (q0 := 0) rfl rfl, zPc_at hz hS hA0 hPc hKc hDc⟩ rfl rfl hl.1 rfl (lv_room (Nat.le_of_ble_eq_true rfl)) dX11_feed_4 ⟨Nat.le_of_ble_eq_true rfl, Nat.le_of_ble_eq_true rfl⟩) hS (fun q _ h => hFc q h) hFc (fun r1 u t H1 locs ht hvm hw hB hz1 hk1 hS => ?_)
  obtain ⟨hP1, hK1, hD1⟩ := hB
  rw [ht] at hP1
  have hK1 := va_K.moved hvm.symm hK1
  obtain ⟨hP, hD⟩ := va_join (wr := [(h0, .inr (11, [.ref t0, .ref b0, .ref c0, .ref r0, .ref d0, .ref e0, .ref o0, .ref s0, .ref p0, .ref w0, .int 0, .int 0, .int 0, .int 0, .int ((-1)), .int 0])), (tb, .inl (ctb, 400, .inl f))]) (w1 := [(t0, .inr (7, [.ref tb, .int 0, .int 0, .int ((-1))]))]) hP hD [1] [0, 2] rfl rfl (by decide) (by decide) hk1 hFc hP1 hD1
  have hK := (hK.sub (tys' := [(ctb, .byte)]) [0] rfl).app hK1
  generalize H1 = H at hP hS ⊢
  have hP : va_P (dC, dI) vwCl [(h0, .inr (11, [.ref t0, .ref b0, .ref c0, .ref r0, .ref d0, .ref e0, .ref o0, .ref s0, .ref p0, .ref w0, .int 0, .int 0, .int 0, .int 0, .int ((-1)), .int 0])), (tb, .inl (ctb, 400, .inl f)), (t0, .inr (7, [.ref tb, .int 0, .int 0, .int ((-1))]))] H := hP
  have hD : va_D A [(h0, .inr (11, [.ref t0, .ref b0, .ref c0, .ref r0, .ref d0, .ref e0, .ref o0, .ref s0, .ref p0, .ref w0, .int 0, .int 0, .int 0, .int 0, .int ((-1)), .int 0])), (tb, .inl (ctb, 400, .inl f)), (t0, .inr (7, [.ref tb, .int 0, .int 0, .int ((-1))]))] := hD
  have hK : va_K (dC, dI) vwCl [(ctb, .byte)] s := hK
  obtain rfl : r1 = 1 := hw
  refine lv_if_ne (tgt := 12) hx hb dX11_feed_7 (by decide) (fun c2 => ?_) (fun c2 => absurd c2 (by decide))
  refine lv_aload_n hx hb dX11_feed_12 rfl (lv_at hl 0 rfl) ?_
  refine va_get (D := (dC, dI)) (ci := 11) (v := .ref t0) (C := RX11) (T := TX11) (N := 16) hx hb hts hiX11 hown hK hP 0 rfl rfl 0 (by decide) hw1 (fun _ h9 => h9) rfl dX11_feed_13 ?_
  refine lv_iload_n hx hb dX11_feed_16 rfl (lv_at hl 1 rfl) ?_
  have hPc := hP.sub (ws' := [(t0, .inr (7, [.ref tb, .int 0, .int 0, .int ((-1))])), (tb, .inl (ctb, 400, .inl f))]) [2, 1] rfl
  have hDc := hD.sub (ws' := [(t0, .inr (7, [.ref tb, .int 0, .int 0, .int ((-1))])), (tb, .inl (ctb, 400, .inl f))]) [2, 1] (by decide) rfl
  have hKc := hK.sub (tys' := [(ctb, .byte)]) [0] rfl
  have hFc := va_free (wc := [(t0, .inr (7, [.ref tb, .int 0, .int 0, .int ((-1))])), (tb, .inl (ctb, 400, .inl f))]) hD hS hA [2, 1] rfl
  refine va_callv (va_runV (As := [.int x0]) (rest := []) ⟨hx, hb, hml, hown, hts⟩ (c_put_0 l hl0 dC dI A0 ad H.size t0 tb ctb f x0 (fun q h => hA0 q (hFc q h))) (cwV 1 hts gX11_feed_X7_put rfl rfl rfl (by decide +kernel) ⟨Nat.le_of_ble_eq_true rfl, Nat.le_of_ble_eq_true rfl⟩) ⟨zPc_bl, va_recv hKc hPc (ci := 7) (q0 := 0) rfl rfl, zPc_at hz hS hA0 hPc hKc hDc⟩ rfl rfl hl.1 rfl (lv_room (Nat.le_of_ble_eq_true rfl)) dX11_feed_17 ⟨Nat.le_of_ble_eq_true rfl, Nat.le_of_ble_eq_true rfl⟩) hS (fun q _ h => hFc q h) hFc (fun u t H1 locs ht hvm hw hB hz1 hk1 hS => ?_)
  obtain ⟨zg4, hB⟩ := hB
  obtain ⟨hP1, hK1, hD1⟩ := hB
  rw [ht] at hP1
  have hK1 := va_K.moved hvm.symm hK1
  obtain ⟨hP, hD⟩ := va_join (wr := [(h0, .inr (11, [.ref t0, .ref b0, .ref c0, .ref r0, .ref d0, .ref e0, .ref o0, .ref s0, .ref p0, .ref w0, .int 0, .int 0, .int 0, .int 0, .int ((-1)), .int 0]))]) (w1 := [(t0, .inr (7, [.ref tb, .int 4, .int 0, .int ((-1))])), (tb, .inl (ctb, 400, .inl zg4))]) hP hD [2, 1] [0] rfl rfl (by decide) (by decide) hk1 hFc hP1 hD1
  have hK := (hK.sub (tys' := []) [] rfl).app hK1
  generalize H1 = H at hP hS ⊢
  have hP : va_P (dC, dI) vwCl [(h0, .inr (11, [.ref t0, .ref b0, .ref c0, .ref r0, .ref d0, .ref e0, .ref o0, .ref s0, .ref p0, .ref w0, .int 0, .int 0, .int 0, .int 0, .int ((-1)), .int 0])), (t0, .inr (7, [.ref tb, .int 4, .int 0, .int ((-1))])), (tb, .inl (ctb, 400, .inl zg4))] H := hP
  have hD : va_D A [(h0, .inr (11, [.ref t0, .ref b0, .ref c0, .ref r0, .ref d0, .ref e0, .ref o0, .ref s0, .ref p0, .ref w0, .int 0, .int 0, .int 0, .int 0, .int ((-1)), .int 0])), (t0, .inr (7, [.ref tb, .int 4, .int 0, .int ((-1))])), (tb, .inl (ctb, 400, .inl zg4))] := hD
  have hK : va_K (dC, dI) vwCl [(ctb, .byte)] s := hK
  refine lv_aload_n hx hb dX11_feed_20 rfl (lv_at hl 0 rfl) ?_
  refine va_get (D := (dC, dI)) (ci := 11) (v := .ref t0) (C := RX11) (T := TX11) (N := 16) hx hb hts hiX11 hown hK hP 0 rfl rfl 0 (by decide) hw1 (fun _ h9 => h9) rfl dX11_feed_21 ?_
  refine lv_iload_n hx hb dX11_feed_24 rfl (lv_at hl 2 rfl) ?_
  have hPc := hP.sub (ws' := [(t0, .inr (7, [.ref tb, .int 4, .int 0, .int ((-1))])), (tb, .inl (ctb, 400, .inl zg4))]) [1, 2] rfl
  have hDc := hD.sub (ws' := [(t0, .inr (7, [.ref tb, .int 4, .int 0, .int ((-1))])), (tb, .inl (ctb, 400, .inl zg4))]) [1, 2] (by decide) rfl
  have hKc := hK.sub (tys' := [(ctb, .byte)]) [0] rfl
  have hFc := va_free (wc := [(t0, .inr (7, [.ref tb, .int 4, .int 0, .int ((-1))])), (tb, .inl (ctb, 400, .inl zg4))]) hD hS hA [1, 2] rfl
  refine va_callv (va_runV (As := [.int x1]) (rest := []) ⟨hx, hb, hml, hown, hts⟩ (c_put_4 l hl0 dC dI A0 ad H.size t0 tb ctb zg4 x1 (fun q h => hA0 q (hFc q h))) (cwV 1 hts gX11_feed_X7_put rfl rfl rfl (by decide +kernel) ⟨Nat.le_of_ble_eq_true rfl, Nat.le_of_ble_eq_true rfl⟩) ⟨zPc_bl, va_recv hKc hPc (ci := 7) (q0 := 0) rfl rfl, zPc_at hz hS hA0 hPc hKc hDc⟩ rfl rfl hl.1 rfl (lv_room (Nat.le_of_ble_eq_true rfl)) dX11_feed_25 ⟨Nat.le_of_ble_eq_true rfl, Nat.le_of_ble_eq_true rfl⟩) hS (fun q _ h => hFc q h) hFc (fun u t H1 locs ht hvm hw hB hz1 hk1 hS => ?_)
  obtain ⟨zg6, hB⟩ := hB
  obtain ⟨hP1, hK1, hD1⟩ := hB
  rw [ht] at hP1
  have hK1 := va_K.moved hvm.symm hK1
  obtain ⟨hP, hD⟩ := va_join (wr := [(h0, .inr (11, [.ref t0, .ref b0, .ref c0, .ref r0, .ref d0, .ref e0, .ref o0, .ref s0, .ref p0, .ref w0, .int 0, .int 0, .int 0, .int 0, .int ((-1)), .int 0]))]) (w1 := [(t0, .inr (7, [.ref tb, .int 8, .int 0, .int ((-1))])), (tb, .inl (ctb, 400, .inl zg6))]) hP hD [1, 2] [0] rfl rfl (by decide) (by decide) hk1 hFc hP1 hD1
  have hK := (hK.sub (tys' := []) [] rfl).app hK1
  generalize H1 = H at hP hS ⊢
  have hP : va_P (dC, dI) vwCl [(h0, .inr (11, [.ref t0, .ref b0, .ref c0, .ref r0, .ref d0, .ref e0, .ref o0, .ref s0, .ref p0, .ref w0, .int 0, .int 0, .int 0, .int 0, .int ((-1)), .int 0])), (t0, .inr (7, [.ref tb, .int 8, .int 0, .int ((-1))])), (tb, .inl (ctb, 400, .inl zg6))] H := hP
  have hD : va_D A [(h0, .inr (11, [.ref t0, .ref b0, .ref c0, .ref r0, .ref d0, .ref e0, .ref o0, .ref s0, .ref p0, .ref w0, .int 0, .int 0, .int 0, .int 0, .int ((-1)), .int 0])), (t0, .inr (7, [.ref tb, .int 8, .int 0, .int ((-1))])), (tb, .inl (ctb, 400, .inl zg6))] := hD
  have hK : va_K (dC, dI) vwCl [(ctb, .byte)] s := hK
  refine lv_aload_n hx hb dX11_feed_28 rfl (lv_at hl 0 rfl) ?_
  refine va_get (D := (dC, dI)) (ci := 11) (v := .ref t0) (C := RX11) (T := TX11) (N := 16) hx hb hts hiX11 hown hK hP 0 rfl rfl 0 (by decide) hw1 (fun _ h9 => h9) rfl dX11_feed_29 ?_
  refine lv_iload_n hx hb dX11_feed_32 rfl (lv_at hl 3 rfl) ?_
  have hPc := hP.sub (ws' := [(t0, .inr (7, [.ref tb, .int 8, .int 0, .int ((-1))])), (tb, .inl (ctb, 400, .inl zg6))]) [1, 2] rfl
  have hDc := hD.sub (ws' := [(t0, .inr (7, [.ref tb, .int 8, .int 0, .int ((-1))])), (tb, .inl (ctb, 400, .inl zg6))]) [1, 2] (by decide) rfl
  have hKc := hK.sub (tys' := [(ctb, .byte)]) [0] rfl
  have hFc := va_free (wc := [(t0, .inr (7, [.ref tb, .int 8, .int 0, .int ((-1))])), (tb, .inl (ctb, 400, .inl zg6))]) hD hS hA [1, 2] rfl
  refine va_callv (va_runV (As := [.int x2]) (rest := []) ⟨hx, hb, hml, hown, hts⟩ (c_put_8 l hl0 dC dI A0 ad H.size t0 tb ctb zg6 x2 (fun q h => hA0 q (hFc q h))) (cwV 1 hts gX11_feed_X7_put rfl rfl rfl (by decide +kernel) ⟨Nat.le_of_ble_eq_true rfl, Nat.le_of_ble_eq_true rfl⟩) ⟨zPc_bl, va_recv hKc hPc (ci := 7) (q0 := 0) rfl rfl, zPc_at hz hS hA0 hPc hKc hDc⟩ rfl rfl hl.1 rfl (lv_room (Nat.le_of_ble_eq_true rfl)) dX11_feed_33 ⟨Nat.le_of_ble_eq_true rfl, Nat.le_of_ble_eq_true rfl⟩) hS (fun q _ h => hFc q h) hFc (fun u t H1 locs ht hvm hw hB hz1 hk1 hS => ?_)
  obtain ⟨zg8, hB⟩ := hB
  obtain ⟨hP1, hK1, hD1⟩ := hB
  rw [ht] at hP1
  have hK1 := va_K.moved hvm.symm hK1
  obtain ⟨hP, hD⟩ := va_join (wr := [(h0, .inr (11, [.ref t0, .ref b0, .ref c0, .ref r0, .ref d0, .ref e0, .ref o0, .ref s0, .ref p0, .ref w0, .int 0, .int 0, .int 0, .int 0, .int ((-1)), .int 0]))]) (w1 := [(t0, .inr (7, [.ref tb, .int 12, .int 0, .int ((-1))])), (tb, .inl (ctb, 400, .inl zg8))]) hP hD [1, 2] [0] rfl rfl (by decide) (by decide) hk1 hFc hP1 hD1
  have hK := (hK.sub (tys' := []) [] rfl).app hK1
  generalize H1 = H at hP hS ⊢
  have hP : va_P (dC, dI) vwCl [(h0, .inr (11, [.ref t0, .ref b0, .ref c0, .ref r0, .ref d0, .ref e0, .ref o0, .ref s0, .ref p0, .ref w0, .int 0, .int 0, .int 0, .int 0, .int ((-1)), .int 0])), (t0, .inr (7, [.ref tb, .int 12, .int 0, .int ((-1))])), (tb, .inl (ctb, 400, .inl zg8))] H := hP
  have hD : va_D A [(h0, .inr (11, [.ref t0, .ref b0, .ref c0, .ref r0, .ref d0, .ref e0, .ref o0, .ref s0, .ref p0, .ref w0, .int 0, .int 0, .int 0, .int 0, .int ((-1)), .int 0])), (t0, .inr (7, [.ref tb, .int 12, .int 0, .int ((-1))])), (tb, .inl (ctb, 400, .inl zg8))] := hD
  have hK : va_K (dC, dI) vwCl [(ctb, .byte)] s := hK
  refine lv_aload_n hx hb dX11_feed_36 rfl (lv_at hl 0 rfl) ?_
  refine va_get (D := (dC, dI)) (ci := 11) (v := .ref t0) (C := RX11) (T := TX11) (N := 16) hx hb hts hiX11 hown hK hP 0 rfl rfl 0 (by decide) hw1 (fun _ h9 => h9) rfl dX11_feed_37 ?_
  refine lv_iload hx hb dX11_feed_40 (lv_at hl 4 rfl) ?_
  have hPc := hP.sub (ws' := [(t0, .inr (7, [.ref tb, .int 12, .int 0, .int ((-1))])), (tb, .inl (ctb, 400, .inl zg8))]) [1, 2] rfl
  have hDc := hD.sub (ws' := [(t0, .inr (7, [.ref tb, .int 12, .int 0, .int ((-1))])), (tb, .inl (ctb, 400, .inl zg8))]) [1, 2] (by decide) rfl
  have hKc := hK.sub (tys' := [(ctb, .byte)]) [0] rfl
  have hFc := va_free (wc := [(t0, .inr (7, [.ref tb, .int 12, .int 0, .int ((-1))])), (tb, .inl (ctb, 400, .inl zg8))]) hD hS hA [1, 2] rfl
  refine va_callv (va_runV (As := [.int x3]) (rest := []) ⟨hx, hb, hml, hown, hts⟩ (c_put_12 l hl0 dC dI A0 ad H.size t0 tb ctb zg8 x3 (fun q h => hA0 q (hFc q h))) (cwV 1 hts gX11_feed_X7_put rfl rfl rfl (by decide +kernel) ⟨Nat.le_of_ble_eq_true rfl, Nat.le_of_ble_eq_true rfl⟩) ⟨zPc_bl, va_recv hKc hPc (ci := 7) (q0 := 0) rfl rfl, zPc_at hz hS hA0 hPc hKc hDc⟩ rfl rfl hl.1 rfl (lv_room (Nat.le_of_ble_eq_true rfl)) dX11_feed_42 ⟨Nat.le_of_ble_eq_true rfl, Nat.le_of_ble_eq_true rfl⟩) hS (fun q _ h => hFc q h) hFc (fun u t H1 locs ht hvm hw hB hz1 hk1 hS => ?_)
  obtain ⟨zg10, hB⟩ := hB
  obtain ⟨hP1, hK1, hD1⟩ := hB
  rw [ht] at hP1
  have hK1 := va_K.moved hvm.symm hK1
  obtain ⟨hP, hD⟩ := va_join (wr := [(h0, .inr (11, [.ref t0, .ref b0, .ref c0, .ref r0, .ref d0, .ref e0, .ref o0, .ref s0, .ref p0, .ref w0, .int 0, .int 0, .int 0, .int 0, .int ((-1)), .int 0]))]) (w1 := [(t0, .inr (7, [.ref tb, .int 16, .int 0, .int ((-1))])), (tb, .inl (ctb, 400, .inl zg10))]) hP hD [1, 2] [0] rfl rfl (by decide) (by decide) hk1 hFc hP1 hD1
  have hK := (hK.sub (tys' := []) [] rfl).app hK1
  generalize H1 = H at hP hS ⊢
  have hP : va_P (dC, dI) vwCl [(h0, .inr (11, [.ref t0, .ref b0, .ref c0, .ref r0, .ref d0, .ref e0, .ref o0, .ref s0, .ref p0, .ref w0, .int 0, .int 0, .int 0, .int 0, .int ((-1)), .int 0])), (t0, .inr (7, [.ref tb, .int 16, .int 0, .int ((-1))])), (tb, .inl (ctb, 400, .inl zg10))] H := hP
  have hD : va_D A [(h0, .inr (11, [.ref t0, .ref b0, .ref c0, .ref r0, .ref d0, .ref e0, .ref o0, .ref s0, .ref p0, .ref w0, .int 0, .int 0, .int 0, .int 0, .int ((-1)), .int 0])), (t0, .inr (7, [.ref tb, .int 16, .int 0, .int ((-1))])), (tb, .inl (ctb, 400, .inl zg10))] := hD
  have hK : va_K (dC, dI) vwCl [(ctb, .byte)] s := hK
  refine lv_aload_n hx hb dX11_feed_45 rfl (lv_at hl 0 rfl) ?_
  refine va_get (D := (dC, dI)) (ci := 11) (v := .ref t0) (C := RX11) (T := TX11) (N := 16) hx hb hts hiX11 hown hK hP 0 rfl rfl 0 (by decide) hw1 (fun _ h9 => h9) rfl dX11_feed_46 ?_
  refine lv_iload hx hb dX11_feed_49 (lv_at hl 5 rfl) ?_
  have hPc := hP.sub (ws' := [(t0, .inr (7, [.ref tb, .int 16, .int 0, .int ((-1))])), (tb, .inl (ctb, 400, .inl zg10))]) [1, 2] rfl
  have hDc := hD.sub (ws' := [(t0, .inr (7, [.ref tb, .int 16, .int 0, .int ((-1))])), (tb, .inl (ctb, 400, .inl zg10))]) [1, 2] (by decide) rfl
  have hKc := hK.sub (tys' := [(ctb, .byte)]) [0] rfl
  have hFc := va_free (wc := [(t0, .inr (7, [.ref tb, .int 16, .int 0, .int ((-1))])), (tb, .inl (ctb, 400, .inl zg10))]) hD hS hA [1, 2] rfl
  refine va_callv (va_runV (As := [.int x4]) (rest := []) ⟨hx, hb, hml, hown, hts⟩ (c_put_16 l hl0 dC dI A0 ad H.size t0 tb ctb zg10 x4 (fun q h => hA0 q (hFc q h))) (cwV 1 hts gX11_feed_X7_put rfl rfl rfl (by decide +kernel) ⟨Nat.le_of_ble_eq_true rfl, Nat.le_of_ble_eq_true rfl⟩) ⟨zPc_bl, va_recv hKc hPc (ci := 7) (q0 := 0) rfl rfl, zPc_at hz hS hA0 hPc hKc hDc⟩ rfl rfl hl.1 rfl (lv_room (Nat.le_of_ble_eq_true rfl)) dX11_feed_51 ⟨Nat.le_of_ble_eq_true rfl, Nat.le_of_ble_eq_true rfl⟩) hS (fun q _ h => hFc q h) hFc (fun u t H1 locs ht hvm hw hB hz1 hk1 hS => ?_)
  obtain ⟨zg12, hB⟩ := hB
  obtain ⟨hP1, hK1, hD1⟩ := hB
  rw [ht] at hP1
  have hK1 := va_K.moved hvm.symm hK1
  obtain ⟨hP, hD⟩ := va_join (wr := [(h0, .inr (11, [.ref t0, .ref b0, .ref c0, .ref r0, .ref d0, .ref e0, .ref o0, .ref s0, .ref p0, .ref w0, .int 0, .int 0, .int 0, .int 0, .int ((-1)), .int 0]))]) (w1 := [(t0, .inr (7, [.ref tb, .int 20, .int 0, .int ((-1))])), (tb, .inl (ctb, 400, .inl zg12))]) hP hD [1, 2] [0] rfl rfl (by decide) (by decide) hk1 hFc hP1 hD1
  have hK := (hK.sub (tys' := []) [] rfl).app hK1
  generalize H1 = H at hP hS ⊢
  have hP : va_P (dC, dI) vwCl [(h0, .inr (11, [.ref t0, .ref b0, .ref c0, .ref r0, .ref d0, .ref e0, .ref o0, .ref s0, .ref p0, .ref w0, .int 0, .int 0, .int 0, .int 0, .int ((-1)), .int 0])), (t0, .inr (7, [.ref tb, .int 20, .int 0, .int ((-1))])), (tb, .inl (ctb, 400, .inl zg12))] H := hP
  have hD : va_D A [(h0, .inr (11, [.ref t0, .ref b0, .ref c0, .ref r0, .ref d0, .ref e0, .ref o0, .ref s0, .ref p0, .ref w0, .int 0, .int 0, .int 0, .int 0, .int ((-1)), .int 0])), (t0, .inr (7, [.ref tb, .int 20, .int 0, .int ((-1))])), (tb, .inl (ctb, 400, .inl zg12))] := hD
  have hK : va_K (dC, dI) vwCl [(ctb, .byte)] s := hK
  refine lv_aload_n hx hb dX11_feed_54 rfl (lv_at hl 0 rfl) ?_
  refine va_get (D := (dC, dI)) (ci := 11) (v := .ref t0) (C := RX11) (T := TX11) (N := 16) hx hb hts hiX11 hown hK hP 0 rfl rfl 0 (by decide) hw1 (fun _ h9 => h9) rfl dX11_feed_55 ?_
  refine va_get (D := (dC, dI)) (ci := 7) (v := .int 20) (C := RX7) (T := TX7) (N := 4) hx hb hts hiX7 hown hK hP 1 rfl rfl 1 (by decide) hw3 (fun _ h9 => h9) rfl dX11_feed_58 ?_
  have hP9 := hP.sub (ws' := [(h0, .inr (11, [.ref t0, .ref b0, .ref c0, .ref r0, .ref d0, .ref e0, .ref o0, .ref s0, .ref p0, .ref w0, .int 0, .int 0, .int 0, .int 0, .int ((-1)), .int 0])), (t0, .inr (7, [.ref tb, .int 20, .int 0, .int ((-1))])), (tb, .inl (ctb, 400, .inl zg12))]) [0, 1, 2] rfl
  have hD9 := hD.sub (ws' := [(h0, .inr (11, [.ref t0, .ref b0, .ref c0, .ref r0, .ref d0, .ref e0, .ref o0, .ref s0, .ref p0, .ref w0, .int 0, .int 0, .int 0, .int 0, .int ((-1)), .int 0])), (t0, .inr (7, [.ref tb, .int 20, .int 0, .int ((-1))])), (tb, .inl (ctb, 400, .inl zg12))]) [0, 1, 2] (by decide) rfl
  have hK9 := hK.sub (tys' := [(ctb, .byte)]) [0] rfl
  refine W.widen (k := 0) (n := 0) (by decide) (by decide) ?_
  exact W.iret (v := 20) hx hb hr (fun t ht hW => ⟨⟨20, (), rfl, rfl, ⟨zg12, ⟨by rw [ht]; exact hP9, va_K.moved hW.alike hK9, hD9⟩⟩⟩, hS.F ht⟩) hS.2.2 dX11_feed_61
set_option maxHeartbeats 4000000 in
set_option maxRecDepth 100000 in
/-- end on an empty tape -/
theorem c_end (l : Launch) (hl0 : l.stackTraces = false) (dC : Nat → ClassId) (dI : Nat → Nat → Nat) (A0 : Nat → Prop) (ad : Nat → Nat) (sz : Nat) (h0 t0 b0 c0 r0 d0 e0 o0 s0 p0 w0 : Nat) (tb : Nat) (x : Int32) (hA0 : ∀ q, va_A [(h0, .inr (11, [.ref t0, .ref b0, .ref c0, .ref r0, .ref d0, .ref e0, .ref o0, .ref s0, .ref p0, .ref w0, .int 0, .int 0, .int 0, .int 0, .int ((-1)), .int 0])), (t0, .inr (7, [.ref tb, .int 0, .int 0, .int ((-1))]))] sz q → A0 q) : Met l yX11_end wsX11_end ({ frames := 0, cells := 0, slots := 0, locals := 0 }) (va_Pc [.ref h0, .int x] (zPc A0 ad (dC, dI) [(h0, .inr (11, [.ref t0, .ref b0, .ref c0, .ref r0, .ref d0, .ref e0, .ref o0, .ref s0, .ref p0, .ref w0, .int 0, .int 0, .int 0, .int 0, .int ((-1)), .int 0])), (t0, .inr (7, [.ref tb, .int 0, .int 0, .int ((-1))]))] [] sz)) (va_Qi (fun (r : Int32) (_ : Unit) => r = zEnd x) (fun (_ : Unit) (t : State) => ∃ (z : Int32), zB (dC, dI) (va_A [(h0, .inr (11, [.ref t0, .ref b0, .ref c0, .ref r0, .ref d0, .ref e0, .ref o0, .ref s0, .ref p0, .ref w0, .int 0, .int 0, .int 0, .int 0, .int ((-1)), .int 0])), (t0, .inr (7, [.ref tb, .int 0, .int 0, .int ((-1))]))] sz) [(h0, .inr (11, [.ref t0, .ref b0, .ref c0, .ref r0, .ref d0, .ref e0, .ref o0, .ref s0, .ref p0, .ref w0, .int 0, .int 0, .int 0, .int 0, .int ((-1)), .int 0])), (t0, .inr (7, [.ref tb, .int z, .int 0, .int ((-1))]))] [] t) (va_A [(h0, .inr (11, [.ref t0, .ref b0, .ref c0, .ref r0, .ref d0, .ref e0, .ref o0, .ref s0, .ref p0, .ref w0, .int 0, .int 0, .int 0, .int 0, .int ((-1)), .int 0])), (t0, .inr (7, [.ref tb, .int 0, .int 0, .int ((-1))]))] sz)) 0 0 (va_A [(h0, .inr (11, [.ref t0, .ref b0, .ref c0, .ref r0, .ref d0, .ref e0, .ref o0, .ref s0, .ref p0, .ref w0, .int 0, .int 0, .int 0, .int 0, .int ((-1)), .int 0])), (t0, .inr (7, [.ref tb, .int 0, .int 0, .int ((-1))]))] sz) := by
  refine Met.ofW (cc := cX11_end) (maxL := 2) (ret := (some .boolean)) (by decide) rfl ?_
  intro p e s m args below meth c s₁ B hml hv
  obtain ⟨rfl, hsz, hz, hP, hK, hD0⟩ := hv
  have hx := B.exec
  have hb := B.bytes
  have hr := B.returns
  have hts := atoms_spec (ws := wsX11_end) B.pre
  have hown : s.vm.findClass RX11 = some m.cls := findClass_of_methodNamed B.named
  have hlocks := B.notSynchronized
  subst hsz
  have hD := hD0.self (sz := s.heap.size)
  generalize hAe : va_A [(h0, .inr (11, [.ref t0, .ref b0, .ref c0, .ref r0, .ref d0, .ref e0, .ref o0, .ref s0, .ref p0, .ref w0, .int 0, .int 0, .int 0, .int 0, .int ((-1)), .int 0])), (t0, .inr (7, [.ref tb, .int 0, .int 0, .int ((-1))]))] s.heap.size = A at hD hA0 ⊢
  have hA : ∀ q : Nat, s.heap.size ≤ q → A q := fun q h => by rw [← hAe]; exact Or.inr h
  have hS : va_S A s.heap s.heap [] := va_S.rf
  have hl := lv_entry ([.ref h0, .int x]) (n := 2) (Nat.le_of_ble_eq_true rfl)
  rw [lg_entry_eq]
  generalize (lg_sl ([.ref h0, .int x]) ++ List.replicate (2 - (lg_sl ([.ref h0, .int x])).length) Slot.unset).toArray = ls at hl ⊢
  have hl : lv_has ls 2 [(0, .ref h0), (1, .int x)] := hl
  have hP : va_P (dC, dI) vwCl [(h0, .inr (11, [.ref t0, .ref b0, .ref c0, .ref r0, .ref d0, .ref e0, .ref o0, .ref s0, .ref p0, .ref w0, .int 0, .int 0, .int 0, .int 0, .int ((-1)), .int 0])), (t0, .inr (7, [.ref tb, .int 0, .int 0, .int ((-1))]))] s.heap := hP
  have hiX11 : ∀ w ∈ u_ws RX11 TX11 16, w ∈ wsX11_end := fun _ h => List.mem_cons_of_mem _ (List.mem_append_left _ (List.mem_append_right _ h))
  have hw1 := hts (.fieldLink RX11 10 "PostHouse" "tape" "LPostHouse$Tape;") (by decide +kernel)
  have hiX7 : ∀ w ∈ u_ws RX7 TX7 4, w ∈ wsX11_end := fun _ h => List.mem_cons_of_mem _ (List.mem_append_right _ h)
  have hw3 := hts (.fieldLink RX11 84 "PostHouse$Tape" "length" "I") (by decide +kernel)
  refine lv_iload_n hx hb dX11_end_0 rfl (lv_at hl 1 rfl) ?_
  refine lv_if_lt (tgt := 15) hx hb dX11_end_1 (by decide) (fun c1 => ?_) (fun c1 => ?_)
  · refine lv_iconst (v := 0) hx hb dX11_end_15 (by decide) ?_
    have hP9 := hP.sub (ws' := [(h0, .inr (11, [.ref t0, .ref b0, .ref c0, .ref r0, .ref d0, .ref e0, .ref o0, .ref s0, .ref p0, .ref w0, .int 0, .int 0, .int 0, .int 0, .int ((-1)), .int 0])), (t0, .inr (7, [.ref tb, .int 0, .int 0, .int ((-1))]))]) [0, 1] rfl
    have hD9 := hD.sub (ws' := [(h0, .inr (11, [.ref t0, .ref b0, .ref c0, .ref r0, .ref d0, .ref e0, .ref o0, .ref s0, .ref p0, .ref w0, .int 0, .int 0, .int 0, .int 0, .int ((-1)), .int 0])), (t0, .inr (7, [.ref tb, .int 0, .int 0, .int ((-1))]))]) [0, 1] (by decide) rfl
    have hK9 := hK.sub (tys' := []) [] rfl
    refine W.widen (k := 0) (n := 0) (by decide) (by decide) ?_
    exact W.zret (v := 0) hx hb hr (by decide) (fun t ht hW => ⟨⟨0, (), rfl, by simp [zEnd, c1], ⟨0, ⟨by rw [ht]; exact hP9, va_K.moved hW.alike hK9, hD9⟩⟩⟩, hS.F ht⟩) hS.2.2 dX11_end_16
  · refine lv_iload_n hx hb dX11_end_4 rfl (lv_at hl 1 rfl) ?_
    refine lv_aload_n hx hb dX11_end_5 rfl (lv_at hl 0 rfl) ?_
    refine va_get (D := (dC, dI)) (ci := 11) (v := .ref t0) (C := RX11) (T := TX11) (N := 16) hx hb hts hiX11 hown hK hP 0 rfl rfl 0 (by decide) hw1 (fun _ h9 => h9) rfl dX11_end_6 ?_
    refine va_get (D := (dC, dI)) (ci := 7) (v := .int 0) (C := RX7) (T := TX7) (N := 4) hx hb hts hiX7 hown hK hP 1 rfl rfl 1 (by decide) hw3 (fun _ h9 => h9) rfl dX11_end_9 ?_
    refine lv_icmp_le (tgt := 17) hx hb dX11_end_12 (by decide) (fun c2 => ?_) (fun c2 => ?_)
    · refine lv_aload_n hx hb dX11_end_17 rfl (lv_at hl 0 rfl) ?_
      refine va_get (D := (dC, dI)) (ci := 11) (v := .ref t0) (C := RX11) (T := TX11) (N := 16) hx hb hts hiX11 hown hK hP 0 rfl rfl 0 (by decide) hw1 (fun _ h9 => h9) rfl dX11_end_18 ?_
      refine lv_iload_n hx hb dX11_end_21 rfl (lv_at hl 1 rfl) ?_
      refine va_put (D := (dC, dI)) (ci := 7) (v := .int x) (ty := .int) (C := RX7) (T := TX7) (N := 4) hx hb hts hiX7 tyX7 tyX7_ok nmX7 hown hK hP hD hS 1 rfl rfl 1 (by decide) hw3 (fun _ h9 => h9) rfl (by decide +kernel) rfl rfl (Nat.le_of_ble_eq_true rfl) dX11_end_22 (fun H locs hP hD hS => ?_)
      have hP : va_P (dC, dI) vwCl [(h0, .inr (11, [.ref t0, .ref b0, .ref c0, .ref r0, .ref d0, .ref e0, .ref o0, .ref s0, .ref p0, .ref w0, .int 0, .int 0, .int 0, .int 0, .int ((-1)), .int 0])), (t0, .inr (7, [.ref tb, .int x, .int 0, .int ((-1))]))] H := hP
      have hD : va_D A [(h0, .inr (11, [.ref t0, .ref b0, .ref c0, .ref r0, .ref d0, .ref e0, .ref o0, .ref s0, .ref p0, .ref w0, .int 0, .int 0, .int 0, .int 0, .int ((-1)), .int 0])), (t0, .inr (7, [.ref tb, .int x, .int 0, .int ((-1))]))] := hD
      refine lv_iconst (v := 1) hx hb dX11_end_25 (by decide) ?_
      have hP9 := hP.sub (ws' := [(h0, .inr (11, [.ref t0, .ref b0, .ref c0, .ref r0, .ref d0, .ref e0, .ref o0, .ref s0, .ref p0, .ref w0, .int 0, .int 0, .int 0, .int 0, .int ((-1)), .int 0])), (t0, .inr (7, [.ref tb, .int x, .int 0, .int ((-1))]))]) [0, 1] rfl
      have hD9 := hD.sub (ws' := [(h0, .inr (11, [.ref t0, .ref b0, .ref c0, .ref r0, .ref d0, .ref e0, .ref o0, .ref s0, .ref p0, .ref w0, .int 0, .int 0, .int 0, .int 0, .int ((-1)), .int 0])), (t0, .inr (7, [.ref tb, .int x, .int 0, .int ((-1))]))]) [0, 1] (by decide) rfl
      have hK9 := hK.sub (tys' := []) [] rfl
      refine W.widen (k := 0) (n := 0) (by decide) (by decide) ?_
      exact W.zret (v := 1) hx hb hr (by decide) (fun t ht hW => ⟨⟨1, (), rfl, by simp [zEnd, c1, c2], ⟨x, ⟨by rw [ht]; exact hP9, va_K.moved hW.alike hK9, hD9⟩⟩⟩, hS.F ht⟩) hS.2.2 dX11_end_26
    · refine lv_iconst (v := 0) hx hb dX11_end_15 (by decide) ?_
      have hP9 := hP.sub (ws' := [(h0, .inr (11, [.ref t0, .ref b0, .ref c0, .ref r0, .ref d0, .ref e0, .ref o0, .ref s0, .ref p0, .ref w0, .int 0, .int 0, .int 0, .int 0, .int ((-1)), .int 0])), (t0, .inr (7, [.ref tb, .int 0, .int 0, .int ((-1))]))]) [0, 1] rfl
      have hD9 := hD.sub (ws' := [(h0, .inr (11, [.ref t0, .ref b0, .ref c0, .ref r0, .ref d0, .ref e0, .ref o0, .ref s0, .ref p0, .ref w0, .int 0, .int 0, .int 0, .int 0, .int ((-1)), .int 0])), (t0, .inr (7, [.ref tb, .int 0, .int 0, .int ((-1))]))]) [0, 1] (by decide) rfl
      have hK9 := hK.sub (tys' := []) [] rfl
      refine W.widen (k := 0) (n := 0) (by decide) (by decide) ?_
      exact W.zret (v := 0) hx hb hr (by decide) (fun t ht hW => ⟨⟨0, (), rfl, by simp [zEnd, c1, c2], ⟨0, ⟨by rw [ht]; exact hP9, va_K.moved hW.alike hK9, hD9⟩⟩⟩, hS.F ht⟩) hS.2.2 dX11_end_16
set_option maxHeartbeats 4000000 in
set_option maxRecDepth 100000 in
/-- ofCode on an empty book: null -/
theorem c_ofCode (l : Launch) (hl0 : l.stackTraces = false) (dC : Nat → ClassId) (dI : Nat → Nat → Nat) (A0 : Nat → Prop) (ad : Nat → Nat) (sz : Nat) (h1 bt : Nat) (n : Int32) (hA0 : ∀ q, va_A [(h1, .inr (0, [.ref bt, .int 0]))] sz q → A0 q) : Met l yX0_ofCode wsX0_ofCode ({ frames := 0, cells := 0, slots := 0, locals := 0 }) (va_Pc [.ref h1, .int n] (zPc A0 ad (dC, dI) [(h1, .inr (0, [.ref bt, .int 0]))] [] sz)) (va_Qq (fun (r : Option Nat) (_ : Unit) => r = none) (fun (_ : Unit) (t : State) => zB (dC, dI) (va_A [(h1, .inr (0, [.ref bt, .int 0]))] sz) [(h1, .inr (0, [.ref bt, .int 0]))] [] t) (va_A [(h1, .inr (0, [.ref bt, .int 0]))] sz)) 0 0 (va_A [(h1, .inr (0, [.ref bt, .int 0]))] sz) := by
  refine Met.ofW (cc := cX0_ofCode) (maxL := 3) (ret := (some (.object "PostHouse$Thing"))) (by decide) rfl ?_
  intro p e s m args below meth c s₁ B hml hv
  obtain ⟨rfl, hsz, hz, hP, hK, hD0⟩ := hv
  have hx := B.exec
  have hb := B.bytes
  have hr := B.returns
  have hts := atoms_spec (ws := wsX0_ofCode) B.pre
  have hown : s.vm.findClass RX0 = some m.cls := findClass_of_methodNamed B.named
  have hlocks := B.notSynchronized
  subst hsz
  have hD := hD0.self (sz := s.heap.size)
  generalize hAe : va_A [(h1, .inr (0, [.ref bt, .int 0]))] s.heap.size = A at hD hA0 ⊢
  have hA : ∀ q : Nat, s.heap.size ≤ q → A q := fun q h => by rw [← hAe]; exact Or.inr h
  have hS : va_S A s.heap s.heap [] := va_S.rf
  have hl := lv_entry ([.ref h1, .int n]) (n := 3) (Nat.le_of_ble_eq_true rfl)
  rw [lg_entry_eq]
  generalize (lg_sl ([.ref h1, .int n]) ++ List.replicate (3 - (lg_sl ([.ref h1, .int n])).length) Slot.unset).toArray = ls at hl ⊢
  have hl : lv_has ls 3 [(0, .ref h1), (1, .int n)] := hl
  have hP : va_P (dC, dI) vwCl [(h1, .inr (0, [.ref bt, .int 0]))] s.heap := hP
  have hiX0 : ∀ w ∈ u_ws RX0 TX0 2, w ∈ wsX0_ofCode := fun _ h => List.mem_cons_of_mem _ (List.mem_append_left _ (List.mem_append_right _ h))
  have hw1 := hts (.fieldLink RX0 17 "PostHouse$Book" "size" "I") (by decide +kernel)
  refine lv_iconst (v := 0) hx hb dX0_ofCode_0 (by decide) ?_
  refine lv_istore_n (lv' := [(2, .int 0), (0, .ref h1), (1, .int n)]) hx hb dX0_ofCode_1 rfl hl (by decide) rfl (fun ls hl => ?_)
  refine lv_iload_n hx hb dX0_ofCode_2 rfl (lv_at hl 0 rfl) ?_
  refine lv_aload_n hx hb dX0_ofCode_3 rfl (lv_at hl 1 rfl) ?_
  refine va_get (D := (dC, dI)) (ci := 0) (v := .int 0) (C := RX0) (T := TX0) (N := 2) hx hb hts hiX0 hown hK hP 0 rfl rfl 1 (by decide) hw1 (fun _ h9 => h9) rfl dX0_ofCode_4 ?_
  refine lv_icmp_ge (tgt := 36) hx hb dX0_ofCode_7 (by decide) (fun c1 => ?_) (fun c1 => absurd (by decide) c1)
  refine lv_null hx hb dX0_ofCode_36 ?_
  have hP9 := hP.sub (ws' := [(h1, .inr (0, [.ref bt, .int 0]))]) [0] rfl
  have hD9 := hD.sub (ws' := [(h1, .inr (0, [.ref bt, .int 0]))]) [0] (by decide) rfl
  have hK9 := hK.sub (tys' := []) [] rfl
  refine W.widen (k := 0) (n := 0) (by decide) (by decide) ?_
  exact W.aret (v := .null) hx hb hr (Or.inl ⟨_, rfl⟩) (Or.inl rfl) (fun t ht hW => ⟨⟨none, (), rfl, rfl, ⟨by rw [ht]; exact hP9, va_K.moved hW.alike hK9, hD9⟩⟩, hS.F ht⟩) hS.2.2 dX0_ofCode_37
set_option maxHeartbeats 4000000 in
set_option maxRecDepth 100000 in
/-- add to an empty book -/
theorem c_add (l : Launch) (hl0 : l.stackTraces = false) (dC : Nat → ClassId) (dI : Nat → Nat → Nat) (A0 : Nat → Prop) (ad : Nat → Nat) (sz : Nat) (b0 bt : Nat) (cbt : ClassId) (x0 x1 x2 x3 : Int32) (hA0 : ∀ q, va_A [(b0, .inr (0, [.ref bt, .int 0])), (bt, .inl (cbt, 30, .inr (.inr (.inr (.inr (fun _ => none))))))] sz q → A0 q) : Met l yX0_add wsX0_add ({ frames := 2, cells := 4, slots := 22, locals := 37 }) (va_Pc [.ref b0, .int x0, .int x1, .int x2, .int x3] (zPc A0 ad (dC, dI) [(b0, .inr (0, [.ref bt, .int 0])), (bt, .inl (cbt, 30, .inr (.inr (.inr (.inr (fun _ => none))))))] [(cbt, .object "PostHouse$Thing")] sz)) (va_Qi (fun (r : Int32) (_ : Unit) => r = 0) (fun (_ : Unit) (t : State) => ∃ (g : Nat → Option Nat), zB (dC, dI) (va_A [(b0, .inr (0, [.ref bt, .int 0])), (bt, .inl (cbt, 30, .inr (.inr (.inr (.inr (fun _ => none))))))] sz) [(b0, .inr (0, [.ref bt, .int 1])), (bt, .inl (cbt, 30, .inr (.inr (.inr (.inr g)))))] [(cbt, .object "PostHouse$Thing")] t) (va_A [(b0, .inr (0, [.ref bt, .int 0])), (bt, .inl (cbt, 30, .inr (.inr (.inr (.inr (fun _ => none))))))] sz)) 4 22 (va_A [(b0, .inr (0, [.ref bt, .int 0])), (bt, .inl (cbt, 30, .inr (.inr (.inr (.inr (fun _ => none))))))] sz) := by
  refine Met.ofW (cc := cX0_add) (maxL := 5) (ret := (some .int)) (by decide) rfl ?_
  intro p e s m args below meth c s₁ B hml hv
  obtain ⟨rfl, hsz, hz, hP, hK, hD0⟩ := hv
  have hx := B.exec
  have hb := B.bytes
  have hr := B.returns
  have hts := atoms_spec (ws := wsX0_add) B.pre
  have hown : s.vm.findClass RX0 = some m.cls := findClass_of_methodNamed B.named
  have hlocks := B.notSynchronized
  subst hsz
  have hD := hD0.self (sz := s.heap.size)
  generalize hAe : va_A [(b0, .inr (0, [.ref bt, .int 0])), (bt, .inl (cbt, 30, .inr (.inr (.inr (.inr (fun _ => none))))))] s.heap.size = A at hD hA0 ⊢
  have hA : ∀ q : Nat, s.heap.size ≤ q → A q := fun q h => by rw [← hAe]; exact Or.inr h
  have hS : va_S A s.heap s.heap [] := va_S.rf
  have hl := lv_entry ([.ref b0, .int x0, .int x1, .int x2, .int x3]) (n := 5) (Nat.le_of_ble_eq_true rfl)
  rw [lg_entry_eq]
  generalize (lg_sl ([.ref b0, .int x0, .int x1, .int x2, .int x3]) ++ List.replicate (5 - (lg_sl ([.ref b0, .int x0, .int x1, .int x2, .int x3])).length) Slot.unset).toArray = ls at hl ⊢
  have hl : lv_has ls 5 [(0, .ref b0), (1, .int x0), (2, .int x1), (3, .int x2), (4, .int x3)] := hl
  have hP : va_P (dC, dI) vwCl [(b0, .inr (0, [.ref bt, .int 0])), (bt, .inl (cbt, 30, .inr (.inr (.inr (.inr (fun _ => none))))))] s.heap := hP
  have hiX0 : ∀ w ∈ u_ws RX0 TX0 2, w ∈ wsX0_add := fun _ h => List.mem_cons_of_mem _ (List.mem_append_left _ (List.mem_append_right _ h))
  have hw1 := hts (.fieldLink RX0 17 "PostHouse$Book" "size" "I") (by decide +kernel)
  have hw2 := hts (.fieldLink RX0 11 "PostHouse$Book" "things" "[LPostHouse$Thing;") (by decide +kernel)
  have hiX8 : ∀ w ∈ u_ws RX8 TX8 10, w ∈ wsX0_add := fun _ h => List.mem_cons_of_mem _ (List.mem_append_right _ h)
  have hw4 := hts (.classLink RX0 9 RX8) (by decide +kernel)
  have hw5 := hts (.instantiable RX8 10) (by decide +kernel)
  have hw6 := hts (.initialized RX8) (by decide +kernel)
  have hw7 := hts (.methodLink RX0 21 yX8_init) (by decide +kernel)
  have hw8 := hts (.instanceMethod yX8_init) (by decide +kernel)
  refine lv_aload_n hx hb dX0_add_0 rfl (lv_at hl 0 rfl) ?_
  refine va_get (D := (dC, dI)) (ci := 0) (v := .int 0) (C := RX0) (T := TX0) (N := 2) hx hb hts hiX0 hown hK hP 0 rfl rfl 1 (by decide) hw1 (fun _ h9 => h9) rfl dX0_add_1 ?_
  refine lv_bipush (v := 30) hx hb dX0_add_4 (by decide) ?_
  refine lv_icmp_lt (tgt := 11) hx hb dX0_add_6 (by decide) (fun c1 => ?_) (fun c1 => absurd (by decide) c1)
  refine lv_aload_n hx hb dX0_add_11 rfl (lv_at hl 0 rfl) ?_
  refine va_get (D := (dC, dI)) (ci := 0) (v := .ref bt) (C := RX0) (T := TX0) (N := 2) hx hb hts hiX0 hown hK hP 0 rfl rfl 0 (by decide) hw2 (fun _ h9 => h9) rfl dX0_add_12 ?_
  refine lv_aload_n hx hb dX0_add_15 rfl (lv_at hl 0 rfl) ?_
  refine va_get (D := (dC, dI)) (ci := 0) (v := .int 0) (C := RX0) (T := TX0) (N := 2) hx hb hts hiX0 hown hK hP 0 rfl rfl 1 (by decide) hw1 (fun _ h9 => h9) rfl dX0_add_16 ?_
  refine va_new (ci := 8) (fs := [.int 0, .int 0, .int 0, .int 0, .int 0, .int 0, .int 0, .null, .null, .null]) (C := RX8) (T := TX8) (N := 10) hx hb hts hiX8 tyX8 tyX8_ok hown hw4 hw5 hw6 hK hP hD hS hA rfl (by decide) (Nat.le_of_ble_eq_true rfl) (Nat.le_of_ble_eq_true rfl) dX0_add_19 (fun q2 H hP hD hS => ?_)
  have hP : va_P (dC, dI) vwCl [(b0, .inr (0, [.ref bt, .int 0])), (bt, .inl (cbt, 30, .inr (.inr (.inr (.inr (fun _ => none)))))), (q2, .inr (8, [.int 0, .int 0, .int 0, .int 0, .int 0, .int 0, .int 0, .null, .null, .null]))] H := hP
  have hD : va_D A [(b0, .inr (0, [.ref bt, .int 0])), (bt, .inl (cbt, 30, .inr (.inr (.inr (.inr (fun _ => none)))))), (q2, .inr (8, [.int 0, .int 0, .int 0, .int 0, .int 0, .int 0, .int 0, .null, .null, .null]))] := hD
  refine W.widen (k := 1) (n := 10) (by decide) (by decide) ?_
  refine lv_dup hx hb dX0_add_22 rfl ?_
  refine lv_aload_n hx hb dX0_add_23 rfl (lv_at hl 0 rfl) ?_
  refine va_get (D := (dC, dI)) (ci := 0) (v := .int 0) (C := RX0) (T := TX0) (N := 2) hx hb hts hiX0 hown hK hP 0 rfl rfl 1 (by decide) hw1 (fun _ h9 => h9) rfl dX0_add_24 ?_
  refine lv_iload_n hx hb dX0_add_27 rfl (lv_at hl 1 rfl) ?_
  refine lv_iload_n hx hb dX0_add_28 rfl (lv_at hl 2 rfl) ?_
  refine lv_iload_n hx hb dX0_add_29 rfl (lv_at hl 3 rfl) ?_
  refine lv_iload hx hb dX0_add_30 (lv_at hl 4 rfl) ?_
  have hPc := hP.sub (ws' := [(q2, .inr (8, [.int 0, .int 0, .int 0, .int 0, .int 0, .int 0, .int 0, .null, .null, .null]))]) [2] rfl
  have hDc := hD.sub (ws' := [(q2, .inr (8, [.int 0, .int 0, .int 0, .int 0, .int 0, .int 0, .int 0, .null, .null, .null]))]) [2] (by decide) rfl
  have hKc := hK.sub (tys' := []) [] rfl
  have hFc := va_free (wc := [(q2, .inr (8, [.int 0, .int 0, .int 0, .int 0, .int 0, .int 0, .int 0, .null, .null, .null]))]) hD hS hA [2] rfl
  refine va_callv (va_runI (As := [.int 0, .int x0, .int x1, .int x2, .int x3]) (rest := [.ref q2, .int 0, .ref bt]) ⟨hx, hb, hml, hown, hts⟩ (c_Thing_init l hl0 dC dI A0 ad H.size q2 0 x0 x1 x2 x3 (fun q h => hA0 q (hFc q h))) (cwI 5 hts gX0_add_X8_init rfl rfl rfl hw6 hw7 hw8 rfl (by decide +kernel) ⟨Nat.le_of_ble_eq_true rfl, Nat.le_of_ble_eq_true rfl⟩) ⟨zPc_bl, zPc_at hz hS hA0 hPc hKc hDc⟩ rfl rfl hl.1 rfl (lv_room (Nat.le_of_ble_eq_true rfl)) dX0_add_32 ⟨Nat.le_of_ble_eq_true rfl, Nat.le_of_ble_eq_true rfl⟩) hS (fun q _ h => hFc q h) hFc (fun u t H1 locs ht hvm hw hB hz1 hk1 hS => ?_)
  obtain ⟨n4q1, n4q2, n4q3, hB⟩ := hB
  obtain ⟨hP1, hK1, hD1⟩ := hB
  rw [ht] at hP1
  have hK1 := va_K.moved hvm.symm hK1
  obtain ⟨hP, hD⟩ := va_join (wr := [(b0, .inr (0, [.ref bt, .int 0])), (bt, .inl (cbt, 30, .inr (.inr (.inr (.inr (fun _ => none))))))]) (w1 := [(q2, .inr (8, [.int 0, .int x0, .int x1, .int x2, .int x3, .int 0, .int 0, .ref n4q1, .ref n4q2, .ref n4q3]))]) hP hD [2] [0, 1] rfl rfl (by decide) (by decide) hk1 hFc hP1 hD1
  have hK := (hK.sub (tys' := [(cbt, .object "PostHouse$Thing")]) [0] rfl).app hK1
  generalize H1 = H at hP hS ⊢
  have hP : va_P (dC, dI) vwCl [(b0, .inr (0, [.ref bt, .int 0])), (bt, .inl (cbt, 30, .inr (.inr (.inr (.inr (fun _ => none)))))), (q2, .inr (8, [.int 0, .int x0, .int x1, .int x2, .int x3, .int 0, .int 0, .ref n4q1, .ref n4q2, .ref n4q3]))] H := hP
  have hD : va_D A [(b0, .inr (0, [.ref bt, .int 0])), (bt, .inl (cbt, 30, .inr (.inr (.inr (.inr (fun _ => none)))))), (q2, .inr (8, [.int 0, .int x0, .int x1, .int x2, .int x3, .int 0, .int 0, .ref n4q1, .ref n4q2, .ref n4q3]))] := hD
  have hK : va_K (dC, dI) vwCl [(cbt, .object "PostHouse$Thing")] s := hK
  refine W.widen (k := 4) (n := 22) (by decide) (by decide) ?_
  refine va_astq (D := (dC, dI)) hx hb hK hP hD hS 1 0 2 8 (r := (RX8, TX8, 10)) rfl rfl rfl rfl (zIn (by decide) (by decide)) dX0_add_35 (fun H locs hP hD hS => ?_)
  have hP : va_P (dC, dI) vwCl [(b0, .inr (0, [.ref bt, .int 0])), (bt, .inl (cbt, 30, .inr (.inr (.inr (.inr (va_up (fun _ => none) (0 : Int32).toNatClampNeg (some q2))))))), (q2, .inr (8, [.int 0, .int x0, .int x1, .int x2, .int x3, .int 0, .int 0, .ref n4q1, .ref n4q2, .ref n4q3]))] H := hP
  have hD : va_D A [(b0, .inr (0, [.ref bt, .int 0])), (bt, .inl (cbt, 30, .inr (.inr (.inr (.inr (va_up (fun _ => none) (0 : Int32).toNatClampNeg (some q2))))))), (q2, .inr (8, [.int 0, .int x0, .int x1, .int x2, .int x3, .int 0, .int 0, .ref n4q1, .ref n4q2, .ref n4q3]))] := hD
  refine lv_aload_n hx hb dX0_add_36 rfl (lv_at hl 0 rfl) ?_
  refine lv_dup hx hb dX0_add_37 rfl ?_
  refine va_get (D := (dC, dI)) (ci := 0) (v := .int 0) (C := RX0) (T := TX0) (N := 2) hx hb hts hiX0 hown hK hP 0 rfl rfl 1 (by decide) hw1 (fun _ h9 => h9) rfl dX0_add_38 ?_
  refine lv_iconst (v := 1) hx hb dX0_add_41 (by decide) ?_
  refine lv_iadd hx hb dX0_add_42 ?_
  refine lv_topi (fun v5 ev5 => ?_)
  obtain rfl : v5 = 1 := ev5.trans (by decide)
  refine va_put (D := (dC, dI)) (ci := 0) (v := .int 1) (ty := .int) (C := RX0) (T := TX0) (N := 2) hx hb hts hiX0 tyX0 tyX0_ok nmX0 hown hK hP hD hS 0 rfl rfl 1 (by decide) hw1 (fun _ h9 => h9) rfl (by decide +kernel) rfl rfl (Nat.le_of_ble_eq_true rfl) dX0_add_43 (fun H locs hP hD hS => ?_)
  have hP : va_P (dC, dI) vwCl [(b0, .inr (0, [.ref bt, .int 1])), (bt, .inl (cbt, 30, .inr (.inr (.inr (.inr (va_up (fun _ => none) (0 : Int32).toNatClampNeg (some q2))))))), (q2, .inr (8, [.int 0, .int x0, .int x1, .int x2, .int x3, .int 0, .int 0, .ref n4q1, .ref n4q2, .ref n4q3]))] H := hP
  have hD : va_D A [(b0, .inr (0, [.ref bt, .int 1])), (bt, .inl (cbt, 30, .inr (.inr (.inr (.inr (va_up (fun _ => none) (0 : Int32).toNatClampNeg (some q2))))))), (q2, .inr (8, [.int 0, .int x0, .int x1, .int x2, .int x3, .int 0, .int 0, .ref n4q1, .ref n4q2, .ref n4q3]))] := hD
  refine lv_aload_n hx hb dX0_add_46 rfl (lv_at hl 0 rfl) ?_
  refine va_get (D := (dC, dI)) (ci := 0) (v := .int 1) (C := RX0) (T := TX0) (N := 2) hx hb hts hiX0 hown hK hP 0 rfl rfl 1 (by decide) hw1 (fun _ h9 => h9) rfl dX0_add_47 ?_
  refine lv_iconst (v := 1) hx hb dX0_add_50 (by decide) ?_
  refine lv_isub hx hb dX0_add_51 ?_
  refine lv_topi (fun v6 ev6 => ?_)
  obtain rfl : v6 = 0 := ev6.trans (by decide)
  have hP9 := hP.sub (ws' := [(b0, .inr (0, [.ref bt, .int 1])), (bt, .inl (cbt, 30, .inr (.inr (.inr (.inr (va_up (fun _ => none) (0 : Int32).toNatClampNeg (some q2)))))))]) [0, 1] rfl
  have hD9 := hD.sub (ws' := [(b0, .inr (0, [.ref bt, .int 1])), (bt, .inl (cbt, 30, .inr (.inr (.inr (.inr (va_up (fun _ => none) (0 : Int32).toNatClampNeg (some q2)))))))]) [0, 1] (by decide) rfl
  have hK9 := hK.sub (tys' := [(cbt, .object "PostHouse$Thing")]) [0] rfl
  refine W.widen (k := 4) (n := 22) (by decide) (by decide) ?_
  exact W.iret (v := 0) hx hb hr (fun t ht hW => ⟨⟨0, (), rfl, rfl, ⟨va_up (fun _ => none) (0 : Int32).toNatClampNeg (some q2), ⟨by rw [ht]; exact hP9, va_K.moved hW.alike hK9, hD9⟩⟩⟩, hS.F ht⟩) hS.2.2 dX0_add_52
set_option maxHeartbeats 4000000 in
set_option maxRecDepth 100000 in
/-- thing on an empty book -/
theorem c_thing (l : Launch) (hl0 : l.stackTraces = false) (dC : Nat → ClassId) (dI : Nat → Nat → Nat) (A0 : Nat → Prop) (ad : Nat → Nat) (sz : Nat) (h0 t0 b0 c0 r0 d0 e0 o0 s0 p0 w0 : Nat) (bt : Nat) (cbt : ClassId) (x0 x1 x2 x3 : Int32) (hA0 : ∀ q, va_A [(h0, .inr (11, [.ref t0, .ref b0, .ref c0, .ref r0, .ref d0, .ref e0, .ref o0, .ref s0, .ref p0, .ref w0, .int 0, .int 0, .int 0, .int 0, .int ((-1)), .int 0])), (b0, .inr (0, [.ref bt, .int 0])), (bt, .inl (cbt, 30, .inr (.inr (.inr (.inr (fun _ => none))))))] sz q → A0 q) : vx_Met l yX11_thing wsX11_thing ({ frames := 6, cells := 4, slots := 22, locals := 82 }) (va_Pc [.ref h0, .int x0, .int x1, .int x2, .int x3] (zPc A0 ad (dC, dI) [(h0, .inr (11, [.ref t0, .ref b0, .ref c0, .ref r0, .ref d0, .ref e0, .ref o0, .ref s0, .ref p0, .ref w0, .int 0, .int 0, .int 0, .int 0, .int ((-1)), .int 0])), (b0, .inr (0, [.ref bt, .int 0])), (bt, .inl (cbt, 30, .inr (.inr (.inr (.inr (fun _ => none))))))] [(cbt, .object "PostHouse$Thing")] sz)) (va_Qi (fun (r : Int32) (_ : Unit) => r = 0 ∧ zGood x0 x1 x2 x3) (fun (_ : Unit) (t : State) => ∃ (g : Nat → Option Nat), zB (dC, dI) (va_A [(h0, .inr (11, [.ref t0, .ref b0, .ref c0, .ref r0, .ref d0, .ref e0, .ref o0, .ref s0, .ref p0, .ref w0, .int 0, .int 0, .int 0, .int 0, .int ((-1)), .int 0])), (b0, .inr (0, [.ref bt, .int 0])), (bt, .inl (cbt, 30, .inr (.inr (.inr (.inr (fun _ => none))))))] sz) [(h0, .inr (11, [.ref t0, .ref b0, .ref c0, .ref r0, .ref d0, .ref e0, .ref o0, .ref s0, .ref p0, .ref w0, .int 0, .int 0, .int 0, .int 0, .int ((-1)), .int 0])), (b0, .inr (0, [.ref bt, .int 1])), (bt, .inl (cbt, 30, .inr (.inr (.inr (.inr g)))))] [(cbt, .object "PostHouse$Thing")] t) (va_A [(h0, .inr (11, [.ref t0, .ref b0, .ref c0, .ref r0, .ref d0, .ref e0, .ref o0, .ref s0, .ref p0, .ref w0, .int 0, .int 0, .int 0, .int 0, .int ((-1)), .int 0])), (b0, .inr (0, [.ref bt, .int 0])), (bt, .inl (cbt, 30, .inr (.inr (.inr (.inr (fun _ => none))))))] sz)) (vx_X (fun _ : Unit => True) (fun (E : String) (_ : Unit) (_ : State) => E = "java/lang/IllegalArgumentException" ∧ ¬ zGood x0 x1 x2 x3) (va_A [(h0, .inr (11, [.ref t0, .ref b0, .ref c0, .ref r0, .ref d0, .ref e0, .ref o0, .ref s0, .ref p0, .ref w0, .int 0, .int 0, .int 0, .int 0, .int ((-1)), .int 0])), (b0, .inr (0, [.ref bt, .int 0])), (bt, .inl (cbt, 30, .inr (.inr (.inr (.inr (fun _ => none))))))] sz)) 4 22 (va_A [(h0, .inr (11, [.ref t0, .ref b0, .ref c0, .ref r0, .ref d0, .ref e0, .ref o0, .ref s0, .ref p0, .ref w0, .int 0, .int 0, .int 0, .int 0, .int ((-1)), .int 0])), (b0, .inr (0, [.ref bt, .int 0])), (bt, .inl (cbt, 30, .inr (.inr (.inr (.inr (fun _ => none))))))] sz) := by
  refine vx_ofW (cc := cX11_thing) (maxL := 5) (ret := (some .int)) (by decide) rfl ?_
  intro p e s m args below meth c s₁ B hml ht0 hv
  obtain ⟨rfl, hsz, hz, hP, hK, hD0⟩ := hv
  have hx := B.exec
  have hb := B.bytes
  have hr := B.returns
  have hts := atoms_spec (ws := wsX11_thing) B.pre
  have hown : s.vm.findClass RX11 = some m.cls := findClass_of_methodNamed B.named
  have hlocks := B.notSynchronized
  subst hsz
  have hD := hD0.self (sz := s.heap.size)
  generalize hAe : va_A [(h0, .inr (11, [.ref t0, .ref b0, .ref c0, .ref r0, .ref d0, .ref e0, .ref o0, .ref s0, .ref p0, .ref w0, .int 0, .int 0, .int 0, .int 0, .int ((-1)), .int 0])), (b0, .inr (0, [.ref bt, .int 0])), (bt, .inl (cbt, 30, .inr (.inr (.inr (.inr (fun _ => none))))))] s.heap.size = A at hD hA0 ⊢
  have hA : ∀ q : Nat, s.heap.size ≤ q → A q := fun q h => by rw [← hAe]; exact Or.inr h
  have hS : va_S A s.heap s.heap [] := va_S.rf
  have hl := lv_entry ([.ref h0, .int x0, .int x1, .int x2, .int x3]) (n := 5) (Nat.le_of_ble_eq_true rfl)
  rw [lg_entry_eq]
  generalize (lg_sl ([.ref h0, .int x0, .int x1, .int x2, .int x3]) ++ List.replicate (5 - (lg_sl ([.ref h0, .int x0, .int x1, .int x2, .int x3])).length) Slot.unset).toArray = ls at hl ⊢
  have hl : lv_has ls 5 [(0, .ref h0), (1, .int x0), (2, .int x1), (3, .int x2), (4, .int x3)] := hl
  have hP : va_P (dC, dI) vwCl [(h0, .inr (11, [.ref t0, .ref b0, .ref c0, .ref r0, .ref d0, .ref e0, .ref o0, .ref s0, .ref p0, .ref w0, .int 0, .int 0, .int 0, .int 0, .int ((-1)), .int 0])), (b0, .inr (0, [.ref bt, .int 0])), (bt, .inl (cbt, 30, .inr (.inr (.inr (.inr (fun _ => none))))))] s.heap := hP
  have hw0 := hts (.classLink RX11 91 "java/lang/IllegalArgumentException") (by decide +kernel)
  have hw1 := hts (.initialized "java/lang/IllegalArgumentException") (by decide +kernel)
  have hiX11 : ∀ w ∈ u_ws RX11 TX11 16, w ∈ wsX11_thing := fun _ h => List.mem_cons_of_mem _ (List.mem_append_left _ (List.mem_append_left _ (List.mem_append_left _ (List.mem_append_left _ (List.mem_append_right _ h)))))
  have hw3 := hts (.fieldLink RX11 19 "PostHouse" "book" "LPostHouse$Book;") (by decide +kernel)
  have hiX0 : ∀ w ∈ u_ws RX0 TX0 2, w ∈ wsX11_thing := fun _ h => List.mem_cons_of_mem _ (List.mem_append_left _ (List.mem_append_left _ (List.mem_append_left _ (List.mem_append_right _ h))))
  have hw5 := hts (.fieldLink RX11 104 "PostHouse$Book" "size" "I") (by decide +kernel)
  refine lv_iload_n hx hb dX11_thing_0 rfl (lv_at hl 1 rfl) ?_
  refine lv_iconst (v := 0) hx hb dX11_thing_1 (by decide) ?_
  refine lv_sipush (v := 9999) hx hb dX11_thing_2 (by decide) ?_
  have hPc := hP.sub (ws' := []) [] rfl
  have hDc := hD.sub (ws' := []) [] (by decide) rfl
  have hKc := hK.sub (tys' := []) [] rfl
  have hFc := va_free (wc := []) hD hS hA [] rfl
  refine va_calli (va_runS (As := [.int x0, .int 0, .int 9999]) (rest := []) ⟨hx, hb, hml, hown, hts⟩ (c_within l hl0 dC dI A0 ad s.heap.size x0 0 9999 (fun q h => hA0 q (hFc q h))) (cwS 3 hts gX11_thing_X11_within rfl rfl rfl (by decide +kernel) ⟨Nat.le_of_ble_eq_true rfl, Nat.le_of_ble_eq_true rfl⟩) ⟨zPc_bl, zPc_at hz hS hA0 hPc hKc hDc⟩ rfl rfl hl.1 rfl (lv_room (Nat.le_of_ble_eq_true rfl)) dX11_thing_5 ⟨Nat.le_of_ble_eq_true rfl, Nat.le_of_ble_eq_true rfl⟩) hS (fun q _ h => hFc q h) hFc (fun r1 u t H1 locs ht hvm hw hB hz1 hk1 hS => ?_)
  obtain ⟨hP1, hK1, hD1⟩ := hB
  rw [ht] at hP1
  have hK1 := va_K.moved hvm.symm hK1
  obtain ⟨hP, hD⟩ := va_join (wr := [(h0, .inr (11, [.ref t0, .ref b0, .ref c0, .ref r0, .ref d0, .ref e0, .ref o0, .ref s0, .ref p0, .ref w0, .int 0, .int 0, .int 0, .int 0, .int ((-1)), .int 0])), (b0, .inr (0, [.ref bt, .int 0])), (bt, .inl (cbt, 30, .inr (.inr (.inr (.inr (fun _ => none))))))]) (w1 := []) hP hD [] [0, 1, 2] rfl rfl (by decide) (by decide) hk1 hFc hP1 hD1
  have hK := (hK.sub (tys' := [(cbt, .object "PostHouse$Thing")]) [0] rfl).app hK1
  generalize H1 = H at hP hS ⊢
  have hP : va_P (dC, dI) vwCl [(h0, .inr (11, [.ref t0, .ref b0, .ref c0, .ref r0, .ref d0, .ref e0, .ref o0, .ref s0, .ref p0, .ref w0, .int 0, .int 0, .int 0, .int 0, .int ((-1)), .int 0])), (b0, .inr (0, [.ref bt, .int 0])), (bt, .inl (cbt, 30, .inr (.inr (.inr (.inr (fun _ => none))))))] H := hP
  have hD : va_D A [(h0, .inr (11, [.ref t0, .ref b0, .ref c0, .ref r0, .ref d0, .ref e0, .ref o0, .ref s0, .ref p0, .ref w0, .int 0, .int 0, .int 0, .int 0, .int ((-1)), .int 0])), (b0, .inr (0, [.ref bt, .int 0])), (bt, .inl (cbt, 30, .inr (.inr (.inr (.inr (fun _ => none))))))] := hD
  have hK : va_K (dC, dI) vwCl [(cbt, .object "PostHouse$Thing")] s := hK
  have er1 := hw
  refine lv_if_eq (tgt := 43) hx hb dX11_thing_8 (by decide) (fun c2 => ?_) (fun c2 => ?_)
  · obtain ⟨a3, ha3⟩ := hz.2.2.2.2.1 _ (List.mem_of_getElem? (i := 0) rfl)
    have hat : ∀ w ∈ vx_atS RX11 95 "java/lang/IllegalArgumentException" ["java/lang/RuntimeException", "java/lang/Exception"], w.before _ s = true := vx_hat (fun w h => hts w (List.mem_cons_of_mem _ (List.mem_append_left _ (List.mem_append_right _ h)))) (B := [.castable "java/lang/IllegalArgumentException" "java/lang/IllegalArgumentException", .declares (Bundle.initS "java/lang/RuntimeException"), .declares (Bundle.initS "java/lang/Exception"), .declares (Bundle.initS Bundle.tN)]) (by decide +kernel) (vx_c (va_Nw.use rfl (hz.2.2.2.2.2.2.2.1 _ (List.mem_of_getElem? (i := 1) rfl))) (vx_c (va_Nw.use rfl (hz.2.2.2.2.2.2.2.2 _ (List.mem_of_getElem? (i := 0) rfl))) (vx_c (va_Nw.use rfl (hz.2.2.2.2.2.2.2.2 _ (List.mem_of_getElem? (i := 1) rfl))) (vx_c (va_Nw.use rfl (hz.2.2.2.2.2.2.2.2 _ (List.mem_of_getElem? (i := 2) rfl))) vx_n))))
    exact vx_throwS hx hb hl0 (own := RX11) (cls := "java/lang/IllegalArgumentException") (text := "a number of the thing is out of its bounds") (names := ["java/lang/RuntimeException", "java/lang/Exception"]) hown (by decide +kernel) (by decide +kernel) hw0 hw1 ha3 hat (by decide +kernel) (hz.1.narrow hA0) (hz.2.1.narrow hA0) hS (by rw [hml]; exact hl.1) dX11_thing_43 dX11_thing_46 dX11_thing_47 dX11_thing_49 dX11_thing_52 (fun x h9 => (ht0 x h9).elim) (Nat.le_of_ble_eq_true rfl) (Nat.le_of_ble_eq_true rfl) (Nat.le_of_ble_eq_true rfl) (Nat.le_of_ble_eq_true rfl) hlocks (fun t hvm h1 h2 => ⟨(), trivial, ⟨rfl, fun q => by simp only [zGood] at q; obtain ⟨q1, q2, q3, q4⟩ := q; first | exact q1 (by rw [← er1]; exact c2) | exact q2 (by rw [← er1]; exact c2) | exact q3 (by rw [← er1]; exact c2) | exact q4 (by rw [← er1]; exact c2)⟩, zF2 hS h1 h2⟩) hS.2.2 (by decide) (by decide)
  · refine lv_iload_n hx hb dX11_thing_11 rfl (lv_at hl 2 rfl) ?_
    refine lv_iconst (v := 1) hx hb dX11_thing_12 (by decide) ?_
    refine lv_sipush (v := 2000) hx hb dX11_thing_13 (by decide) ?_
    have hPc := hP.sub (ws' := []) [] rfl
    have hDc := hD.sub (ws' := []) [] (by decide) rfl
    have hKc := hK.sub (tys' := []) [] rfl
    have hFc := va_free (wc := []) hD hS hA [] rfl
    refine va_calli (va_runS (As := [.int x1, .int 1, .int 2000]) (rest := []) ⟨hx, hb, hml, hown, hts⟩ (c_within l hl0 dC dI A0 ad H.size x1 1 2000 (fun q h => hA0 q (hFc q h))) (cwS 3 hts gX11_thing_X11_within rfl rfl rfl (by decide +kernel) ⟨Nat.le_of_ble_eq_true rfl, Nat.le_of_ble_eq_true rfl⟩) ⟨zPc_bl, zPc_at hz hS hA0 hPc hKc hDc⟩ rfl rfl hl.1 rfl (lv_room (Nat.le_of_ble_eq_true rfl)) dX11_thing_16 ⟨Nat.le_of_ble_eq_true rfl, Nat.le_of_ble_eq_true rfl⟩) hS (fun q _ h => hFc q h) hFc (fun r4 u t H1 locs ht hvm hw hB hz1 hk1 hS => ?_)
    obtain ⟨hP1, hK1, hD1⟩ := hB
    rw [ht] at hP1
    have hK1 := va_K.moved hvm.symm hK1
    obtain ⟨hP, hD⟩ := va_join (wr := [(h0, .inr (11, [.ref t0, .ref b0, .ref c0, .ref r0, .ref d0, .ref e0, .ref o0, .ref s0, .ref p0, .ref w0, .int 0, .int 0, .int 0, .int 0, .int ((-1)), .int 0])), (b0, .inr (0, [.ref bt, .int 0])), (bt, .inl (cbt, 30, .inr (.inr (.inr (.inr (fun _ => none))))))]) (w1 := []) hP hD [] [0, 1, 2] rfl rfl (by decide) (by decide) hk1 hFc hP1 hD1
    have hK := (hK.sub (tys' := [(cbt, .object "PostHouse$Thing")]) [0] rfl).app hK1
    generalize H1 = H at hP hS ⊢
    have hP : va_P (dC, dI) vwCl [(h0, .inr (11, [.ref t0, .ref b0, .ref c0, .ref r0, .ref d0, .ref e0, .ref o0, .ref s0, .ref p0, .ref w0, .int 0, .int 0, .int 0, .int 0, .int ((-1)), .int 0])), (b0, .inr (0, [.ref bt, .int 0])), (bt, .inl (cbt, 30, .inr (.inr (.inr (.inr (fun _ => none))))))] H := hP
    have hD : va_D A [(h0, .inr (11, [.ref t0, .ref b0, .ref c0, .ref r0, .ref d0, .ref e0, .ref o0, .ref s0, .ref p0, .ref w0, .int 0, .int 0, .int 0, .int 0, .int ((-1)), .int 0])), (b0, .inr (0, [.ref bt, .int 0])), (bt, .inl (cbt, 30, .inr (.inr (.inr (.inr (fun _ => none))))))] := hD
    have hK : va_K (dC, dI) vwCl [(cbt, .object "PostHouse$Thing")] s := hK
    have er4 := hw
    refine lv_if_eq (tgt := 43) hx hb dX11_thing_19 (by decide) (fun c5 => ?_) (fun c5 => ?_)
    · obtain ⟨a6, ha6⟩ := hz.2.2.2.2.1 _ (List.mem_of_getElem? (i := 0) rfl)
      have hat : ∀ w ∈ vx_atS RX11 95 "java/lang/IllegalArgumentException" ["java/lang/RuntimeException", "java/lang/Exception"], w.before _ s = true := vx_hat (fun w h => hts w (List.mem_cons_of_mem _ (List.mem_append_left _ (List.mem_append_right _ h)))) (B := [.castable "java/lang/IllegalArgumentException" "java/lang/IllegalArgumentException", .declares (Bundle.initS "java/lang/RuntimeException"), .declares (Bundle.initS "java/lang/Exception"), .declares (Bundle.initS Bundle.tN)]) (by decide +kernel) (vx_c (va_Nw.use rfl (hz.2.2.2.2.2.2.2.1 _ (List.mem_of_getElem? (i := 1) rfl))) (vx_c (va_Nw.use rfl (hz.2.2.2.2.2.2.2.2 _ (List.mem_of_getElem? (i := 0) rfl))) (vx_c (va_Nw.use rfl (hz.2.2.2.2.2.2.2.2 _ (List.mem_of_getElem? (i := 1) rfl))) (vx_c (va_Nw.use rfl (hz.2.2.2.2.2.2.2.2 _ (List.mem_of_getElem? (i := 2) rfl))) vx_n))))
      exact vx_throwS hx hb hl0 (own := RX11) (cls := "java/lang/IllegalArgumentException") (text := "a number of the thing is out of its bounds") (names := ["java/lang/RuntimeException", "java/lang/Exception"]) hown (by decide +kernel) (by decide +kernel) hw0 hw1 ha6 hat (by decide +kernel) (hz.1.narrow hA0) (hz.2.1.narrow hA0) hS (by rw [hml]; exact hl.1) dX11_thing_43 dX11_thing_46 dX11_thing_47 dX11_thing_49 dX11_thing_52 (fun x h9 => (ht0 x h9).elim) (Nat.le_of_ble_eq_true rfl) (Nat.le_of_ble_eq_true rfl) (Nat.le_of_ble_eq_true rfl) (Nat.le_of_ble_eq_true rfl) hlocks (fun t hvm h1 h2 => ⟨(), trivial, ⟨rfl, fun q => by simp only [zGood] at q; obtain ⟨q1, q2, q3, q4⟩ := q; first | exact q1 (by rw [← er4]; exact c5) | exact q2 (by rw [← er4]; exact c5) | exact q3 (by rw [← er4]; exact c5) | exact q4 (by rw [← er4]; exact c5)⟩, zF2 hS h1 h2⟩) hS.2.2 (by decide) (by decide)
    · refine lv_iload_n hx hb dX11_thing_22 rfl (lv_at hl 3 rfl) ?_
      refine lv_iconst (v := 0) hx hb dX11_thing_23 (by decide) ?_
      refine lv_bipush (v := 7) hx hb dX11_thing_24 (by decide) ?_
      have hPc := hP.sub (ws' := []) [] rfl
      have hDc := hD.sub (ws' := []) [] (by decide) rfl
      have hKc := hK.sub (tys' := []) [] rfl
      have hFc := va_free (wc := []) hD hS hA [] rfl
      refine va_calli (va_runS (As := [.int x2, .int 0, .int 7]) (rest := []) ⟨hx, hb, hml, hown, hts⟩ (c_within l hl0 dC dI A0 ad H.size x2 0 7 (fun q h => hA0 q (hFc q h))) (cwS 3 hts gX11_thing_X11_within rfl rfl rfl (by decide +kernel) ⟨Nat.le_of_ble_eq_true rfl, Nat.le_of_ble_eq_true rfl⟩) ⟨zPc_bl, zPc_at hz hS hA0 hPc hKc hDc⟩ rfl rfl hl.1 rfl (lv_room (Nat.le_of_ble_eq_true rfl)) dX11_thing_26 ⟨Nat.le_of_ble_eq_true rfl, Nat.le_of_ble_eq_true rfl⟩) hS (fun q _ h => hFc q h) hFc (fun r7 u t H1 locs ht hvm hw hB hz1 hk1 hS => ?_)
      obtain ⟨hP1, hK1, hD1⟩ := hB
      rw [ht] at hP1
      have hK1 := va_K.moved hvm.symm hK1
      obtain ⟨hP, hD⟩ := va_join (wr := [(h0, .inr (11, [.ref t0, .ref b0, .ref c0, .ref r0, .ref d0, .ref e0, .ref o0, .ref s0, .ref p0, .ref w0, .int 0, .int 0, .int 0, .int 0, .int ((-1)), .int 0])), (b0, .inr (0, [.ref bt, .int 0])), (bt, .inl (cbt, 30, .inr (.inr (.inr (.inr (fun _ => none))))))]) (w1 := []) hP hD [] [0, 1, 2] rfl rfl (by decide) (by decide) hk1 hFc hP1 hD1
      have hK := (hK.sub (tys' := [(cbt, .object "PostHouse$Thing")]) [0] rfl).app hK1
      generalize H1 = H at hP hS ⊢
      have hP : va_P (dC, dI) vwCl [(h0, .inr (11, [.ref t0, .ref b0, .ref c0, .ref r0, .ref d0, .ref e0, .ref o0, .ref s0, .ref p0, .ref w0, .int 0, .int 0, .int 0, .int 0, .int ((-1)), .int 0])), (b0, .inr (0, [.ref bt, .int 0])), (bt, .inl (cbt, 30, .inr (.inr (.inr (.inr (fun _ => none))))))] H := hP
      have hD : va_D A [(h0, .inr (11, [.ref t0, .ref b0, .ref c0, .ref r0, .ref d0, .ref e0, .ref o0, .ref s0, .ref p0, .ref w0, .int 0, .int 0, .int 0, .int 0, .int ((-1)), .int 0])), (b0, .inr (0, [.ref bt, .int 0])), (bt, .inl (cbt, 30, .inr (.inr (.inr (.inr (fun _ => none))))))] := hD
      have hK : va_K (dC, dI) vwCl [(cbt, .object "PostHouse$Thing")] s := hK
      have er7 := hw
      refine lv_if_eq (tgt := 43) hx hb dX11_thing_29 (by decide) (fun c8 => ?_) (fun c8 => ?_)
      · obtain ⟨a9, ha9⟩ := hz.2.2.2.2.1 _ (List.mem_of_getElem? (i := 0) rfl)
        have hat : ∀ w ∈ vx_atS RX11 95 "java/lang/IllegalArgumentException" ["java/lang/RuntimeException", "java/lang/Exception"], w.before _ s = true := vx_hat (fun w h => hts w (List.mem_cons_of_mem _ (List.mem_append_left _ (List.mem_append_right _ h)))) (B := [.castable "java/lang/IllegalArgumentException" "java/lang/IllegalArgumentException", .declares (Bundle.initS "java/lang/RuntimeException"), .declares (Bundle.initS "java/lang/Exception"), .declares (Bundle.initS Bundle.tN)]) (by decide +kernel) (vx_c (va_Nw.use rfl (hz.2.2.2.2.2.2.2.1 _ (List.mem_of_getElem? (i := 1) rfl))) (vx_c (va_Nw.use rfl (hz.2.2.2.2.2.2.2.2 _ (List.mem_of_getElem? (i := 0) rfl))) (vx_c (va_Nw.use rfl (hz.2.2.2.2.2.2.2.2 _ (List.mem_of_getElem? (i := 1) rfl))) (vx_c (va_Nw.use rfl (hz.2.2.2.2.2.2.2.2 _ (List.mem_of_getElem? (i := 2) rfl))) vx_n))))
        exact vx_throwS hx hb hl0 (own := RX11) (cls := "java/lang/IllegalArgumentException") (text := "a number of the thing is out of its bounds") (names := ["java/lang/RuntimeException", "java/lang/Exception"]) hown (by decide +kernel) (by decide +kernel) hw0 hw1 ha9 hat (by decide +kernel) (hz.1.narrow hA0) (hz.2.1.narrow hA0) hS (by rw [hml]; exact hl.1) dX11_thing_43 dX11_thing_46 dX11_thing_47 dX11_thing_49 dX11_thing_52 (fun x h9 => (ht0 x h9).elim) (Nat.le_of_ble_eq_true rfl) (Nat.le_of_ble_eq_true rfl) (Nat.le_of_ble_eq_true rfl) (Nat.le_of_ble_eq_true rfl) hlocks (fun t hvm h1 h2 => ⟨(), trivial, ⟨rfl, fun q => by simp only [zGood] at q; obtain ⟨q1, q2, q3, q4⟩ := q; first | exact q1 (by rw [← er7]; exact c8) | exact q2 (by rw [← er7]; exact c8) | exact q3 (by rw [← er7]; exact c8) | exact q4 (by rw [← er7]; exact c8)⟩, zF2 hS h1 h2⟩) hS.2.2 (by decide) (by decide)
      · refine lv_iload hx hb dX11_thing_32 (lv_at hl 4 rfl) ?_
        refine lv_iconst (v := 1) hx hb dX11_thing_34 (by decide) ?_
        refine lv_bipush (v := 20) hx hb dX11_thing_35 (by decide) ?_
        have hPc := hP.sub (ws' := []) [] rfl
        have hDc := hD.sub (ws' := []) [] (by decide) rfl
        have hKc := hK.sub (tys' := []) [] rfl
        have hFc := va_free (wc := []) hD hS hA [] rfl
        refine va_calli (va_runS (As := [.int x3, .int 1, .int 20]) (rest := []) ⟨hx, hb, hml, hown, hts⟩ (c_within l hl0 dC dI A0 ad H.size x3 1 20 (fun q h => hA0 q (hFc q h))) (cwS 3 hts gX11_thing_X11_within rfl rfl rfl (by decide +kernel) ⟨Nat.le_of_ble_eq_true rfl, Nat.le_of_ble_eq_true rfl⟩) ⟨zPc_bl, zPc_at hz hS hA0 hPc hKc hDc⟩ rfl rfl hl.1 rfl (lv_room (Nat.le_of_ble_eq_true rfl)) dX11_thing_37 ⟨Nat.le_of_ble_eq_true rfl, Nat.le_of_ble_eq_true rfl⟩) hS (fun q _ h => hFc q h) hFc (fun r10 u t H1 locs ht hvm hw hB hz1 hk1 hS => ?_)
        obtain ⟨hP1, hK1, hD1⟩ := hB
        rw [ht] at hP1
        have hK1 := va_K.moved hvm.symm hK1
        obtain ⟨hP, hD⟩ := va_join (wr := [(h0, .inr (11, [.ref t0, .ref b0, .ref c0, .ref r0, .ref d0, .ref e0, .ref o0, .ref s0, .ref p0, .ref w0, .int 0, .int 0, .int 0, .int 0, .int ((-1)), .int 0])), (b0, .inr (0, [.ref bt, .int 0])), (bt, .inl (cbt, 30, .inr (.inr (.inr (.inr (fun _ => none))))))]) (w1 := []) hP hD [] [0, 1, 2] rfl rfl (by decide) (by decide) hk1 hFc hP1 hD1
        have hK := (hK.sub (tys' := [(cbt, .object "PostHouse$Thing")]) [0] rfl).app hK1
        generalize H1 = H at hP hS ⊢
        have hP : va_P (dC, dI) vwCl [(h0, .inr (11, [.ref t0, .ref b0, .ref c0, .ref r0, .ref d0, .ref e0, .ref o0, .ref s0, .ref p0, .ref w0, .int 0, .int 0, .int 0, .int 0, .int ((-1)), .int 0])), (b0, .inr (0, [.ref bt, .int 0])), (bt, .inl (cbt, 30, .inr (.inr (.inr (.inr (fun _ => none))))))] H := hP
        have hD : va_D A [(h0, .inr (11, [.ref t0, .ref b0, .ref c0, .ref r0, .ref d0, .ref e0, .ref o0, .ref s0, .ref p0, .ref w0, .int 0, .int 0, .int 0, .int 0, .int ((-1)), .int 0])), (b0, .inr (0, [.ref bt, .int 0])), (bt, .inl (cbt, 30, .inr (.inr (.inr (.inr (fun _ => none))))))] := hD
        have hK : va_K (dC, dI) vwCl [(cbt, .object "PostHouse$Thing")] s := hK
        have er10 := hw
        refine lv_if_ne (tgt := 53) hx hb dX11_thing_40 (by decide) (fun c11 => ?_) (fun c11 => ?_)
        · refine lv_aload_n hx hb dX11_thing_53 rfl (lv_at hl 0 rfl) ?_
          refine va_get (D := (dC, dI)) (ci := 11) (v := .ref b0) (C := RX11) (T := TX11) (N := 16) hx hb hts hiX11 hown hK hP 0 rfl rfl 1 (by decide) hw3 (fun _ h9 => h9) rfl dX11_thing_54 ?_
          refine lv_iload_n hx hb dX11_thing_57 rfl (lv_at hl 1 rfl) ?_
          have hPc := hP.sub (ws' := [(b0, .inr (0, [.ref bt, .int 0]))]) [1] rfl
          have hDc := hD.sub (ws' := [(b0, .inr (0, [.ref bt, .int 0]))]) [1] (by decide) rfl
          have hKc := hK.sub (tys' := []) [] rfl
          have hFc := va_free (wc := [(b0, .inr (0, [.ref bt, .int 0]))]) hD hS hA [1] rfl
          refine va_callq (va_runV (As := [.int x0]) (rest := []) ⟨hx, hb, hml, hown, hts⟩ (c_ofCode l hl0 dC dI A0 ad H.size b0 bt x0 (fun q h => hA0 q (hFc q h))) (cwV 1 hts gX11_thing_X0_ofCode rfl rfl rfl (by decide +kernel) ⟨Nat.le_of_ble_eq_true rfl, Nat.le_of_ble_eq_true rfl⟩) ⟨zPc_bl, va_recv hKc hPc (ci := 0) (q0 := 0) rfl rfl, zPc_at hz hS hA0 hPc hKc hDc⟩ rfl rfl hl.1 rfl (lv_room (Nat.le_of_ble_eq_true rfl)) dX11_thing_58 ⟨Nat.le_of_ble_eq_true rfl, Nat.le_of_ble_eq_true rfl⟩) hS (fun q _ h => hFc q h) hFc (fun r12 u t H1 locs ht hvm hw hB hz1 hk1 hS => ?_)
          obtain ⟨hP1, hK1, hD1⟩ := hB
          rw [ht] at hP1
          have hK1 := va_K.moved hvm.symm hK1
          obtain ⟨hP, hD⟩ := va_join (wr := [(h0, .inr (11, [.ref t0, .ref b0, .ref c0, .ref r0, .ref d0, .ref e0, .ref o0, .ref s0, .ref p0, .ref w0, .int 0, .int 0, .int 0, .int 0, .int ((-1)), .int 0])), (bt, .inl (cbt, 30, .inr (.inr (.inr (.inr (fun _ => none))))))]) (w1 := [(b0, .inr (0, [.ref bt, .int 0]))]) hP hD [1] [0, 2] rfl rfl (by decide) (by decide) hk1 hFc hP1 hD1
          have hK := (hK.sub (tys' := [(cbt, .object "PostHouse$Thing")]) [0] rfl).app hK1
          generalize H1 = H at hP hS ⊢
          have hP : va_P (dC, dI) vwCl [(h0, .inr (11, [.ref t0, .ref b0, .ref c0, .ref r0, .ref d0, .ref e0, .ref o0, .ref s0, .ref p0, .ref w0, .int 0, .int 0, .int 0, .int 0, .int ((-1)), .int 0])), (bt, .inl (cbt, 30, .inr (.inr (.inr (.inr (fun _ => none)))))), (b0, .inr (0, [.ref bt, .int 0]))] H := hP
          have hD : va_D A [(h0, .inr (11, [.ref t0, .ref b0, .ref c0, .ref r0, .ref d0, .ref e0, .ref o0, .ref s0, .ref p0, .ref w0, .int 0, .int 0, .int 0, .int 0, .int ((-1)), .int 0])), (bt, .inl (cbt, 30, .inr (.inr (.inr (.inr (fun _ => none)))))), (b0, .inr (0, [.ref bt, .int 0]))] := hD
          have hK : va_K (dC, dI) vwCl [(cbt, .object "PostHouse$Thing")] s := hK
          obtain rfl : r12 = none := hw
          refine lv_ifnullN (tgt := 74) hx hb dX11_thing_61 (by decide) ?_
          refine lv_aload_n hx hb dX11_thing_74 rfl (lv_at hl 0 rfl) ?_
          refine va_get (D := (dC, dI)) (ci := 11) (v := .ref b0) (C := RX11) (T := TX11) (N := 16) hx hb hts hiX11 hown hK hP 0 rfl rfl 1 (by decide) hw3 (fun _ h9 => h9) rfl dX11_thing_75 ?_
          refine va_get (D := (dC, dI)) (ci := 0) (v := .int 0) (C := RX0) (T := TX0) (N := 2) hx hb hts hiX0 hown hK hP 2 rfl rfl 1 (by decide) hw5 (fun _ h9 => h9) rfl dX11_thing_78 ?_
          refine lv_bipush (v := 30) hx hb dX11_thing_81 (by decide) ?_
          refine lv_icmp_lt (tgt := 96) hx hb dX11_thing_83 (by decide) (fun c13 => ?_) (fun c13 => absurd (by decide) c13)
          refine lv_aload_n hx hb dX11_thing_96 rfl (lv_at hl 0 rfl) ?_
          refine va_get (D := (dC, dI)) (ci := 11) (v := .ref b0) (C := RX11) (T := TX11) (N := 16) hx hb hts hiX11 hown hK hP 0 rfl rfl 1 (by decide) hw3 (fun _ h9 => h9) rfl dX11_thing_97 ?_
          refine lv_iload_n hx hb dX11_thing_100 rfl (lv_at hl 1 rfl) ?_
          refine lv_iload_n hx hb dX11_thing_101 rfl (lv_at hl 2 rfl) ?_
          refine lv_iload_n hx hb dX11_thing_102 rfl (lv_at hl 3 rfl) ?_
          refine lv_iload hx hb dX11_thing_103 (lv_at hl 4 rfl) ?_
          have hPc := hP.sub (ws' := [(b0, .inr (0, [.ref bt, .int 0])), (bt, .inl (cbt, 30, .inr (.inr (.inr (.inr (fun _ => none))))))]) [2, 1] rfl
          have hDc := hD.sub (ws' := [(b0, .inr (0, [.ref bt, .int 0])), (bt, .inl (cbt, 30, .inr (.inr (.inr (.inr (fun _ => none))))))]) [2, 1] (by decide) rfl
          have hKc := hK.sub (tys' := [(cbt, .object "PostHouse$Thing")]) [0] rfl
          have hFc := va_free (wc := [(b0, .inr (0, [.ref bt, .int 0])), (bt, .inl (cbt, 30, .inr (.inr (.inr (.inr (fun _ => none))))))]) hD hS hA [2, 1] rfl
          refine va_calli (va_runV (As := [.int x0, .int x1, .int x2, .int x3]) (rest := []) ⟨hx, hb, hml, hown, hts⟩ (c_add l hl0 dC dI A0 ad H.size b0 bt cbt x0 x1 x2 x3 (fun q h => hA0 q (hFc q h))) (cwV 4 hts gX11_thing_X0_add rfl rfl rfl (by decide +kernel) ⟨Nat.le_of_ble_eq_true rfl, Nat.le_of_ble_eq_true rfl⟩) ⟨zPc_bl, va_recv hKc hPc (ci := 0) (q0 := 0) rfl rfl, zPc_at hz hS hA0 hPc hKc hDc⟩ rfl rfl hl.1 rfl (lv_room (Nat.le_of_ble_eq_true rfl)) dX11_thing_105 ⟨Nat.le_of_ble_eq_true rfl, Nat.le_of_ble_eq_true rfl⟩) hS (fun q _ h => hFc q h) hFc (fun r14 u t H1 locs ht hvm hw hB hz1 hk1 hS => ?_)
          obtain ⟨zg15, hB⟩ := hB
          obtain ⟨hP1, hK1, hD1⟩ := hB
          rw [ht] at hP1
          have hK1 := va_K.moved hvm.symm hK1
          obtain ⟨hP, hD⟩ := va_join (wr := [(h0, .inr (11, [.ref t0, .ref b0, .ref c0, .ref r0, .ref d0, .ref e0, .ref o0, .ref s0, .ref p0, .ref w0, .int 0, .int 0, .int 0, .int 0, .int ((-1)), .int 0]))]) (w1 := [(b0, .inr (0, [.ref bt, .int 1])), (bt, .inl (cbt, 30, .inr (.inr (.inr (.inr zg15)))))]) hP hD [2, 1] [0] rfl rfl (by decide) (by decide) hk1 hFc hP1 hD1
          have hK := (hK.sub (tys' := []) [] rfl).app hK1
          generalize H1 = H at hP hS ⊢
          have hP : va_P (dC, dI) vwCl [(h0, .inr (11, [.ref t0, .ref b0, .ref c0, .ref r0, .ref d0, .ref e0, .ref o0, .ref s0, .ref p0, .ref w0, .int 0, .int 0, .int 0, .int 0, .int ((-1)), .int 0])), (b0, .inr (0, [.ref bt, .int 1])), (bt, .inl (cbt, 30, .inr (.inr (.inr (.inr zg15)))))] H := hP
          have hD : va_D A [(h0, .inr (11, [.ref t0, .ref b0, .ref c0, .ref r0, .ref d0, .ref e0, .ref o0, .ref s0, .ref p0, .ref w0, .int 0, .int 0, .int 0, .int 0, .int ((-1)), .int 0])), (b0, .inr (0, [.ref bt, .int 1])), (bt, .inl (cbt, 30, .inr (.inr (.inr (.inr zg15)))))] := hD
          have hK : va_K (dC, dI) vwCl [(cbt, .object "PostHouse$Thing")] s := hK
          refine W.widen (k := 4) (n := 22) (by decide) (by decide) ?_
          obtain rfl : r14 = 0 := hw
          have hP9 := hP.sub (ws' := [(h0, .inr (11, [.ref t0, .ref b0, .ref c0, .ref r0, .ref d0, .ref e0, .ref o0, .ref s0, .ref p0, .ref w0, .int 0, .int 0, .int 0, .int 0, .int ((-1)), .int 0])), (b0, .inr (0, [.ref bt, .int 1])), (bt, .inl (cbt, 30, .inr (.inr (.inr (.inr zg15)))))]) [0, 1, 2] rfl
          have hD9 := hD.sub (ws' := [(h0, .inr (11, [.ref t0, .ref b0, .ref c0, .ref r0, .ref d0, .ref e0, .ref o0, .ref s0, .ref p0, .ref w0, .int 0, .int 0, .int 0, .int 0, .int ((-1)), .int 0])), (b0, .inr (0, [.ref bt, .int 1])), (bt, .inl (cbt, 30, .inr (.inr (.inr (.inr zg15)))))]) [0, 1, 2] (by decide) rfl
          have hK9 := hK.sub (tys' := [(cbt, .object "PostHouse$Thing")]) [0] rfl
          refine W.widen (k := 4) (n := 22) (by decide) (by decide) ?_
          refine vx_ret ?_
          exact W.iret (v := 0) hx hb hr (fun t ht hW => ⟨⟨0, (), rfl, ⟨rfl, ⟨by rw [← er1]; exact c2, by rw [← er4]; exact c5, by rw [← er7]; exact c8, by rw [← er10]; exact c11⟩⟩, ⟨zg15, ⟨by rw [ht]; exact hP9, va_K.moved hW.alike hK9, hD9⟩⟩⟩, hS.F ht⟩) hS.2.2 dX11_thing_108
        · obtain ⟨a16, ha16⟩ := hz.2.2.2.2.1 _ (List.mem_of_getElem? (i := 0) rfl)
          have hat : ∀ w ∈ vx_atS RX11 95 "java/lang/IllegalArgumentException" ["java/lang/RuntimeException", "java/lang/Exception"], w.before _ s = true := vx_hat (fun w h => hts w (List.mem_cons_of_mem _ (List.mem_append_left _ (List.mem_append_right _ h)))) (B := [.castable "java/lang/IllegalArgumentException" "java/lang/IllegalArgumentException", .declares (Bundle.initS "java/lang/RuntimeException"), .declares (Bundle.initS "java/lang/Exception"), .declares (Bundle.initS Bundle.tN)]) (by decide +kernel) (vx_c (va_Nw.use rfl (hz.2.2.2.2.2.2.2.1 _ (List.mem_of_getElem? (i := 1) rfl))) (vx_c (va_Nw.use rfl (hz.2.2.2.2.2.2.2.2 _ (List.mem_of_getElem? (i := 0) rfl))) (vx_c (va_Nw.use rfl (hz.2.2.2.2.2.2.2.2 _ (List.mem_of_getElem? (i := 1) rfl))) (vx_c (va_Nw.use rfl (hz.2.2.2.2.2.2.2.2 _ (List.mem_of_getElem? (i := 2) rfl))) vx_n))))
          exact vx_throwS hx hb hl0 (own := RX11) (cls := "java/lang/IllegalArgumentException") (text := "a number of the thing is out of its bounds") (names := ["java/lang/RuntimeException", "java/lang/Exception"]) hown (by decide +kernel) (by decide +kernel) hw0 hw1 ha16 hat (by decide +kernel) (hz.1.narrow hA0) (hz.2.1.narrow hA0) hS (by rw [hml]; exact hl.1) dX11_thing_43 dX11_thing_46 dX11_thing_47 dX11_thing_49 dX11_thing_52 (fun x h9 => (ht0 x h9).elim) (Nat.le_of_ble_eq_true rfl) (Nat.le_of_ble_eq_true rfl) (Nat.le_of_ble_eq_true rfl) (Nat.le_of_ble_eq_true rfl) hlocks (fun t hvm h1 h2 => ⟨(), trivial, ⟨rfl, fun q => by simp only [zGood] at q; obtain ⟨q1, q2, q3, q4⟩ := q; first | exact q1 (by rw [← er10]; exact c11) | exact q2 (by rw [← er10]; exact c11) | exact q3 (by rw [← er10]; exact c11) | exact q4 (by rw [← er10]; exact c11)⟩, zF2 hS h1 h2⟩) hS.2.2 (by decide) (by decide)
set_option maxHeartbeats 4000000 in
set_option maxRecDepth 100000 in
/-- Rules.copy -/
theorem c_copy (l : Launch) (hl0 : l.stackTraces = false) (dC : Nat → ClassId) (dI : Nat → Nat → Nat) (A0 : Nat → Prop) (ad : Nat → Nat) (sz : Nat) (d0 dn dp r0 rn rp : Nat) (cdn cdp crn crp : ClassId) (g1 g2 f1 f2 : Nat → Int32) (hA0 : ∀ q, va_A [(d0, .inr (5, [.ref dn, .ref dp])), (dn, .inl (cdn, 4, .inl g1)), (dp, .inl (cdp, 30, .inl g2)), (r0, .inr (5, [.ref rn, .ref rp])), (rn, .inl (crn, 4, .inl f1)), (rp, .inl (crp, 30, .inl f2))] sz q → A0 q) : Met l yX5_copy wsX5_copy ({ frames := 1, cells := 0, slots := 0, locals := 40 }) (va_Pc [.ref d0, .ref r0] (zPc A0 ad (dC, dI) [(d0, .inr (5, [.ref dn, .ref dp])), (dn, .inl (cdn, 4, .inl g1)), (dp, .inl (cdp, 30, .inl g2)), (r0, .inr (5, [.ref rn, .ref rp])), (rn, .inl (crn, 4, .inl f1)), (rp, .inl (crp, 30, .inl f2))] [(cdn, .int), (cdp, .int), (crn, .int), (crp, .int)] sz)) (va_Qv (fun (_ : Unit) => True) (fun (_ : Unit) (t : State) => ∃ (g3 : Nat → Int32), ∃ (g4 : Nat → Int32), zB (dC, dI) (va_A [(d0, .inr (5, [.ref dn, .ref dp])), (dn, .inl (cdn, 4, .inl g1)), (dp, .inl (cdp, 30, .inl g2)), (r0, .inr (5, [.ref rn, .ref rp])), (rn, .inl (crn, 4, .inl f1)), (rp, .inl (crp, 30, .inl f2))] sz) [(d0, .inr (5, [.ref dn, .ref dp])), (dn, .inl (cdn, 4, .inl g3)), (dp, .inl (cdp, 30, .inl g4)), (r0, .inr (5, [.ref rn, .ref rp])), (rn, .inl (crn, 4, .inl f1)), (rp, .inl (crp, 30, .inl f2))] [(cdn, .int), (cdp, .int), (crn, .int), (crp, .int)] t) (va_A [(d0, .inr (5, [.ref dn, .ref dp])), (dn, .inl (cdn, 4, .inl g1)), (dp, .inl (cdp, 30, .inl g2)), (r0, .inr (5, [.ref rn, .ref rp])), (rn, .inl (crn, 4, .inl f1)), (rp, .inl (crp, 30, .inl f2))] sz)) 0 0 (va_A [(d0, .inr (5, [.ref dn, .ref dp])), (dn, .inl (cdn, 4, .inl g1)), (dp, .inl (cdp, 30, .inl g2)), (r0, .inr (5, [.ref rn, .ref rp])), (rn, .inl (crn, 4, .inl f1)), (rp, .inl (crp, 30, .inl f2))] sz) := by
  refine Met.ofW (cc := cX5_copy) (maxL := 2) (ret := none) (by decide) rfl ?_
  intro p e s m args below meth c s₁ B hml hv
  obtain ⟨rfl, hsz, hz, hP, hK, hD0⟩ := hv
  have hx := B.exec
  have hb := B.bytes
  have hr := B.returns
  have hts := atoms_spec (ws := wsX5_copy) B.pre
  have hown : s.vm.findClass RX5 = some m.cls := findClass_of_methodNamed B.named
  have hlocks := B.notSynchronized
  subst hsz
  have hD := hD0.self (sz := s.heap.size)
  generalize hAe : va_A [(d0, .inr (5, [.ref dn, .ref dp])), (dn, .inl (cdn, 4, .inl g1)), (dp, .inl (cdp, 30, .inl g2)), (r0, .inr (5, [.ref rn, .ref rp])), (rn, .inl (crn, 4, .inl f1)), (rp, .inl (crp, 30, .inl f2))] s.heap.size = A at hD hA0 ⊢
  have hA : ∀ q : Nat, s.heap.size ≤ q → A q := fun q h => by rw [← hAe]; exact Or.inr h
  have hS : va_S A s.heap s.heap [] := va_S.rf
  have hl := lv_entry ([.ref d0, .ref r0]) (n := 2) (Nat.le_of_ble_eq_true rfl)
  rw [lg_entry_eq]
  generalize (lg_sl ([.ref d0, .ref r0]) ++ List.replicate (2 - (lg_sl ([.ref d0, .ref r0])).length) Slot.unset).toArray = ls at hl ⊢
  have hl : lv_has ls 2 [(0, .ref d0), (1, .ref r0)] := hl
  have hP : va_P (dC, dI) vwCl [(d0, .inr (5, [.ref dn, .ref dp])), (dn, .inl (cdn, 4, .inl g1)), (dp, .inl (cdp, 30, .inl g2)), (r0, .inr (5, [.ref rn, .ref rp])), (rn, .inl (crn, 4, .inl f1)), (rp, .inl (crp, 30, .inl f2))] s.heap := hP
  have hiX5 : ∀ w ∈ u_ws RX5 TX5 2, w ∈ wsX5_copy := fun _ h => List.mem_cons_of_mem _ (List.mem_append_right _ h)
  have hw1 := hts (.fieldLink RX5 9 "PostHouse$Rules" "numbers" "[I") (by decide +kernel)
  have hw2 := hts (.methodLink RX5 18 arraycopyName) (by decide +kernel)
  have hw3 := hts (.native arraycopyName) (by decide +kernel)
  have hw4 := hts (.static arraycopyName) (by decide +kernel)
  have hw5 := hts (.initialized "java/lang/System") (by decide +kernel)
  have hw6 := hts (.fieldLink RX5 15 "PostHouse$Rules" "places" "[I") (by decide +kernel)
  refine lv_aload_n hx hb dX5_copy_0 rfl (lv_at hl 1 rfl) ?_
  refine va_get (D := (dC, dI)) (ci := 5) (v := .ref rn) (C := RX5) (T := TX5) (N := 2) hx hb hts hiX5 hown hK hP 3 rfl rfl 0 (by decide) hw1 (fun _ h9 => h9) rfl dX5_copy_1 ?_
  refine lv_iconst (v := 0) hx hb dX5_copy_4 (by decide) ?_
  refine lv_aload_n hx hb dX5_copy_5 rfl (lv_at hl 0 rfl) ?_
  refine va_get (D := (dC, dI)) (ci := 5) (v := .ref dn) (C := RX5) (T := TX5) (N := 2) hx hb hts hiX5 hown hK hP 0 rfl rfl 0 (by decide) hw1 (fun _ h9 => h9) rfl dX5_copy_6 ?_
  refine lv_iconst (v := 0) hx hb dX5_copy_9 (by decide) ?_
  refine lv_iconst (v := 4) hx hb dX5_copy_10 (by decide) ?_
  refine va_copyi (D := (dC, dI)) hx hb (by rw [hml]; exact hl.1.symm) hown hw2 hw3 hw4 hw5 hK hP hD hS 4 1 2 0 rfl rfl rfl rfl rfl (by decide) (by decide) (by decide) (by decide) (by decide) (fun _ _ => rfl) (Nat.le_of_ble_eq_true rfl) (by decide +kernel) dX5_copy_11 (fun H locs hP hD hS => ?_)
  have hP : va_P (dC, dI) vwCl [(d0, .inr (5, [.ref dn, .ref dp])), (dn, .inl (cdn, 4, .inl (va_cpy f1 g1 (0 : Int32).toNatClampNeg (0 : Int32).toNatClampNeg (4 : Int32).toNatClampNeg))), (dp, .inl (cdp, 30, .inl g2)), (r0, .inr (5, [.ref rn, .ref rp])), (rn, .inl (crn, 4, .inl f1)), (rp, .inl (crp, 30, .inl f2))] H := hP
  have hD : va_D A [(d0, .inr (5, [.ref dn, .ref dp])), (dn, .inl (cdn, 4, .inl (va_cpy f1 g1 (0 : Int32).toNatClampNeg (0 : Int32).toNatClampNeg (4 : Int32).toNatClampNeg))), (dp, .inl (cdp, 30, .inl g2)), (r0, .inr (5, [.ref rn, .ref rp])), (rn, .inl (crn, 4, .inl f1)), (rp, .inl (crp, 30, .inl f2))] := hD
  generalize (va_cpy f1 g1 (0 : Int32).toNatClampNeg (0 : Int32).toNatClampNeg (4 : Int32).toNatClampNeg) = zf1 at hP hD
  refine lv_aload_n hx hb dX5_copy_14 rfl (lv_at hl 1 rfl) ?_
  refine va_get (D := (dC, dI)) (ci := 5) (v := .ref rp) (C := RX5) (T := TX5) (N := 2) hx hb hts hiX5 hown hK hP 3 rfl rfl 1 (by decide) hw6 (fun _ h9 => h9) rfl dX5_copy_15 ?_
  refine lv_iconst (v := 0) hx hb dX5_copy_18 (by decide) ?_
  refine lv_aload_n hx hb dX5_copy_19 rfl (lv_at hl 0 rfl) ?_
  refine va_get (D := (dC, dI)) (ci := 5) (v := .ref dp) (C := RX5) (T := TX5) (N := 2) hx hb hts hiX5 hown hK hP 0 rfl rfl 1 (by decide) hw6 (fun _ h9 => h9) rfl dX5_copy_20 ?_
  refine lv_iconst (v := 0) hx hb dX5_copy_23 (by decide) ?_
  refine lv_bipush (v := 30) hx hb dX5_copy_24 (by decide) ?_
  refine va_copyi (D := (dC, dI)) hx hb (by rw [hml]; exact hl.1.symm) hown hw2 hw3 hw4 hw5 hK hP hD hS 5 2 3 1 rfl rfl rfl rfl rfl (by decide) (by decide) (by decide) (by decide) (by decide) (fun _ _ => rfl) (Nat.le_of_ble_eq_true rfl) (by decide +kernel) dX5_copy_26 (fun H locs hP hD hS => ?_)
  have hP : va_P (dC, dI) vwCl [(d0, .inr (5, [.ref dn, .ref dp])), (dn, .inl (cdn, 4, .inl zf1)), (dp, .inl (cdp, 30, .inl (va_cpy f2 g2 (0 : Int32).toNatClampNeg (0 : Int32).toNatClampNeg (30 : Int32).toNatClampNeg))), (r0, .inr (5, [.ref rn, .ref rp])), (rn, .inl (crn, 4, .inl f1)), (rp, .inl (crp, 30, .inl f2))] H := hP
  have hD : va_D A [(d0, .inr (5, [.ref dn, .ref dp])), (dn, .inl (cdn, 4, .inl zf1)), (dp, .inl (cdp, 30, .inl (va_cpy f2 g2 (0 : Int32).toNatClampNeg (0 : Int32).toNatClampNeg (30 : Int32).toNatClampNeg))), (r0, .inr (5, [.ref rn, .ref rp])), (rn, .inl (crn, 4, .inl f1)), (rp, .inl (crp, 30, .inl f2))] := hD
  generalize (va_cpy f2 g2 (0 : Int32).toNatClampNeg (0 : Int32).toNatClampNeg (30 : Int32).toNatClampNeg) = zf2 at hP hD
  have hP9 := hP.sub (ws' := [(d0, .inr (5, [.ref dn, .ref dp])), (dn, .inl (cdn, 4, .inl zf1)), (dp, .inl (cdp, 30, .inl zf2)), (r0, .inr (5, [.ref rn, .ref rp])), (rn, .inl (crn, 4, .inl f1)), (rp, .inl (crp, 30, .inl f2))]) [0, 1, 2, 3, 4, 5] rfl
  have hD9 := hD.sub (ws' := [(d0, .inr (5, [.ref dn, .ref dp])), (dn, .inl (cdn, 4, .inl zf1)), (dp, .inl (cdp, 30, .inl zf2)), (r0, .inr (5, [.ref rn, .ref rp])), (rn, .inl (crn, 4, .inl f1)), (rp, .inl (crp, 30, .inl f2))]) [0, 1, 2, 3, 4, 5] (by decide) rfl
  have hK9 := hK.sub (tys' := [(cdn, .int), (cdp, .int), (crn, .int), (crp, .int)]) [0, 1, 2, 3] rfl
  refine W.widen (k := 0) (n := 0) (by decide) (by decide) ?_
  exact W.vret hx hb hr (fun t ht hW => ⟨⟨(), rfl, trivial, ⟨zf1, zf2, ⟨by rw [ht]; exact hP9, va_K.moved hW.alike hK9, hD9⟩⟩⟩, hS.F ht⟩) hS.2.2 dX5_copy_29
set_option maxHeartbeats 4000000 in
set_option maxRecDepth 100000 in
/-- readKind on an empty tape -/
theorem c_readKind (l : Launch) (hl0 : l.stackTraces = false) (dC : Nat → ClassId) (dI : Nat → Nat → Nat) (A0 : Nat → Prop) (ad : Nat → Nat) (sz : Nat) (h0 t0 b0 c0 r0 d0 e0 o0 s0 p0 w0 : Nat) (tb : Nat) (hA0 : ∀ q, va_A [(h0, .inr (11, [.ref t0, .ref b0, .ref c0, .ref r0, .ref d0, .ref e0, .ref o0, .ref s0, .ref p0, .ref w0, .int 0, .int 0, .int 0, .int 0, .int ((-1)), .int 0])), (t0, .inr (7, [.ref tb, .int 0, .int 0, .int ((-1))]))] sz q → A0 q) : Met l yX11_readKind wsX11_readKind ({ frames := 3, cells := 0, slots := 0, locals := 63 }) (va_Pc [.ref h0] (zPc A0 ad (dC, dI) [(h0, .inr (11, [.ref t0, .ref b0, .ref c0, .ref r0, .ref d0, .ref e0, .ref o0, .ref s0, .ref p0, .ref w0, .int 0, .int 0, .int 0, .int 0, .int ((-1)), .int 0])), (t0, .inr (7, [.ref tb, .int 0, .int 0, .int ((-1))]))] [] sz)) (va_Qi (fun (r : Int32) (_ : Unit) => r = -1) (fun (_ : Unit) (t : State) => zB (dC, dI) (va_A [(h0, .inr (11, [.ref t0, .ref b0, .ref c0, .ref r0, .ref d0, .ref e0, .ref o0, .ref s0, .ref p0, .ref w0, .int 0, .int 0, .int 0, .int 0, .int ((-1)), .int 0])), (t0, .inr (7, [.ref tb, .int 0, .int 0, .int ((-1))]))] sz) [(h0, .inr (11, [.ref t0, .ref b0, .ref c0, .ref r0, .ref d0, .ref e0, .ref o0, .ref s0, .ref p0, .ref w0, .int 0, .int 0, .int 0, .int 0, .int ((-1)), .int 0])), (t0, .inr (7, [.ref tb, .int 0, .int 0, .int ((-1))]))] [] t) (va_A [(h0, .inr (11, [.ref t0, .ref b0, .ref c0, .ref r0, .ref d0, .ref e0, .ref o0, .ref s0, .ref p0, .ref w0, .int 0, .int 0, .int 0, .int 0, .int ((-1)), .int 0])), (t0, .inr (7, [.ref tb, .int 0, .int 0, .int ((-1))]))] sz)) 0 0 (va_A [(h0, .inr (11, [.ref t0, .ref b0, .ref c0, .ref r0, .ref d0, .ref e0, .ref o0, .ref s0, .ref p0, .ref w0, .int 0, .int 0, .int 0, .int 0, .int ((-1)), .int 0])), (t0, .inr (7, [.ref tb, .int 0, .int 0, .int ((-1))]))] sz) := by
  refine Met.ofW (cc := cX11_readKind) (maxL := 1) (ret := (some .int)) (by decide) rfl ?_
  intro p e s m args below meth c s₁ B hml hv
  obtain ⟨rfl, hsz, hz, hP, hK, hD0⟩ := hv
  have hx := B.exec
  have hb := B.bytes
  have hr := B.returns
  have hts := atoms_spec (ws := wsX11_readKind) B.pre
  have hown : s.vm.findClass RX11 = some m.cls := findClass_of_methodNamed B.named
  have hlocks := B.notSynchronized
  subst hsz
  have hD := hD0.self (sz := s.heap.size)
  generalize hAe : va_A [(h0, .inr (11, [.ref t0, .ref b0, .ref c0, .ref r0, .ref d0, .ref e0, .ref o0, .ref s0, .ref p0, .ref w0, .int 0, .int 0, .int 0, .int 0, .int ((-1)), .int 0])), (t0, .inr (7, [.ref tb, .int 0, .int 0, .int ((-1))]))] s.heap.size = A at hD hA0 ⊢
  have hA : ∀ q : Nat, s.heap.size ≤ q → A q := fun q h => by rw [← hAe]; exact Or.inr h
  have hS : va_S A s.heap s.heap [] := va_S.rf
  have hl := lv_entry ([.ref h0]) (n := 1) (Nat.le_of_ble_eq_true rfl)
  rw [lg_entry_eq]
  generalize (lg_sl ([.ref h0]) ++ List.replicate (1 - (lg_sl ([.ref h0])).length) Slot.unset).toArray = ls at hl ⊢
  have hl : lv_has ls 1 [(0, .ref h0)] := hl
  have hP : va_P (dC, dI) vwCl [(h0, .inr (11, [.ref t0, .ref b0, .ref c0, .ref r0, .ref d0, .ref e0, .ref o0, .ref s0, .ref p0, .ref w0, .int 0, .int 0, .int 0, .int 0, .int ((-1)), .int 0])), (t0, .inr (7, [.ref tb, .int 0, .int 0, .int ((-1))]))] s.heap := hP
  have hiX11 : ∀ w ∈ u_ws RX11 TX11 16, w ∈ wsX11_readKind := fun _ h => List.mem_cons_of_mem _ (List.mem_append_left _ (List.mem_append_right _ h))
  have hw1 := hts (.fieldLink RX11 10 "PostHouse" "tape" "LPostHouse$Tape;") (by decide +kernel)
  refine lv_aload_n hx hb dX11_readKind_0 rfl (lv_at hl 0 rfl) ?_
  refine va_get (D := (dC, dI)) (ci := 11) (v := .ref t0) (C := RX11) (T := TX11) (N := 16) hx hb hts hiX11 hown hK hP 0 rfl rfl 0 (by decide) hw1 (fun _ h9 => h9) rfl dX11_readKind_1 ?_
  refine zLdcW hx hb hown (hz.2.2.2.1 1 _ rfl).2 dX11_readKind_4 ?_
  have hPc := hP.sub (ws' := [(t0, .inr (7, [.ref tb, .int 0, .int 0, .int ((-1))]))]) [1] rfl
  have hDc := hD.sub (ws' := [(t0, .inr (7, [.ref tb, .int 0, .int 0, .int ((-1))]))]) [1] (by decide) rfl
  have hKc := hK.sub (tys' := []) [] rfl
  have hFc := va_free (wc := [(t0, .inr (7, [.ref tb, .int 0, .int 0, .int ((-1))]))]) hD hS hA [1] rfl
  refine va_calli (va_runV (As := [.ref ((ad 1))]) (rest := []) ⟨hx, hb, hml, hown, hts⟩ (c_takesWord_a l hl0 dC dI A0 ad s.heap.size t0 tb 1 _ rfl (fun q h => hA0 q (hFc q h))) (cwV 1 hts gX11_readKind_X7_takesWord rfl rfl rfl (by decide +kernel) ⟨Nat.le_of_ble_eq_true rfl, Nat.le_of_ble_eq_true rfl⟩) ⟨zPc_bl, va_recv hKc hPc (ci := 7) (q0 := 0) rfl rfl, zPc_at hz hS hA0 hPc hKc hDc⟩ rfl rfl hl.1 rfl (lv_room (Nat.le_of_ble_eq_true rfl)) dX11_readKind_7 ⟨Nat.le_of_ble_eq_true rfl, Nat.le_of_ble_eq_true rfl⟩) hS (fun q _ h => hFc q h) hFc (fun r1 u t H1 locs ht hvm hw hB hz1 hk1 hS => ?_)
  obtain ⟨hP1, hK1, hD1⟩ := hB
  rw [ht] at hP1
  have hK1 := va_K.moved hvm.symm hK1
  obtain ⟨hP, hD⟩ := va_join (wr := [(h0, .inr (11, [.ref t0, .ref b0, .ref c0, .ref r0, .ref d0, .ref e0, .ref o0, .ref s0, .ref p0, .ref w0, .int 0, .int 0, .int 0, .int 0, .int ((-1)), .int 0]))]) (w1 := [(t0, .inr (7, [.ref tb, .int 0, .int 0, .int ((-1))]))]) hP hD [1] [0] rfl rfl (by decide) (by decide) hk1 hFc hP1 hD1
  have hK := (hK.sub (tys' := []) [] rfl).app hK1
  generalize H1 = H at hP hS ⊢
  have hP : va_P (dC, dI) vwCl [(h0, .inr (11, [.ref t0, .ref b0, .ref c0, .ref r0, .ref d0, .ref e0, .ref o0, .ref s0, .ref p0, .ref w0, .int 0, .int 0, .int 0, .int 0, .int ((-1)), .int 0])), (t0, .inr (7, [.ref tb, .int 0, .int 0, .int ((-1))]))] H := hP
  have hD : va_D A [(h0, .inr (11, [.ref t0, .ref b0, .ref c0, .ref r0, .ref d0, .ref e0, .ref o0, .ref s0, .ref p0, .ref w0, .int 0, .int 0, .int 0, .int 0, .int ((-1)), .int 0])), (t0, .inr (7, [.ref tb, .int 0, .int 0, .int ((-1))]))] := hD
  have hK : va_K (dC, dI) vwCl [] s := hK
  obtain rfl : r1 = 0 := hw
  refine lv_if_eq (tgt := 15) hx hb dX11_readKind_10 (by decide) (fun c2 => ?_) (fun c2 => absurd (by decide) c2)
  refine lv_aload_n hx hb dX11_readKind_15 rfl (lv_at hl 0 rfl) ?_
  refine va_get (D := (dC, dI)) (ci := 11) (v := .ref t0) (C := RX11) (T := TX11) (N := 16) hx hb hts hiX11 hown hK hP 0 rfl rfl 0 (by decide) hw1 (fun _ h9 => h9) rfl dX11_readKind_16 ?_
  refine zLdcW hx hb hown (hz.2.2.2.1 2 _ rfl).2 dX11_readKind_19 ?_
  have hPc := hP.sub (ws' := [(t0, .inr (7, [.ref tb, .int 0, .int 0, .int ((-1))]))]) [1] rfl
  have hDc := hD.sub (ws' := [(t0, .inr (7, [.ref tb, .int 0, .int 0, .int ((-1))]))]) [1] (by decide) rfl
  have hKc := hK.sub (tys' := []) [] rfl
  have hFc := va_free (wc := [(t0, .inr (7, [.ref tb, .int 0, .int 0, .int ((-1))]))]) hD hS hA [1] rfl
  refine va_calli (va_runV (As := [.ref ((ad 2))]) (rest := []) ⟨hx, hb, hml, hown, hts⟩ (c_takesWord_a l hl0 dC dI A0 ad H.size t0 tb 2 _ rfl (fun q h => hA0 q (hFc q h))) (cwV 1 hts gX11_readKind_X7_takesWord rfl rfl rfl (by decide +kernel) ⟨Nat.le_of_ble_eq_true rfl, Nat.le_of_ble_eq_true rfl⟩) ⟨zPc_bl, va_recv hKc hPc (ci := 7) (q0 := 0) rfl rfl, zPc_at hz hS hA0 hPc hKc hDc⟩ rfl rfl hl.1 rfl (lv_room (Nat.le_of_ble_eq_true rfl)) dX11_readKind_22 ⟨Nat.le_of_ble_eq_true rfl, Nat.le_of_ble_eq_true rfl⟩) hS (fun q _ h => hFc q h) hFc (fun r3 u t H1 locs ht hvm hw hB hz1 hk1 hS => ?_)
  obtain ⟨hP1, hK1, hD1⟩ := hB
  rw [ht] at hP1
  have hK1 := va_K.moved hvm.symm hK1
  obtain ⟨hP, hD⟩ := va_join (wr := [(h0, .inr (11, [.ref t0, .ref b0, .ref c0, .ref r0, .ref d0, .ref e0, .ref o0, .ref s0, .ref p0, .ref w0, .int 0, .int 0, .int 0, .int 0, .int ((-1)), .int 0]))]) (w1 := [(t0, .inr (7, [.ref tb, .int 0, .int 0, .int ((-1))]))]) hP hD [1] [0] rfl rfl (by decide) (by decide) hk1 hFc hP1 hD1
  have hK := (hK.sub (tys' := []) [] rfl).app hK1
  generalize H1 = H at hP hS ⊢
  have hP : va_P (dC, dI) vwCl [(h0, .inr (11, [.ref t0, .ref b0, .ref c0, .ref r0, .ref d0, .ref e0, .ref o0, .ref s0, .ref p0, .ref w0, .int 0, .int 0, .int 0, .int 0, .int ((-1)), .int 0])), (t0, .inr (7, [.ref tb, .int 0, .int 0, .int ((-1))]))] H := hP
  have hD : va_D A [(h0, .inr (11, [.ref t0, .ref b0, .ref c0, .ref r0, .ref d0, .ref e0, .ref o0, .ref s0, .ref p0, .ref w0, .int 0, .int 0, .int 0, .int 0, .int ((-1)), .int 0])), (t0, .inr (7, [.ref tb, .int 0, .int 0, .int ((-1))]))] := hD
  have hK : va_K (dC, dI) vwCl [] s := hK
  obtain rfl : r3 = 0 := hw
  refine lv_if_eq (tgt := 30) hx hb dX11_readKind_25 (by decide) (fun c4 => ?_) (fun c4 => absurd (by decide) c4)
  refine lv_aload_n hx hb dX11_readKind_30 rfl (lv_at hl 0 rfl) ?_
  refine va_get (D := (dC, dI)) (ci := 11) (v := .ref t0) (C := RX11) (T := TX11) (N := 16) hx hb hts hiX11 hown hK hP 0 rfl rfl 0 (by decide) hw1 (fun _ h9 => h9) rfl dX11_readKind_31 ?_
  refine zLdcW hx hb hown (hz.2.2.2.1 3 _ rfl).2 dX11_readKind_34 ?_
  have hPc := hP.sub (ws' := [(t0, .inr (7, [.ref tb, .int 0, .int 0, .int ((-1))]))]) [1] rfl
  have hDc := hD.sub (ws' := [(t0, .inr (7, [.ref tb, .int 0, .int 0, .int ((-1))]))]) [1] (by decide) rfl
  have hKc := hK.sub (tys' := []) [] rfl
  have hFc := va_free (wc := [(t0, .inr (7, [.ref tb, .int 0, .int 0, .int ((-1))]))]) hD hS hA [1] rfl
  refine va_calli (va_runV (As := [.ref ((ad 3))]) (rest := []) ⟨hx, hb, hml, hown, hts⟩ (c_takesWord_a l hl0 dC dI A0 ad H.size t0 tb 3 _ rfl (fun q h => hA0 q (hFc q h))) (cwV 1 hts gX11_readKind_X7_takesWord rfl rfl rfl (by decide +kernel) ⟨Nat.le_of_ble_eq_true rfl, Nat.le_of_ble_eq_true rfl⟩) ⟨zPc_bl, va_recv hKc hPc (ci := 7) (q0 := 0) rfl rfl, zPc_at hz hS hA0 hPc hKc hDc⟩ rfl rfl hl.1 rfl (lv_room (Nat.le_of_ble_eq_true rfl)) dX11_readKind_37 ⟨Nat.le_of_ble_eq_true rfl, Nat.le_of_ble_eq_true rfl⟩) hS (fun q _ h => hFc q h) hFc (fun r5 u t H1 locs ht hvm hw hB hz1 hk1 hS => ?_)
  obtain ⟨hP1, hK1, hD1⟩ := hB
  rw [ht] at hP1
  have hK1 := va_K.moved hvm.symm hK1
  obtain ⟨hP, hD⟩ := va_join (wr := [(h0, .inr (11, [.ref t0, .ref b0, .ref c0, .ref r0, .ref d0, .ref e0, .ref o0, .ref s0, .ref p0, .ref w0, .int 0, .int 0, .int 0, .int 0, .int ((-1)), .int 0]))]) (w1 := [(t0, .inr (7, [.ref tb, .int 0, .int 0, .int ((-1))]))]) hP hD [1] [0] rfl rfl (by decide) (by decide) hk1 hFc hP1 hD1
  have hK := (hK.sub (tys' := []) [] rfl).app hK1
  generalize H1 = H at hP hS ⊢
  have hP : va_P (dC, dI) vwCl [(h0, .inr (11, [.ref t0, .ref b0, .ref c0, .ref r0, .ref d0, .ref e0, .ref o0, .ref s0, .ref p0, .ref w0, .int 0, .int 0, .int 0, .int 0, .int ((-1)), .int 0])), (t0, .inr (7, [.ref tb, .int 0, .int 0, .int ((-1))]))] H := hP
  have hD : va_D A [(h0, .inr (11, [.ref t0, .ref b0, .ref c0, .ref r0, .ref d0, .ref e0, .ref o0, .ref s0, .ref p0, .ref w0, .int 0, .int 0, .int 0, .int 0, .int ((-1)), .int 0])), (t0, .inr (7, [.ref tb, .int 0, .int 0, .int ((-1))]))] := hD
  have hK : va_K (dC, dI) vwCl [] s := hK
  obtain rfl : r5 = 0 := hw
  refine lv_if_eq (tgt := 45) hx hb dX11_readKind_40 (by decide) (fun c6 => ?_) (fun c6 => absurd (by decide) c6)
  refine lv_aload_n hx hb dX11_readKind_45 rfl (lv_at hl 0 rfl) ?_
  refine va_get (D := (dC, dI)) (ci := 11) (v := .ref t0) (C := RX11) (T := TX11) (N := 16) hx hb hts hiX11 hown hK hP 0 rfl rfl 0 (by decide) hw1 (fun _ h9 => h9) rfl dX11_readKind_46 ?_
  refine zLdcW hx hb hown (hz.2.2.2.1 4 _ rfl).2 dX11_readKind_49 ?_
  have hPc := hP.sub (ws' := [(t0, .inr (7, [.ref tb, .int 0, .int 0, .int ((-1))]))]) [1] rfl
  have hDc := hD.sub (ws' := [(t0, .inr (7, [.ref tb, .int 0, .int 0, .int ((-1))]))]) [1] (by decide) rfl
  have hKc := hK.sub (tys' := []) [] rfl
  have hFc := va_free (wc := [(t0, .inr (7, [.ref tb, .int 0, .int 0, .int ((-1))]))]) hD hS hA [1] rfl
  refine va_calli (va_runV (As := [.ref ((ad 4))]) (rest := []) ⟨hx, hb, hml, hown, hts⟩ (c_takesWord_a l hl0 dC dI A0 ad H.size t0 tb 4 _ rfl (fun q h => hA0 q (hFc q h))) (cwV 1 hts gX11_readKind_X7_takesWord rfl rfl rfl (by decide +kernel) ⟨Nat.le_of_ble_eq_true rfl, Nat.le_of_ble_eq_true rfl⟩) ⟨zPc_bl, va_recv hKc hPc (ci := 7) (q0 := 0) rfl rfl, zPc_at hz hS hA0 hPc hKc hDc⟩ rfl rfl hl.1 rfl (lv_room (Nat.le_of_ble_eq_true rfl)) dX11_readKind_52 ⟨Nat.le_of_ble_eq_true rfl, Nat.le_of_ble_eq_true rfl⟩) hS (fun q _ h => hFc q h) hFc (fun r7 u t H1 locs ht hvm hw hB hz1 hk1 hS => ?_)
  obtain ⟨hP1, hK1, hD1⟩ := hB
  rw [ht] at hP1
  have hK1 := va_K.moved hvm.symm hK1
  obtain ⟨hP, hD⟩ := va_join (wr := [(h0, .inr (11, [.ref t0, .ref b0, .ref c0, .ref r0, .ref d0, .ref e0, .ref o0, .ref s0, .ref p0, .ref w0, .int 0, .int 0, .int 0, .int 0, .int ((-1)), .int 0]))]) (w1 := [(t0, .inr (7, [.ref tb, .int 0, .int 0, .int ((-1))]))]) hP hD [1] [0] rfl rfl (by decide) (by decide) hk1 hFc hP1 hD1
  have hK := (hK.sub (tys' := []) [] rfl).app hK1
  generalize H1 = H at hP hS ⊢
  have hP : va_P (dC, dI) vwCl [(h0, .inr (11, [.ref t0, .ref b0, .ref c0, .ref r0, .ref d0, .ref e0, .ref o0, .ref s0, .ref p0, .ref w0, .int 0, .int 0, .int 0, .int 0, .int ((-1)), .int 0])), (t0, .inr (7, [.ref tb, .int 0, .int 0, .int ((-1))]))] H := hP
  have hD : va_D A [(h0, .inr (11, [.ref t0, .ref b0, .ref c0, .ref r0, .ref d0, .ref e0, .ref o0, .ref s0, .ref p0, .ref w0, .int 0, .int 0, .int 0, .int 0, .int ((-1)), .int 0])), (t0, .inr (7, [.ref tb, .int 0, .int 0, .int ((-1))]))] := hD
  have hK : va_K (dC, dI) vwCl [] s := hK
  obtain rfl : r7 = 0 := hw
  refine lv_if_eq (tgt := 62) hx hb dX11_readKind_55 (by decide) (fun c8 => ?_) (fun c8 => absurd (by decide) c8)
  refine lv_iconst (v := (-1)) hx hb dX11_readKind_62 (by decide) ?_
  have hP9 := hP.sub (ws' := [(h0, .inr (11, [.ref t0, .ref b0, .ref c0, .ref r0, .ref d0, .ref e0, .ref o0, .ref s0, .ref p0, .ref w0, .int 0, .int 0, .int 0, .int 0, .int ((-1)), .int 0])), (t0, .inr (7, [.ref tb, .int 0, .int 0, .int ((-1))]))]) [0, 1] rfl
  have hD9 := hD.sub (ws' := [(h0, .inr (11, [.ref t0, .ref b0, .ref c0, .ref r0, .ref d0, .ref e0, .ref o0, .ref s0, .ref p0, .ref w0, .int 0, .int 0, .int 0, .int 0, .int ((-1)), .int 0])), (t0, .inr (7, [.ref tb, .int 0, .int 0, .int ((-1))]))]) [0, 1] (by decide) rfl
  have hK9 := hK.sub (tys' := []) [] rfl
  refine W.widen (k := 0) (n := 0) (by decide) (by decide) ?_
  exact W.iret (v := (-1)) hx hb hr (fun t ht hW => ⟨⟨(-1), (), rfl, rfl, ⟨by rw [ht]; exact hP9, va_K.moved hW.alike hK9, hD9⟩⟩, hS.F ht⟩) hS.2.2 dX11_readKind_63
set_option maxHeartbeats 4000000 in
set_option maxRecDepth 100000 in
/-- readRule on an empty tape -/
theorem c_readRule (l : Launch) (hl0 : l.stackTraces = false) (dC : Nat → ClassId) (dI : Nat → Nat → Nat) (A0 : Nat → Prop) (ad : Nat → Nat) (sz : Nat) (h0 t0 b0 c0 r0 d0 e0 o0 s0 p0 w0 : Nat) (tb : Nat) (hA0 : ∀ q, va_A [(h0, .inr (11, [.ref t0, .ref b0, .ref c0, .ref r0, .ref d0, .ref e0, .ref o0, .ref s0, .ref p0, .ref w0, .int 0, .int 0, .int 0, .int 0, .int ((-1)), .int 0])), (t0, .inr (7, [.ref tb, .int 0, .int 0, .int ((-1))]))] sz q → A0 q) : Met l yX11_readRule wsX11_readRule ({ frames := 4, cells := 0, slots := 0, locals := 83 }) (va_Pc [.ref h0] (zPc A0 ad (dC, dI) [(h0, .inr (11, [.ref t0, .ref b0, .ref c0, .ref r0, .ref d0, .ref e0, .ref o0, .ref s0, .ref p0, .ref w0, .int 0, .int 0, .int 0, .int 0, .int ((-1)), .int 0])), (t0, .inr (7, [.ref tb, .int 0, .int 0, .int ((-1))]))] [] sz)) (va_Qv (fun (_ : Unit) => True) (fun (_ : Unit) (t : State) => zB (dC, dI) (va_A [(h0, .inr (11, [.ref t0, .ref b0, .ref c0, .ref r0, .ref d0, .ref e0, .ref o0, .ref s0, .ref p0, .ref w0, .int 0, .int 0, .int 0, .int 0, .int ((-1)), .int 0])), (t0, .inr (7, [.ref tb, .int 0, .int 0, .int ((-1))]))] sz) [(h0, .inr (11, [.ref t0, .ref b0, .ref c0, .ref r0, .ref d0, .ref e0, .ref o0, .ref s0, .ref p0, .ref w0, .int 0, .int 0, .int 0, .int 0, .int ((-1)), .int 0])), (t0, .inr (7, [.ref tb, .int 0, .int 0, .int 0]))] [] t) (va_A [(h0, .inr (11, [.ref t0, .ref b0, .ref c0, .ref r0, .ref d0, .ref e0, .ref o0, .ref s0, .ref p0, .ref w0, .int 0, .int 0, .int 0, .int 0, .int ((-1)), .int 0])), (t0, .inr (7, [.ref tb, .int 0, .int 0, .int ((-1))]))] sz)) 0 0 (va_A [(h0, .inr (11, [.ref t0, .ref b0, .ref c0, .ref r0, .ref d0, .ref e0, .ref o0, .ref s0, .ref p0, .ref w0, .int 0, .int 0, .int 0, .int 0, .int ((-1)), .int 0])), (t0, .inr (7, [.ref tb, .int 0, .int 0, .int ((-1))]))] sz) := by
  refine Met.ofW (cc := cX11_readRule) (maxL := 2) (ret := none) (by decide) rfl ?_
  intro p e s m args below meth c s₁ B hml hv
  obtain ⟨rfl, hsz, hz, hP, hK, hD0⟩ := hv
  have hx := B.exec
  have hb := B.bytes
  have hr := B.returns
  have hts := atoms_spec (ws := wsX11_readRule) B.pre
  have hown : s.vm.findClass RX11 = some m.cls := findClass_of_methodNamed B.named
  have hlocks := B.notSynchronized
  subst hsz
  have hD := hD0.self (sz := s.heap.size)
  generalize hAe : va_A [(h0, .inr (11, [.ref t0, .ref b0, .ref c0, .ref r0, .ref d0, .ref e0, .ref o0, .ref s0, .ref p0, .ref w0, .int 0, .int 0, .int 0, .int 0, .int ((-1)), .int 0])), (t0, .inr (7, [.ref tb, .int 0, .int 0, .int ((-1))]))] s.heap.size = A at hD hA0 ⊢
  have hA : ∀ q : Nat, s.heap.size ≤ q → A q := fun q h => by rw [← hAe]; exact Or.inr h
  have hS : va_S A s.heap s.heap [] := va_S.rf
  have hl := lv_entry ([.ref h0]) (n := 2) (Nat.le_of_ble_eq_true rfl)
  rw [lg_entry_eq]
  generalize (lg_sl ([.ref h0]) ++ List.replicate (2 - (lg_sl ([.ref h0])).length) Slot.unset).toArray = ls at hl ⊢
  have hl : lv_has ls 2 [(0, .ref h0)] := hl
  have hP : va_P (dC, dI) vwCl [(h0, .inr (11, [.ref t0, .ref b0, .ref c0, .ref r0, .ref d0, .ref e0, .ref o0, .ref s0, .ref p0, .ref w0, .int 0, .int 0, .int 0, .int 0, .int ((-1)), .int 0])), (t0, .inr (7, [.ref tb, .int 0, .int 0, .int ((-1))]))] s.heap := hP
  have hiX11 : ∀ w ∈ u_ws RX11 TX11 16, w ∈ wsX11_readRule := fun _ h => List.mem_cons_of_mem _ (List.mem_append_left _ (List.mem_append_left _ (List.mem_append_left _ (List.mem_append_left _ (List.mem_append_right _ h)))))
  have hw1 := hts (.fieldLink RX11 10 "PostHouse" "tape" "LPostHouse$Tape;") (by decide +kernel)
  have hiX7 : ∀ w ∈ u_ws RX7 TX7 4, w ∈ wsX11_readRule := fun _ h => List.mem_cons_of_mem _ (List.mem_append_left _ (List.mem_append_left _ (List.mem_append_left _ (List.mem_append_right _ h))))
  have hw3 := hts (.fieldLink RX11 413 "PostHouse$Tape" "next" "I") (by decide +kernel)
  refine lv_aload_n hx hb dX11_readRule_0 rfl (lv_at hl 0 rfl) ?_
  refine va_get (D := (dC, dI)) (ci := 11) (v := .ref t0) (C := RX11) (T := TX11) (N := 16) hx hb hts hiX11 hown hK hP 0 rfl rfl 0 (by decide) hw1 (fun _ h9 => h9) rfl dX11_readRule_1 ?_
  refine zLdcW hx hb hown (hz.2.2.2.1 0 _ rfl).2 dX11_readRule_4 ?_
  have hPc := hP.sub (ws' := [(t0, .inr (7, [.ref tb, .int 0, .int 0, .int ((-1))]))]) [1] rfl
  have hDc := hD.sub (ws' := [(t0, .inr (7, [.ref tb, .int 0, .int 0, .int ((-1))]))]) [1] (by decide) rfl
  have hKc := hK.sub (tys' := []) [] rfl
  have hFc := va_free (wc := [(t0, .inr (7, [.ref tb, .int 0, .int 0, .int ((-1))]))]) hD hS hA [1] rfl
  refine va_calli (va_runV (As := [.ref ((ad 0))]) (rest := []) ⟨hx, hb, hml, hown, hts⟩ (c_takesWord_a l hl0 dC dI A0 ad s.heap.size t0 tb 0 _ rfl (fun q h => hA0 q (hFc q h))) (cwV 1 hts gX11_readRule_X7_takesWord rfl rfl rfl (by decide +kernel) ⟨Nat.le_of_ble_eq_true rfl, Nat.le_of_ble_eq_true rfl⟩) ⟨zPc_bl, va_recv hKc hPc (ci := 7) (q0 := 0) rfl rfl, zPc_at hz hS hA0 hPc hKc hDc⟩ rfl rfl hl.1 rfl (lv_room (Nat.le_of_ble_eq_true rfl)) dX11_readRule_7 ⟨Nat.le_of_ble_eq_true rfl, Nat.le_of_ble_eq_true rfl⟩) hS (fun q _ h => hFc q h) hFc (fun r1 u t H1 locs ht hvm hw hB hz1 hk1 hS => ?_)
  obtain ⟨hP1, hK1, hD1⟩ := hB
  rw [ht] at hP1
  have hK1 := va_K.moved hvm.symm hK1
  obtain ⟨hP, hD⟩ := va_join (wr := [(h0, .inr (11, [.ref t0, .ref b0, .ref c0, .ref r0, .ref d0, .ref e0, .ref o0, .ref s0, .ref p0, .ref w0, .int 0, .int 0, .int 0, .int 0, .int ((-1)), .int 0]))]) (w1 := [(t0, .inr (7, [.ref tb, .int 0, .int 0, .int ((-1))]))]) hP hD [1] [0] rfl rfl (by decide) (by decide) hk1 hFc hP1 hD1
  have hK := (hK.sub (tys' := []) [] rfl).app hK1
  generalize H1 = H at hP hS ⊢
  have hP : va_P (dC, dI) vwCl [(h0, .inr (11, [.ref t0, .ref b0, .ref c0, .ref r0, .ref d0, .ref e0, .ref o0, .ref s0, .ref p0, .ref w0, .int 0, .int 0, .int 0, .int 0, .int ((-1)), .int 0])), (t0, .inr (7, [.ref tb, .int 0, .int 0, .int ((-1))]))] H := hP
  have hD : va_D A [(h0, .inr (11, [.ref t0, .ref b0, .ref c0, .ref r0, .ref d0, .ref e0, .ref o0, .ref s0, .ref p0, .ref w0, .int 0, .int 0, .int 0, .int 0, .int ((-1)), .int 0])), (t0, .inr (7, [.ref tb, .int 0, .int 0, .int ((-1))]))] := hD
  have hK : va_K (dC, dI) vwCl [] s := hK
  obtain rfl : r1 = 0 := hw
  refine lv_if_eq (tgt := 18) hx hb dX11_readRule_10 (by decide) (fun c2 => ?_) (fun c2 => absurd (by decide) c2)
  refine lv_aload_n hx hb dX11_readRule_18 rfl (lv_at hl 0 rfl) ?_
  have hPc := hP.sub (ws' := [(h0, .inr (11, [.ref t0, .ref b0, .ref c0, .ref r0, .ref d0, .ref e0, .ref o0, .ref s0, .ref p0, .ref w0, .int 0, .int 0, .int 0, .int 0, .int ((-1)), .int 0])), (t0, .inr (7, [.ref tb, .int 0, .int 0, .int ((-1))]))]) [0, 1] rfl
  have hDc := hD.sub (ws' := [(h0, .inr (11, [.ref t0, .ref b0, .ref c0, .ref r0, .ref d0, .ref e0, .ref o0, .ref s0, .ref p0, .ref w0, .int 0, .int 0, .int 0, .int 0, .int ((-1)), .int 0])), (t0, .inr (7, [.ref tb, .int 0, .int 0, .int ((-1))]))]) [0, 1] (by decide) rfl
  have hKc := hK.sub (tys' := []) [] rfl
  have hFc := va_free (wc := [(h0, .inr (11, [.ref t0, .ref b0, .ref c0, .ref r0, .ref d0, .ref e0, .ref o0, .ref s0, .ref p0, .ref w0, .int 0, .int 0, .int 0, .int 0, .int ((-1)), .int 0])), (t0, .inr (7, [.ref tb, .int 0, .int 0, .int ((-1))]))]) hD hS hA [0, 1] rfl
  refine va_calli (va_runV (As := []) (rest := []) ⟨hx, hb, hml, hown, hts⟩ (c_readKind l hl0 dC dI A0 ad H.size h0 t0 b0 c0 r0 d0 e0 o0 s0 p0 w0 tb (fun q h => hA0 q (hFc q h))) (cwV 0 hts gX11_readRule_X11_readKind rfl rfl rfl (by decide +kernel) ⟨Nat.le_of_ble_eq_true rfl, Nat.le_of_ble_eq_true rfl⟩) ⟨zPc_bl, va_recv hKc hPc (ci := 11) (q0 := 0) rfl rfl, zPc_at hz hS hA0 hPc hKc hDc⟩ rfl rfl hl.1 rfl (lv_room (Nat.le_of_ble_eq_true rfl)) dX11_readRule_19 ⟨Nat.le_of_ble_eq_true rfl, Nat.le_of_ble_eq_true rfl⟩) hS (fun q _ h => hFc q h) hFc (fun r3 u t H1 locs ht hvm hw hB hz1 hk1 hS => ?_)
  obtain ⟨hP1, hK1, hD1⟩ := hB
  rw [ht] at hP1
  have hK1 := va_K.moved hvm.symm hK1
  obtain ⟨hP, hD⟩ := va_join (wr := []) (w1 := [(h0, .inr (11, [.ref t0, .ref b0, .ref c0, .ref r0, .ref d0, .ref e0, .ref o0, .ref s0, .ref p0, .ref w0, .int 0, .int 0, .int 0, .int 0, .int ((-1)), .int 0])), (t0, .inr (7, [.ref tb, .int 0, .int 0, .int ((-1))]))]) hP hD [0, 1] [] rfl rfl (by decide) (by decide) hk1 hFc hP1 hD1
  have hK := (hK.sub (tys' := []) [] rfl).app hK1
  generalize H1 = H at hP hS ⊢
  have hP : va_P (dC, dI) vwCl [(h0, .inr (11, [.ref t0, .ref b0, .ref c0, .ref r0, .ref d0, .ref e0, .ref o0, .ref s0, .ref p0, .ref w0, .int 0, .int 0, .int 0, .int 0, .int ((-1)), .int 0])), (t0, .inr (7, [.ref tb, .int 0, .int 0, .int ((-1))]))] H := hP
  have hD : va_D A [(h0, .inr (11, [.ref t0, .ref b0, .ref c0, .ref r0, .ref d0, .ref e0, .ref o0, .ref s0, .ref p0, .ref w0, .int 0, .int 0, .int 0, .int 0, .int ((-1)), .int 0])), (t0, .inr (7, [.ref tb, .int 0, .int 0, .int ((-1))]))] := hD
  have hK : va_K (dC, dI) vwCl [] s := hK
  obtain rfl : r3 = (-1) := hw
  refine lv_istore_n (lv' := [(1, .int ((-1))), (0, .ref h0)]) hx hb dX11_readRule_22 rfl hl (by decide) rfl (fun ls hl => ?_)
  refine lv_iload_n hx hb dX11_readRule_23 rfl (lv_at hl 0 rfl) ?_
  refine lv_iconst (v := (-1)) hx hb dX11_readRule_24 (by decide) ?_
  refine lv_icmp_ne (tgt := 45) hx hb dX11_readRule_25 (by decide) (fun c4 => absurd (by decide) c4) (fun c4 => ?_)
  refine lv_aload_n hx hb dX11_readRule_28 rfl (lv_at hl 1 rfl) ?_
  refine va_get (D := (dC, dI)) (ci := 11) (v := .ref t0) (C := RX11) (T := TX11) (N := 16) hx hb hts hiX11 hown hK hP 0 rfl rfl 0 (by decide) hw1 (fun _ h9 => h9) rfl dX11_readRule_29 ?_
  refine lv_aload_n hx hb dX11_readRule_32 rfl (lv_at hl 1 rfl) ?_
  refine va_get (D := (dC, dI)) (ci := 11) (v := .ref t0) (C := RX11) (T := TX11) (N := 16) hx hb hts hiX11 hown hK hP 0 rfl rfl 0 (by decide) hw1 (fun _ h9 => h9) rfl dX11_readRule_33 ?_
  refine va_get (D := (dC, dI)) (ci := 7) (v := .int 0) (C := RX7) (T := TX7) (N := 4) hx hb hts hiX7 hown hK hP 1 rfl rfl 2 (by decide) hw3 (fun _ h9 => h9) rfl dX11_readRule_36 ?_
  have hPc := hP.sub (ws' := [(t0, .inr (7, [.ref tb, .int 0, .int 0, .int ((-1))]))]) [1] rfl
  have hDc := hD.sub (ws' := [(t0, .inr (7, [.ref tb, .int 0, .int 0, .int ((-1))]))]) [1] (by decide) rfl
  have hKc := hK.sub (tys' := []) [] rfl
  have hFc := va_free (wc := [(t0, .inr (7, [.ref tb, .int 0, .int 0, .int ((-1))]))]) hD hS hA [1] rfl
  refine va_callv (va_runV (As := [.int 0]) (rest := []) ⟨hx, hb, hml, hown, hts⟩ (c_refuse_a l hl0 dC dI A0 ad H.size t0 tb (fun q h => hA0 q (hFc q h))) (cwV 1 hts gX11_readRule_X7_refuse rfl rfl rfl (by decide +kernel) ⟨Nat.le_of_ble_eq_true rfl, Nat.le_of_ble_eq_true rfl⟩) ⟨zPc_bl, va_recv hKc hPc (ci := 7) (q0 := 0) rfl rfl, zPc_at hz hS hA0 hPc hKc hDc⟩ rfl rfl hl.1 rfl (lv_room (Nat.le_of_ble_eq_true rfl)) dX11_readRule_39 ⟨Nat.le_of_ble_eq_true rfl, Nat.le_of_ble_eq_true rfl⟩) hS (fun q _ h => hFc q h) hFc (fun u t H1 locs ht hvm hw hB hz1 hk1 hS => ?_)
  obtain ⟨hP1, hK1, hD1⟩ := hB
  rw [ht] at hP1
  have hK1 := va_K.moved hvm.symm hK1
  obtain ⟨hP, hD⟩ := va_join (wr := [(h0, .inr (11, [.ref t0, .ref b0, .ref c0, .ref r0, .ref d0, .ref e0, .ref o0, .ref s0, .ref p0, .ref w0, .int 0, .int 0, .int 0, .int 0, .int ((-1)), .int 0]))]) (w1 := [(t0, .inr (7, [.ref tb, .int 0, .int 0, .int 0]))]) hP hD [1] [0] rfl rfl (by decide) (by decide) hk1 hFc hP1 hD1
  have hK := (hK.sub (tys' := []) [] rfl).app hK1
  generalize H1 = H at hP hS ⊢
  have hP : va_P (dC, dI) vwCl [(h0, .inr (11, [.ref t0, .ref b0, .ref c0, .ref r0, .ref d0, .ref e0, .ref o0, .ref s0, .ref p0, .ref w0, .int 0, .int 0, .int 0, .int 0, .int ((-1)), .int 0])), (t0, .inr (7, [.ref tb, .int 0, .int 0, .int 0]))] H := hP
  have hD : va_D A [(h0, .inr (11, [.ref t0, .ref b0, .ref c0, .ref r0, .ref d0, .ref e0, .ref o0, .ref s0, .ref p0, .ref w0, .int 0, .int 0, .int 0, .int 0, .int ((-1)), .int 0])), (t0, .inr (7, [.ref tb, .int 0, .int 0, .int 0]))] := hD
  have hK : va_K (dC, dI) vwCl [] s := hK
  refine lv_goto (tgt := 67) hx hb dX11_readRule_42 (by decide) ?_
  have hP9 := hP.sub (ws' := [(h0, .inr (11, [.ref t0, .ref b0, .ref c0, .ref r0, .ref d0, .ref e0, .ref o0, .ref s0, .ref p0, .ref w0, .int 0, .int 0, .int 0, .int 0, .int ((-1)), .int 0])), (t0, .inr (7, [.ref tb, .int 0, .int 0, .int 0]))]) [0, 1] rfl
  have hD9 := hD.sub (ws' := [(h0, .inr (11, [.ref t0, .ref b0, .ref c0, .ref r0, .ref d0, .ref e0, .ref o0, .ref s0, .ref p0, .ref w0, .int 0, .int 0, .int 0, .int 0, .int ((-1)), .int 0])), (t0, .inr (7, [.ref tb, .int 0, .int 0, .int 0]))]) [0, 1] (by decide) rfl
  have hK9 := hK.sub (tys' := []) [] rfl
  refine W.widen (k := 0) (n := 0) (by decide) (by decide) ?_
  exact W.vret hx hb hr (fun t ht hW => ⟨⟨(), rfl, trivial, ⟨by rw [ht]; exact hP9, va_K.moved hW.alike hK9, hD9⟩⟩, hS.F ht⟩) hS.2.2 dX11_readRule_67
set_option maxHeartbeats 4000000 in
set_option maxRecDepth 100000 in
/-- closeTape, the tape wrong at 0 -/
theorem c_closeTape (l : Launch) (hl0 : l.stackTraces = false) (dC : Nat → ClassId) (dI : Nat → Nat → Nat) (A0 : Nat → Prop) (ad : Nat → Nat) (sz : Nat) (h0 t0 b0 c0 r0 d0 e0 o0 s0 p0 w0 : Nat) (tb : Nat) (hA0 : ∀ q, va_A [(h0, .inr (11, [.ref t0, .ref b0, .ref c0, .ref r0, .ref d0, .ref e0, .ref o0, .ref s0, .ref p0, .ref w0, .int 0, .int 0, .int 0, .int 0, .int ((-1)), .int 0])), (t0, .inr (7, [.ref tb, .int 0, .int 0, .int 0]))] sz q → A0 q) : Met l yX11_closeTape wsX11_closeTape ({ frames := 1, cells := 0, slots := 0, locals := 20 }) (va_Pc [.ref h0] (zPc A0 ad (dC, dI) [(h0, .inr (11, [.ref t0, .ref b0, .ref c0, .ref r0, .ref d0, .ref e0, .ref o0, .ref s0, .ref p0, .ref w0, .int 0, .int 0, .int 0, .int 0, .int ((-1)), .int 0])), (t0, .inr (7, [.ref tb, .int 0, .int 0, .int 0]))] [] sz)) (va_Qv (fun (_ : Unit) => True) (fun (_ : Unit) (t : State) => zB (dC, dI) (va_A [(h0, .inr (11, [.ref t0, .ref b0, .ref c0, .ref r0, .ref d0, .ref e0, .ref o0, .ref s0, .ref p0, .ref w0, .int 0, .int 0, .int 0, .int 0, .int ((-1)), .int 0])), (t0, .inr (7, [.ref tb, .int 0, .int 0, .int 0]))] sz) [(h0, .inr (11, [.ref t0, .ref b0, .ref c0, .ref r0, .ref d0, .ref e0, .ref o0, .ref s0, .ref p0, .ref w0, .int 0, .int 0, .int 0, .int 0, .int 0, .int 0])), (t0, .inr (7, [.ref tb, .int 0, .int 0, .int 0]))] [] t) (va_A [(h0, .inr (11, [.ref t0, .ref b0, .ref c0, .ref r0, .ref d0, .ref e0, .ref o0, .ref s0, .ref p0, .ref w0, .int 0, .int 0, .int 0, .int 0, .int ((-1)), .int 0])), (t0, .inr (7, [.ref tb, .int 0, .int 0, .int 0]))] sz)) 0 0 (va_A [(h0, .inr (11, [.ref t0, .ref b0, .ref c0, .ref r0, .ref d0, .ref e0, .ref o0, .ref s0, .ref p0, .ref w0, .int 0, .int 0, .int 0, .int 0, .int ((-1)), .int 0])), (t0, .inr (7, [.ref tb, .int 0, .int 0, .int 0]))] sz) := by
  refine Met.ofW (cc := cX11_closeTape) (maxL := 1) (ret := none) (by decide) rfl ?_
  intro p e s m args below meth c s₁ B hml hv
  obtain ⟨rfl, hsz, hz, hP, hK, hD0⟩ := hv
  have hx := B.exec
  have hb := B.bytes
  have hr := B.returns
  have hts := atoms_spec (ws := wsX11_closeTape) B.pre
  have hown : s.vm.findClass RX11 = some m.cls := findClass_of_methodNamed B.named
  have hlocks := B.notSynchronized
  subst hsz
  have hD := hD0.self (sz := s.heap.size)
  generalize hAe : va_A [(h0, .inr (11, [.ref t0, .ref b0, .ref c0, .ref r0, .ref d0, .ref e0, .ref o0, .ref s0, .ref p0, .ref w0, .int 0, .int 0, .int 0, .int 0, .int ((-1)), .int 0])), (t0, .inr (7, [.ref tb, .int 0, .int 0, .int 0]))] s.heap.size = A at hD hA0 ⊢
  have hA : ∀ q : Nat, s.heap.size ≤ q → A q := fun q h => by rw [← hAe]; exact Or.inr h
  have hS : va_S A s.heap s.heap [] := va_S.rf
  have hl := lv_entry ([.ref h0]) (n := 1) (Nat.le_of_ble_eq_true rfl)
  rw [lg_entry_eq]
  generalize (lg_sl ([.ref h0]) ++ List.replicate (1 - (lg_sl ([.ref h0])).length) Slot.unset).toArray = ls at hl ⊢
  have hl : lv_has ls 1 [(0, .ref h0)] := hl
  have hP : va_P (dC, dI) vwCl [(h0, .inr (11, [.ref t0, .ref b0, .ref c0, .ref r0, .ref d0, .ref e0, .ref o0, .ref s0, .ref p0, .ref w0, .int 0, .int 0, .int 0, .int 0, .int ((-1)), .int 0])), (t0, .inr (7, [.ref tb, .int 0, .int 0, .int 0]))] s.heap := hP
  have hiX11 : ∀ w ∈ u_ws RX11 TX11 16, w ∈ wsX11_closeTape := fun _ h => List.mem_cons_of_mem _ (List.mem_append_left _ (List.mem_append_right _ h))
  have hw1 := hts (.fieldLink RX11 10 "PostHouse" "tape" "LPostHouse$Tape;") (by decide +kernel)
  have hiX7 : ∀ w ∈ u_ws RX7 TX7 4, w ∈ wsX11_closeTape := fun _ h => List.mem_cons_of_mem _ (List.mem_append_right _ h)
  have hw3 := hts (.fieldLink RX11 398 "PostHouse$Tape" "wrong" "I") (by decide +kernel)
  have hw4 := hts (.fieldLink RX11 72 "PostHouse" "fault" "I") (by decide +kernel)
  have hw5 := hts (.fieldLink RX11 84 "PostHouse$Tape" "length" "I") (by decide +kernel)
  refine lv_aload_n hx hb dX11_closeTape_0 rfl (lv_at hl 0 rfl) ?_
  refine va_get (D := (dC, dI)) (ci := 11) (v := .ref t0) (C := RX11) (T := TX11) (N := 16) hx hb hts hiX11 hown hK hP 0 rfl rfl 0 (by decide) hw1 (fun _ h9 => h9) rfl dX11_closeTape_1 ?_
  have hPc := hP.sub (ws' := [(t0, .inr (7, [.ref tb, .int 0, .int 0, .int 0]))]) [1] rfl
  have hDc := hD.sub (ws' := [(t0, .inr (7, [.ref tb, .int 0, .int 0, .int 0]))]) [1] (by decide) rfl
  have hKc := hK.sub (tys' := []) [] rfl
  have hFc := va_free (wc := [(t0, .inr (7, [.ref tb, .int 0, .int 0, .int 0]))]) hD hS hA [1] rfl
  refine va_callv (va_runV (As := []) (rest := []) ⟨hx, hb, hml, hown, hts⟩ (c_needEnd_b l hl0 dC dI A0 ad s.heap.size t0 tb (fun q h => hA0 q (hFc q h))) (cwV 0 hts gX11_closeTape_X7_needEnd rfl rfl rfl (by decide +kernel) ⟨Nat.le_of_ble_eq_true rfl, Nat.le_of_ble_eq_true rfl⟩) ⟨zPc_bl, va_recv hKc hPc (ci := 7) (q0 := 0) rfl rfl, zPc_at hz hS hA0 hPc hKc hDc⟩ rfl rfl hl.1 rfl (lv_room (Nat.le_of_ble_eq_true rfl)) dX11_closeTape_4 ⟨Nat.le_of_ble_eq_true rfl, Nat.le_of_ble_eq_true rfl⟩) hS (fun q _ h => hFc q h) hFc (fun u t H1 locs ht hvm hw hB hz1 hk1 hS => ?_)
  obtain ⟨hP1, hK1, hD1⟩ := hB
  rw [ht] at hP1
  have hK1 := va_K.moved hvm.symm hK1
  obtain ⟨hP, hD⟩ := va_join (wr := [(h0, .inr (11, [.ref t0, .ref b0, .ref c0, .ref r0, .ref d0, .ref e0, .ref o0, .ref s0, .ref p0, .ref w0, .int 0, .int 0, .int 0, .int 0, .int ((-1)), .int 0]))]) (w1 := [(t0, .inr (7, [.ref tb, .int 0, .int 0, .int 0]))]) hP hD [1] [0] rfl rfl (by decide) (by decide) hk1 hFc hP1 hD1
  have hK := (hK.sub (tys' := []) [] rfl).app hK1
  generalize H1 = H at hP hS ⊢
  have hP : va_P (dC, dI) vwCl [(h0, .inr (11, [.ref t0, .ref b0, .ref c0, .ref r0, .ref d0, .ref e0, .ref o0, .ref s0, .ref p0, .ref w0, .int 0, .int 0, .int 0, .int 0, .int ((-1)), .int 0])), (t0, .inr (7, [.ref tb, .int 0, .int 0, .int 0]))] H := hP
  have hD : va_D A [(h0, .inr (11, [.ref t0, .ref b0, .ref c0, .ref r0, .ref d0, .ref e0, .ref o0, .ref s0, .ref p0, .ref w0, .int 0, .int 0, .int 0, .int 0, .int ((-1)), .int 0])), (t0, .inr (7, [.ref tb, .int 0, .int 0, .int 0]))] := hD
  have hK : va_K (dC, dI) vwCl [] s := hK
  refine lv_aload_n hx hb dX11_closeTape_7 rfl (lv_at hl 0 rfl) ?_
  refine lv_aload_n hx hb dX11_closeTape_8 rfl (lv_at hl 0 rfl) ?_
  refine va_get (D := (dC, dI)) (ci := 11) (v := .ref t0) (C := RX11) (T := TX11) (N := 16) hx hb hts hiX11 hown hK hP 0 rfl rfl 0 (by decide) hw1 (fun _ h9 => h9) rfl dX11_closeTape_9 ?_
  refine va_get (D := (dC, dI)) (ci := 7) (v := .int 0) (C := RX7) (T := TX7) (N := 4) hx hb hts hiX7 hown hK hP 1 rfl rfl 3 (by decide) hw3 (fun _ h9 => h9) rfl dX11_closeTape_12 ?_
  refine va_put (D := (dC, dI)) (ci := 11) (v := .int 0) (ty := .int) (C := RX11) (T := TX11) (N := 16) hx hb hts hiX11 tyX11 tyX11_ok nmX11 hown hK hP hD hS 0 rfl rfl 14 (by decide) hw4 (fun _ h9 => h9) rfl (by decide +kernel) rfl rfl (Nat.le_of_ble_eq_true rfl) dX11_closeTape_15 (fun H locs hP hD hS => ?_)
  have hP : va_P (dC, dI) vwCl [(h0, .inr (11, [.ref t0, .ref b0, .ref c0, .ref r0, .ref d0, .ref e0, .ref o0, .ref s0, .ref p0, .ref w0, .int 0, .int 0, .int 0, .int 0, .int 0, .int 0])), (t0, .inr (7, [.ref tb, .int 0, .int 0, .int 0]))] H := hP
  have hD : va_D A [(h0, .inr (11, [.ref t0, .ref b0, .ref c0, .ref r0, .ref d0, .ref e0, .ref o0, .ref s0, .ref p0, .ref w0, .int 0, .int 0, .int 0, .int 0, .int 0, .int 0])), (t0, .inr (7, [.ref tb, .int 0, .int 0, .int 0]))] := hD
  refine lv_aload_n hx hb dX11_closeTape_18 rfl (lv_at hl 0 rfl) ?_
  refine va_get (D := (dC, dI)) (ci := 11) (v := .ref t0) (C := RX11) (T := TX11) (N := 16) hx hb hts hiX11 hown hK hP 0 rfl rfl 0 (by decide) hw1 (fun _ h9 => h9) rfl dX11_closeTape_19 ?_
  refine lv_iconst (v := 0) hx hb dX11_closeTape_22 (by decide) ?_
  refine va_put (D := (dC, dI)) (ci := 7) (v := .int 0) (ty := .int) (C := RX7) (T := TX7) (N := 4) hx hb hts hiX7 tyX7 tyX7_ok nmX7 hown hK hP hD hS 1 rfl rfl 1 (by decide) hw5 (fun _ h9 => h9) rfl (by decide +kernel) rfl rfl (Nat.le_of_ble_eq_true rfl) dX11_closeTape_23 (fun H locs hP hD hS => ?_)
  have hP : va_P (dC, dI) vwCl [(h0, .inr (11, [.ref t0, .ref b0, .ref c0, .ref r0, .ref d0, .ref e0, .ref o0, .ref s0, .ref p0, .ref w0, .int 0, .int 0, .int 0, .int 0, .int 0, .int 0])), (t0, .inr (7, [.ref tb, .int 0, .int 0, .int 0]))] H := hP
  have hD : va_D A [(h0, .inr (11, [.ref t0, .ref b0, .ref c0, .ref r0, .ref d0, .ref e0, .ref o0, .ref s0, .ref p0, .ref w0, .int 0, .int 0, .int 0, .int 0, .int 0, .int 0])), (t0, .inr (7, [.ref tb, .int 0, .int 0, .int 0]))] := hD
  have hP9 := hP.sub (ws' := [(h0, .inr (11, [.ref t0, .ref b0, .ref c0, .ref r0, .ref d0, .ref e0, .ref o0, .ref s0, .ref p0, .ref w0, .int 0, .int 0, .int 0, .int 0, .int 0, .int 0])), (t0, .inr (7, [.ref tb, .int 0, .int 0, .int 0]))]) [0, 1] rfl
  have hD9 := hD.sub (ws' := [(h0, .inr (11, [.ref t0, .ref b0, .ref c0, .ref r0, .ref d0, .ref e0, .ref o0, .ref s0, .ref p0, .ref w0, .int 0, .int 0, .int 0, .int 0, .int 0, .int 0])), (t0, .inr (7, [.ref tb, .int 0, .int 0, .int 0]))]) [0, 1] (by decide) rfl
  have hK9 := hK.sub (tys' := []) [] rfl
  refine W.widen (k := 0) (n := 0) (by decide) (by decide) ?_
  exact W.vret hx hb hr (fun t ht hW => ⟨⟨(), rfl, trivial, ⟨by rw [ht]; exact hP9, va_K.moved hW.alike hK9, hD9⟩⟩, hS.F ht⟩) hS.2.2 dX11_closeTape_26
set_option maxHeartbeats 4000000 in
set_option maxRecDepth 100000 in
/-- rules on an empty tape throws -/
theorem c_rules (l : Launch) (hl0 : l.stackTraces = false) (dC : Nat → ClassId) (dI : Nat → Nat → Nat) (A0 : Nat → Prop) (ad : Nat → Nat) (sz : Nat) (h0 t0 b0 c0 r0 d0 e0 o0 s0 p0 w0 : Nat) (tb rn rp dn dp : Nat) (crn crp cdn cdp : ClassId) (f1 f2 g1 g2 : Nat → Int32) (hA0 : ∀ q, va_A [(h0, .inr (11, [.ref t0, .ref b0, .ref c0, .ref r0, .ref d0, .ref e0, .ref o0, .ref s0, .ref p0, .ref w0, .int 0, .int 0, .int 0, .int 0, .int ((-1)), .int 0])), (t0, .inr (7, [.ref tb, .int 0, .int 0, .int ((-1))])), (r0, .inr (5, [.ref rn, .ref rp])), (rn, .inl (crn, 4, .inl f1)), (rp, .inl (crp, 30, .inl f2)), (d0, .inr (5, [.ref dn, .ref dp])), (dn, .inl (cdn, 4, .inl g1)), (dp, .inl (cdp, 30, .inl g2))] sz q → A0 q) : vx_Met l yX11_rules wsX11_rules ({ frames := 6, cells := 1, slots := 6, locals := 104 }) (va_Pc [.ref h0] (zPc A0 ad (dC, dI) [(h0, .inr (11, [.ref t0, .ref b0, .ref c0, .ref r0, .ref d0, .ref e0, .ref o0, .ref s0, .ref p0, .ref w0, .int 0, .int 0, .int 0, .int 0, .int ((-1)), .int 0])), (t0, .inr (7, [.ref tb, .int 0, .int 0, .int ((-1))])), (r0, .inr (5, [.ref rn, .ref rp])), (rn, .inl (crn, 4, .inl f1)), (rp, .inl (crp, 30, .inl f2)), (d0, .inr (5, [.ref dn, .ref dp])), (dn, .inl (cdn, 4, .inl g1)), (dp, .inl (cdp, 30, .inl g2))] [(crn, .int), (crp, .int), (cdn, .int), (cdp, .int)] sz)) (va_Qi (fun (_ : Int32) (_ : Unit) => False) (fun (_ : Unit) (t : State) => zB (dC, dI) (va_A [(h0, .inr (11, [.ref t0, .ref b0, .ref c0, .ref r0, .ref d0, .ref e0, .ref o0, .ref s0, .ref p0, .ref w0, .int 0, .int 0, .int 0, .int 0, .int ((-1)), .int 0])), (t0, .inr (7, [.ref tb, .int 0, .int 0, .int ((-1))])), (r0, .inr (5, [.ref rn, .ref rp])), (rn, .inl (crn, 4, .inl f1)), (rp, .inl (crp, 30, .inl f2)), (d0, .inr (5, [.ref dn, .ref dp])), (dn, .inl (cdn, 4, .inl g1)), (dp, .inl (cdp, 30, .inl g2))] sz) [(h0, .inr (11, [.ref t0, .ref b0, .ref c0, .ref r0, .ref d0, .ref e0, .ref o0, .ref s0, .ref p0, .ref w0, .int 0, .int 0, .int 0, .int 0, .int ((-1)), .int 0])), (t0, .inr (7, [.ref tb, .int 0, .int 0, .int ((-1))])), (r0, .inr (5, [.ref rn, .ref rp])), (rn, .inl (crn, 4, .inl f1)), (rp, .inl (crp, 30, .inl f2)), (d0, .inr (5, [.ref dn, .ref dp])), (dn, .inl (cdn, 4, .inl g1)), (dp, .inl (cdp, 30, .inl g2))] [(crn, .int), (crp, .int), (cdn, .int), (cdp, .int)] t) (va_A [(h0, .inr (11, [.ref t0, .ref b0, .ref c0, .ref r0, .ref d0, .ref e0, .ref o0, .ref s0, .ref p0, .ref w0, .int 0, .int 0, .int 0, .int 0, .int ((-1)), .int 0])), (t0, .inr (7, [.ref tb, .int 0, .int 0, .int ((-1))])), (r0, .inr (5, [.ref rn, .ref rp])), (rn, .inl (crn, 4, .inl f1)), (rp, .inl (crp, 30, .inl f2)), (d0, .inr (5, [.ref dn, .ref dp])), (dn, .inl (cdn, 4, .inl g1)), (dp, .inl (cdp, 30, .inl g2))] sz)) (vx_X (fun _ : Unit => True) (fun (E : String) (_ : Unit) (_ : State) => E = "java/lang/IllegalArgumentException") (va_A [(h0, .inr (11, [.ref t0, .ref b0, .ref c0, .ref r0, .ref d0, .ref e0, .ref o0, .ref s0, .ref p0, .ref w0, .int 0, .int 0, .int 0, .int 0, .int ((-1)), .int 0])), (t0, .inr (7, [.ref tb, .int 0, .int 0, .int ((-1))])), (r0, .inr (5, [.ref rn, .ref rp])), (rn, .inl (crn, 4, .inl f1)), (rp, .inl (crp, 30, .inl f2)), (d0, .inr (5, [.ref dn, .ref dp])), (dn, .inl (cdn, 4, .inl g1)), (dp, .inl (cdp, 30, .inl g2))] sz)) 1 6 (va_A [(h0, .inr (11, [.ref t0, .ref b0, .ref c0, .ref r0, .ref d0, .ref e0, .ref o0, .ref s0, .ref p0, .ref w0, .int 0, .int 0, .int 0, .int 0, .int ((-1)), .int 0])), (t0, .inr (7, [.ref tb, .int 0, .int 0, .int ((-1))])), (r0, .inr (5, [.ref rn, .ref rp])), (rn, .inl (crn, 4, .inl f1)), (rp, .inl (crp, 30, .inl f2)), (d0, .inr (5, [.ref dn, .ref dp])), (dn, .inl (cdn, 4, .inl g1)), (dp, .inl (cdp, 30, .inl g2))] sz) := by
  refine vx_ofW (cc := cX11_rules) (maxL := 4) (ret := (some .int)) (by decide) rfl ?_
  intro p e s m args below meth c s₁ B hml ht0 hv
  obtain ⟨rfl, hsz, hz, hP, hK, hD0⟩ := hv
  have hx := B.exec
  have hb := B.bytes
  have hr := B.returns
  have hts := atoms_spec (ws := wsX11_rules) B.pre
  have hown : s.vm.findClass RX11 = some m.cls := findClass_of_methodNamed B.named
  have hlocks := B.notSynchronized
  subst hsz
  have hD := hD0.self (sz := s.heap.size)
  generalize hAe : va_A [(h0, .inr (11, [.ref t0, .ref b0, .ref c0, .ref r0, .ref d0, .ref e0, .ref o0, .ref s0, .ref p0, .ref w0, .int 0, .int 0, .int 0, .int 0, .int ((-1)), .int 0])), (t0, .inr (7, [.ref tb, .int 0, .int 0, .int ((-1))])), (r0, .inr (5, [.ref rn, .ref rp])), (rn, .inl (crn, 4, .inl f1)), (rp, .inl (crp, 30, .inl f2)), (d0, .inr (5, [.ref dn, .ref dp])), (dn, .inl (cdn, 4, .inl g1)), (dp, .inl (cdp, 30, .inl g2))] s.heap.size = A at hD hA0 ⊢
  have hA : ∀ q : Nat, s.heap.size ≤ q → A q := fun q h => by rw [← hAe]; exact Or.inr h
  have hS : va_S A s.heap s.heap [] := va_S.rf
  have hl := lv_entry ([.ref h0]) (n := 4) (Nat.le_of_ble_eq_true rfl)
  rw [lg_entry_eq]
  generalize (lg_sl ([.ref h0]) ++ List.replicate (4 - (lg_sl ([.ref h0])).length) Slot.unset).toArray = ls at hl ⊢
  have hl : lv_has ls 4 [(0, .ref h0)] := hl
  have hP : va_P (dC, dI) vwCl [(h0, .inr (11, [.ref t0, .ref b0, .ref c0, .ref r0, .ref d0, .ref e0, .ref o0, .ref s0, .ref p0, .ref w0, .int 0, .int 0, .int 0, .int 0, .int ((-1)), .int 0])), (t0, .inr (7, [.ref tb, .int 0, .int 0, .int ((-1))])), (r0, .inr (5, [.ref rn, .ref rp])), (rn, .inl (crn, 4, .inl f1)), (rp, .inl (crp, 30, .inl f2)), (d0, .inr (5, [.ref dn, .ref dp])), (dn, .inl (cdn, 4, .inl g1)), (dp, .inl (cdp, 30, .inl g2))] s.heap := hP
  have hiX11 : ∀ w ∈ u_ws RX11 TX11 16, w ∈ wsX11_rules := fun _ h => List.mem_cons_of_mem _ (List.mem_append_left _ (List.mem_append_left _ (List.mem_append_left _ (List.mem_append_left _ (List.mem_append_left _ (List.mem_append_right _ h))))))
  have hw1 := hts (.fieldLink RX11 37 "PostHouse" "draft" "LPostHouse$Rules;") (by decide +kernel)
  have hw2 := hts (.fieldLink RX11 33 "PostHouse" "rules" "LPostHouse$Rules;") (by decide +kernel)
  have hw3 := hts (.fieldLink RX11 10 "PostHouse" "tape" "LPostHouse$Tape;") (by decide +kernel)
  have hw4 := hts (.fieldLink RX11 72 "PostHouse" "fault" "I") (by decide +kernel)
  have hw5 := hts (.classLink RX11 91 "java/lang/IllegalArgumentException") (by decide +kernel)
  have hw6 := hts (.initialized "java/lang/IllegalArgumentException") (by decide +kernel)
  refine lv_aload_n hx hb dX11_rules_0 rfl (lv_at hl 0 rfl) ?_
  refine va_get (D := (dC, dI)) (ci := 11) (v := .ref d0) (C := RX11) (T := TX11) (N := 16) hx hb hts hiX11 hown hK hP 0 rfl rfl 4 (by decide) hw1 (fun _ h9 => h9) rfl dX11_rules_1 ?_
  refine lv_aload_n hx hb dX11_rules_4 rfl (lv_at hl 0 rfl) ?_
  refine va_get (D := (dC, dI)) (ci := 11) (v := .ref r0) (C := RX11) (T := TX11) (N := 16) hx hb hts hiX11 hown hK hP 0 rfl rfl 3 (by decide) hw2 (fun _ h9 => h9) rfl dX11_rules_5 ?_
  have hPc := hP.sub (ws' := [(d0, .inr (5, [.ref dn, .ref dp])), (dn, .inl (cdn, 4, .inl g1)), (dp, .inl (cdp, 30, .inl g2)), (r0, .inr (5, [.ref rn, .ref rp])), (rn, .inl (crn, 4, .inl f1)), (rp, .inl (crp, 30, .inl f2))]) [5, 6, 7, 2, 3, 4] rfl
  have hDc := hD.sub (ws' := [(d0, .inr (5, [.ref dn, .ref dp])), (dn, .inl (cdn, 4, .inl g1)), (dp, .inl (cdp, 30, .inl g2)), (r0, .inr (5, [.ref rn, .ref rp])), (rn, .inl (crn, 4, .inl f1)), (rp, .inl (crp, 30, .inl f2))]) [5, 6, 7, 2, 3, 4] (by decide) rfl
  have hKc := hK.sub (tys' := [(cdn, .int), (cdp, .int), (crn, .int), (crp, .int)]) [2, 3, 0, 1] rfl
  have hFc := va_free (wc := [(d0, .inr (5, [.ref dn, .ref dp])), (dn, .inl (cdn, 4, .inl g1)), (dp, .inl (cdp, 30, .inl g2)), (r0, .inr (5, [.ref rn, .ref rp])), (rn, .inl (crn, 4, .inl f1)), (rp, .inl (crp, 30, .inl f2))]) hD hS hA [5, 6, 7, 2, 3, 4] rfl
  refine va_callv (va_runV (As := [.ref r0]) (rest := []) ⟨hx, hb, hml, hown, hts⟩ (c_copy l hl0 dC dI A0 ad s.heap.size d0 dn dp r0 rn rp cdn cdp crn crp g1 g2 f1 f2 (fun q h => hA0 q (hFc q h))) (cwV 1 hts gX11_rules_X5_copy rfl rfl rfl (by decide +kernel) ⟨Nat.le_of_ble_eq_true rfl, Nat.le_of_ble_eq_true rfl⟩) ⟨zPc_bl, va_recv hKc hPc (ci := 5) (q0 := 0) rfl rfl, zPc_at hz hS hA0 hPc hKc hDc⟩ rfl rfl hl.1 rfl (lv_room (Nat.le_of_ble_eq_true rfl)) dX11_rules_8 ⟨Nat.le_of_ble_eq_true rfl, Nat.le_of_ble_eq_true rfl⟩) hS (fun q _ h => hFc q h) hFc (fun u t H1 locs ht hvm hw hB hz1 hk1 hS => ?_)
  obtain ⟨zg2, zg3, hB⟩ := hB
  obtain ⟨hP1, hK1, hD1⟩ := hB
  rw [ht] at hP1
  have hK1 := va_K.moved hvm.symm hK1
  obtain ⟨hP, hD⟩ := va_join (wr := [(h0, .inr (11, [.ref t0, .ref b0, .ref c0, .ref r0, .ref d0, .ref e0, .ref o0, .ref s0, .ref p0, .ref w0, .int 0, .int 0, .int 0, .int 0, .int ((-1)), .int 0])), (t0, .inr (7, [.ref tb, .int 0, .int 0, .int ((-1))]))]) (w1 := [(d0, .inr (5, [.ref dn, .ref dp])), (dn, .inl (cdn, 4, .inl zg2)), (dp, .inl (cdp, 30, .inl zg3)), (r0, .inr (5, [.ref rn, .ref rp])), (rn, .inl (crn, 4, .inl f1)), (rp, .inl (crp, 30, .inl f2))]) hP hD [5, 6, 7, 2, 3, 4] [0, 1] rfl rfl (by decide) (by decide) hk1 hFc hP1 hD1
  have hK := (hK.sub (tys' := []) [] rfl).app hK1
  generalize H1 = H at hP hS ⊢
  have hP : va_P (dC, dI) vwCl [(h0, .inr (11, [.ref t0, .ref b0, .ref c0, .ref r0, .ref d0, .ref e0, .ref o0, .ref s0, .ref p0, .ref w0, .int 0, .int 0, .int 0, .int 0, .int ((-1)), .int 0])), (t0, .inr (7, [.ref tb, .int 0, .int 0, .int ((-1))])), (d0, .inr (5, [.ref dn, .ref dp])), (dn, .inl (cdn, 4, .inl zg2)), (dp, .inl (cdp, 30, .inl zg3)), (r0, .inr (5, [.ref rn, .ref rp])), (rn, .inl (crn, 4, .inl f1)), (rp, .inl (crp, 30, .inl f2))] H := hP
  have hD : va_D A [(h0, .inr (11, [.ref t0, .ref b0, .ref c0, .ref r0, .ref d0, .ref e0, .ref o0, .ref s0, .ref p0, .ref w0, .int 0, .int 0, .int 0, .int 0, .int ((-1)), .int 0])), (t0, .inr (7, [.ref tb, .int 0, .int 0, .int ((-1))])), (d0, .inr (5, [.ref dn, .ref dp])), (dn, .inl (cdn, 4, .inl zg2)), (dp, .inl (cdp, 30, .inl zg3)), (r0, .inr (5, [.ref rn, .ref rp])), (rn, .inl (crn, 4, .inl f1)), (rp, .inl (crp, 30, .inl f2))] := hD
  have hK : va_K (dC, dI) vwCl [(cdn, .int), (cdp, .int), (crn, .int), (crp, .int)] s := hK
  refine lv_aload_n hx hb dX11_rules_11 rfl (lv_at hl 0 rfl) ?_
  refine va_get (D := (dC, dI)) (ci := 11) (v := .ref t0) (C := RX11) (T := TX11) (N := 16) hx hb hts hiX11 hown hK hP 0 rfl rfl 0 (by decide) hw3 (fun _ h9 => h9) rfl dX11_rules_12 ?_
  have hPc := hP.sub (ws' := [(t0, .inr (7, [.ref tb, .int 0, .int 0, .int ((-1))]))]) [1] rfl
  have hDc := hD.sub (ws' := [(t0, .inr (7, [.ref tb, .int 0, .int 0, .int ((-1))]))]) [1] (by decide) rfl
  have hKc := hK.sub (tys' := []) [] rfl
  have hFc := va_free (wc := [(t0, .inr (7, [.ref tb, .int 0, .int 0, .int ((-1))]))]) hD hS hA [1] rfl
  refine va_callv (va_runV (As := []) (rest := []) ⟨hx, hb, hml, hown, hts⟩ (c_open_a l hl0 dC dI A0 ad H.size t0 tb (fun q h => hA0 q (hFc q h))) (cwV 0 hts gX11_rules_X7_open rfl rfl rfl (by decide +kernel) ⟨Nat.le_of_ble_eq_true rfl, Nat.le_of_ble_eq_true rfl⟩) ⟨zPc_bl, va_recv hKc hPc (ci := 7) (q0 := 0) rfl rfl, zPc_at hz hS hA0 hPc hKc hDc⟩ rfl rfl hl.1 rfl (lv_room (Nat.le_of_ble_eq_true rfl)) dX11_rules_15 ⟨Nat.le_of_ble_eq_true rfl, Nat.le_of_ble_eq_true rfl⟩) hS (fun q _ h => hFc q h) hFc (fun u t H1 locs ht hvm hw hB hz1 hk1 hS => ?_)
  obtain ⟨hP1, hK1, hD1⟩ := hB
  rw [ht] at hP1
  have hK1 := va_K.moved hvm.symm hK1
  obtain ⟨hP, hD⟩ := va_join (wr := [(h0, .inr (11, [.ref t0, .ref b0, .ref c0, .ref r0, .ref d0, .ref e0, .ref o0, .ref s0, .ref p0, .ref w0, .int 0, .int 0, .int 0, .int 0, .int ((-1)), .int 0])), (d0, .inr (5, [.ref dn, .ref dp])), (dn, .inl (cdn, 4, .inl zg2)), (dp, .inl (cdp, 30, .inl zg3)), (r0, .inr (5, [.ref rn, .ref rp])), (rn, .inl (crn, 4, .inl f1)), (rp, .inl (crp, 30, .inl f2))]) (w1 := [(t0, .inr (7, [.ref tb, .int 0, .int 0, .int ((-1))]))]) hP hD [1] [0, 2, 3, 4, 5, 6, 7] rfl rfl (by decide) (by decide) hk1 hFc hP1 hD1
  have hK := (hK.sub (tys' := [(cdn, .int), (cdp, .int), (crn, .int), (crp, .int)]) [0, 1, 2, 3] rfl).app hK1
  generalize H1 = H at hP hS ⊢
  have hP : va_P (dC, dI) vwCl [(h0, .inr (11, [.ref t0, .ref b0, .ref c0, .ref r0, .ref d0, .ref e0, .ref o0, .ref s0, .ref p0, .ref w0, .int 0, .int 0, .int 0, .int 0, .int ((-1)), .int 0])), (d0, .inr (5, [.ref dn, .ref dp])), (dn, .inl (cdn, 4, .inl zg2)), (dp, .inl (cdp, 30, .inl zg3)), (r0, .inr (5, [.ref rn, .ref rp])), (rn, .inl (crn, 4, .inl f1)), (rp, .inl (crp, 30, .inl f2)), (t0, .inr (7, [.ref tb, .int 0, .int 0, .int ((-1))]))] H := hP
  have hD : va_D A [(h0, .inr (11, [.ref t0, .ref b0, .ref c0, .ref r0, .ref d0, .ref e0, .ref o0, .ref s0, .ref p0, .ref w0, .int 0, .int 0, .int 0, .int 0, .int ((-1)), .int 0])), (d0, .inr (5, [.ref dn, .ref dp])), (dn, .inl (cdn, 4, .inl zg2)), (dp, .inl (cdp, 30, .inl zg3)), (r0, .inr (5, [.ref rn, .ref rp])), (rn, .inl (crn, 4, .inl f1)), (rp, .inl (crp, 30, .inl f2)), (t0, .inr (7, [.ref tb, .int 0, .int 0, .int ((-1))]))] := hD
  have hK : va_K (dC, dI) vwCl [(cdn, .int), (cdp, .int), (crn, .int), (crp, .int)] s := hK
  refine lv_iconst (v := 0) hx hb dX11_rules_18 (by decide) ?_
  refine lv_istore_n (lv' := [(1, .int 0), (0, .ref h0)]) hx hb dX11_rules_19 rfl hl (by decide) rfl (fun ls hl => ?_)
  refine lv_iconst (v := 1) hx hb dX11_rules_20 (by decide) ?_
  refine lv_istore_n (lv' := [(2, .int 1), (1, .int 0), (0, .ref h0)]) hx hb dX11_rules_21 rfl hl (by decide) rfl (fun ls hl => ?_)
  refine lv_iconst (v := 0) hx hb dX11_rules_22 (by decide) ?_
  refine lv_istore_n (lv' := [(3, .int 0), (2, .int 1), (1, .int 0), (0, .ref h0)]) hx hb dX11_rules_23 rfl hl (by decide) rfl (fun ls hl => ?_)
  refine lv_iload_n hx hb dX11_rules_24 rfl (lv_at hl 0 rfl) ?_
  refine lv_sipush (v := 400) hx hb dX11_rules_25 (by decide) ?_
  refine lv_icmp_ge (tgt := 58) hx hb dX11_rules_28 (by decide) (fun c5 => absurd c5 (by decide)) (fun c5 => ?_)
  refine lv_iload_n hx hb dX11_rules_31 rfl (lv_at hl 1 rfl) ?_
  refine lv_if_eq (tgt := 58) hx hb dX11_rules_32 (by decide) (fun c6 => absurd c6 (by decide)) (fun c6 => ?_)
  refine lv_aload_n hx hb dX11_rules_35 rfl (lv_at hl 3 rfl) ?_
  have hPc := hP.sub (ws' := [(h0, .inr (11, [.ref t0, .ref b0, .ref c0, .ref r0, .ref d0, .ref e0, .ref o0, .ref s0, .ref p0, .ref w0, .int 0, .int 0, .int 0, .int 0, .int ((-1)), .int 0])), (t0, .inr (7, [.ref tb, .int 0, .int 0, .int ((-1))]))]) [0, 7] rfl
  have hDc := hD.sub (ws' := [(h0, .inr (11, [.ref t0, .ref b0, .ref c0, .ref r0, .ref d0, .ref e0, .ref o0, .ref s0, .ref p0, .ref w0, .int 0, .int 0, .int 0, .int 0, .int ((-1)), .int 0])), (t0, .inr (7, [.ref tb, .int 0, .int 0, .int ((-1))]))]) [0, 7] (by decide) rfl
  have hKc := hK.sub (tys' := []) [] rfl
  have hFc := va_free (wc := [(h0, .inr (11, [.ref t0, .ref b0, .ref c0, .ref r0, .ref d0, .ref e0, .ref o0, .ref s0, .ref p0, .ref w0, .int 0, .int 0, .int 0, .int 0, .int ((-1)), .int 0])), (t0, .inr (7, [.ref tb, .int 0, .int 0, .int ((-1))]))]) hD hS hA [0, 7] rfl
  refine va_callv (va_runV (As := []) (rest := []) ⟨hx, hb, hml, hown, hts⟩ (c_readRule l hl0 dC dI A0 ad H.size h0 t0 b0 c0 r0 d0 e0 o0 s0 p0 w0 tb (fun q h => hA0 q (hFc q h))) (cwV 0 hts gX11_rules_X11_readRule rfl rfl rfl (by decide +kernel) ⟨Nat.le_of_ble_eq_true rfl, Nat.le_of_ble_eq_true rfl⟩) ⟨zPc_bl, va_recv hKc hPc (ci := 11) (q0 := 0) rfl rfl, zPc_at hz hS hA0 hPc hKc hDc⟩ rfl rfl hl.1 rfl (lv_room (Nat.le_of_ble_eq_true rfl)) dX11_rules_36 ⟨Nat.le_of_ble_eq_true rfl, Nat.le_of_ble_eq_true rfl⟩) hS (fun q _ h => hFc q h) hFc (fun u t H1 locs ht hvm hw hB hz1 hk1 hS => ?_)
  obtain ⟨hP1, hK1, hD1⟩ := hB
  rw [ht] at hP1
  have hK1 := va_K.moved hvm.symm hK1
  obtain ⟨hP, hD⟩ := va_join (wr := [(d0, .inr (5, [.ref dn, .ref dp])), (dn, .inl (cdn, 4, .inl zg2)), (dp, .inl (cdp, 30, .inl zg3)), (r0, .inr (5, [.ref rn, .ref rp])), (rn, .inl (crn, 4, .inl f1)), (rp, .inl (crp, 30, .inl f2))]) (w1 := [(h0, .inr (11, [.ref t0, .ref b0, .ref c0, .ref r0, .ref d0, .ref e0, .ref o0, .ref s0, .ref p0, .ref w0, .int 0, .int 0, .int 0, .int 0, .int ((-1)), .int 0])), (t0, .inr (7, [.ref tb, .int 0, .int 0, .int 0]))]) hP hD [0, 7] [1, 2, 3, 4, 5, 6] rfl rfl (by decide) (by decide) hk1 hFc hP1 hD1
  have hK := (hK.sub (tys' := [(cdn, .int), (cdp, .int), (crn, .int), (crp, .int)]) [0, 1, 2, 3] rfl).app hK1
  generalize H1 = H at hP hS ⊢
  have hP : va_P (dC, dI) vwCl [(d0, .inr (5, [.ref dn, .ref dp])), (dn, .inl (cdn, 4, .inl zg2)), (dp, .inl (cdp, 30, .inl zg3)), (r0, .inr (5, [.ref rn, .ref rp])), (rn, .inl (crn, 4, .inl f1)), (rp, .inl (crp, 30, .inl f2)), (h0, .inr (11, [.ref t0, .ref b0, .ref c0, .ref r0, .ref d0, .ref e0, .ref o0, .ref s0, .ref p0, .ref w0, .int 0, .int 0, .int 0, .int 0, .int ((-1)), .int 0])), (t0, .inr (7, [.ref tb, .int 0, .int 0, .int 0]))] H := hP
  have hD : va_D A [(d0, .inr (5, [.ref dn, .ref dp])), (dn, .inl (cdn, 4, .inl zg2)), (dp, .inl (cdp, 30, .inl zg3)), (r0, .inr (5, [.ref rn, .ref rp])), (rn, .inl (crn, 4, .inl f1)), (rp, .inl (crp, 30, .inl f2)), (h0, .inr (11, [.ref t0, .ref b0, .ref c0, .ref r0, .ref d0, .ref e0, .ref o0, .ref s0, .ref p0, .ref w0, .int 0, .int 0, .int 0, .int 0, .int ((-1)), .int 0])), (t0, .inr (7, [.ref tb, .int 0, .int 0, .int 0]))] := hD
  have hK : va_K (dC, dI) vwCl [(cdn, .int), (cdp, .int), (crn, .int), (crp, .int)] s := hK
  refine lv_iinc (v := 1) (lv' := [(1, .int 1), (3, .int 0), (2, .int 1), (0, .ref h0)]) hx hb dX11_rules_39 hl (k := 2) rfl (by decide) (by decide) rfl (fun ls hl => ?_)
  refine lv_aload_n hx hb dX11_rules_42 rfl (lv_at hl 3 rfl) ?_
  refine va_get (D := (dC, dI)) (ci := 11) (v := .ref t0) (C := RX11) (T := TX11) (N := 16) hx hb hts hiX11 hown hK hP 6 rfl rfl 0 (by decide) hw3 (fun _ h9 => h9) rfl dX11_rules_43 ?_
  refine lv_bipush (v := 59) hx hb dX11_rules_46 (by decide) ?_
  have hPc := hP.sub (ws' := [(t0, .inr (7, [.ref tb, .int 0, .int 0, .int 0]))]) [7] rfl
  have hDc := hD.sub (ws' := [(t0, .inr (7, [.ref tb, .int 0, .int 0, .int 0]))]) [7] (by decide) rfl
  have hKc := hK.sub (tys' := []) [] rfl
  have hFc := va_free (wc := [(t0, .inr (7, [.ref tb, .int 0, .int 0, .int 0]))]) hD hS hA [7] rfl
  refine va_calli (va_runV (As := [.int 59]) (rest := []) ⟨hx, hb, hml, hown, hts⟩ (c_takesSign_b l hl0 dC dI A0 ad H.size t0 tb 59 (fun q h => hA0 q (hFc q h))) (cwV 1 hts gX11_rules_X7_takesSign rfl rfl rfl (by decide +kernel) ⟨Nat.le_of_ble_eq_true rfl, Nat.le_of_ble_eq_true rfl⟩) ⟨zPc_bl, va_recv hKc hPc (ci := 7) (q0 := 0) rfl rfl, zPc_at hz hS hA0 hPc hKc hDc⟩ rfl rfl hl.1 rfl (lv_room (Nat.le_of_ble_eq_true rfl)) dX11_rules_48 ⟨Nat.le_of_ble_eq_true rfl, Nat.le_of_ble_eq_true rfl⟩) hS (fun q _ h => hFc q h) hFc (fun r8 u t H1 locs ht hvm hw hB hz1 hk1 hS => ?_)
  obtain ⟨hP1, hK1, hD1⟩ := hB
  rw [ht] at hP1
  have hK1 := va_K.moved hvm.symm hK1
  obtain ⟨hP, hD⟩ := va_join (wr := [(d0, .inr (5, [.ref dn, .ref dp])), (dn, .inl (cdn, 4, .inl zg2)), (dp, .inl (cdp, 30, .inl zg3)), (r0, .inr (5, [.ref rn, .ref rp])), (rn, .inl (crn, 4, .inl f1)), (rp, .inl (crp, 30, .inl f2)), (h0, .inr (11, [.ref t0, .ref b0, .ref c0, .ref r0, .ref d0, .ref e0, .ref o0, .ref s0, .ref p0, .ref w0, .int 0, .int 0, .int 0, .int 0, .int ((-1)), .int 0]))]) (w1 := [(t0, .inr (7, [.ref tb, .int 0, .int 0, .int 0]))]) hP hD [7] [0, 1, 2, 3, 4, 5, 6] rfl rfl (by decide) (by decide) hk1 hFc hP1 hD1
  have hK := (hK.sub (tys' := [(cdn, .int), (cdp, .int), (crn, .int), (crp, .int)]) [0, 1, 2, 3] rfl).app hK1
  generalize H1 = H at hP hS ⊢
  have hP : va_P (dC, dI) vwCl [(d0, .inr (5, [.ref dn, .ref dp])), (dn, .inl (cdn, 4, .inl zg2)), (dp, .inl (cdp, 30, .inl zg3)), (r0, .inr (5, [.ref rn, .ref rp])), (rn, .inl (crn, 4, .inl f1)), (rp, .inl (crp, 30, .inl f2)), (h0, .inr (11, [.ref t0, .ref b0, .ref c0, .ref r0, .ref d0, .ref e0, .ref o0, .ref s0, .ref p0, .ref w0, .int 0, .int 0, .int 0, .int 0, .int ((-1)), .int 0])), (t0, .inr (7, [.ref tb, .int 0, .int 0, .int 0]))] H := hP
  have hD : va_D A [(d0, .inr (5, [.ref dn, .ref dp])), (dn, .inl (cdn, 4, .inl zg2)), (dp, .inl (cdp, 30, .inl zg3)), (r0, .inr (5, [.ref rn, .ref rp])), (rn, .inl (crn, 4, .inl f1)), (rp, .inl (crp, 30, .inl f2)), (h0, .inr (11, [.ref t0, .ref b0, .ref c0, .ref r0, .ref d0, .ref e0, .ref o0, .ref s0, .ref p0, .ref w0, .int 0, .int 0, .int 0, .int 0, .int ((-1)), .int 0])), (t0, .inr (7, [.ref tb, .int 0, .int 0, .int 0]))] := hD
  have hK : va_K (dC, dI) vwCl [(cdn, .int), (cdp, .int), (crn, .int), (crp, .int)] s := hK
  obtain rfl : r8 = 0 := hw
  refine lv_istore_n (lv' := [(2, .int 0), (1, .int 1), (3, .int 0), (0, .ref h0)]) hx hb dX11_rules_51 rfl hl (by decide) rfl (fun ls hl => ?_)
  refine lv_iinc (v := 1) (lv' := [(3, .int 1), (2, .int 0), (1, .int 1), (0, .ref h0)]) hx hb dX11_rules_52 hl (k := 2) rfl (by decide) (by decide) rfl (fun ls hl => ?_)
  refine lv_goto (tgt := 24) hx hb dX11_rules_55 (by decide) ?_
  refine lv_iload_n hx hb dX11_rules_24 rfl (lv_at hl 0 rfl) ?_
  refine lv_sipush (v := 400) hx hb dX11_rules_25 (by decide) ?_
  refine lv_icmp_ge (tgt := 58) hx hb dX11_rules_28 (by decide) (fun c9 => absurd c9 (by decide)) (fun c9 => ?_)
  refine lv_iload_n hx hb dX11_rules_31 rfl (lv_at hl 1 rfl) ?_
  refine lv_if_eq (tgt := 58) hx hb dX11_rules_32 (by decide) (fun c10 => ?_) (fun c10 => absurd (by decide) c10)
  refine lv_aload_n hx hb dX11_rules_58 rfl (lv_at hl 3 rfl) ?_
  have hPc := hP.sub (ws' := [(h0, .inr (11, [.ref t0, .ref b0, .ref c0, .ref r0, .ref d0, .ref e0, .ref o0, .ref s0, .ref p0, .ref w0, .int 0, .int 0, .int 0, .int 0, .int ((-1)), .int 0])), (t0, .inr (7, [.ref tb, .int 0, .int 0, .int 0]))]) [6, 7] rfl
  have hDc := hD.sub (ws' := [(h0, .inr (11, [.ref t0, .ref b0, .ref c0, .ref r0, .ref d0, .ref e0, .ref o0, .ref s0, .ref p0, .ref w0, .int 0, .int 0, .int 0, .int 0, .int ((-1)), .int 0])), (t0, .inr (7, [.ref tb, .int 0, .int 0, .int 0]))]) [6, 7] (by decide) rfl
  have hKc := hK.sub (tys' := []) [] rfl
  have hFc := va_free (wc := [(h0, .inr (11, [.ref t0, .ref b0, .ref c0, .ref r0, .ref d0, .ref e0, .ref o0, .ref s0, .ref p0, .ref w0, .int 0, .int 0, .int 0, .int 0, .int ((-1)), .int 0])), (t0, .inr (7, [.ref tb, .int 0, .int 0, .int 0]))]) hD hS hA [6, 7] rfl
  refine va_callv (va_runV (As := []) (rest := []) ⟨hx, hb, hml, hown, hts⟩ (c_closeTape l hl0 dC dI A0 ad H.size h0 t0 b0 c0 r0 d0 e0 o0 s0 p0 w0 tb (fun q h => hA0 q (hFc q h))) (cwV 0 hts gX11_rules_X11_closeTape rfl rfl rfl (by decide +kernel) ⟨Nat.le_of_ble_eq_true rfl, Nat.le_of_ble_eq_true rfl⟩) ⟨zPc_bl, va_recv hKc hPc (ci := 11) (q0 := 0) rfl rfl, zPc_at hz hS hA0 hPc hKc hDc⟩ rfl rfl hl.1 rfl (lv_room (Nat.le_of_ble_eq_true rfl)) dX11_rules_59 ⟨Nat.le_of_ble_eq_true rfl, Nat.le_of_ble_eq_true rfl⟩) hS (fun q _ h => hFc q h) hFc (fun u t H1 locs ht hvm hw hB hz1 hk1 hS => ?_)
  obtain ⟨hP1, hK1, hD1⟩ := hB
  rw [ht] at hP1
  have hK1 := va_K.moved hvm.symm hK1
  obtain ⟨hP, hD⟩ := va_join (wr := [(d0, .inr (5, [.ref dn, .ref dp])), (dn, .inl (cdn, 4, .inl zg2)), (dp, .inl (cdp, 30, .inl zg3)), (r0, .inr (5, [.ref rn, .ref rp])), (rn, .inl (crn, 4, .inl f1)), (rp, .inl (crp, 30, .inl f2))]) (w1 := [(h0, .inr (11, [.ref t0, .ref b0, .ref c0, .ref r0, .ref d0, .ref e0, .ref o0, .ref s0, .ref p0, .ref w0, .int 0, .int 0, .int 0, .int 0, .int 0, .int 0])), (t0, .inr (7, [.ref tb, .int 0, .int 0, .int 0]))]) hP hD [6, 7] [0, 1, 2, 3, 4, 5] rfl rfl (by decide) (by decide) hk1 hFc hP1 hD1
  have hK := (hK.sub (tys' := [(cdn, .int), (cdp, .int), (crn, .int), (crp, .int)]) [0, 1, 2, 3] rfl).app hK1
  generalize H1 = H at hP hS ⊢
  have hP : va_P (dC, dI) vwCl [(d0, .inr (5, [.ref dn, .ref dp])), (dn, .inl (cdn, 4, .inl zg2)), (dp, .inl (cdp, 30, .inl zg3)), (r0, .inr (5, [.ref rn, .ref rp])), (rn, .inl (crn, 4, .inl f1)), (rp, .inl (crp, 30, .inl f2)), (h0, .inr (11, [.ref t0, .ref b0, .ref c0, .ref r0, .ref d0, .ref e0, .ref o0, .ref s0, .ref p0, .ref w0, .int 0, .int 0, .int 0, .int 0, .int 0, .int 0])), (t0, .inr (7, [.ref tb, .int 0, .int 0, .int 0]))] H := hP
  have hD : va_D A [(d0, .inr (5, [.ref dn, .ref dp])), (dn, .inl (cdn, 4, .inl zg2)), (dp, .inl (cdp, 30, .inl zg3)), (r0, .inr (5, [.ref rn, .ref rp])), (rn, .inl (crn, 4, .inl f1)), (rp, .inl (crp, 30, .inl f2)), (h0, .inr (11, [.ref t0, .ref b0, .ref c0, .ref r0, .ref d0, .ref e0, .ref o0, .ref s0, .ref p0, .ref w0, .int 0, .int 0, .int 0, .int 0, .int 0, .int 0])), (t0, .inr (7, [.ref tb, .int 0, .int 0, .int 0]))] := hD
  have hK : va_K (dC, dI) vwCl [(cdn, .int), (cdp, .int), (crn, .int), (crp, .int)] s := hK
  refine lv_aload_n hx hb dX11_rules_62 rfl (lv_at hl 3 rfl) ?_
  refine va_get (D := (dC, dI)) (ci := 11) (v := .int 0) (C := RX11) (T := TX11) (N := 16) hx hb hts hiX11 hown hK hP 6 rfl rfl 14 (by decide) hw4 (fun _ h9 => h9) rfl dX11_rules_63 ?_
  refine lv_iconst (v := (-1)) hx hb dX11_rules_66 (by decide) ?_
  refine lv_icmp_eq (tgt := 80) hx hb dX11_rules_67 (by decide) (fun c12 => absurd c12 (by decide)) (fun c12 => ?_)
  obtain ⟨a13, ha13⟩ := hz.2.2.2.2.1 _ (List.mem_of_getElem? (i := 7) rfl)
  have hat : ∀ w ∈ vx_atS RX11 95 "java/lang/IllegalArgumentException" ["java/lang/RuntimeException", "java/lang/Exception"], w.before _ s = true := vx_hat (fun w h => hts w (List.mem_cons_of_mem _ (List.mem_append_right _ h))) (B := [.castable "java/lang/IllegalArgumentException" "java/lang/IllegalArgumentException", .declares (Bundle.initS "java/lang/RuntimeException"), .declares (Bundle.initS "java/lang/Exception"), .declares (Bundle.initS Bundle.tN)]) (by decide +kernel) (vx_c (va_Nw.use rfl (hz.2.2.2.2.2.2.2.1 _ (List.mem_of_getElem? (i := 1) rfl))) (vx_c (va_Nw.use rfl (hz.2.2.2.2.2.2.2.2 _ (List.mem_of_getElem? (i := 0) rfl))) (vx_c (va_Nw.use rfl (hz.2.2.2.2.2.2.2.2 _ (List.mem_of_getElem? (i := 1) rfl))) (vx_c (va_Nw.use rfl (hz.2.2.2.2.2.2.2.2 _ (List.mem_of_getElem? (i := 2) rfl))) vx_n))))
  exact vx_throwS hx hb hl0 (own := RX11) (cls := "java/lang/IllegalArgumentException") (text := "the text of the rules is wrong") (names := ["java/lang/RuntimeException", "java/lang/Exception"]) hown (by decide +kernel) (by decide +kernel) hw5 hw6 ha13 hat (by decide +kernel) (hz.1.narrow hA0) (hz.2.1.narrow hA0) hS (by rw [hml]; exact hl.1) dX11_rules_70 dX11_rules_73 dX11_rules_74 dX11_rules_76 dX11_rules_79 (fun x h9 => (ht0 x h9).elim) (Nat.le_of_ble_eq_true rfl) (Nat.le_of_ble_eq_true rfl) (Nat.le_of_ble_eq_true rfl) (Nat.le_of_ble_eq_true rfl) hlocks (fun t hvm h1 h2 => ⟨(), trivial, rfl, zF2 hS h1 h2⟩) hS.2.2 (by decide) (by decide)
def zNum (k : Int32) : Int32 := if k = 0 then 10 else if k = 1 then 50 else if k = 2 then 10000 else 14
theorem zWi4 {n : Int32} (h : ¬ zWi n 0 3 = 0) : n = 0 ∨ n = 1 ∨ n = 2 ∨ n = 3 := by
  unfold zWi at h
  by_cases h1 : n < 0
  · rw [if_pos h1] at h; exact absurd rfl h
  · rw [if_neg h1] at h
    by_cases h2 : (3 : Int32) < n
    · rw [if_pos h2] at h; exact absurd rfl h
    · have a1 : ¬ n.toInt < 0 := fun q => h1 (Int32.lt_iff_toInt_lt.mpr q)
      have a2 : ¬ (3 : Int) < n.toInt := fun q => h2 (Int32.lt_iff_toInt_lt.mpr q)
      have a3 : n.toInt = 0 ∨ n.toInt = 1 ∨ n.toInt = 2 ∨ n.toInt = 3 := by omega
      rcases a3 with a | a | a | a
      · exact Or.inl (Int32.toInt_inj.mp a)
      · exact Or.inr (Or.inl (Int32.toInt_inj.mp a))
      · exact Or.inr (Or.inr (Or.inl (Int32.toInt_inj.mp a)))
      · exact Or.inr (Or.inr (Or.inr (Int32.toInt_inj.mp a)))
set_option maxHeartbeats 4000000 in
set_option maxRecDepth 100000 in
/-- says on a fresh object -/
theorem c_says (l : Launch) (hl0 : l.stackTraces = false) (dC : Nat → ClassId) (dI : Nat → Nat → Nat) (A0 : Nat → Prop) (ad : Nat → Nat) (sz : Nat) (h0 t0 b0 c0 r0 d0 e0 o0 s0 p0 w0 : Nat) (rn rp : Nat) (crn : ClassId) (x : Int32) (hA0 : ∀ q, va_A [(h0, .inr (11, [.ref t0, .ref b0, .ref c0, .ref r0, .ref d0, .ref e0, .ref o0, .ref s0, .ref p0, .ref w0, .int 0, .int 0, .int 0, .int 0, .int ((-1)), .int 0])), (r0, .inr (5, [.ref rn, .ref rp])), (rn, .inl (crn, 4, .inl (upd (upd (upd (upd (fun _ => 0) (0 : Int32).toNatClampNeg 10) (1 : Int32).toNatClampNeg 50) (2 : Int32).toNatClampNeg 10000) (3 : Int32).toNatClampNeg 14)))] sz q → A0 q) : vx_Met l yX11_says wsX11_says ({ frames := 6, cells := 1, slots := 6, locals := 82 }) (va_Pc [.ref h0, .int x] (zPc A0 ad (dC, dI) [(h0, .inr (11, [.ref t0, .ref b0, .ref c0, .ref r0, .ref d0, .ref e0, .ref o0, .ref s0, .ref p0, .ref w0, .int 0, .int 0, .int 0, .int 0, .int ((-1)), .int 0])), (r0, .inr (5, [.ref rn, .ref rp])), (rn, .inl (crn, 4, .inl (upd (upd (upd (upd (fun _ => 0) (0 : Int32).toNatClampNeg 10) (1 : Int32).toNatClampNeg 50) (2 : Int32).toNatClampNeg 10000) (3 : Int32).toNatClampNeg 14)))] [(crn, .int)] sz)) (va_Qi (fun (r : Int32) (_ : Unit) => r = zNum x ∧ ¬ zWi x 0 3 = 0) (fun (_ : Unit) (t : State) => zB (dC, dI) (va_A [(h0, .inr (11, [.ref t0, .ref b0, .ref c0, .ref r0, .ref d0, .ref e0, .ref o0, .ref s0, .ref p0, .ref w0, .int 0, .int 0, .int 0, .int 0, .int ((-1)), .int 0])), (r0, .inr (5, [.ref rn, .ref rp])), (rn, .inl (crn, 4, .inl (upd (upd (upd (upd (fun _ => 0) (0 : Int32).toNatClampNeg 10) (1 : Int32).toNatClampNeg 50) (2 : Int32).toNatClampNeg 10000) (3 : Int32).toNatClampNeg 14)))] sz) [(h0, .inr (11, [.ref t0, .ref b0, .ref c0, .ref r0, .ref d0, .ref e0, .ref o0, .ref s0, .ref p0, .ref w0, .int 0, .int 0, .int 0, .int 0, .int ((-1)), .int 0])), (r0, .inr (5, [.ref rn, .ref rp])), (rn, .inl (crn, 4, .inl (upd (upd (upd (upd (fun _ => 0) (0 : Int32).toNatClampNeg 10) (1 : Int32).toNatClampNeg 50) (2 : Int32).toNatClampNeg 10000) (3 : Int32).toNatClampNeg 14)))] [(crn, .int)] t) (va_A [(h0, .inr (11, [.ref t0, .ref b0, .ref c0, .ref r0, .ref d0, .ref e0, .ref o0, .ref s0, .ref p0, .ref w0, .int 0, .int 0, .int 0, .int 0, .int ((-1)), .int 0])), (r0, .inr (5, [.ref rn, .ref rp])), (rn, .inl (crn, 4, .inl (upd (upd (upd (upd (fun _ => 0) (0 : Int32).toNatClampNeg 10) (1 : Int32).toNatClampNeg 50) (2 : Int32).toNatClampNeg 10000) (3 : Int32).toNatClampNeg 14)))] sz)) (vx_X (fun _ : Unit => True) (fun (E : String) (_ : Unit) (_ : State) => E = "java/util/NoSuchElementException" ∧ zWi x 0 3 = 0) (va_A [(h0, .inr (11, [.ref t0, .ref b0, .ref c0, .ref r0, .ref d0, .ref e0, .ref o0, .ref s0, .ref p0, .ref w0, .int 0, .int 0, .int 0, .int 0, .int ((-1)), .int 0])), (r0, .inr (5, [.ref rn, .ref rp])), (rn, .inl (crn, 4, .inl (upd (upd (upd (upd (fun _ => 0) (0 : Int32).toNatClampNeg 10) (1 : Int32).toNatClampNeg 50) (2 : Int32).toNatClampNeg 10000) (3 : Int32).toNatClampNeg 14)))] sz)) 1 6 (va_A [(h0, .inr (11, [.ref t0, .ref b0, .ref c0, .ref r0, .ref d0, .ref e0, .ref o0, .ref s0, .ref p0, .ref w0, .int 0, .int 0, .int 0, .int 0, .int ((-1)), .int 0])), (r0, .inr (5, [.ref rn, .ref rp])), (rn, .inl (crn, 4, .inl (upd (upd (upd (upd (fun _ => 0) (0 : Int32).toNatClampNeg 10) (1 : Int32).toNatClampNeg 50) (2 : Int32).toNatClampNeg 10000) (3 : Int32).toNatClampNeg 14)))] sz) := by
  refine vx_ofW (cc := cX11_says) (maxL := 2) (ret := (some .int)) (by decide) rfl ?_
  intro p e s m args below meth c s₁ B hml ht0 hv
  obtain ⟨rfl, hsz, hz, hP, hK, hD0⟩ := hv
  have hx := B.exec
  have hb := B.bytes
  have hr := B.returns
  have hts := atoms_spec (ws := wsX11_says) B.pre
  have hown : s.vm.findClass RX11 = some m.cls := findClass_of_methodNamed B.named
  have hlocks := B.notSynchronized
  subst hsz
  have hD := hD0.self (sz := s.heap.size)
  generalize hAe : va_A [(h0, .inr (11, [.ref t0, .ref b0, .ref c0, .ref r0, .ref d0, .ref e0, .ref o0, .ref s0, .ref p0, .ref w0, .int 0, .int 0, .int 0, .int 0, .int ((-1)), .int 0])), (r0, .inr (5, [.ref rn, .ref rp])), (rn, .inl (crn, 4, .inl (upd (upd (upd (upd (fun _ => 0) (0 : Int32).toNatClampNeg 10) (1 : Int32).toNatClampNeg 50) (2 : Int32).toNatClampNeg 10000) (3 : Int32).toNatClampNeg 14)))] s.heap.size = A at hD hA0 ⊢
  have hA : ∀ q : Nat, s.heap.size ≤ q → A q := fun q h => by rw [← hAe]; exact Or.inr h
  have hS : va_S A s.heap s.heap [] := va_S.rf
  have hl := lv_entry ([.ref h0, .int x]) (n := 2) (Nat.le_of_ble_eq_true rfl)
  rw [lg_entry_eq]
  generalize (lg_sl ([.ref h0, .int x]) ++ List.replicate (2 - (lg_sl ([.ref h0, .int x])).length) Slot.unset).toArray = ls at hl ⊢
  have hl : lv_has ls 2 [(0, .ref h0), (1, .int x)] := hl
  have hP : va_P (dC, dI) vwCl [(h0, .inr (11, [.ref t0, .ref b0, .ref c0, .ref r0, .ref d0, .ref e0, .ref o0, .ref s0, .ref p0, .ref w0, .int 0, .int 0, .int 0, .int 0, .int ((-1)), .int 0])), (r0, .inr (5, [.ref rn, .ref rp])), (rn, .inl (crn, 4, .inl (upd (upd (upd (upd (fun _ => 0) (0 : Int32).toNatClampNeg 10) (1 : Int32).toNatClampNeg 50) (2 : Int32).toNatClampNeg 10000) (3 : Int32).toNatClampNeg 14)))] s.heap := hP
  have hiX11 : ∀ w ∈ u_ws RX11 TX11 16, w ∈ wsX11_says := fun _ h => List.mem_cons_of_mem _ (List.mem_append_left _ (List.mem_append_left _ (List.mem_append_right _ h)))
  have hw1 := hts (.fieldLink RX11 33 "PostHouse" "rules" "LPostHouse$Rules;") (by decide +kernel)
  have hiX5 : ∀ w ∈ u_ws RX5 TX5 2, w ∈ wsX11_says := fun _ h => List.mem_cons_of_mem _ (List.mem_append_left _ (List.mem_append_right _ h))
  have hw3 := hts (.fieldLink RX11 174 "PostHouse$Rules" "numbers" "[I") (by decide +kernel)
  have hw4 := hts (.classLink RX11 169 "java/util/NoSuchElementException") (by decide +kernel)
  have hw5 := hts (.initialized "java/util/NoSuchElementException") (by decide +kernel)
  refine lv_iload_n hx hb dX11_says_0 rfl (lv_at hl 1 rfl) ?_
  refine lv_iconst (v := 0) hx hb dX11_says_1 (by decide) ?_
  refine lv_iconst (v := 3) hx hb dX11_says_2 (by decide) ?_
  have hPc := hP.sub (ws' := []) [] rfl
  have hDc := hD.sub (ws' := []) [] (by decide) rfl
  have hKc := hK.sub (tys' := []) [] rfl
  have hFc := va_free (wc := []) hD hS hA [] rfl
  refine va_calli (va_runS (As := [.int x, .int 0, .int 3]) (rest := []) ⟨hx, hb, hml, hown, hts⟩ (c_within l hl0 dC dI A0 ad s.heap.size x 0 3 (fun q h => hA0 q (hFc q h))) (cwS 3 hts gX11_says_X11_within rfl rfl rfl (by decide +kernel) ⟨Nat.le_of_ble_eq_true rfl, Nat.le_of_ble_eq_true rfl⟩) ⟨zPc_bl, zPc_at hz hS hA0 hPc hKc hDc⟩ rfl rfl hl.1 rfl (lv_room (Nat.le_of_ble_eq_true rfl)) dX11_says_3 ⟨Nat.le_of_ble_eq_true rfl, Nat.le_of_ble_eq_true rfl⟩) hS (fun q _ h => hFc q h) hFc (fun r1 u t H1 locs ht hvm hw hB hz1 hk1 hS => ?_)
  obtain ⟨hP1, hK1, hD1⟩ := hB
  rw [ht] at hP1
  have hK1 := va_K.moved hvm.symm hK1
  obtain ⟨hP, hD⟩ := va_join (wr := [(h0, .inr (11, [.ref t0, .ref b0, .ref c0, .ref r0, .ref d0, .ref e0, .ref o0, .ref s0, .ref p0, .ref w0, .int 0, .int 0, .int 0, .int 0, .int ((-1)), .int 0])), (r0, .inr (5, [.ref rn, .ref rp])), (rn, .inl (crn, 4, .inl (upd (upd (upd (upd (fun _ => 0) (0 : Int32).toNatClampNeg 10) (1 : Int32).toNatClampNeg 50) (2 : Int32).toNatClampNeg 10000) (3 : Int32).toNatClampNeg 14)))]) (w1 := []) hP hD [] [0, 1, 2] rfl rfl (by decide) (by decide) hk1 hFc hP1 hD1
  have hK := (hK.sub (tys' := [(crn, .int)]) [0] rfl).app hK1
  generalize H1 = H at hP hS ⊢
  have hP : va_P (dC, dI) vwCl [(h0, .inr (11, [.ref t0, .ref b0, .ref c0, .ref r0, .ref d0, .ref e0, .ref o0, .ref s0, .ref p0, .ref w0, .int 0, .int 0, .int 0, .int 0, .int ((-1)), .int 0])), (r0, .inr (5, [.ref rn, .ref rp])), (rn, .inl (crn, 4, .inl (upd (upd (upd (upd (fun _ => 0) (0 : Int32).toNatClampNeg 10) (1 : Int32).toNatClampNeg 50) (2 : Int32).toNatClampNeg 10000) (3 : Int32).toNatClampNeg 14)))] H := hP
  have hD : va_D A [(h0, .inr (11, [.ref t0, .ref b0, .ref c0, .ref r0, .ref d0, .ref e0, .ref o0, .ref s0, .ref p0, .ref w0, .int 0, .int 0, .int 0, .int 0, .int ((-1)), .int 0])), (r0, .inr (5, [.ref rn, .ref rp])), (rn, .inl (crn, 4, .inl (upd (upd (upd (upd (fun _ => 0) (0 : Int32).toNatClampNeg 10) (1 : Int32).toNatClampNeg 50) (2 : Int32).toNatClampNeg 10000) (3 : Int32).toNatClampNeg 14)))] := hD
  have hK : va_K (dC, dI) vwCl [(crn, .int)] s := hK
  have er1 := hw
  refine lv_if_ne (tgt := 19) hx hb dX11_says_6 (by decide) (fun c2 => ?_) (fun c2 => ?_)
  · rcases zWi4 (by rw [← er1]; exact c2) with rfl | rfl | rfl | rfl
    · refine lv_aload_n hx hb dX11_says_19 rfl (lv_at hl 0 rfl) ?_
      refine va_get (D := (dC, dI)) (ci := 11) (v := .ref r0) (C := RX11) (T := TX11) (N := 16) hx hb hts hiX11 hown hK hP 0 rfl rfl 3 (by decide) hw1 (fun _ h9 => h9) rfl dX11_says_20 ?_
      refine va_get (D := (dC, dI)) (ci := 5) (v := .ref rn) (C := RX5) (T := TX5) (N := 2) hx hb hts hiX5 hown hK hP 1 rfl rfl 0 (by decide) hw3 (fun _ h9 => h9) rfl dX11_says_23 ?_
      refine lv_iload_n hx hb dX11_says_26 rfl (lv_at hl 1 rfl) ?_
      refine va_iald (D := (dC, dI)) hx hb hK hP 2 0 rfl rfl (zIn (by decide) (by decide)) dX11_says_27 ?_
      refine lv_topi (fun v3 ev3 => ?_)
      obtain rfl : v3 = 10 := ev3.trans (by decide)
      have hP9 := hP.sub (ws' := [(h0, .inr (11, [.ref t0, .ref b0, .ref c0, .ref r0, .ref d0, .ref e0, .ref o0, .ref s0, .ref p0, .ref w0, .int 0, .int 0, .int 0, .int 0, .int ((-1)), .int 0])), (r0, .inr (5, [.ref rn, .ref rp])), (rn, .inl (crn, 4, .inl (upd (upd (upd (upd (fun _ => 0) (0 : Int32).toNatClampNeg 10) (1 : Int32).toNatClampNeg 50) (2 : Int32).toNatClampNeg 10000) (3 : Int32).toNatClampNeg 14)))]) [0, 1, 2] rfl
      have hD9 := hD.sub (ws' := [(h0, .inr (11, [.ref t0, .ref b0, .ref c0, .ref r0, .ref d0, .ref e0, .ref o0, .ref s0, .ref p0, .ref w0, .int 0, .int 0, .int 0, .int 0, .int ((-1)), .int 0])), (r0, .inr (5, [.ref rn, .ref rp])), (rn, .inl (crn, 4, .inl (upd (upd (upd (upd (fun _ => 0) (0 : Int32).toNatClampNeg 10) (1 : Int32).toNatClampNeg 50) (2 : Int32).toNatClampNeg 10000) (3 : Int32).toNatClampNeg 14)))]) [0, 1, 2] (by decide) rfl
      have hK9 := hK.sub (tys' := [(crn, .int)]) [0] rfl
      refine W.widen (k := 1) (n := 6) (by decide) (by decide) ?_
      refine vx_ret ?_
      exact W.iret (v := 10) hx hb hr (fun t ht hW => ⟨⟨10, (), rfl, ⟨by decide, by decide⟩, ⟨by rw [ht]; exact hP9, va_K.moved hW.alike hK9, hD9⟩⟩, hS.F ht⟩) hS.2.2 dX11_says_28
    · refine lv_aload_n hx hb dX11_says_19 rfl (lv_at hl 0 rfl) ?_
      refine va_get (D := (dC, dI)) (ci := 11) (v := .ref r0) (C := RX11) (T := TX11) (N := 16) hx hb hts hiX11 hown hK hP 0 rfl rfl 3 (by decide) hw1 (fun _ h9 => h9) rfl dX11_says_20 ?_
      refine va_get (D := (dC, dI)) (ci := 5) (v := .ref rn) (C := RX5) (T := TX5) (N := 2) hx hb hts hiX5 hown hK hP 1 rfl rfl 0 (by decide) hw3 (fun _ h9 => h9) rfl dX11_says_23 ?_
      refine lv_iload_n hx hb dX11_says_26 rfl (lv_at hl 1 rfl) ?_
      refine va_iald (D := (dC, dI)) hx hb hK hP 2 0 rfl rfl (zIn (by decide) (by decide)) dX11_says_27 ?_
      refine lv_topi (fun v4 ev4 => ?_)
      obtain rfl : v4 = 50 := ev4.trans (by decide)
      have hP9 := hP.sub (ws' := [(h0, .inr (11, [.ref t0, .ref b0, .ref c0, .ref r0, .ref d0, .ref e0, .ref o0, .ref s0, .ref p0, .ref w0, .int 0, .int 0, .int 0, .int 0, .int ((-1)), .int 0])), (r0, .inr (5, [.ref rn, .ref rp])), (rn, .inl (crn, 4, .inl (upd (upd (upd (upd (fun _ => 0) (0 : Int32).toNatClampNeg 10) (1 : Int32).toNatClampNeg 50) (2 : Int32).toNatClampNeg 10000) (3 : Int32).toNatClampNeg 14)))]) [0, 1, 2] rfl
      have hD9 := hD.sub (ws' := [(h0, .inr (11, [.ref t0, .ref b0, .ref c0, .ref r0, .ref d0, .ref e0, .ref o0, .ref s0, .ref p0, .ref w0, .int 0, .int 0, .int 0, .int 0, .int ((-1)), .int 0])), (r0, .inr (5, [.ref rn, .ref rp])), (rn, .inl (crn, 4, .inl (upd (upd (upd (upd (fun _ => 0) (0 : Int32).toNatClampNeg 10) (1 : Int32).toNatClampNeg 50) (2 : Int32).toNatClampNeg 10000) (3 : Int32).toNatClampNeg 14)))]) [0, 1, 2] (by decide) rfl
      have hK9 := hK.sub (tys' := [(crn, .int)]) [0] rfl
      refine W.widen (k := 1) (n := 6) (by decide) (by decide) ?_
      refine vx_ret ?_
      exact W.iret (v := 50) hx hb hr (fun t ht hW => ⟨⟨50, (), rfl, ⟨by decide, by decide⟩, ⟨by rw [ht]; exact hP9, va_K.moved hW.alike hK9, hD9⟩⟩, hS.F ht⟩) hS.2.2 dX11_says_28
    · refine lv_aload_n hx hb dX11_says_19 rfl (lv_at hl 0 rfl) ?_
      refine va_get (D := (dC, dI)) (ci := 11) (v := .ref r0) (C := RX11) (T := TX11) (N := 16) hx hb hts hiX11 hown hK hP 0 rfl rfl 3 (by decide) hw1 (fun _ h9 => h9) rfl dX11_says_20 ?_
      refine va_get (D := (dC, dI)) (ci := 5) (v := .ref rn) (C := RX5) (T := TX5) (N := 2) hx hb hts hiX5 hown hK hP 1 rfl rfl 0 (by decide) hw3 (fun _ h9 => h9) rfl dX11_says_23 ?_
      refine lv_iload_n hx hb dX11_says_26 rfl (lv_at hl 1 rfl) ?_
      refine va_iald (D := (dC, dI)) hx hb hK hP 2 0 rfl rfl (zIn (by decide) (by decide)) dX11_says_27 ?_
      refine lv_topi (fun v5 ev5 => ?_)
      obtain rfl : v5 = 10000 := ev5.trans (by decide)
      have hP9 := hP.sub (ws' := [(h0, .inr (11, [.ref t0, .ref b0, .ref c0, .ref r0, .ref d0, .ref e0, .ref o0, .ref s0, .ref p0, .ref w0, .int 0, .int 0, .int 0, .int 0, .int ((-1)), .int 0])), (r0, .inr (5, [.ref rn, .ref rp])), (rn, .inl (crn, 4, .inl (upd (upd (upd (upd (fun _ => 0) (0 : Int32).toNatClampNeg 10) (1 : Int32).toNatClampNeg 50) (2 : Int32).toNatClampNeg 10000) (3 : Int32).toNatClampNeg 14)))]) [0, 1, 2] rfl
      have hD9 := hD.sub (ws' := [(h0, .inr (11, [.ref t0, .ref b0, .ref c0, .ref r0, .ref d0, .ref e0, .ref o0, .ref s0, .ref p0, .ref w0, .int 0, .int 0, .int 0, .int 0, .int ((-1)), .int 0])), (r0, .inr (5, [.ref rn, .ref rp])), (rn, .inl (crn, 4, .inl (upd (upd (upd (upd (fun _ => 0) (0 : Int32).toNatClampNeg 10) (1 : Int32).toNatClampNeg 50) (2 : Int32).toNatClampNeg 10000) (3 : Int32).toNatClampNeg 14)))]) [0, 1, 2] (by decide) rfl
      have hK9 := hK.sub (tys' := [(crn, .int)]) [0] rfl
      refine W.widen (k := 1) (n := 6) (by decide) (by decide) ?_
      refine vx_ret ?_
      exact W.iret (v := 10000) hx hb hr (fun t ht hW => ⟨⟨10000, (), rfl, ⟨by decide, by decide⟩, ⟨by rw [ht]; exact hP9, va_K.moved hW.alike hK9, hD9⟩⟩, hS.F ht⟩) hS.2.2 dX11_says_28
    · refine lv_aload_n hx hb dX11_says_19 rfl (lv_at hl 0 rfl) ?_
      refine va_get (D := (dC, dI)) (ci := 11) (v := .ref r0) (C := RX11) (T := TX11) (N := 16) hx hb hts hiX11 hown hK hP 0 rfl rfl 3 (by decide) hw1 (fun _ h9 => h9) rfl dX11_says_20 ?_
      refine va_get (D := (dC, dI)) (ci := 5) (v := .ref rn) (C := RX5) (T := TX5) (N := 2) hx hb hts hiX5 hown hK hP 1 rfl rfl 0 (by decide) hw3 (fun _ h9 => h9) rfl dX11_says_23 ?_
      refine lv_iload_n hx hb dX11_says_26 rfl (lv_at hl 1 rfl) ?_
      refine va_iald (D := (dC, dI)) hx hb hK hP 2 0 rfl rfl (zIn (by decide) (by decide)) dX11_says_27 ?_
      refine lv_topi (fun v6 ev6 => ?_)
      obtain rfl : v6 = 14 := ev6.trans (by decide)
      have hP9 := hP.sub (ws' := [(h0, .inr (11, [.ref t0, .ref b0, .ref c0, .ref r0, .ref d0, .ref e0, .ref o0, .ref s0, .ref p0, .ref w0, .int 0, .int 0, .int 0, .int 0, .int ((-1)), .int 0])), (r0, .inr (5, [.ref rn, .ref rp])), (rn, .inl (crn, 4, .inl (upd (upd (upd (upd (fun _ => 0) (0 : Int32).toNatClampNeg 10) (1 : Int32).toNatClampNeg 50) (2 : Int32).toNatClampNeg 10000) (3 : Int32).toNatClampNeg 14)))]) [0, 1, 2] rfl
      have hD9 := hD.sub (ws' := [(h0, .inr (11, [.ref t0, .ref b0, .ref c0, .ref r0, .ref d0, .ref e0, .ref o0, .ref s0, .ref p0, .ref w0, .int 0, .int 0, .int 0, .int 0, .int ((-1)), .int 0])), (r0, .inr (5, [.ref rn, .ref rp])), (rn, .inl (crn, 4, .inl (upd (upd (upd (upd (fun _ => 0) (0 : Int32).toNatClampNeg 10) (1 : Int32).toNatClampNeg 50) (2 : Int32).toNatClampNeg 10000) (3 : Int32).toNatClampNeg 14)))]) [0, 1, 2] (by decide) rfl
      have hK9 := hK.sub (tys' := [(crn, .int)]) [0] rfl
      refine W.widen (k := 1) (n := 6) (by decide) (by decide) ?_
      refine vx_ret ?_
      exact W.iret (v := 14) hx hb hr (fun t ht hW => ⟨⟨14, (), rfl, ⟨by decide, by decide⟩, ⟨by rw [ht]; exact hP9, va_K.moved hW.alike hK9, hD9⟩⟩, hS.F ht⟩) hS.2.2 dX11_says_28
  · obtain ⟨a7, ha7⟩ := hz.2.2.2.2.1 _ (List.mem_of_getElem? (i := 8) rfl)
    have hat : ∀ w ∈ zAtN RX11 173, w.before _ s = true := vx_hat (fun w h => hts w (List.mem_cons_of_mem _ (List.mem_append_right _ h))) (B := [.castable "java/util/NoSuchElementException" "java/util/NoSuchElementException", .declares (Bundle.initS "java/lang/RuntimeException"), .declares (Bundle.initS "java/lang/Exception"), .declares (Bundle.initS Bundle.tN)]) (by decide +kernel) (vx_c (va_Nw.use rfl (hz.2.2.2.2.2.2.2.1 _ (List.mem_of_getElem? (i := 3) rfl))) (vx_c (va_Nw.use rfl (hz.2.2.2.2.2.2.2.2 _ (List.mem_of_getElem? (i := 0) rfl))) (vx_c (va_Nw.use rfl (hz.2.2.2.2.2.2.2.2 _ (List.mem_of_getElem? (i := 1) rfl))) (vx_c (va_Nw.use rfl (hz.2.2.2.2.2.2.2.2 _ (List.mem_of_getElem? (i := 2) rfl))) vx_n))))
    exact zThrowN hx hb hl0 (own := RX11) (text := "the rules say nothing else") hown hw4 hw5 ha7 hat (by decide +kernel) (hz.1.narrow hA0) (hz.2.1.narrow hA0) hS (by rw [hml]; exact hl.1) dX11_says_9 dX11_says_12 dX11_says_13 dX11_says_15 dX11_says_18 (fun x h9 => (ht0 x h9).elim) (Nat.le_of_ble_eq_true rfl) (Nat.le_of_ble_eq_true rfl) (Nat.le_of_ble_eq_true rfl) (Nat.le_of_ble_eq_true rfl) hlocks (fun t hvm h1 h2 => ⟨(), trivial, ⟨rfl, by rw [← er1]; exact c2⟩, zF2 hS h1 h2⟩) hS.2.2 (by decide) (by decide)
set_option maxHeartbeats 4000000 in
set_option maxRecDepth 100000 in
/-- addLine, the first -/
theorem c_addLine (l : Launch) (hl0 : l.stackTraces = false) (dC : Nat → ClassId) (dI : Nat → Nat → Nat) (A0 : Nat → Prop) (ad : Nat → Nat) (sz : Nat) (lt lc lp : Nat) (clc clp : ClassId) (x y : Int32) (hA0 : ∀ q, va_A [(lt, .inr (2, [.ref lc, .ref lp, .int 0, .int 0, .int 0, .int 0, .int 0, .int 0, .int 0, .int 0])), (lc, .inl (clc, 8, .inl (fun _ => 0))), (lp, .inl (clp, 8, .inl (fun _ => 0)))] sz q → A0 q) : Met l yX2_addLine wsX2_addLine ({ frames := 0, cells := 0, slots := 0, locals := 0 }) (va_Pc [.ref lt, .int x, .int y] (zPc A0 ad (dC, dI) [(lt, .inr (2, [.ref lc, .ref lp, .int 0, .int 0, .int 0, .int 0, .int 0, .int 0, .int 0, .int 0])), (lc, .inl (clc, 8, .inl (fun _ => 0))), (lp, .inl (clp, 8, .inl (fun _ => 0)))] [(clc, .int), (clp, .int)] sz)) (va_Qv (fun (_ : Unit) => True) (fun (_ : Unit) (t : State) => ∃ (f : Nat → Int32), ∃ (g : Nat → Int32), zB (dC, dI) (va_A [(lt, .inr (2, [.ref lc, .ref lp, .int 0, .int 0, .int 0, .int 0, .int 0, .int 0, .int 0, .int 0])), (lc, .inl (clc, 8, .inl (fun _ => 0))), (lp, .inl (clp, 8, .inl (fun _ => 0)))] sz) [(lt, .inr (2, [.ref lc, .ref lp, .int 1, .int 0, .int 0, .int 0, .int 0, .int 0, .int 0, .int 0])), (lc, .inl (clc, 8, .inl f)), (lp, .inl (clp, 8, .inl g))] [(clc, .int), (clp, .int)] t) (va_A [(lt, .inr (2, [.ref lc, .ref lp, .int 0, .int 0, .int 0, .int 0, .int 0, .int 0, .int 0, .int 0])), (lc, .inl (clc, 8, .inl (fun _ => 0))), (lp, .inl (clp, 8, .inl (fun _ => 0)))] sz)) 0 0 (va_A [(lt, .inr (2, [.ref lc, .ref lp, .int 0, .int 0, .int 0, .int 0, .int 0, .int 0, .int 0, .int 0])), (lc, .inl (clc, 8, .inl (fun _ => 0))), (lp, .inl (clp, 8, .inl (fun _ => 0)))] sz) := by
  refine Met.ofW (cc := cX2_addLine) (maxL := 3) (ret := none) (by decide) rfl ?_
  intro p e s m args below meth c s₁ B hml hv
  obtain ⟨rfl, hsz, hz, hP, hK, hD0⟩ := hv
  have hx := B.exec
  have hb := B.bytes
  have hr := B.returns
  have hts := atoms_spec (ws := wsX2_addLine) B.pre
  have hown : s.vm.findClass RX2 = some m.cls := findClass_of_methodNamed B.named
  have hlocks := B.notSynchronized
  subst hsz
  have hD := hD0.self (sz := s.heap.size)
  generalize hAe : va_A [(lt, .inr (2, [.ref lc, .ref lp, .int 0, .int 0, .int 0, .int 0, .int 0, .int 0, .int 0, .int 0])), (lc, .inl (clc, 8, .inl (fun _ => 0))), (lp, .inl (clp, 8, .inl (fun _ => 0)))] s.heap.size = A at hD hA0 ⊢
  have hA : ∀ q : Nat, s.heap.size ≤ q → A q := fun q h => by rw [← hAe]; exact Or.inr h
  have hS : va_S A s.heap s.heap [] := va_S.rf
  have hl := lv_entry ([.ref lt, .int x, .int y]) (n := 3) (Nat.le_of_ble_eq_true rfl)
  rw [lg_entry_eq]
  generalize (lg_sl ([.ref lt, .int x, .int y]) ++ List.replicate (3 - (lg_sl ([.ref lt, .int x, .int y])).length) Slot.unset).toArray = ls at hl ⊢
  have hl : lv_has ls 3 [(0, .ref lt), (1, .int x), (2, .int y)] := hl
  have hP : va_P (dC, dI) vwCl [(lt, .inr (2, [.ref lc, .ref lp, .int 0, .int 0, .int 0, .int 0, .int 0, .int 0, .int 0, .int 0])), (lc, .inl (clc, 8, .inl (fun _ => 0))), (lp, .inl (clp, 8, .inl (fun _ => 0)))] s.heap := hP
  have hiX2 : ∀ w ∈ u_ws RX2 TX2 10, w ∈ wsX2_addLine := fun _ h => List.mem_cons_of_mem _ (List.mem_append_right _ h)
  have hw1 := hts (.fieldLink RX2 18 "PostHouse$Letter" "lines" "I") (by decide +kernel)
  have hw2 := hts (.fieldLink RX2 9 "PostHouse$Letter" "codes" "[I") (by decide +kernel)
  have hw3 := hts (.fieldLink RX2 15 "PostHouse$Letter" "pieces" "[I") (by decide +kernel)
  refine lv_aload_n hx hb dX2_addLine_0 rfl (lv_at hl 0 rfl) ?_
  refine va_get (D := (dC, dI)) (ci := 2) (v := .int 0) (C := RX2) (T := TX2) (N := 10) hx hb hts hiX2 hown hK hP 0 rfl rfl 2 (by decide) hw1 (fun _ h9 => h9) rfl dX2_addLine_1 ?_
  refine lv_bipush (v := 8) hx hb dX2_addLine_4 (by decide) ?_
  refine lv_icmp_ge (tgt := 39) hx hb dX2_addLine_6 (by decide) (fun c1 => absurd c1 (by decide)) (fun c1 => ?_)
  refine lv_aload_n hx hb dX2_addLine_9 rfl (lv_at hl 0 rfl) ?_
  refine va_get (D := (dC, dI)) (ci := 2) (v := .ref lc) (C := RX2) (T := TX2) (N := 10) hx hb hts hiX2 hown hK hP 0 rfl rfl 0 (by decide) hw2 (fun _ h9 => h9) rfl dX2_addLine_10 ?_
  refine lv_aload_n hx hb dX2_addLine_13 rfl (lv_at hl 0 rfl) ?_
  refine va_get (D := (dC, dI)) (ci := 2) (v := .int 0) (C := RX2) (T := TX2) (N := 10) hx hb hts hiX2 hown hK hP 0 rfl rfl 2 (by decide) hw1 (fun _ h9 => h9) rfl dX2_addLine_14 ?_
  refine lv_iload_n hx hb dX2_addLine_17 rfl (lv_at hl 1 rfl) ?_
  refine va_iast (D := (dC, dI)) hx hb hK hP hD hS 1 0 rfl rfl (zIn (by decide) (by decide)) dX2_addLine_18 (fun H locs hP hD hS => ?_)
  have hP : va_P (dC, dI) vwCl [(lt, .inr (2, [.ref lc, .ref lp, .int 0, .int 0, .int 0, .int 0, .int 0, .int 0, .int 0, .int 0])), (lc, .inl (clc, 8, .inl (upd (fun _ => 0) (0 : Int32).toNatClampNeg x))), (lp, .inl (clp, 8, .inl (fun _ => 0)))] H := hP
  have hD : va_D A [(lt, .inr (2, [.ref lc, .ref lp, .int 0, .int 0, .int 0, .int 0, .int 0, .int 0, .int 0, .int 0])), (lc, .inl (clc, 8, .inl (upd (fun _ => 0) (0 : Int32).toNatClampNeg x))), (lp, .inl (clp, 8, .inl (fun _ => 0)))] := hD
  generalize (upd (fun _ => 0) (0 : Int32).toNatClampNeg x) = zf2 at hP hD
  refine lv_aload_n hx hb dX2_addLine_19 rfl (lv_at hl 0 rfl) ?_
  refine va_get (D := (dC, dI)) (ci := 2) (v := .ref lp) (C := RX2) (T := TX2) (N := 10) hx hb hts hiX2 hown hK hP 0 rfl rfl 1 (by decide) hw3 (fun _ h9 => h9) rfl dX2_addLine_20 ?_
  refine lv_aload_n hx hb dX2_addLine_23 rfl (lv_at hl 0 rfl) ?_
  refine va_get (D := (dC, dI)) (ci := 2) (v := .int 0) (C := RX2) (T := TX2) (N := 10) hx hb hts hiX2 hown hK hP 0 rfl rfl 2 (by decide) hw1 (fun _ h9 => h9) rfl dX2_addLine_24 ?_
  refine lv_iload_n hx hb dX2_addLine_27 rfl (lv_at hl 2 rfl) ?_
  refine va_iast (D := (dC, dI)) hx hb hK hP hD hS 2 1 rfl rfl (zIn (by decide) (by decide)) dX2_addLine_28 (fun H locs hP hD hS => ?_)
  have hP : va_P (dC, dI) vwCl [(lt, .inr (2, [.ref lc, .ref lp, .int 0, .int 0, .int 0, .int 0, .int 0, .int 0, .int 0, .int 0])), (lc, .inl (clc, 8, .inl zf2)), (lp, .inl (clp, 8, .inl (upd (fun _ => 0) (0 : Int32).toNatClampNeg y)))] H := hP
  have hD : va_D A [(lt, .inr (2, [.ref lc, .ref lp, .int 0, .int 0, .int 0, .int 0, .int 0, .int 0, .int 0, .int 0])), (lc, .inl (clc, 8, .inl zf2)), (lp, .inl (clp, 8, .inl (upd (fun _ => 0) (0 : Int32).toNatClampNeg y)))] := hD
  generalize (upd (fun _ => 0) (0 : Int32).toNatClampNeg y) = zf3 at hP hD
  refine lv_aload_n hx hb dX2_addLine_29 rfl (lv_at hl 0 rfl) ?_
  refine lv_dup hx hb dX2_addLine_30 rfl ?_
  refine va_get (D := (dC, dI)) (ci := 2) (v := .int 0) (C := RX2) (T := TX2) (N := 10) hx hb hts hiX2 hown hK hP 0 rfl rfl 2 (by decide) hw1 (fun _ h9 => h9) rfl dX2_addLine_31 ?_
  refine lv_iconst (v := 1) hx hb dX2_addLine_34 (by decide) ?_
  refine lv_iadd hx hb dX2_addLine_35 ?_
  refine lv_topi (fun v4 ev4 => ?_)
  obtain rfl : v4 = 1 := ev4.trans (by decide)
  refine va_put (D := (dC, dI)) (ci := 2) (v := .int 1) (ty := .int) (C := RX2) (T := TX2) (N := 10) hx hb hts hiX2 tyX2 tyX2_ok nmX2 hown hK hP hD hS 0 rfl rfl 2 (by decide) hw1 (fun _ h9 => h9) rfl (by decide +kernel) rfl rfl (Nat.le_of_ble_eq_true rfl) dX2_addLine_36 (fun H locs hP hD hS => ?_)
  have hP : va_P (dC, dI) vwCl [(lt, .inr (2, [.ref lc, .ref lp, .int 1, .int 0, .int 0, .int 0, .int 0, .int 0, .int 0, .int 0])), (lc, .inl (clc, 8, .inl zf2)), (lp, .inl (clp, 8, .inl zf3))] H := hP
  have hD : va_D A [(lt, .inr (2, [.ref lc, .ref lp, .int 1, .int 0, .int 0, .int 0, .int 0, .int 0, .int 0, .int 0])), (lc, .inl (clc, 8, .inl zf2)), (lp, .inl (clp, 8, .inl zf3))] := hD
  have hP9 := hP.sub (ws' := [(lt, .inr (2, [.ref lc, .ref lp, .int 1, .int 0, .int 0, .int 0, .int 0, .int 0, .int 0, .int 0])), (lc, .inl (clc, 8, .inl zf2)), (lp, .inl (clp, 8, .inl zf3))]) [0, 1, 2] rfl
  have hD9 := hD.sub (ws' := [(lt, .inr (2, [.ref lc, .ref lp, .int 1, .int 0, .int 0, .int 0, .int 0, .int 0, .int 0, .int 0])), (lc, .inl (clc, 8, .inl zf2)), (lp, .inl (clp, 8, .inl zf3))]) [0, 1, 2] (by decide) rfl
  have hK9 := hK.sub (tys' := [(clc, .int), (clp, .int)]) [0, 1] rfl
  refine W.widen (k := 0) (n := 0) (by decide) (by decide) ?_
  exact W.vret hx hb hr (fun t ht hW => ⟨⟨(), rfl, trivial, ⟨zf2, zf3, ⟨by rw [ht]; exact hP9, va_K.moved hW.alike hK9, hD9⟩⟩⟩, hS.F ht⟩) hS.2.2 dX2_addLine_39
set_option maxHeartbeats 4000000 in
set_option maxRecDepth 100000 in
/-- readLetter on an empty tape -/
theorem c_readLetter (l : Launch) (hl0 : l.stackTraces = false) (dC : Nat → ClassId) (dI : Nat → Nat → Nat) (A0 : Nat → Prop) (ad : Nat → Nat) (sz : Nat) (h0 t0 b0 c0 r0 d0 e0 o0 s0 p0 w0 : Nat) (tb lt lc lp : Nat) (clc clp : ClassId) (hA0 : ∀ q, va_A [(h0, .inr (11, [.ref t0, .ref b0, .ref c0, .ref r0, .ref d0, .ref e0, .ref o0, .ref s0, .ref p0, .ref w0, .int 0, .int 0, .int 0, .int 0, .int ((-1)), .int 0])), (t0, .inr (7, [.ref tb, .int 0, .int 0, .int ((-1))])), (lt, .inr (2, [.ref lc, .ref lp, .int 0, .int 0, .int 0, .int 0, .int 0, .int 0, .int 0, .int 0])), (lc, .inl (clc, 8, .inl (fun _ => 0))), (lp, .inl (clp, 8, .inl (fun _ => 0)))] sz q → A0 q) : Met l yX11_readLetter wsX11_readLetter ({ frames := 4, cells := 0, slots := 0, locals := 84 }) (va_Pc [.ref h0, .ref lt] (zPc A0 ad (dC, dI) [(h0, .inr (11, [.ref t0, .ref b0, .ref c0, .ref r0, .ref d0, .ref e0, .ref o0, .ref s0, .ref p0, .ref w0, .int 0, .int 0, .int 0, .int 0, .int ((-1)), .int 0])), (t0, .inr (7, [.ref tb, .int 0, .int 0, .int ((-1))])), (lt, .inr (2, [.ref lc, .ref lp, .int 0, .int 0, .int 0, .int 0, .int 0, .int 0, .int 0, .int 0])), (lc, .inl (clc, 8, .inl (fun _ => 0))), (lp, .inl (clp, 8, .inl (fun _ => 0)))] [(clc, .int), (clp, .int)] sz)) (va_Qv (fun (_ : Unit) => True) (fun (_ : Unit) (t : State) => zB (dC, dI) (va_A [(h0, .inr (11, [.ref t0, .ref b0, .ref c0, .ref r0, .ref d0, .ref e0, .ref o0, .ref s0, .ref p0, .ref w0, .int 0, .int 0, .int 0, .int 0, .int ((-1)), .int 0])), (t0, .inr (7, [.ref tb, .int 0, .int 0, .int ((-1))])), (lt, .inr (2, [.ref lc, .ref lp, .int 0, .int 0, .int 0, .int 0, .int 0, .int 0, .int 0, .int 0])), (lc, .inl (clc, 8, .inl (fun _ => 0))), (lp, .inl (clp, 8, .inl (fun _ => 0)))] sz) [(h0, .inr (11, [.ref t0, .ref b0, .ref c0, .ref r0, .ref d0, .ref e0, .ref o0, .ref s0, .ref p0, .ref w0, .int 0, .int 0, .int 0, .int 0, .int ((-1)), .int 0])), (t0, .inr (7, [.ref tb, .int 0, .int 0, .int 0]))] [] t) (va_A [(h0, .inr (11, [.ref t0, .ref b0, .ref c0, .ref r0, .ref d0, .ref e0, .ref o0, .ref s0, .ref p0, .ref w0, .int 0, .int 0, .int 0, .int 0, .int ((-1)), .int 0])), (t0, .inr (7, [.ref tb, .int 0, .int 0, .int ((-1))])), (lt, .inr (2, [.ref lc, .ref lp, .int 0, .int 0, .int 0, .int 0, .int 0, .int 0, .int 0, .int 0])), (lc, .inl (clc, 8, .inl (fun _ => 0))), (lp, .inl (clp, 8, .inl (fun _ => 0)))] sz)) 0 0 (va_A [(h0, .inr (11, [.ref t0, .ref b0, .ref c0, .ref r0, .ref d0, .ref e0, .ref o0, .ref s0, .ref p0, .ref w0, .int 0, .int 0, .int 0, .int 0, .int ((-1)), .int 0])), (t0, .inr (7, [.ref tb, .int 0, .int 0, .int ((-1))])), (lt, .inr (2, [.ref lc, .ref lp, .int 0, .int 0, .int 0, .int 0, .int 0, .int 0, .int 0, .int 0])), (lc, .inl (clc, 8, .inl (fun _ => 0))), (lp, .inl (clp, 8, .inl (fun _ => 0)))] sz) := by
  refine Met.ofW (cc := cX11_readLetter) (maxL := 5) (ret := none) (by decide) rfl ?_
  intro p e s m args below meth c s₁ B hml hv
  obtain ⟨rfl, hsz, hz, hP, hK, hD0⟩ := hv
  have hx := B.exec
  have hb := B.bytes
  have hr := B.returns
  have hts := atoms_spec (ws := wsX11_readLetter) B.pre
  have hown : s.vm.findClass RX11 = some m.cls := findClass_of_methodNamed B.named
  have hlocks := B.notSynchronized
  subst hsz
  have hD := hD0.self (sz := s.heap.size)
  generalize hAe : va_A [(h0, .inr (11, [.ref t0, .ref b0, .ref c0, .ref r0, .ref d0, .ref e0, .ref o0, .ref s0, .ref p0, .ref w0, .int 0, .int 0, .int 0, .int 0, .int ((-1)), .int 0])), (t0, .inr (7, [.ref tb, .int 0, .int 0, .int ((-1))])), (lt, .inr (2, [.ref lc, .ref lp, .int 0, .int 0, .int 0, .int 0, .int 0, .int 0, .int 0, .int 0])), (lc, .inl (clc, 8, .inl (fun _ => 0))), (lp, .inl (clp, 8, .inl (fun _ => 0)))] s.heap.size = A at hD hA0 ⊢
  have hA : ∀ q : Nat, s.heap.size ≤ q → A q := fun q h => by rw [← hAe]; exact Or.inr h
  have hS : va_S A s.heap s.heap [] := va_S.rf
  have hl := lv_entry ([.ref h0, .ref lt]) (n := 5) (Nat.le_of_ble_eq_true rfl)
  rw [lg_entry_eq]
  generalize (lg_sl ([.ref h0, .ref lt]) ++ List.replicate (5 - (lg_sl ([.ref h0, .ref lt])).length) Slot.unset).toArray = ls at hl ⊢
  have hl : lv_has ls 5 [(0, .ref h0), (1, .ref lt)] := hl
  have hP : va_P (dC, dI) vwCl [(h0, .inr (11, [.ref t0, .ref b0, .ref c0, .ref r0, .ref d0, .ref e0, .ref o0, .ref s0, .ref p0, .ref w0, .int 0, .int 0, .int 0, .int 0, .int ((-1)), .int 0])), (t0, .inr (7, [.ref tb, .int 0, .int 0, .int ((-1))])), (lt, .inr (2, [.ref lc, .ref lp, .int 0, .int 0, .int 0, .int 0, .int 0, .int 0, .int 0, .int 0])), (lc, .inl (clc, 8, .inl (fun _ => 0))), (lp, .inl (clp, 8, .inl (fun _ => 0)))] s.heap := hP
  have hiX11 : ∀ w ∈ u_ws RX11 TX11 16, w ∈ wsX11_readLetter := fun _ h => List.mem_cons_of_mem _ (List.mem_append_left _ (List.mem_append_left _ (List.mem_append_right _ h)))
  have hw1 := hts (.fieldLink RX11 10 "PostHouse" "tape" "LPostHouse$Tape;") (by decide +kernel)
  have hw2 := hts (.constant RX11 450 999999) (by decide +kernel)
  have hiX2 : ∀ w ∈ u_ws RX2 TX2 10, w ∈ wsX11_readLetter := fun _ h => List.mem_cons_of_mem _ (List.mem_append_left _ (List.mem_append_right _ h))
  have hw4 := hts (.fieldLink RX11 234 "PostHouse$Letter" "sum" "I") (by decide +kernel)
  have hw5 := hts (.fieldLink RX11 237 "PostHouse$Letter" "money" "I") (by decide +kernel)
  refine lv_iconst (v := 1) hx hb dX11_readLetter_0 (by decide) ?_
  refine lv_istore_n (lv' := [(2, .int 1), (0, .ref h0), (1, .ref lt)]) hx hb dX11_readLetter_1 rfl hl (by decide) rfl (fun ls hl => ?_)
  refine lv_iconst (v := 0) hx hb dX11_readLetter_2 (by decide) ?_
  refine lv_istore_n (lv' := [(3, .int 0), (2, .int 1), (0, .ref h0), (1, .ref lt)]) hx hb dX11_readLetter_3 rfl hl (by decide) rfl (fun ls hl => ?_)
  refine lv_iload_n hx hb dX11_readLetter_4 rfl (lv_at hl 0 rfl) ?_
  refine lv_bipush (v := 8) hx hb dX11_readLetter_5 (by decide) ?_
  refine lv_icmp_ge (tgt := 81) hx hb dX11_readLetter_7 (by decide) (fun c1 => absurd c1 (by decide)) (fun c1 => ?_)
  refine lv_iload_n hx hb dX11_readLetter_10 rfl (lv_at hl 1 rfl) ?_
  refine lv_if_eq (tgt := 81) hx hb dX11_readLetter_11 (by decide) (fun c2 => absurd c2 (by decide)) (fun c2 => ?_)
  refine lv_aload_n hx hb dX11_readLetter_14 rfl (lv_at hl 2 rfl) ?_
  refine va_get (D := (dC, dI)) (ci := 11) (v := .ref t0) (C := RX11) (T := TX11) (N := 16) hx hb hts hiX11 hown hK hP 0 rfl rfl 0 (by decide) hw1 (fun _ h9 => h9) rfl dX11_readLetter_15 ?_
  have hPc := hP.sub (ws' := [(t0, .inr (7, [.ref tb, .int 0, .int 0, .int ((-1))]))]) [1] rfl
  have hDc := hD.sub (ws' := [(t0, .inr (7, [.ref tb, .int 0, .int 0, .int ((-1))]))]) [1] (by decide) rfl
  have hKc := hK.sub (tys' := []) [] rfl
  have hFc := va_free (wc := [(t0, .inr (7, [.ref tb, .int 0, .int 0, .int ((-1))]))]) hD hS hA [1] rfl
  refine va_calli (va_runV (As := []) (rest := []) ⟨hx, hb, hml, hown, hts⟩ (c_code_a l hl0 dC dI A0 ad s.heap.size t0 tb (fun q h => hA0 q (hFc q h))) (cwV 0 hts gX11_readLetter_X7_code rfl rfl rfl (by decide +kernel) ⟨Nat.le_of_ble_eq_true rfl, Nat.le_of_ble_eq_true rfl⟩) ⟨zPc_bl, va_recv hKc hPc (ci := 7) (q0 := 0) rfl rfl, zPc_at hz hS hA0 hPc hKc hDc⟩ rfl rfl hl.1 rfl (lv_room (Nat.le_of_ble_eq_true rfl)) dX11_readLetter_18 ⟨Nat.le_of_ble_eq_true rfl, Nat.le_of_ble_eq_true rfl⟩) hS (fun q _ h => hFc q h) hFc (fun r3 u t H1 locs ht hvm hw hB hz1 hk1 hS => ?_)
  obtain ⟨hP1, hK1, hD1⟩ := hB
  rw [ht] at hP1
  have hK1 := va_K.moved hvm.symm hK1
  obtain ⟨hP, hD⟩ := va_join (wr := [(h0, .inr (11, [.ref t0, .ref b0, .ref c0, .ref r0, .ref d0, .ref e0, .ref o0, .ref s0, .ref p0, .ref w0, .int 0, .int 0, .int 0, .int 0, .int ((-1)), .int 0])), (lt, .inr (2, [.ref lc, .ref lp, .int 0, .int 0, .int 0, .int 0, .int 0, .int 0, .int 0, .int 0])), (lc, .inl (clc, 8, .inl (fun _ => 0))), (lp, .inl (clp, 8, .inl (fun _ => 0)))]) (w1 := [(t0, .inr (7, [.ref tb, .int 0, .int 0, .int 0]))]) hP hD [1] [0, 2, 3, 4] rfl rfl (by decide) (by decide) hk1 hFc hP1 hD1
  have hK := (hK.sub (tys' := [(clc, .int), (clp, .int)]) [0, 1] rfl).app hK1
  generalize H1 = H at hP hS ⊢
  have hP : va_P (dC, dI) vwCl [(h0, .inr (11, [.ref t0, .ref b0, .ref c0, .ref r0, .ref d0, .ref e0, .ref o0, .ref s0, .ref p0, .ref w0, .int 0, .int 0, .int 0, .int 0, .int ((-1)), .int 0])), (lt, .inr (2, [.ref lc, .ref lp, .int 0, .int 0, .int 0, .int 0, .int 0, .int 0, .int 0, .int 0])), (lc, .inl (clc, 8, .inl (fun _ => 0))), (lp, .inl (clp, 8, .inl (fun _ => 0))), (t0, .inr (7, [.ref tb, .int 0, .int 0, .int 0]))] H := hP
  have hD : va_D A [(h0, .inr (11, [.ref t0, .ref b0, .ref c0, .ref r0, .ref d0, .ref e0, .ref o0, .ref s0, .ref p0, .ref w0, .int 0, .int 0, .int 0, .int 0, .int ((-1)), .int 0])), (lt, .inr (2, [.ref lc, .ref lp, .int 0, .int 0, .int 0, .int 0, .int 0, .int 0, .int 0, .int 0])), (lc, .inl (clc, 8, .inl (fun _ => 0))), (lp, .inl (clp, 8, .inl (fun _ => 0))), (t0, .inr (7, [.ref tb, .int 0, .int 0, .int 0]))] := hD
  have hK : va_K (dC, dI) vwCl [(clc, .int), (clp, .int)] s := hK
  obtain rfl : r3 = (-1) := hw
  refine lv_istore (lv' := [(4, .int ((-1))), (3, .int 0), (2, .int 1), (0, .ref h0), (1, .ref lt)]) hx hb dX11_readLetter_21 hl (by decide) rfl (fun ls hl => ?_)
  refine lv_aload_n hx hb dX11_readLetter_23 rfl (lv_at hl 3 rfl) ?_
  refine va_get (D := (dC, dI)) (ci := 11) (v := .ref t0) (C := RX11) (T := TX11) (N := 16) hx hb hts hiX11 hown hK hP 0 rfl rfl 0 (by decide) hw1 (fun _ h9 => h9) rfl dX11_readLetter_24 ?_
  refine zLdcW hx hb hown (hz.2.2.2.1 6 _ rfl).2 dX11_readLetter_27 ?_
  have hPc := hP.sub (ws' := [(t0, .inr (7, [.ref tb, .int 0, .int 0, .int 0]))]) [4] rfl
  have hDc := hD.sub (ws' := [(t0, .inr (7, [.ref tb, .int 0, .int 0, .int 0]))]) [4] (by decide) rfl
  have hKc := hK.sub (tys' := []) [] rfl
  have hFc := va_free (wc := [(t0, .inr (7, [.ref tb, .int 0, .int 0, .int 0]))]) hD hS hA [4] rfl
  refine va_callv (va_runV (As := [.ref ((ad 6))]) (rest := []) ⟨hx, hb, hml, hown, hts⟩ (c_needWord_b l hl0 dC dI A0 ad H.size t0 tb 6 _ rfl (fun q h => hA0 q (hFc q h))) (cwV 1 hts gX11_readLetter_X7_needWord rfl rfl rfl (by decide +kernel) ⟨Nat.le_of_ble_eq_true rfl, Nat.le_of_ble_eq_true rfl⟩) ⟨zPc_bl, va_recv hKc hPc (ci := 7) (q0 := 0) rfl rfl, zPc_at hz hS hA0 hPc hKc hDc⟩ rfl rfl hl.1 rfl (lv_room (Nat.le_of_ble_eq_true rfl)) dX11_readLetter_30 ⟨Nat.le_of_ble_eq_true rfl, Nat.le_of_ble_eq_true rfl⟩) hS (fun q _ h => hFc q h) hFc (fun u t H1 locs ht hvm hw hB hz1 hk1 hS => ?_)
  obtain ⟨hP1, hK1, hD1⟩ := hB
  rw [ht] at hP1
  have hK1 := va_K.moved hvm.symm hK1
  obtain ⟨hP, hD⟩ := va_join (wr := [(h0, .inr (11, [.ref t0, .ref b0, .ref c0, .ref r0, .ref d0, .ref e0, .ref o0, .ref s0, .ref p0, .ref w0, .int 0, .int 0, .int 0, .int 0, .int ((-1)), .int 0])), (lt, .inr (2, [.ref lc, .ref lp, .int 0, .int 0, .int 0, .int 0, .int 0, .int 0, .int 0, .int 0])), (lc, .inl (clc, 8, .inl (fun _ => 0))), (lp, .inl (clp, 8, .inl (fun _ => 0)))]) (w1 := [(t0, .inr (7, [.ref tb, .int 0, .int 0, .int 0]))]) hP hD [4] [0, 1, 2, 3] rfl rfl (by decide) (by decide) hk1 hFc hP1 hD1
  have hK := (hK.sub (tys' := [(clc, .int), (clp, .int)]) [0, 1] rfl).app hK1
  generalize H1 = H at hP hS ⊢
  have hP : va_P (dC, dI) vwCl [(h0, .inr (11, [.ref t0, .ref b0, .ref c0, .ref r0, .ref d0, .ref e0, .ref o0, .ref s0, .ref p0, .ref w0, .int 0, .int 0, .int 0, .int 0, .int ((-1)), .int 0])), (lt, .inr (2, [.ref lc, .ref lp, .int 0, .int 0, .int 0, .int 0, .int 0, .int 0, .int 0, .int 0])), (lc, .inl (clc, 8, .inl (fun _ => 0))), (lp, .inl (clp, 8, .inl (fun _ => 0))), (t0, .inr (7, [.ref tb, .int 0, .int 0, .int 0]))] H := hP
  have hD : va_D A [(h0, .inr (11, [.ref t0, .ref b0, .ref c0, .ref r0, .ref d0, .ref e0, .ref o0, .ref s0, .ref p0, .ref w0, .int 0, .int 0, .int 0, .int 0, .int ((-1)), .int 0])), (lt, .inr (2, [.ref lc, .ref lp, .int 0, .int 0, .int 0, .int 0, .int 0, .int 0, .int 0, .int 0])), (lc, .inl (clc, 8, .inl (fun _ => 0))), (lp, .inl (clp, 8, .inl (fun _ => 0))), (t0, .inr (7, [.ref tb, .int 0, .int 0, .int 0]))] := hD
  have hK : va_K (dC, dI) vwCl [(clc, .int), (clp, .int)] s := hK
  refine lv_aload_n hx hb dX11_readLetter_33 rfl (lv_at hl 4 rfl) ?_
  refine lv_iload hx hb dX11_readLetter_34 (lv_at hl 0 rfl) ?_
  refine lv_aload_n hx hb dX11_readLetter_36 rfl (lv_at hl 3 rfl) ?_
  refine va_get (D := (dC, dI)) (ci := 11) (v := .ref t0) (C := RX11) (T := TX11) (N := 16) hx hb hts hiX11 hown hK hP 0 rfl rfl 0 (by decide) hw1 (fun _ h9 => h9) rfl dX11_readLetter_37 ?_
  refine lv_iconst (v := 1) hx hb dX11_readLetter_40 (by decide) ?_
  refine lv_bipush (v := 99) hx hb dX11_readLetter_41 (by decide) ?_
  have hPc := hP.sub (ws' := [(t0, .inr (7, [.ref tb, .int 0, .int 0, .int 0]))]) [4] rfl
  have hDc := hD.sub (ws' := [(t0, .inr (7, [.ref tb, .int 0, .int 0, .int 0]))]) [4] (by decide) rfl
  have hKc := hK.sub (tys' := []) [] rfl
  have hFc := va_free (wc := [(t0, .inr (7, [.ref tb, .int 0, .int 0, .int 0]))]) hD hS hA [4] rfl
  refine va_calli (va_runV (As := [.int 1, .int 99]) (rest := [.int ((-1)), .ref lt]) ⟨hx, hb, hml, hown, hts⟩ (c_number_n_b l hl0 dC dI A0 ad H.size t0 tb (fun q h => hA0 q (hFc q h))) (cwV 2 hts gX11_readLetter_X7_number rfl rfl rfl (by decide +kernel) ⟨Nat.le_of_ble_eq_true rfl, Nat.le_of_ble_eq_true rfl⟩) ⟨zPc_bl, va_recv hKc hPc (ci := 7) (q0 := 0) rfl rfl, zPc_at hz hS hA0 hPc hKc hDc⟩ rfl rfl hl.1 rfl (lv_room (Nat.le_of_ble_eq_true rfl)) dX11_readLetter_43 ⟨Nat.le_of_ble_eq_true rfl, Nat.le_of_ble_eq_true rfl⟩) hS (fun q _ h => hFc q h) hFc (fun r5 u t H1 locs ht hvm hw hB hz1 hk1 hS => ?_)
  obtain ⟨hP1, hK1, hD1⟩ := hB
  rw [ht] at hP1
  have hK1 := va_K.moved hvm.symm hK1
  obtain ⟨hP, hD⟩ := va_join (wr := [(h0, .inr (11, [.ref t0, .ref b0, .ref c0, .ref r0, .ref d0, .ref e0, .ref o0, .ref s0, .ref p0, .ref w0, .int 0, .int 0, .int 0, .int 0, .int ((-1)), .int 0])), (lt, .inr (2, [.ref lc, .ref lp, .int 0, .int 0, .int 0, .int 0, .int 0, .int 0, .int 0, .int 0])), (lc, .inl (clc, 8, .inl (fun _ => 0))), (lp, .inl (clp, 8, .inl (fun _ => 0)))]) (w1 := [(t0, .inr (7, [.ref tb, .int 0, .int 0, .int 0]))]) hP hD [4] [0, 1, 2, 3] rfl rfl (by decide) (by decide) hk1 hFc hP1 hD1
  have hK := (hK.sub (tys' := [(clc, .int), (clp, .int)]) [0, 1] rfl).app hK1
  generalize H1 = H at hP hS ⊢
  have hP : va_P (dC, dI) vwCl [(h0, .inr (11, [.ref t0, .ref b0, .ref c0, .ref r0, .ref d0, .ref e0, .ref o0, .ref s0, .ref p0, .ref w0, .int 0, .int 0, .int 0, .int 0, .int ((-1)), .int 0])), (lt, .inr (2, [.ref lc, .ref lp, .int 0, .int 0, .int 0, .int 0, .int 0, .int 0, .int 0, .int 0])), (lc, .inl (clc, 8, .inl (fun _ => 0))), (lp, .inl (clp, 8, .inl (fun _ => 0))), (t0, .inr (7, [.ref tb, .int 0, .int 0, .int 0]))] H := hP
  have hD : va_D A [(h0, .inr (11, [.ref t0, .ref b0, .ref c0, .ref r0, .ref d0, .ref e0, .ref o0, .ref s0, .ref p0, .ref w0, .int 0, .int 0, .int 0, .int 0, .int ((-1)), .int 0])), (lt, .inr (2, [.ref lc, .ref lp, .int 0, .int 0, .int 0, .int 0, .int 0, .int 0, .int 0, .int 0])), (lc, .inl (clc, 8, .inl (fun _ => 0))), (lp, .inl (clp, 8, .inl (fun _ => 0))), (t0, .inr (7, [.ref tb, .int 0, .int 0, .int 0]))] := hD
  have hK : va_K (dC, dI) vwCl [(clc, .int), (clp, .int)] s := hK
  obtain rfl : r5 = (-1) := hw
  have hPc := hP.sub (ws' := [(lt, .inr (2, [.ref lc, .ref lp, .int 0, .int 0, .int 0, .int 0, .int 0, .int 0, .int 0, .int 0])), (lc, .inl (clc, 8, .inl (fun _ => 0))), (lp, .inl (clp, 8, .inl (fun _ => 0)))]) [1, 2, 3] rfl
  have hDc := hD.sub (ws' := [(lt, .inr (2, [.ref lc, .ref lp, .int 0, .int 0, .int 0, .int 0, .int 0, .int 0, .int 0, .int 0])), (lc, .inl (clc, 8, .inl (fun _ => 0))), (lp, .inl (clp, 8, .inl (fun _ => 0)))]) [1, 2, 3] (by decide) rfl
  have hKc := hK.sub (tys' := [(clc, .int), (clp, .int)]) [0, 1] rfl
  have hFc := va_free (wc := [(lt, .inr (2, [.ref lc, .ref lp, .int 0, .int 0, .int 0, .int 0, .int 0, .int 0, .int 0, .int 0])), (lc, .inl (clc, 8, .inl (fun _ => 0))), (lp, .inl (clp, 8, .inl (fun _ => 0)))]) hD hS hA [1, 2, 3] rfl
  refine va_callv (va_runV (As := [.int ((-1)), .int ((-1))]) (rest := []) ⟨hx, hb, hml, hown, hts⟩ (c_addLine l hl0 dC dI A0 ad H.size lt lc lp clc clp ((-1)) ((-1)) (fun q h => hA0 q (hFc q h))) (cwV 2 hts gX11_readLetter_X2_addLine rfl rfl rfl (by decide +kernel) ⟨Nat.le_of_ble_eq_true rfl, Nat.le_of_ble_eq_true rfl⟩) ⟨zPc_bl, va_recv hKc hPc (ci := 2) (q0 := 0) rfl rfl, zPc_at hz hS hA0 hPc hKc hDc⟩ rfl rfl hl.1 rfl (lv_room (Nat.le_of_ble_eq_true rfl)) dX11_readLetter_46 ⟨Nat.le_of_ble_eq_true rfl, Nat.le_of_ble_eq_true rfl⟩) hS (fun q _ h => hFc q h) hFc (fun u t H1 locs ht hvm hw hB hz1 hk1 hS => ?_)
  obtain ⟨zf7, zg8, hB⟩ := hB
  obtain ⟨hP1, hK1, hD1⟩ := hB
  rw [ht] at hP1
  have hK1 := va_K.moved hvm.symm hK1
  obtain ⟨hP, hD⟩ := va_join (wr := [(h0, .inr (11, [.ref t0, .ref b0, .ref c0, .ref r0, .ref d0, .ref e0, .ref o0, .ref s0, .ref p0, .ref w0, .int 0, .int 0, .int 0, .int 0, .int ((-1)), .int 0])), (t0, .inr (7, [.ref tb, .int 0, .int 0, .int 0]))]) (w1 := [(lt, .inr (2, [.ref lc, .ref lp, .int 1, .int 0, .int 0, .int 0, .int 0, .int 0, .int 0, .int 0])), (lc, .inl (clc, 8, .inl zf7)), (lp, .inl (clp, 8, .inl zg8))]) hP hD [1, 2, 3] [0, 4] rfl rfl (by decide) (by decide) hk1 hFc hP1 hD1
  have hK := (hK.sub (tys' := []) [] rfl).app hK1
  generalize H1 = H at hP hS ⊢
  have hP : va_P (dC, dI) vwCl [(h0, .inr (11, [.ref t0, .ref b0, .ref c0, .ref r0, .ref d0, .ref e0, .ref o0, .ref s0, .ref p0, .ref w0, .int 0, .int 0, .int 0, .int 0, .int ((-1)), .int 0])), (t0, .inr (7, [.ref tb, .int 0, .int 0, .int 0])), (lt, .inr (2, [.ref lc, .ref lp, .int 1, .int 0, .int 0, .int 0, .int 0, .int 0, .int 0, .int 0])), (lc, .inl (clc, 8, .inl zf7)), (lp, .inl (clp, 8, .inl zg8))] H := hP
  have hD : va_D A [(h0, .inr (11, [.ref t0, .ref b0, .ref c0, .ref r0, .ref d0, .ref e0, .ref o0, .ref s0, .ref p0, .ref w0, .int 0, .int 0, .int 0, .int 0, .int ((-1)), .int 0])), (t0, .inr (7, [.ref tb, .int 0, .int 0, .int 0])), (lt, .inr (2, [.ref lc, .ref lp, .int 1, .int 0, .int 0, .int 0, .int 0, .int 0, .int 0, .int 0])), (lc, .inl (clc, 8, .inl zf7)), (lp, .inl (clp, 8, .inl zg8))] := hD
  have hK : va_K (dC, dI) vwCl [(clc, .int), (clp, .int)] s := hK
  refine lv_iload_n hx hb dX11_readLetter_49 rfl (lv_at hl 1 rfl) ?_
  refine lv_iconst (v := 1) hx hb dX11_readLetter_50 (by decide) ?_
  refine lv_iadd hx hb dX11_readLetter_51 ?_
  refine lv_topi (fun v9 ev9 => ?_)
  obtain rfl : v9 = 1 := ev9.trans (by decide)
  refine lv_bipush (v := 8) hx hb dX11_readLetter_52 (by decide) ?_
  refine lv_icmp_ge (tgt := 73) hx hb dX11_readLetter_54 (by decide) (fun c10 => absurd c10 (by decide)) (fun c10 => ?_)
  refine lv_aload_n hx hb dX11_readLetter_57 rfl (lv_at hl 3 rfl) ?_
  refine va_get (D := (dC, dI)) (ci := 11) (v := .ref t0) (C := RX11) (T := TX11) (N := 16) hx hb hts hiX11 hown hK hP 0 rfl rfl 0 (by decide) hw1 (fun _ h9 => h9) rfl dX11_readLetter_58 ?_
  refine lv_bipush (v := 44) hx hb dX11_readLetter_61 (by decide) ?_
  have hPc := hP.sub (ws' := [(t0, .inr (7, [.ref tb, .int 0, .int 0, .int 0]))]) [1] rfl
  have hDc := hD.sub (ws' := [(t0, .inr (7, [.ref tb, .int 0, .int 0, .int 0]))]) [1] (by decide) rfl
  have hKc := hK.sub (tys' := []) [] rfl
  have hFc := va_free (wc := [(t0, .inr (7, [.ref tb, .int 0, .int 0, .int 0]))]) hD hS hA [1] rfl
  refine va_calli (va_runV (As := [.int 44]) (rest := []) ⟨hx, hb, hml, hown, hts⟩ (c_takesSign_b l hl0 dC dI A0 ad H.size t0 tb 44 (fun q h => hA0 q (hFc q h))) (cwV 1 hts gX11_readLetter_X7_takesSign rfl rfl rfl (by decide +kernel) ⟨Nat.le_of_ble_eq_true rfl, Nat.le_of_ble_eq_true rfl⟩) ⟨zPc_bl, va_recv hKc hPc (ci := 7) (q0 := 0) rfl rfl, zPc_at hz hS hA0 hPc hKc hDc⟩ rfl rfl hl.1 rfl (lv_room (Nat.le_of_ble_eq_true rfl)) dX11_readLetter_63 ⟨Nat.le_of_ble_eq_true rfl, Nat.le_of_ble_eq_true rfl⟩) hS (fun q _ h => hFc q h) hFc (fun r11 u t H1 locs ht hvm hw hB hz1 hk1 hS => ?_)
  obtain ⟨hP1, hK1, hD1⟩ := hB
  rw [ht] at hP1
  have hK1 := va_K.moved hvm.symm hK1
  obtain ⟨hP, hD⟩ := va_join (wr := [(h0, .inr (11, [.ref t0, .ref b0, .ref c0, .ref r0, .ref d0, .ref e0, .ref o0, .ref s0, .ref p0, .ref w0, .int 0, .int 0, .int 0, .int 0, .int ((-1)), .int 0])), (lt, .inr (2, [.ref lc, .ref lp, .int 1, .int 0, .int 0, .int 0, .int 0, .int 0, .int 0, .int 0])), (lc, .inl (clc, 8, .inl zf7)), (lp, .inl (clp, 8, .inl zg8))]) (w1 := [(t0, .inr (7, [.ref tb, .int 0, .int 0, .int 0]))]) hP hD [1] [0, 2, 3, 4] rfl rfl (by decide) (by decide) hk1 hFc hP1 hD1
  have hK := (hK.sub (tys' := [(clc, .int), (clp, .int)]) [0, 1] rfl).app hK1
  generalize H1 = H at hP hS ⊢
  have hP : va_P (dC, dI) vwCl [(h0, .inr (11, [.ref t0, .ref b0, .ref c0, .ref r0, .ref d0, .ref e0, .ref o0, .ref s0, .ref p0, .ref w0, .int 0, .int 0, .int 0, .int 0, .int ((-1)), .int 0])), (lt, .inr (2, [.ref lc, .ref lp, .int 1, .int 0, .int 0, .int 0, .int 0, .int 0, .int 0, .int 0])), (lc, .inl (clc, 8, .inl zf7)), (lp, .inl (clp, 8, .inl zg8)), (t0, .inr (7, [.ref tb, .int 0, .int 0, .int 0]))] H := hP
  have hD : va_D A [(h0, .inr (11, [.ref t0, .ref b0, .ref c0, .ref r0, .ref d0, .ref e0, .ref o0, .ref s0, .ref p0, .ref w0, .int 0, .int 0, .int 0, .int 0, .int ((-1)), .int 0])), (lt, .inr (2, [.ref lc, .ref lp, .int 1, .int 0, .int 0, .int 0, .int 0, .int 0, .int 0, .int 0])), (lc, .inl (clc, 8, .inl zf7)), (lp, .inl (clp, 8, .inl zg8)), (t0, .inr (7, [.ref tb, .int 0, .int 0, .int 0]))] := hD
  have hK : va_K (dC, dI) vwCl [(clc, .int), (clp, .int)] s := hK
  obtain rfl : r11 = 0 := hw
  refine lv_if_eq (tgt := 73) hx hb dX11_readLetter_66 (by decide) (fun c12 => ?_) (fun c12 => absurd (by decide) c12)
  refine lv_iconst (v := 0) hx hb dX11_readLetter_73 (by decide) ?_
  refine lv_istore_n (lv' := [(2, .int 0), (4, .int ((-1))), (3, .int 0), (0, .ref h0), (1, .ref lt)]) hx hb dX11_readLetter_74 rfl hl (by decide) rfl (fun ls hl => ?_)
  refine lv_iinc (v := 1) (lv' := [(3, .int 1), (2, .int 0), (4, .int ((-1))), (0, .ref h0), (1, .ref lt)]) hx hb dX11_readLetter_75 hl (k := 2) rfl (by decide) (by decide) rfl (fun ls hl => ?_)
  refine lv_goto (tgt := 4) hx hb dX11_readLetter_78 (by decide) ?_
  refine lv_iload_n hx hb dX11_readLetter_4 rfl (lv_at hl 0 rfl) ?_
  refine lv_bipush (v := 8) hx hb dX11_readLetter_5 (by decide) ?_
  refine lv_icmp_ge (tgt := 81) hx hb dX11_readLetter_7 (by decide) (fun c13 => absurd c13 (by decide)) (fun c13 => ?_)
  refine lv_iload_n hx hb dX11_readLetter_10 rfl (lv_at hl 1 rfl) ?_
  refine lv_if_eq (tgt := 81) hx hb dX11_readLetter_11 (by decide) (fun c14 => ?_) (fun c14 => absurd (by decide) c14)
  refine lv_aload_n hx hb dX11_readLetter_81 rfl (lv_at hl 3 rfl) ?_
  refine va_get (D := (dC, dI)) (ci := 11) (v := .ref t0) (C := RX11) (T := TX11) (N := 16) hx hb hts hiX11 hown hK hP 0 rfl rfl 0 (by decide) hw1 (fun _ h9 => h9) rfl dX11_readLetter_82 ?_
  refine zLdcW hx hb hown (hz.2.2.2.1 7 _ rfl).2 dX11_readLetter_85 ?_
  have hPc := hP.sub (ws' := [(t0, .inr (7, [.ref tb, .int 0, .int 0, .int 0]))]) [4] rfl
  have hDc := hD.sub (ws' := [(t0, .inr (7, [.ref tb, .int 0, .int 0, .int 0]))]) [4] (by decide) rfl
  have hKc := hK.sub (tys' := []) [] rfl
  have hFc := va_free (wc := [(t0, .inr (7, [.ref tb, .int 0, .int 0, .int 0]))]) hD hS hA [4] rfl
  refine va_callv (va_runV (As := [.ref ((ad 7))]) (rest := []) ⟨hx, hb, hml, hown, hts⟩ (c_needWord_b l hl0 dC dI A0 ad H.size t0 tb 7 _ rfl (fun q h => hA0 q (hFc q h))) (cwV 1 hts gX11_readLetter_X7_needWord rfl rfl rfl (by decide +kernel) ⟨Nat.le_of_ble_eq_true rfl, Nat.le_of_ble_eq_true rfl⟩) ⟨zPc_bl, va_recv hKc hPc (ci := 7) (q0 := 0) rfl rfl, zPc_at hz hS hA0 hPc hKc hDc⟩ rfl rfl hl.1 rfl (lv_room (Nat.le_of_ble_eq_true rfl)) dX11_readLetter_88 ⟨Nat.le_of_ble_eq_true rfl, Nat.le_of_ble_eq_true rfl⟩) hS (fun q _ h => hFc q h) hFc (fun u t H1 locs ht hvm hw hB hz1 hk1 hS => ?_)
  obtain ⟨hP1, hK1, hD1⟩ := hB
  rw [ht] at hP1
  have hK1 := va_K.moved hvm.symm hK1
  obtain ⟨hP, hD⟩ := va_join (wr := [(h0, .inr (11, [.ref t0, .ref b0, .ref c0, .ref r0, .ref d0, .ref e0, .ref o0, .ref s0, .ref p0, .ref w0, .int 0, .int 0, .int 0, .int 0, .int ((-1)), .int 0])), (lt, .inr (2, [.ref lc, .ref lp, .int 1, .int 0, .int 0, .int 0, .int 0, .int 0, .int 0, .int 0])), (lc, .inl (clc, 8, .inl zf7)), (lp, .inl (clp, 8, .inl zg8))]) (w1 := [(t0, .inr (7, [.ref tb, .int 0, .int 0, .int 0]))]) hP hD [4] [0, 1, 2, 3] rfl rfl (by decide) (by decide) hk1 hFc hP1 hD1
  have hK := (hK.sub (tys' := [(clc, .int), (clp, .int)]) [0, 1] rfl).app hK1
  generalize H1 = H at hP hS ⊢
  have hP : va_P (dC, dI) vwCl [(h0, .inr (11, [.ref t0, .ref b0, .ref c0, .ref r0, .ref d0, .ref e0, .ref o0, .ref s0, .ref p0, .ref w0, .int 0, .int 0, .int 0, .int 0, .int ((-1)), .int 0])), (lt, .inr (2, [.ref lc, .ref lp, .int 1, .int 0, .int 0, .int 0, .int 0, .int 0, .int 0, .int 0])), (lc, .inl (clc, 8, .inl zf7)), (lp, .inl (clp, 8, .inl zg8)), (t0, .inr (7, [.ref tb, .int 0, .int 0, .int 0]))] H := hP
  have hD : va_D A [(h0, .inr (11, [.ref t0, .ref b0, .ref c0, .ref r0, .ref d0, .ref e0, .ref o0, .ref s0, .ref p0, .ref w0, .int 0, .int 0, .int 0, .int 0, .int ((-1)), .int 0])), (lt, .inr (2, [.ref lc, .ref lp, .int 1, .int 0, .int 0, .int 0, .int 0, .int 0, .int 0, .int 0])), (lc, .inl (clc, 8, .inl zf7)), (lp, .inl (clp, 8, .inl zg8)), (t0, .inr (7, [.ref tb, .int 0, .int 0, .int 0]))] := hD
  have hK : va_K (dC, dI) vwCl [(clc, .int), (clp, .int)] s := hK
  refine lv_aload_n hx hb dX11_readLetter_91 rfl (lv_at hl 4 rfl) ?_
  refine lv_aload_n hx hb dX11_readLetter_92 rfl (lv_at hl 3 rfl) ?_
  refine va_get (D := (dC, dI)) (ci := 11) (v := .ref t0) (C := RX11) (T := TX11) (N := 16) hx hb hts hiX11 hown hK hP 0 rfl rfl 0 (by decide) hw1 (fun _ h9 => h9) rfl dX11_readLetter_93 ?_
  refine lv_iconst (v := 0) hx hb dX11_readLetter_96 (by decide) ?_
  refine lv_ldcw (v := 999999) hx hb hown hw2 dX11_readLetter_97 ?_
  have hPc := hP.sub (ws' := [(t0, .inr (7, [.ref tb, .int 0, .int 0, .int 0]))]) [4] rfl
  have hDc := hD.sub (ws' := [(t0, .inr (7, [.ref tb, .int 0, .int 0, .int 0]))]) [4] (by decide) rfl
  have hKc := hK.sub (tys' := []) [] rfl
  have hFc := va_free (wc := [(t0, .inr (7, [.ref tb, .int 0, .int 0, .int 0]))]) hD hS hA [4] rfl
  refine va_calli (va_runV (As := [.int 0, .int 999999]) (rest := [.ref lt]) ⟨hx, hb, hml, hown, hts⟩ (c_number_m_b l hl0 dC dI A0 ad H.size t0 tb (fun q h => hA0 q (hFc q h))) (cwV 2 hts gX11_readLetter_X7_number rfl rfl rfl (by decide +kernel) ⟨Nat.le_of_ble_eq_true rfl, Nat.le_of_ble_eq_true rfl⟩) ⟨zPc_bl, va_recv hKc hPc (ci := 7) (q0 := 0) rfl rfl, zPc_at hz hS hA0 hPc hKc hDc⟩ rfl rfl hl.1 rfl (lv_room (Nat.le_of_ble_eq_true rfl)) dX11_readLetter_100 ⟨Nat.le_of_ble_eq_true rfl, Nat.le_of_ble_eq_true rfl⟩) hS (fun q _ h => hFc q h) hFc (fun r16 u t H1 locs ht hvm hw hB hz1 hk1 hS => ?_)
  obtain ⟨hP1, hK1, hD1⟩ := hB
  rw [ht] at hP1
  have hK1 := va_K.moved hvm.symm hK1
  obtain ⟨hP, hD⟩ := va_join (wr := [(h0, .inr (11, [.ref t0, .ref b0, .ref c0, .ref r0, .ref d0, .ref e0, .ref o0, .ref s0, .ref p0, .ref w0, .int 0, .int 0, .int 0, .int 0, .int ((-1)), .int 0])), (lt, .inr (2, [.ref lc, .ref lp, .int 1, .int 0, .int 0, .int 0, .int 0, .int 0, .int 0, .int 0])), (lc, .inl (clc, 8, .inl zf7)), (lp, .inl (clp, 8, .inl zg8))]) (w1 := [(t0, .inr (7, [.ref tb, .int 0, .int 0, .int 0]))]) hP hD [4] [0, 1, 2, 3] rfl rfl (by decide) (by decide) hk1 hFc hP1 hD1
  have hK := (hK.sub (tys' := [(clc, .int), (clp, .int)]) [0, 1] rfl).app hK1
  generalize H1 = H at hP hS ⊢
  have hP : va_P (dC, dI) vwCl [(h0, .inr (11, [.ref t0, .ref b0, .ref c0, .ref r0, .ref d0, .ref e0, .ref o0, .ref s0, .ref p0, .ref w0, .int 0, .int 0, .int 0, .int 0, .int ((-1)), .int 0])), (lt, .inr (2, [.ref lc, .ref lp, .int 1, .int 0, .int 0, .int 0, .int 0, .int 0, .int 0, .int 0])), (lc, .inl (clc, 8, .inl zf7)), (lp, .inl (clp, 8, .inl zg8)), (t0, .inr (7, [.ref tb, .int 0, .int 0, .int 0]))] H := hP
  have hD : va_D A [(h0, .inr (11, [.ref t0, .ref b0, .ref c0, .ref r0, .ref d0, .ref e0, .ref o0, .ref s0, .ref p0, .ref w0, .int 0, .int 0, .int 0, .int 0, .int ((-1)), .int 0])), (lt, .inr (2, [.ref lc, .ref lp, .int 1, .int 0, .int 0, .int 0, .int 0, .int 0, .int 0, .int 0])), (lc, .inl (clc, 8, .inl zf7)), (lp, .inl (clp, 8, .inl zg8)), (t0, .inr (7, [.ref tb, .int 0, .int 0, .int 0]))] := hD
  have hK : va_K (dC, dI) vwCl [(clc, .int), (clp, .int)] s := hK
  obtain rfl : r16 = (-1) := hw
  refine va_put (D := (dC, dI)) (ci := 2) (v := .int ((-1))) (ty := .int) (C := RX2) (T := TX2) (N := 10) hx hb hts hiX2 tyX2 tyX2_ok nmX2 hown hK hP hD hS 1 rfl rfl 3 (by decide) hw4 (fun _ h9 => h9) rfl (by decide +kernel) rfl rfl (Nat.le_of_ble_eq_true rfl) dX11_readLetter_103 (fun H locs hP hD hS => ?_)
  have hP : va_P (dC, dI) vwCl [(h0, .inr (11, [.ref t0, .ref b0, .ref c0, .ref r0, .ref d0, .ref e0, .ref o0, .ref s0, .ref p0, .ref w0, .int 0, .int 0, .int 0, .int 0, .int ((-1)), .int 0])), (lt, .inr (2, [.ref lc, .ref lp, .int 1, .int ((-1)), .int 0, .int 0, .int 0, .int 0, .int 0, .int 0])), (lc, .inl (clc, 8, .inl zf7)), (lp, .inl (clp, 8, .inl zg8)), (t0, .inr (7, [.ref tb, .int 0, .int 0, .int 0]))] H := hP
  have hD : va_D A [(h0, .inr (11, [.ref t0, .ref b0, .ref c0, .ref r0, .ref d0, .ref e0, .ref o0, .ref s0, .ref p0, .ref w0, .int 0, .int 0, .int 0, .int 0, .int ((-1)), .int 0])), (lt, .inr (2, [.ref lc, .ref lp, .int 1, .int ((-1)), .int 0, .int 0, .int 0, .int 0, .int 0, .int 0])), (lc, .inl (clc, 8, .inl zf7)), (lp, .inl (clp, 8, .inl zg8)), (t0, .inr (7, [.ref tb, .int 0, .int 0, .int 0]))] := hD
  refine lv_aload_n hx hb dX11_readLetter_106 rfl (lv_at hl 4 rfl) ?_
  refine lv_aload_n hx hb dX11_readLetter_107 rfl (lv_at hl 3 rfl) ?_
  refine va_get (D := (dC, dI)) (ci := 11) (v := .ref t0) (C := RX11) (T := TX11) (N := 16) hx hb hts hiX11 hown hK hP 0 rfl rfl 0 (by decide) hw1 (fun _ h9 => h9) rfl dX11_readLetter_108 ?_
  refine zLdcW hx hb hown (hz.2.2.2.1 8 _ rfl).2 dX11_readLetter_111 ?_
  have hPc := hP.sub (ws' := [(t0, .inr (7, [.ref tb, .int 0, .int 0, .int 0]))]) [4] rfl
  have hDc := hD.sub (ws' := [(t0, .inr (7, [.ref tb, .int 0, .int 0, .int 0]))]) [4] (by decide) rfl
  have hKc := hK.sub (tys' := []) [] rfl
  have hFc := va_free (wc := [(t0, .inr (7, [.ref tb, .int 0, .int 0, .int 0]))]) hD hS hA [4] rfl
  refine va_calli (va_runV (As := [.ref ((ad 8))]) (rest := [.ref lt]) ⟨hx, hb, hml, hown, hts⟩ (c_takesWord_b l hl0 dC dI A0 ad H.size t0 tb 8 _ rfl (fun q h => hA0 q (hFc q h))) (cwV 1 hts gX11_readLetter_X7_takesWord rfl rfl rfl (by decide +kernel) ⟨Nat.le_of_ble_eq_true rfl, Nat.le_of_ble_eq_true rfl⟩) ⟨zPc_bl, va_recv hKc hPc (ci := 7) (q0 := 0) rfl rfl, zPc_at hz hS hA0 hPc hKc hDc⟩ rfl rfl hl.1 rfl (lv_room (Nat.le_of_ble_eq_true rfl)) dX11_readLetter_114 ⟨Nat.le_of_ble_eq_true rfl, Nat.le_of_ble_eq_true rfl⟩) hS (fun q _ h => hFc q h) hFc (fun r17 u t H1 locs ht hvm hw hB hz1 hk1 hS => ?_)
  obtain ⟨hP1, hK1, hD1⟩ := hB
  rw [ht] at hP1
  have hK1 := va_K.moved hvm.symm hK1
  obtain ⟨hP, hD⟩ := va_join (wr := [(h0, .inr (11, [.ref t0, .ref b0, .ref c0, .ref r0, .ref d0, .ref e0, .ref o0, .ref s0, .ref p0, .ref w0, .int 0, .int 0, .int 0, .int 0, .int ((-1)), .int 0])), (lt, .inr (2, [.ref lc, .ref lp, .int 1, .int ((-1)), .int 0, .int 0, .int 0, .int 0, .int 0, .int 0])), (lc, .inl (clc, 8, .inl zf7)), (lp, .inl (clp, 8, .inl zg8))]) (w1 := [(t0, .inr (7, [.ref tb, .int 0, .int 0, .int 0]))]) hP hD [4] [0, 1, 2, 3] rfl rfl (by decide) (by decide) hk1 hFc hP1 hD1
  have hK := (hK.sub (tys' := [(clc, .int), (clp, .int)]) [0, 1] rfl).app hK1
  generalize H1 = H at hP hS ⊢
  have hP : va_P (dC, dI) vwCl [(h0, .inr (11, [.ref t0, .ref b0, .ref c0, .ref r0, .ref d0, .ref e0, .ref o0, .ref s0, .ref p0, .ref w0, .int 0, .int 0, .int 0, .int 0, .int ((-1)), .int 0])), (lt, .inr (2, [.ref lc, .ref lp, .int 1, .int ((-1)), .int 0, .int 0, .int 0, .int 0, .int 0, .int 0])), (lc, .inl (clc, 8, .inl zf7)), (lp, .inl (clp, 8, .inl zg8)), (t0, .inr (7, [.ref tb, .int 0, .int 0, .int 0]))] H := hP
  have hD : va_D A [(h0, .inr (11, [.ref t0, .ref b0, .ref c0, .ref r0, .ref d0, .ref e0, .ref o0, .ref s0, .ref p0, .ref w0, .int 0, .int 0, .int 0, .int 0, .int ((-1)), .int 0])), (lt, .inr (2, [.ref lc, .ref lp, .int 1, .int ((-1)), .int 0, .int 0, .int 0, .int 0, .int 0, .int 0])), (lc, .inl (clc, 8, .inl zf7)), (lp, .inl (clp, 8, .inl zg8)), (t0, .inr (7, [.ref tb, .int 0, .int 0, .int 0]))] := hD
  have hK : va_K (dC, dI) vwCl [(clc, .int), (clp, .int)] s := hK
  obtain rfl : r17 = 0 := hw
  refine lv_if_eq (tgt := 134) hx hb dX11_readLetter_117 (by decide) (fun c18 => ?_) (fun c18 => absurd (by decide) c18)
  refine lv_aload_n hx hb dX11_readLetter_134 rfl (lv_at hl 4 rfl) ?_
  refine va_get (D := (dC, dI)) (ci := 2) (v := .int ((-1))) (C := RX2) (T := TX2) (N := 10) hx hb hts hiX2 hown hK hP 1 rfl rfl 3 (by decide) hw4 (fun _ h9 => h9) rfl dX11_readLetter_135 ?_
  refine va_put (D := (dC, dI)) (ci := 2) (v := .int ((-1))) (ty := .int) (C := RX2) (T := TX2) (N := 10) hx hb hts hiX2 tyX2 tyX2_ok nmX2 hown hK hP hD hS 1 rfl rfl 4 (by decide) hw5 (fun _ h9 => h9) rfl (by decide +kernel) rfl rfl (Nat.le_of_ble_eq_true rfl) dX11_readLetter_138 (fun H locs hP hD hS => ?_)
  have hP : va_P (dC, dI) vwCl [(h0, .inr (11, [.ref t0, .ref b0, .ref c0, .ref r0, .ref d0, .ref e0, .ref o0, .ref s0, .ref p0, .ref w0, .int 0, .int 0, .int 0, .int 0, .int ((-1)), .int 0])), (lt, .inr (2, [.ref lc, .ref lp, .int 1, .int ((-1)), .int ((-1)), .int 0, .int 0, .int 0, .int 0, .int 0])), (lc, .inl (clc, 8, .inl zf7)), (lp, .inl (clp, 8, .inl zg8)), (t0, .inr (7, [.ref tb, .int 0, .int 0, .int 0]))] H := hP
  have hD : va_D A [(h0, .inr (11, [.ref t0, .ref b0, .ref c0, .ref r0, .ref d0, .ref e0, .ref o0, .ref s0, .ref p0, .ref w0, .int 0, .int 0, .int 0, .int 0, .int ((-1)), .int 0])), (lt, .inr (2, [.ref lc, .ref lp, .int 1, .int ((-1)), .int ((-1)), .int 0, .int 0, .int 0, .int 0, .int 0])), (lc, .inl (clc, 8, .inl zf7)), (lp, .inl (clp, 8, .inl zg8)), (t0, .inr (7, [.ref tb, .int 0, .int 0, .int 0]))] := hD
  have hP9 := hP.sub (ws' := [(h0, .inr (11, [.ref t0, .ref b0, .ref c0, .ref r0, .ref d0, .ref e0, .ref o0, .ref s0, .ref p0, .ref w0, .int 0, .int 0, .int 0, .int 0, .int ((-1)), .int 0])), (t0, .inr (7, [.ref tb, .int 0, .int 0, .int 0]))]) [0, 4] rfl
  have hD9 := hD.sub (ws' := [(h0, .inr (11, [.ref t0, .ref b0, .ref c0, .ref r0, .ref d0, .ref e0, .ref o0, .ref s0, .ref p0, .ref w0, .int 0, .int 0, .int 0, .int 0, .int ((-1)), .int 0])), (t0, .inr (7, [.ref tb, .int 0, .int 0, .int 0]))]) [0, 4] (by decide) rfl
  have hK9 := hK.sub (tys' := []) [] rfl
  refine W.widen (k := 0) (n := 0) (by decide) (by decide) ?_
  exact W.vret hx hb hr (fun t ht hW => ⟨⟨(), rfl, trivial, ⟨by rw [ht]; exact hP9, va_K.moved hW.alike hK9, hD9⟩⟩, hS.F ht⟩) hS.2.2 dX11_readLetter_141
set_option maxHeartbeats 4000000 in
set_option maxRecDepth 100000 in
/-- letter on an empty tape throws -/
theorem c_letter (l : Launch) (hl0 : l.stackTraces = false) (dC : Nat → ClassId) (dI : Nat → Nat → Nat) (A0 : Nat → Prop) (ad : Nat → Nat) (sz : Nat) (h0 t0 b0 c0 r0 d0 e0 o0 s0 p0 w0 : Nat) (tb : Nat) (hA0 : ∀ q, va_A [(h0, .inr (11, [.ref t0, .ref b0, .ref c0, .ref r0, .ref d0, .ref e0, .ref o0, .ref s0, .ref p0, .ref w0, .int 0, .int 0, .int 0, .int 0, .int ((-1)), .int 0])), (t0, .inr (7, [.ref tb, .int 0, .int 0, .int ((-1))]))] sz q → A0 q) : vx_Met l yX11_letter wsX11_letter ({ frames := 6, cells := 4, slots := 32, locals := 108 }) (va_Pc [.ref h0] (zPc A0 ad (dC, dI) [(h0, .inr (11, [.ref t0, .ref b0, .ref c0, .ref r0, .ref d0, .ref e0, .ref o0, .ref s0, .ref p0, .ref w0, .int 0, .int 0, .int 0, .int 0, .int ((-1)), .int 0])), (t0, .inr (7, [.ref tb, .int 0, .int 0, .int ((-1))]))] [] sz)) (va_Qi (fun (_ : Int32) (_ : Unit) => False) (fun (_ : Unit) (t : State) => zB (dC, dI) (va_A [(h0, .inr (11, [.ref t0, .ref b0, .ref c0, .ref r0, .ref d0, .ref e0, .ref o0, .ref s0, .ref p0, .ref w0, .int 0, .int 0, .int 0, .int 0, .int ((-1)), .int 0])), (t0, .inr (7, [.ref tb, .int 0, .int 0, .int ((-1))]))] sz) [(h0, .inr (11, [.ref t0, .ref b0, .ref c0, .ref r0, .ref d0, .ref e0, .ref o0, .ref s0, .ref p0, .ref w0, .int 0, .int 0, .int 0, .int 0, .int ((-1)), .int 0])), (t0, .inr (7, [.ref tb, .int 0, .int 0, .int ((-1))]))] [] t) (va_A [(h0, .inr (11, [.ref t0, .ref b0, .ref c0, .ref r0, .ref d0, .ref e0, .ref o0, .ref s0, .ref p0, .ref w0, .int 0, .int 0, .int 0, .int 0, .int ((-1)), .int 0])), (t0, .inr (7, [.ref tb, .int 0, .int 0, .int ((-1))]))] sz)) (vx_X (fun _ : Unit => True) (fun (E : String) (_ : Unit) (_ : State) => E = "java/lang/IllegalArgumentException") (va_A [(h0, .inr (11, [.ref t0, .ref b0, .ref c0, .ref r0, .ref d0, .ref e0, .ref o0, .ref s0, .ref p0, .ref w0, .int 0, .int 0, .int 0, .int 0, .int ((-1)), .int 0])), (t0, .inr (7, [.ref tb, .int 0, .int 0, .int ((-1))]))] sz)) 4 32 (va_A [(h0, .inr (11, [.ref t0, .ref b0, .ref c0, .ref r0, .ref d0, .ref e0, .ref o0, .ref s0, .ref p0, .ref w0, .int 0, .int 0, .int 0, .int 0, .int ((-1)), .int 0])), (t0, .inr (7, [.ref tb, .int 0, .int 0, .int ((-1))]))] sz) := by
  refine vx_ofW (cc := cX11_letter) (maxL := 3) (ret := (some .int)) (by decide) rfl ?_
  intro p e s m args below meth c s₁ B hml ht0 hv
  obtain ⟨rfl, hsz, hz, hP, hK, hD0⟩ := hv
  have hx := B.exec
  have hb := B.bytes
  have hr := B.returns
  have hts := atoms_spec (ws := wsX11_letter) B.pre
  have hown : s.vm.findClass RX11 = some m.cls := findClass_of_methodNamed B.named
  have hlocks := B.notSynchronized
  subst hsz
  have hD := hD0.self (sz := s.heap.size)
  generalize hAe : va_A [(h0, .inr (11, [.ref t0, .ref b0, .ref c0, .ref r0, .ref d0, .ref e0, .ref o0, .ref s0, .ref p0, .ref w0, .int 0, .int 0, .int 0, .int 0, .int ((-1)), .int 0])), (t0, .inr (7, [.ref tb, .int 0, .int 0, .int ((-1))]))] s.heap.size = A at hD hA0 ⊢
  have hA : ∀ q : Nat, s.heap.size ≤ q → A q := fun q h => by rw [← hAe]; exact Or.inr h
  have hS : va_S A s.heap s.heap [] := va_S.rf
  have hl := lv_entry ([.ref h0]) (n := 3) (Nat.le_of_ble_eq_true rfl)
  rw [lg_entry_eq]
  generalize (lg_sl ([.ref h0]) ++ List.replicate (3 - (lg_sl ([.ref h0])).length) Slot.unset).toArray = ls at hl ⊢
  have hl : lv_has ls 3 [(0, .ref h0)] := hl
  have hP : va_P (dC, dI) vwCl [(h0, .inr (11, [.ref t0, .ref b0, .ref c0, .ref r0, .ref d0, .ref e0, .ref o0, .ref s0, .ref p0, .ref w0, .int 0, .int 0, .int 0, .int 0, .int ((-1)), .int 0])), (t0, .inr (7, [.ref tb, .int 0, .int 0, .int ((-1))]))] s.heap := hP
  have hiX2 : ∀ w ∈ u_ws RX2 TX2 10, w ∈ wsX11_letter := fun _ h => List.mem_cons_of_mem _ (List.mem_append_left _ (List.mem_append_left _ (List.mem_append_left _ (List.mem_append_left _ (List.mem_append_left _ (List.mem_append_left _ (List.mem_append_left _ (List.mem_append_left _ (List.mem_append_left _ (List.mem_append_right _ h))))))))))
  have hw1 := hts (.classLink RX11 40 RX2) (by decide +kernel)
  have hw2 := hts (.instantiable RX2 10) (by decide +kernel)
  have hw3 := hts (.initialized RX2) (by decide +kernel)
  have hw4 := hts (.instanceMethod yX2_init) (by decide +kernel)
  have hiX11 : ∀ w ∈ u_ws RX11 TX11 16, w ∈ wsX11_letter := fun _ h => List.mem_cons_of_mem _ (List.mem_append_left _ (List.mem_append_left _ (List.mem_append_left _ (List.mem_append_left _ (List.mem_append_left _ (List.mem_append_left _ (List.mem_append_left _ (List.mem_append_left _ (List.mem_append_right _ h)))))))))
  have hw6 := hts (.fieldLink RX11 10 "PostHouse" "tape" "LPostHouse$Tape;") (by decide +kernel)
  have hw7 := hts (.fieldLink RX11 72 "PostHouse" "fault" "I") (by decide +kernel)
  have hw8 := hts (.classLink RX11 91 "java/lang/IllegalArgumentException") (by decide +kernel)
  have hw9 := hts (.initialized "java/lang/IllegalArgumentException") (by decide +kernel)
  refine va_new (ci := 2) (fs := [.null, .null, .int 0, .int 0, .int 0, .int 0, .int 0, .int 0, .int 0, .int 0]) (C := RX2) (T := TX2) (N := 10) hx hb hts hiX2 tyX2 tyX2_ok hown hw1 hw2 hw3 hK hP hD hS hA rfl (by decide) (Nat.le_of_ble_eq_true rfl) (Nat.le_of_ble_eq_true rfl) dX11_letter_0 (fun q1 H hP hD hS => ?_)
  have hP : va_P (dC, dI) vwCl [(h0, .inr (11, [.ref t0, .ref b0, .ref c0, .ref r0, .ref d0, .ref e0, .ref o0, .ref s0, .ref p0, .ref w0, .int 0, .int 0, .int 0, .int 0, .int ((-1)), .int 0])), (t0, .inr (7, [.ref tb, .int 0, .int 0, .int ((-1))])), (q1, .inr (2, [.null, .null, .int 0, .int 0, .int 0, .int 0, .int 0, .int 0, .int 0, .int 0]))] H := hP
  have hD : va_D A [(h0, .inr (11, [.ref t0, .ref b0, .ref c0, .ref r0, .ref d0, .ref e0, .ref o0, .ref s0, .ref p0, .ref w0, .int 0, .int 0, .int 0, .int 0, .int ((-1)), .int 0])), (t0, .inr (7, [.ref tb, .int 0, .int 0, .int ((-1))])), (q1, .inr (2, [.null, .null, .int 0, .int 0, .int 0, .int 0, .int 0, .int 0, .int 0, .int 0]))] := hD
  refine W.widen (k := 1) (n := 10) (by decide) (by decide) ?_
  refine lv_dup hx hb dX11_letter_3 rfl ?_
  have hPc := hP.sub (ws' := [(q1, .inr (2, [.null, .null, .int 0, .int 0, .int 0, .int 0, .int 0, .int 0, .int 0, .int 0]))]) [2] rfl
  have hDc := hD.sub (ws' := [(q1, .inr (2, [.null, .null, .int 0, .int 0, .int 0, .int 0, .int 0, .int 0, .int 0, .int 0]))]) [2] (by decide) rfl
  have hKc := hK.sub (tys' := []) [] rfl
  have hFc := va_free (wc := [(q1, .inr (2, [.null, .null, .int 0, .int 0, .int 0, .int 0, .int 0, .int 0, .int 0, .int 0]))]) hD hS hA [2] rfl
  refine va_callv (va_runIN (host := RX11) (As := []) (rest := [.ref q1]) ⟨hx, hb, hml, hown, hts⟩ (c_Letter_init l hl0 dC dI A0 ad H.size q1 (fun q h => hA0 q (hFc q h))) ⟨va_cnB (host := RX11) (y := yX2_init) 0 hts gX11_letter_X2_init_n184 rfl rfl rfl (hz.2.2.2.2.2.1 _ (List.mem_of_getElem? (i := 5) rfl)) hw3 (by decide +kernel) ⟨Nat.le_of_ble_eq_true rfl, Nat.le_of_ble_eq_true rfl⟩, rfl, hw4⟩ ⟨zPc_bl, zPc_at hz hS hA0 hPc hKc hDc⟩ rfl rfl hl.1 rfl (lv_room (Nat.le_of_ble_eq_true rfl)) dX11_letter_4 ⟨Nat.le_of_ble_eq_true rfl, Nat.le_of_ble_eq_true rfl⟩) hS (fun q _ h => hFc q h) hFc (fun u t H1 locs ht hvm hw hB hz1 hk1 hS => ?_)
  obtain ⟨n3q1, n3k1, n3q2, n3k2, hB⟩ := hB
  obtain ⟨hP1, hK1, hD1⟩ := hB
  rw [ht] at hP1
  have hK1 := va_K.moved hvm.symm hK1
  obtain ⟨hP, hD⟩ := va_join (wr := [(h0, .inr (11, [.ref t0, .ref b0, .ref c0, .ref r0, .ref d0, .ref e0, .ref o0, .ref s0, .ref p0, .ref w0, .int 0, .int 0, .int 0, .int 0, .int ((-1)), .int 0])), (t0, .inr (7, [.ref tb, .int 0, .int 0, .int ((-1))]))]) (w1 := [(q1, .inr (2, [.ref n3q1, .ref n3q2, .int 0, .int 0, .int 0, .int 0, .int 0, .int 0, .int 0, .int 0])), (n3q1, .inl (n3k1, 8, .inl (fun _ => 0))), (n3q2, .inl (n3k2, 8, .inl (fun _ => 0)))]) hP hD [2] [0, 1] rfl rfl (by decide) (by decide) hk1 hFc hP1 hD1
  have hK := (hK.sub (tys' := []) [] rfl).app hK1
  generalize H1 = H at hP hS ⊢
  have hP : va_P (dC, dI) vwCl [(h0, .inr (11, [.ref t0, .ref b0, .ref c0, .ref r0, .ref d0, .ref e0, .ref o0, .ref s0, .ref p0, .ref w0, .int 0, .int 0, .int 0, .int 0, .int ((-1)), .int 0])), (t0, .inr (7, [.ref tb, .int 0, .int 0, .int ((-1))])), (q1, .inr (2, [.ref n3q1, .ref n3q2, .int 0, .int 0, .int 0, .int 0, .int 0, .int 0, .int 0, .int 0])), (n3q1, .inl (n3k1, 8, .inl (fun _ => 0))), (n3q2, .inl (n3k2, 8, .inl (fun _ => 0)))] H := hP
  have hD : va_D A [(h0, .inr (11, [.ref t0, .ref b0, .ref c0, .ref r0, .ref d0, .ref e0, .ref o0, .ref s0, .ref p0, .ref w0, .int 0, .int 0, .int 0, .int 0, .int ((-1)), .int 0])), (t0, .inr (7, [.ref tb, .int 0, .int 0, .int ((-1))])), (q1, .inr (2, [.ref n3q1, .ref n3q2, .int 0, .int 0, .int 0, .int 0, .int 0, .int 0, .int 0, .int 0])), (n3q1, .inl (n3k1, 8, .inl (fun _ => 0))), (n3q2, .inl (n3k2, 8, .inl (fun _ => 0)))] := hD
  have hK : va_K (dC, dI) vwCl [(n3k1, .int), (n3k2, .int)] s := hK
  refine W.widen (k := 3) (n := 26) (by decide) (by decide) ?_
  refine lv_astore_n (lv' := [(1, .ref q1), (0, .ref h0)]) hx hb dX11_letter_7 rfl hl (by decide) rfl (fun ls hl => ?_)
  refine lv_aload_n hx hb dX11_letter_8 rfl (lv_at hl 1 rfl) ?_
  refine va_get (D := (dC, dI)) (ci := 11) (v := .ref t0) (C := RX11) (T := TX11) (N := 16) hx hb hts hiX11 hown hK hP 0 rfl rfl 0 (by decide) hw6 (fun _ h9 => h9) rfl dX11_letter_9 ?_
  have hPc := hP.sub (ws' := [(t0, .inr (7, [.ref tb, .int 0, .int 0, .int ((-1))]))]) [1] rfl
  have hDc := hD.sub (ws' := [(t0, .inr (7, [.ref tb, .int 0, .int 0, .int ((-1))]))]) [1] (by decide) rfl
  have hKc := hK.sub (tys' := []) [] rfl
  have hFc := va_free (wc := [(t0, .inr (7, [.ref tb, .int 0, .int 0, .int ((-1))]))]) hD hS hA [1] rfl
  refine va_callv (va_runV (As := []) (rest := []) ⟨hx, hb, hml, hown, hts⟩ (c_open_a l hl0 dC dI A0 ad H.size t0 tb (fun q h => hA0 q (hFc q h))) (cwV 0 hts gX11_letter_X7_open rfl rfl rfl (by decide +kernel) ⟨Nat.le_of_ble_eq_true rfl, Nat.le_of_ble_eq_true rfl⟩) ⟨zPc_bl, va_recv hKc hPc (ci := 7) (q0 := 0) rfl rfl, zPc_at hz hS hA0 hPc hKc hDc⟩ rfl rfl hl.1 rfl (lv_room (Nat.le_of_ble_eq_true rfl)) dX11_letter_12 ⟨Nat.le_of_ble_eq_true rfl, Nat.le_of_ble_eq_true rfl⟩) hS (fun q _ h => hFc q h) hFc (fun u t H1 locs ht hvm hw hB hz1 hk1 hS => ?_)
  obtain ⟨hP1, hK1, hD1⟩ := hB
  rw [ht] at hP1
  have hK1 := va_K.moved hvm.symm hK1
  obtain ⟨hP, hD⟩ := va_join (wr := [(h0, .inr (11, [.ref t0, .ref b0, .ref c0, .ref r0, .ref d0, .ref e0, .ref o0, .ref s0, .ref p0, .ref w0, .int 0, .int 0, .int 0, .int 0, .int ((-1)), .int 0])), (q1, .inr (2, [.ref n3q1, .ref n3q2, .int 0, .int 0, .int 0, .int 0, .int 0, .int 0, .int 0, .int 0])), (n3q1, .inl (n3k1, 8, .inl (fun _ => 0))), (n3q2, .inl (n3k2, 8, .inl (fun _ => 0)))]) (w1 := [(t0, .inr (7, [.ref tb, .int 0, .int 0, .int ((-1))]))]) hP hD [1] [0, 2, 3, 4] rfl rfl (by decide) (by decide) hk1 hFc hP1 hD1
  have hK := (hK.sub (tys' := [(n3k1, .int), (n3k2, .int)]) [0, 1] rfl).app hK1
  generalize H1 = H at hP hS ⊢
  have hP : va_P (dC, dI) vwCl [(h0, .inr (11, [.ref t0, .ref b0, .ref c0, .ref r0, .ref d0, .ref e0, .ref o0, .ref s0, .ref p0, .ref w0, .int 0, .int 0, .int 0, .int 0, .int ((-1)), .int 0])), (q1, .inr (2, [.ref n3q1, .ref n3q2, .int 0, .int 0, .int 0, .int 0, .int 0, .int 0, .int 0, .int 0])), (n3q1, .inl (n3k1, 8, .inl (fun _ => 0))), (n3q2, .inl (n3k2, 8, .inl (fun _ => 0))), (t0, .inr (7, [.ref tb, .int 0, .int 0, .int ((-1))]))] H := hP
  have hD : va_D A [(h0, .inr (11, [.ref t0, .ref b0, .ref c0, .ref r0, .ref d0, .ref e0, .ref o0, .ref s0, .ref p0, .ref w0, .int 0, .int 0, .int 0, .int 0, .int ((-1)), .int 0])), (q1, .inr (2, [.ref n3q1, .ref n3q2, .int 0, .int 0, .int 0, .int 0, .int 0, .int 0, .int 0, .int 0])), (n3q1, .inl (n3k1, 8, .inl (fun _ => 0))), (n3q2, .inl (n3k2, 8, .inl (fun _ => 0))), (t0, .inr (7, [.ref tb, .int 0, .int 0, .int ((-1))]))] := hD
  have hK : va_K (dC, dI) vwCl [(n3k1, .int), (n3k2, .int)] s := hK
  refine lv_aload_n hx hb dX11_letter_15 rfl (lv_at hl 1 rfl) ?_
  refine lv_aload_n hx hb dX11_letter_16 rfl (lv_at hl 0 rfl) ?_
  have hPc := hP.sub (ws' := [(h0, .inr (11, [.ref t0, .ref b0, .ref c0, .ref r0, .ref d0, .ref e0, .ref o0, .ref s0, .ref p0, .ref w0, .int 0, .int 0, .int 0, .int 0, .int ((-1)), .int 0])), (t0, .inr (7, [.ref tb, .int 0, .int 0, .int ((-1))])), (q1, .inr (2, [.ref n3q1, .ref n3q2, .int 0, .int 0, .int 0, .int 0, .int 0, .int 0, .int 0, .int 0])), (n3q1, .inl (n3k1, 8, .inl (fun _ => 0))), (n3q2, .inl (n3k2, 8, .inl (fun _ => 0)))]) [0, 4, 1, 2, 3] rfl
  have hDc := hD.sub (ws' := [(h0, .inr (11, [.ref t0, .ref b0, .ref c0, .ref r0, .ref d0, .ref e0, .ref o0, .ref s0, .ref p0, .ref w0, .int 0, .int 0, .int 0, .int 0, .int ((-1)), .int 0])), (t0, .inr (7, [.ref tb, .int 0, .int 0, .int ((-1))])), (q1, .inr (2, [.ref n3q1, .ref n3q2, .int 0, .int 0, .int 0, .int 0, .int 0, .int 0, .int 0, .int 0])), (n3q1, .inl (n3k1, 8, .inl (fun _ => 0))), (n3q2, .inl (n3k2, 8, .inl (fun _ => 0)))]) [0, 4, 1, 2, 3] (by decide) rfl
  have hKc := hK.sub (tys' := [(n3k1, .int), (n3k2, .int)]) [0, 1] rfl
  have hFc := va_free (wc := [(h0, .inr (11, [.ref t0, .ref b0, .ref c0, .ref r0, .ref d0, .ref e0, .ref o0, .ref s0, .ref p0, .ref w0, .int 0, .int 0, .int 0, .int 0, .int ((-1)), .int 0])), (t0, .inr (7, [.ref tb, .int 0, .int 0, .int ((-1))])), (q1, .inr (2, [.ref n3q1, .ref n3q2, .int 0, .int 0, .int 0, .int 0, .int 0, .int 0, .int 0, .int 0])), (n3q1, .inl (n3k1, 8, .inl (fun _ => 0))), (n3q2, .inl (n3k2, 8, .inl (fun _ => 0)))]) hD hS hA [0, 4, 1, 2, 3] rfl
  refine va_callv (va_runV (As := [.ref q1]) (rest := []) ⟨hx, hb, hml, hown, hts⟩ (c_readLetter l hl0 dC dI A0 ad H.size h0 t0 b0 c0 r0 d0 e0 o0 s0 p0 w0 tb q1 n3q1 n3q2 n3k1 n3k2 (fun q h => hA0 q (hFc q h))) (cwV 1 hts gX11_letter_X11_readLetter rfl rfl rfl (by decide +kernel) ⟨Nat.le_of_ble_eq_true rfl, Nat.le_of_ble_eq_true rfl⟩) ⟨zPc_bl, va_recv hKc hPc (ci := 11) (q0 := 0) rfl rfl, zPc_at hz hS hA0 hPc hKc hDc⟩ rfl rfl hl.1 rfl (lv_room (Nat.le_of_ble_eq_true rfl)) dX11_letter_17 ⟨Nat.le_of_ble_eq_true rfl, Nat.le_of_ble_eq_true rfl⟩) hS (fun q _ h => hFc q h) hFc (fun u t H1 locs ht hvm hw hB hz1 hk1 hS => ?_)
  obtain ⟨hP1, hK1, hD1⟩ := hB
  rw [ht] at hP1
  have hK1 := va_K.moved hvm.symm hK1
  obtain ⟨hP, hD⟩ := va_join (wr := []) (w1 := [(h0, .inr (11, [.ref t0, .ref b0, .ref c0, .ref r0, .ref d0, .ref e0, .ref o0, .ref s0, .ref p0, .ref w0, .int 0, .int 0, .int 0, .int 0, .int ((-1)), .int 0])), (t0, .inr (7, [.ref tb, .int 0, .int 0, .int 0]))]) hP hD [0, 4, 1, 2, 3] [] rfl rfl (by decide) (by decide) hk1 hFc hP1 hD1
  have hK := (hK.sub (tys' := []) [] rfl).app hK1
  generalize H1 = H at hP hS ⊢
  have hP : va_P (dC, dI) vwCl [(h0, .inr (11, [.ref t0, .ref b0, .ref c0, .ref r0, .ref d0, .ref e0, .ref o0, .ref s0, .ref p0, .ref w0, .int 0, .int 0, .int 0, .int 0, .int ((-1)), .int 0])), (t0, .inr (7, [.ref tb, .int 0, .int 0, .int 0]))] H := hP
  have hD : va_D A [(h0, .inr (11, [.ref t0, .ref b0, .ref c0, .ref r0, .ref d0, .ref e0, .ref o0, .ref s0, .ref p0, .ref w0, .int 0, .int 0, .int 0, .int 0, .int ((-1)), .int 0])), (t0, .inr (7, [.ref tb, .int 0, .int 0, .int 0]))] := hD
  have hK : va_K (dC, dI) vwCl [] s := hK
  refine lv_aload_n hx hb dX11_letter_20 rfl (lv_at hl 1 rfl) ?_
  have hPc := hP.sub (ws' := [(h0, .inr (11, [.ref t0, .ref b0, .ref c0, .ref r0, .ref d0, .ref e0, .ref o0, .ref s0, .ref p0, .ref w0, .int 0, .int 0, .int 0, .int 0, .int ((-1)), .int 0])), (t0, .inr (7, [.ref tb, .int 0, .int 0, .int 0]))]) [0, 1] rfl
  have hDc := hD.sub (ws' := [(h0, .inr (11, [.ref t0, .ref b0, .ref c0, .ref r0, .ref d0, .ref e0, .ref o0, .ref s0, .ref p0, .ref w0, .int 0, .int 0, .int 0, .int 0, .int ((-1)), .int 0])), (t0, .inr (7, [.ref tb, .int 0, .int 0, .int 0]))]) [0, 1] (by decide) rfl
  have hKc := hK.sub (tys' := []) [] rfl
  have hFc := va_free (wc := [(h0, .inr (11, [.ref t0, .ref b0, .ref c0, .ref r0, .ref d0, .ref e0, .ref o0, .ref s0, .ref p0, .ref w0, .int 0, .int 0, .int 0, .int 0, .int ((-1)), .int 0])), (t0, .inr (7, [.ref tb, .int 0, .int 0, .int 0]))]) hD hS hA [0, 1] rfl
  refine va_callv (va_runV (As := []) (rest := []) ⟨hx, hb, hml, hown, hts⟩ (c_closeTape l hl0 dC dI A0 ad H.size h0 t0 b0 c0 r0 d0 e0 o0 s0 p0 w0 tb (fun q h => hA0 q (hFc q h))) (cwV 0 hts gX11_letter_X11_closeTape rfl rfl rfl (by decide +kernel) ⟨Nat.le_of_ble_eq_true rfl, Nat.le_of_ble_eq_true rfl⟩) ⟨zPc_bl, va_recv hKc hPc (ci := 11) (q0 := 0) rfl rfl, zPc_at hz hS hA0 hPc hKc hDc⟩ rfl rfl hl.1 rfl (lv_room (Nat.le_of_ble_eq_true rfl)) dX11_letter_21 ⟨Nat.le_of_ble_eq_true rfl, Nat.le_of_ble_eq_true rfl⟩) hS (fun q _ h => hFc q h) hFc (fun u t H1 locs ht hvm hw hB hz1 hk1 hS => ?_)
  obtain ⟨hP1, hK1, hD1⟩ := hB
  rw [ht] at hP1
  have hK1 := va_K.moved hvm.symm hK1
  obtain ⟨hP, hD⟩ := va_join (wr := []) (w1 := [(h0, .inr (11, [.ref t0, .ref b0, .ref c0, .ref r0, .ref d0, .ref e0, .ref o0, .ref s0, .ref p0, .ref w0, .int 0, .int 0, .int 0, .int 0, .int 0, .int 0])), (t0, .inr (7, [.ref tb, .int 0, .int 0, .int 0]))]) hP hD [0, 1] [] rfl rfl (by decide) (by decide) hk1 hFc hP1 hD1
  have hK := (hK.sub (tys' := []) [] rfl).app hK1
  generalize H1 = H at hP hS ⊢
  have hP : va_P (dC, dI) vwCl [(h0, .inr (11, [.ref t0, .ref b0, .ref c0, .ref r0, .ref d0, .ref e0, .ref o0, .ref s0, .ref p0, .ref w0, .int 0, .int 0, .int 0, .int 0, .int 0, .int 0])), (t0, .inr (7, [.ref tb, .int 0, .int 0, .int 0]))] H := hP
  have hD : va_D A [(h0, .inr (11, [.ref t0, .ref b0, .ref c0, .ref r0, .ref d0, .ref e0, .ref o0, .ref s0, .ref p0, .ref w0, .int 0, .int 0, .int 0, .int 0, .int 0, .int 0])), (t0, .inr (7, [.ref tb, .int 0, .int 0, .int 0]))] := hD
  have hK : va_K (dC, dI) vwCl [] s := hK
  refine lv_aload_n hx hb dX11_letter_24 rfl (lv_at hl 1 rfl) ?_
  refine va_get (D := (dC, dI)) (ci := 11) (v := .int 0) (C := RX11) (T := TX11) (N := 16) hx hb hts hiX11 hown hK hP 0 rfl rfl 14 (by decide) hw7 (fun _ h9 => h9) rfl dX11_letter_25 ?_
  refine lv_iconst (v := (-1)) hx hb dX11_letter_28 (by decide) ?_
  refine lv_icmp_eq (tgt := 42) hx hb dX11_letter_29 (by decide) (fun c7 => absurd c7 (by decide)) (fun c7 => ?_)
  obtain ⟨a8, ha8⟩ := hz.2.2.2.2.1 _ (List.mem_of_getElem? (i := 9) rfl)
  have hat : ∀ w ∈ vx_atS RX11 95 "java/lang/IllegalArgumentException" ["java/lang/RuntimeException", "java/lang/Exception"], w.before _ s = true := vx_hat (fun w h => hts w (List.mem_cons_of_mem _ (List.mem_append_left _ (List.mem_append_right _ h)))) (B := [.castable "java/lang/IllegalArgumentException" "java/lang/IllegalArgumentException", .declares (Bundle.initS "java/lang/RuntimeException"), .declares (Bundle.initS "java/lang/Exception"), .declares (Bundle.initS Bundle.tN)]) (by decide +kernel) (vx_c (va_Nw.use rfl (hz.2.2.2.2.2.2.2.1 _ (List.mem_of_getElem? (i := 1) rfl))) (vx_c (va_Nw.use rfl (hz.2.2.2.2.2.2.2.2 _ (List.mem_of_getElem? (i := 0) rfl))) (vx_c (va_Nw.use rfl (hz.2.2.2.2.2.2.2.2 _ (List.mem_of_getElem? (i := 1) rfl))) (vx_c (va_Nw.use rfl (hz.2.2.2.2.2.2.2.2 _ (List.mem_of_getElem? (i := 2) rfl))) vx_n))))
  exact vx_throwS hx hb hl0 (own := RX11) (cls := "java/lang/IllegalArgumentException") (text := "the text of the letter is wrong") (names := ["java/lang/RuntimeException", "java/lang/Exception"]) hown (by decide +kernel) (by decide +kernel) hw8 hw9 ha8 hat (by decide +kernel) (hz.1.narrow hA0) (hz.2.1.narrow hA0) hS (by rw [hml]; exact hl.1) dX11_letter_32 dX11_letter_35 dX11_letter_36 dX11_letter_38 dX11_letter_41 (fun x h9 => (ht0 x h9).elim) (Nat.le_of_ble_eq_true rfl) (Nat.le_of_ble_eq_true rfl) (Nat.le_of_ble_eq_true rfl) (Nat.le_of_ble_eq_true rfl) hlocks (fun t hvm h1 h2 => ⟨(), trivial, rfl, zF2 hS h1 h2⟩) hS.2.2 (by decide) (by decide)
set_option maxHeartbeats 4000000 in
set_option maxRecDepth 100000 in
/-- fault on a fresh object -/
theorem c_fault (l : Launch) (hl0 : l.stackTraces = false) (dC : Nat → ClassId) (dI : Nat → Nat → Nat) (A0 : Nat → Prop) (ad : Nat → Nat) (sz : Nat) (h0 t0 b0 c0 r0 d0 e0 o0 s0 p0 w0 : Nat) (hA0 : ∀ q, va_A [(h0, .inr (11, [.ref t0, .ref b0, .ref c0, .ref r0, .ref d0, .ref e0, .ref o0, .ref s0, .ref p0, .ref w0, .int 0, .int 0, .int 0, .int 0, .int ((-1)), .int 0]))] sz q → A0 q) : Met l yX11_fault wsX11_fault ({ frames := 0, cells := 0, slots := 0, locals := 0 }) (va_Pc [.ref h0] (zPc A0 ad (dC, dI) [(h0, .inr (11, [.ref t0, .ref b0, .ref c0, .ref r0, .ref d0, .ref e0, .ref o0, .ref s0, .ref p0, .ref w0, .int 0, .int 0, .int 0, .int 0, .int ((-1)), .int 0]))] [] sz)) (va_Qi (fun (r : Int32) (_ : Unit) => r = -1) (fun (_ : Unit) (t : State) => zB (dC, dI) (va_A [(h0, .inr (11, [.ref t0, .ref b0, .ref c0, .ref r0, .ref d0, .ref e0, .ref o0, .ref s0, .ref p0, .ref w0, .int 0, .int 0, .int 0, .int 0, .int ((-1)), .int 0]))] sz) [(h0, .inr (11, [.ref t0, .ref b0, .ref c0, .ref r0, .ref d0, .ref e0, .ref o0, .ref s0, .ref p0, .ref w0, .int 0, .int 0, .int 0, .int 0, .int ((-1)), .int 0]))] [] t) (va_A [(h0, .inr (11, [.ref t0, .ref b0, .ref c0, .ref r0, .ref d0, .ref e0, .ref o0, .ref s0, .ref p0, .ref w0, .int 0, .int 0, .int 0, .int 0, .int ((-1)), .int 0]))] sz)) 0 0 (va_A [(h0, .inr (11, [.ref t0, .ref b0, .ref c0, .ref r0, .ref d0, .ref e0, .ref o0, .ref s0, .ref p0, .ref w0, .int 0, .int 0, .int 0, .int 0, .int ((-1)), .int 0]))] sz) := by
  refine Met.ofW (cc := cX11_fault) (maxL := 1) (ret := (some .int)) (by decide) rfl ?_
  intro p e s m args below meth c s₁ B hml hv
  obtain ⟨rfl, hsz, hz, hP, hK, hD0⟩ := hv
  have hx := B.exec
  have hb := B.bytes
  have hr := B.returns
  have hts := atoms_spec (ws := wsX11_fault) B.pre
  have hown : s.vm.findClass RX11 = some m.cls := findClass_of_methodNamed B.named
  have hlocks := B.notSynchronized
  subst hsz
  have hD := hD0.self (sz := s.heap.size)
  generalize hAe : va_A [(h0, .inr (11, [.ref t0, .ref b0, .ref c0, .ref r0, .ref d0, .ref e0, .ref o0, .ref s0, .ref p0, .ref w0, .int 0, .int 0, .int 0, .int 0, .int ((-1)), .int 0]))] s.heap.size = A at hD hA0 ⊢
  have hA : ∀ q : Nat, s.heap.size ≤ q → A q := fun q h => by rw [← hAe]; exact Or.inr h
  have hS : va_S A s.heap s.heap [] := va_S.rf
  have hl := lv_entry ([.ref h0]) (n := 1) (Nat.le_of_ble_eq_true rfl)
  rw [lg_entry_eq]
  generalize (lg_sl ([.ref h0]) ++ List.replicate (1 - (lg_sl ([.ref h0])).length) Slot.unset).toArray = ls at hl ⊢
  have hl : lv_has ls 1 [(0, .ref h0)] := hl
  have hP : va_P (dC, dI) vwCl [(h0, .inr (11, [.ref t0, .ref b0, .ref c0, .ref r0, .ref d0, .ref e0, .ref o0, .ref s0, .ref p0, .ref w0, .int 0, .int 0, .int 0, .int 0, .int ((-1)), .int 0]))] s.heap := hP
  have hiX11 : ∀ w ∈ u_ws RX11 TX11 16, w ∈ wsX11_fault := fun _ h => List.mem_cons_of_mem _ (List.mem_append_right _ h)
  have hw1 := hts (.fieldLink RX11 72 "PostHouse" "fault" "I") (by decide +kernel)
  refine lv_aload_n hx hb dX11_fault_0 rfl (lv_at hl 0 rfl) ?_
  refine va_get (D := (dC, dI)) (ci := 11) (v := .int ((-1))) (C := RX11) (T := TX11) (N := 16) hx hb hts hiX11 hown hK hP 0 rfl rfl 14 (by decide) hw1 (fun _ h9 => h9) rfl dX11_fault_1 ?_
  have hP9 := hP.sub (ws' := [(h0, .inr (11, [.ref t0, .ref b0, .ref c0, .ref r0, .ref d0, .ref e0, .ref o0, .ref s0, .ref p0, .ref w0, .int 0, .int 0, .int 0, .int 0, .int ((-1)), .int 0]))]) [0] rfl
  have hD9 := hD.sub (ws' := [(h0, .inr (11, [.ref t0, .ref b0, .ref c0, .ref r0, .ref d0, .ref e0, .ref o0, .ref s0, .ref p0, .ref w0, .int 0, .int 0, .int 0, .int 0, .int ((-1)), .int 0]))]) [0] (by decide) rfl
  have hK9 := hK.sub (tys' := []) [] rfl
  refine W.widen (k := 0) (n := 0) (by decide) (by decide) ?_
  exact W.iret (v := (-1)) hx hb hr (fun t ht hW => ⟨⟨(-1), (), rfl, rfl, ⟨by rw [ht]; exact hP9, va_K.moved hW.alike hK9, hD9⟩⟩, hS.F ht⟩) hS.2.2 dX11_fault_4
set_option maxHeartbeats 4000000 in
set_option maxRecDepth 100000 in
/-- leastSteps without picks -/
theorem c_leastSteps (l : Launch) (hl0 : l.stackTraces = false) (dC : Nat → ClassId) (dI : Nat → Nat → Nat) (A0 : Nat → Prop) (ad : Nat → Nat) (sz : Nat) (w0 y0 y1 y2 y3 y4 : Nat) (hA0 : ∀ q, va_A [(w0, .inr (9, [.ref y0, .int 0, .ref y1, .ref y2, .ref y3, .ref y4]))] sz q → A0 q) : Met l yX9_leastSteps wsX9_leastSteps ({ frames := 0, cells := 0, slots := 0, locals := 0 }) (va_Pc [.ref w0] (zPc A0 ad (dC, dI) [(w0, .inr (9, [.ref y0, .int 0, .ref y1, .ref y2, .ref y3, .ref y4]))] [] sz)) (va_Qi (fun (r : Int32) (_ : Unit) => r = 0) (fun (_ : Unit) (t : State) => zB (dC, dI) (va_A [(w0, .inr (9, [.ref y0, .int 0, .ref y1, .ref y2, .ref y3, .ref y4]))] sz) [(w0, .inr (9, [.ref y0, .int 0, .ref y1, .ref y2, .ref y3, .ref y4]))] [] t) (va_A [(w0, .inr (9, [.ref y0, .int 0, .ref y1, .ref y2, .ref y3, .ref y4]))] sz)) 0 0 (va_A [(w0, .inr (9, [.ref y0, .int 0, .ref y1, .ref y2, .ref y3, .ref y4]))] sz) := by
  refine Met.ofW (cc := cX9_leastSteps) (maxL := 3) (ret := (some .int)) (by decide) rfl ?_
  intro p e s m args below meth c s₁ B hml hv
  obtain ⟨rfl, hsz, hz, hP, hK, hD0⟩ := hv
  have hx := B.exec
  have hb := B.bytes
  have hr := B.returns
  have hts := atoms_spec (ws := wsX9_leastSteps) B.pre
  have hown : s.vm.findClass RX9 = some m.cls := findClass_of_methodNamed B.named
  have hlocks := B.notSynchronized
  subst hsz
  have hD := hD0.self (sz := s.heap.size)
  generalize hAe : va_A [(w0, .inr (9, [.ref y0, .int 0, .ref y1, .ref y2, .ref y3, .ref y4]))] s.heap.size = A at hD hA0 ⊢
  have hA : ∀ q : Nat, s.heap.size ≤ q → A q := fun q h => by rw [← hAe]; exact Or.inr h
  have hS : va_S A s.heap s.heap [] := va_S.rf
  have hl := lv_entry ([.ref w0]) (n := 3) (Nat.le_of_ble_eq_true rfl)
  rw [lg_entry_eq]
  generalize (lg_sl ([.ref w0]) ++ List.replicate (3 - (lg_sl ([.ref w0])).length) Slot.unset).toArray = ls at hl ⊢
  have hl : lv_has ls 3 [(0, .ref w0)] := hl
  have hP : va_P (dC, dI) vwCl [(w0, .inr (9, [.ref y0, .int 0, .ref y1, .ref y2, .ref y3, .ref y4]))] s.heap := hP
  have hiX9 : ∀ w ∈ u_ws RX9 TX9 6, w ∈ wsX9_leastSteps := fun _ h => List.mem_cons_of_mem _ (List.mem_append_left _ (List.mem_append_right _ h))
  have hw1 := hts (.fieldLink RX9 31 "PostHouse$Walk" "size" "I") (by decide +kernel)
  refine lv_aload_n hx hb dX9_leastSteps_0 rfl (lv_at hl 0 rfl) ?_
  refine va_get (D := (dC, dI)) (ci := 9) (v := .int 0) (C := RX9) (T := TX9) (N := 6) hx hb hts hiX9 hown hK hP 0 rfl rfl 1 (by decide) hw1 (fun _ h9 => h9) rfl dX9_leastSteps_1 ?_
  refine lv_if_ne (tgt := 9) hx hb dX9_leastSteps_4 (by decide) (fun c1 => absurd (by decide) c1) (fun c1 => ?_)
  refine lv_iconst (v := 0) hx hb dX9_leastSteps_7 (by decide) ?_
  have hP9 := hP.sub (ws' := [(w0, .inr (9, [.ref y0, .int 0, .ref y1, .ref y2, .ref y3, .ref y4]))]) [0] rfl
  have hD9 := hD.sub (ws' := [(w0, .inr (9, [.ref y0, .int 0, .ref y1, .ref y2, .ref y3, .ref y4]))]) [0] (by decide) rfl
  have hK9 := hK.sub (tys' := []) [] rfl
  refine W.widen (k := 0) (n := 0) (by decide) (by decide) ?_
  exact W.iret (v := 0) hx hb hr (fun t ht hW => ⟨⟨0, (), rfl, rfl, ⟨by rw [ht]; exact hP9, va_K.moved hW.alike hK9, hD9⟩⟩, hS.F ht⟩) hS.2.2 dX9_leastSteps_8
set_option maxHeartbeats 4000000 in
set_option maxRecDepth 100000 in
/-- walk without picks -/
theorem c_walk (l : Launch) (hl0 : l.stackTraces = false) (dC : Nat → ClassId) (dI : Nat → Nat → Nat) (A0 : Nat → Prop) (ad : Nat → Nat) (sz : Nat) (h0 t0 b0 c0 r0 d0 e0 o0 s0 p0 w0 : Nat) (y0 y1 y2 y3 y4 : Nat) (hA0 : ∀ q, va_A [(h0, .inr (11, [.ref t0, .ref b0, .ref c0, .ref r0, .ref d0, .ref e0, .ref o0, .ref s0, .ref p0, .ref w0, .int 0, .int 0, .int 0, .int 0, .int ((-1)), .int 0])), (w0, .inr (9, [.ref y0, .int 0, .ref y1, .ref y2, .ref y3, .ref y4]))] sz q → A0 q) : Met l yX11_walk wsX11_walk ({ frames := 1, cells := 0, slots := 0, locals := 22 }) (va_Pc [.ref h0] (zPc A0 ad (dC, dI) [(h0, .inr (11, [.ref t0, .ref b0, .ref c0, .ref r0, .ref d0, .ref e0, .ref o0, .ref s0, .ref p0, .ref w0, .int 0, .int 0, .int 0, .int 0, .int ((-1)), .int 0])), (w0, .inr (9, [.ref y0, .int 0, .ref y1, .ref y2, .ref y3, .ref y4]))] [] sz)) (va_Qi (fun (r : Int32) (_ : Unit) => r = 0) (fun (_ : Unit) (t : State) => zB (dC, dI) (va_A [(h0, .inr (11, [.ref t0, .ref b0, .ref c0, .ref r0, .ref d0, .ref e0, .ref o0, .ref s0, .ref p0, .ref w0, .int 0, .int 0, .int 0, .int 0, .int ((-1)), .int 0])), (w0, .inr (9, [.ref y0, .int 0, .ref y1, .ref y2, .ref y3, .ref y4]))] sz) [(h0, .inr (11, [.ref t0, .ref b0, .ref c0, .ref r0, .ref d0, .ref e0, .ref o0, .ref s0, .ref p0, .ref w0, .int 0, .int 0, .int 0, .int 0, .int ((-1)), .int 0])), (w0, .inr (9, [.ref y0, .int 0, .ref y1, .ref y2, .ref y3, .ref y4]))] [] t) (va_A [(h0, .inr (11, [.ref t0, .ref b0, .ref c0, .ref r0, .ref d0, .ref e0, .ref o0, .ref s0, .ref p0, .ref w0, .int 0, .int 0, .int 0, .int 0, .int ((-1)), .int 0])), (w0, .inr (9, [.ref y0, .int 0, .ref y1, .ref y2, .ref y3, .ref y4]))] sz)) 0 0 (va_A [(h0, .inr (11, [.ref t0, .ref b0, .ref c0, .ref r0, .ref d0, .ref e0, .ref o0, .ref s0, .ref p0, .ref w0, .int 0, .int 0, .int 0, .int 0, .int ((-1)), .int 0])), (w0, .inr (9, [.ref y0, .int 0, .ref y1, .ref y2, .ref y3, .ref y4]))] sz) := by
  refine Met.ofW (cc := cX11_walk) (maxL := 2) (ret := (some .int)) (by decide) rfl ?_
  intro p e s m args below meth c s₁ B hml hv
  obtain ⟨rfl, hsz, hz, hP, hK, hD0⟩ := hv
  have hx := B.exec
  have hb := B.bytes
  have hr := B.returns
  have hts := atoms_spec (ws := wsX11_walk) B.pre
  have hown : s.vm.findClass RX11 = some m.cls := findClass_of_methodNamed B.named
  have hlocks := B.notSynchronized
  subst hsz
  have hD := hD0.self (sz := s.heap.size)
  generalize hAe : va_A [(h0, .inr (11, [.ref t0, .ref b0, .ref c0, .ref r0, .ref d0, .ref e0, .ref o0, .ref s0, .ref p0, .ref w0, .int 0, .int 0, .int 0, .int 0, .int ((-1)), .int 0])), (w0, .inr (9, [.ref y0, .int 0, .ref y1, .ref y2, .ref y3, .ref y4]))] s.heap.size = A at hD hA0 ⊢
  have hA : ∀ q : Nat, s.heap.size ≤ q → A q := fun q h => by rw [← hAe]; exact Or.inr h
  have hS : va_S A s.heap s.heap [] := va_S.rf
  have hl := lv_entry ([.ref h0]) (n := 2) (Nat.le_of_ble_eq_true rfl)
  rw [lg_entry_eq]
  generalize (lg_sl ([.ref h0]) ++ List.replicate (2 - (lg_sl ([.ref h0])).length) Slot.unset).toArray = ls at hl ⊢
  have hl : lv_has ls 2 [(0, .ref h0)] := hl
  have hP : va_P (dC, dI) vwCl [(h0, .inr (11, [.ref t0, .ref b0, .ref c0, .ref r0, .ref d0, .ref e0, .ref o0, .ref s0, .ref p0, .ref w0, .int 0, .int 0, .int 0, .int 0, .int ((-1)), .int 0])), (w0, .inr (9, [.ref y0, .int 0, .ref y1, .ref y2, .ref y3, .ref y4]))] s.heap := hP
  have hiX11 : ∀ w ∈ u_ws RX11 TX11 16, w ∈ wsX11_walk := fun _ h => List.mem_cons_of_mem _ (List.mem_append_left _ (List.mem_append_left _ (List.mem_append_right _ h)))
  have hw1 := hts (.fieldLink RX11 68 "PostHouse" "walk" "LPostHouse$Walk;") (by decide +kernel)
  have hiX9 : ∀ w ∈ u_ws RX9 TX9 6, w ∈ wsX11_walk := fun _ h => List.mem_cons_of_mem _ (List.mem_append_left _ (List.mem_append_right _ h))
  have hw3 := hts (.fieldLink RX11 345 "PostHouse$Walk" "size" "I") (by decide +kernel)
  refine lv_aload_n hx hb dX11_walk_0 rfl (lv_at hl 0 rfl) ?_
  refine va_get (D := (dC, dI)) (ci := 11) (v := .ref w0) (C := RX11) (T := TX11) (N := 16) hx hb hts hiX11 hown hK hP 0 rfl rfl 9 (by decide) hw1 (fun _ h9 => h9) rfl dX11_walk_1 ?_
  have hPc := hP.sub (ws' := [(w0, .inr (9, [.ref y0, .int 0, .ref y1, .ref y2, .ref y3, .ref y4]))]) [1] rfl
  have hDc := hD.sub (ws' := [(w0, .inr (9, [.ref y0, .int 0, .ref y1, .ref y2, .ref y3, .ref y4]))]) [1] (by decide) rfl
  have hKc := hK.sub (tys' := []) [] rfl
  have hFc := va_free (wc := [(w0, .inr (9, [.ref y0, .int 0, .ref y1, .ref y2, .ref y3, .ref y4]))]) hD hS hA [1] rfl
  refine va_calli (va_runV (As := []) (rest := []) ⟨hx, hb, hml, hown, hts⟩ (c_leastSteps l hl0 dC dI A0 ad s.heap.size w0 y0 y1 y2 y3 y4 (fun q h => hA0 q (hFc q h))) (cwV 0 hts gX11_walk_X9_leastSteps rfl rfl rfl (by decide +kernel) ⟨Nat.le_of_ble_eq_true rfl, Nat.le_of_ble_eq_true rfl⟩) ⟨zPc_bl, va_recv hKc hPc (ci := 9) (q0 := 0) rfl rfl, zPc_at hz hS hA0 hPc hKc hDc⟩ rfl rfl hl.1 rfl (lv_room (Nat.le_of_ble_eq_true rfl)) dX11_walk_4 ⟨Nat.le_of_ble_eq_true rfl, Nat.le_of_ble_eq_true rfl⟩) hS (fun q _ h => hFc q h) hFc (fun r1 u t H1 locs ht hvm hw hB hz1 hk1 hS => ?_)
  obtain ⟨hP1, hK1, hD1⟩ := hB
  rw [ht] at hP1
  have hK1 := va_K.moved hvm.symm hK1
  obtain ⟨hP, hD⟩ := va_join (wr := [(h0, .inr (11, [.ref t0, .ref b0, .ref c0, .ref r0, .ref d0, .ref e0, .ref o0, .ref s0, .ref p0, .ref w0, .int 0, .int 0, .int 0, .int 0, .int ((-1)), .int 0]))]) (w1 := [(w0, .inr (9, [.ref y0, .int 0, .ref y1, .ref y2, .ref y3, .ref y4]))]) hP hD [1] [0] rfl rfl (by decide) (by decide) hk1 hFc hP1 hD1
  have hK := (hK.sub (tys' := []) [] rfl).app hK1
  generalize H1 = H at hP hS ⊢
  have hP : va_P (dC, dI) vwCl [(h0, .inr (11, [.ref t0, .ref b0, .ref c0, .ref r0, .ref d0, .ref e0, .ref o0, .ref s0, .ref p0, .ref w0, .int 0, .int 0, .int 0, .int 0, .int ((-1)), .int 0])), (w0, .inr (9, [.ref y0, .int 0, .ref y1, .ref y2, .ref y3, .ref y4]))] H := hP
  have hD : va_D A [(h0, .inr (11, [.ref t0, .ref b0, .ref c0, .ref r0, .ref d0, .ref e0, .ref o0, .ref s0, .ref p0, .ref w0, .int 0, .int 0, .int 0, .int 0, .int ((-1)), .int 0])), (w0, .inr (9, [.ref y0, .int 0, .ref y1, .ref y2, .ref y3, .ref y4]))] := hD
  have hK : va_K (dC, dI) vwCl [] s := hK
  obtain rfl : r1 = 0 := hw
  refine lv_istore_n (lv' := [(1, .int 0), (0, .ref h0)]) hx hb dX11_walk_7 rfl hl (by decide) rfl (fun ls hl => ?_)
  refine lv_aload_n hx hb dX11_walk_8 rfl (lv_at hl 1 rfl) ?_
  refine va_get (D := (dC, dI)) (ci := 11) (v := .ref w0) (C := RX11) (T := TX11) (N := 16) hx hb hts hiX11 hown hK hP 0 rfl rfl 9 (by decide) hw1 (fun _ h9 => h9) rfl dX11_walk_9 ?_
  refine lv_iconst (v := 0) hx hb dX11_walk_12 (by decide) ?_
  refine va_put (D := (dC, dI)) (ci := 9) (v := .int 0) (ty := .int) (C := RX9) (T := TX9) (N := 6) hx hb hts hiX9 tyX9 tyX9_ok nmX9 hown hK hP hD hS 1 rfl rfl 1 (by decide) hw3 (fun _ h9 => h9) rfl (by decide +kernel) rfl rfl (Nat.le_of_ble_eq_true rfl) dX11_walk_13 (fun H locs hP hD hS => ?_)
  have hP : va_P (dC, dI) vwCl [(h0, .inr (11, [.ref t0, .ref b0, .ref c0, .ref r0, .ref d0, .ref e0, .ref o0, .ref s0, .ref p0, .ref w0, .int 0, .int 0, .int 0, .int 0, .int ((-1)), .int 0])), (w0, .inr (9, [.ref y0, .int 0, .ref y1, .ref y2, .ref y3, .ref y4]))] H := hP
  have hD : va_D A [(h0, .inr (11, [.ref t0, .ref b0, .ref c0, .ref r0, .ref d0, .ref e0, .ref o0, .ref s0, .ref p0, .ref w0, .int 0, .int 0, .int 0, .int 0, .int ((-1)), .int 0])), (w0, .inr (9, [.ref y0, .int 0, .ref y1, .ref y2, .ref y3, .ref y4]))] := hD
  refine lv_iload_n hx hb dX11_walk_16 rfl (lv_at hl 0 rfl) ?_
  have hP9 := hP.sub (ws' := [(h0, .inr (11, [.ref t0, .ref b0, .ref c0, .ref r0, .ref d0, .ref e0, .ref o0, .ref s0, .ref p0, .ref w0, .int 0, .int 0, .int 0, .int 0, .int ((-1)), .int 0])), (w0, .inr (9, [.ref y0, .int 0, .ref y1, .ref y2, .ref y3, .ref y4]))]) [0, 1] rfl
  have hD9 := hD.sub (ws' := [(h0, .inr (11, [.ref t0, .ref b0, .ref c0, .ref r0, .ref d0, .ref e0, .ref o0, .ref s0, .ref p0, .ref w0, .int 0, .int 0, .int 0, .int 0, .int ((-1)), .int 0])), (w0, .inr (9, [.ref y0, .int 0, .ref y1, .ref y2, .ref y3, .ref y4]))]) [0, 1] (by decide) rfl
  have hK9 := hK.sub (tys' := []) [] rfl
  refine W.widen (k := 0) (n := 0) (by decide) (by decide) ?_
  exact W.iret (v := 0) hx hb hr (fun t ht hW => ⟨⟨0, (), rfl, rfl, ⟨by rw [ht]; exact hP9, va_K.moved hW.alike hK9, hD9⟩⟩, hS.F ht⟩) hS.2.2 dX11_walk_17
set_option maxHeartbeats 4000000 in
set_option maxRecDepth 100000 in
/-- waitingDoubts on a fresh object -/
theorem c_waitingDoubts (l : Launch) (hl0 : l.stackTraces = false) (dC : Nat → ClassId) (dI : Nat → Nat → Nat) (A0 : Nat → Prop) (ad : Nat → Nat) (sz : Nat) (h0 t0 b0 c0 r0 d0 e0 o0 s0 p0 w0 : Nat) (hA0 : ∀ q, va_A [(h0, .inr (11, [.ref t0, .ref b0, .ref c0, .ref r0, .ref d0, .ref e0, .ref o0, .ref s0, .ref p0, .ref w0, .int 0, .int 0, .int 0, .int 0, .int ((-1)), .int 0]))] sz q → A0 q) : Met l yX11_waitingDoubts wsX11_waitingDoubts ({ frames := 0, cells := 0, slots := 0, locals := 0 }) (va_Pc [.ref h0] (zPc A0 ad (dC, dI) [(h0, .inr (11, [.ref t0, .ref b0, .ref c0, .ref r0, .ref d0, .ref e0, .ref o0, .ref s0, .ref p0, .ref w0, .int 0, .int 0, .int 0, .int 0, .int ((-1)), .int 0]))] [] sz)) (va_Qi (fun (r : Int32) (_ : Unit) => r = 0) (fun (_ : Unit) (t : State) => zB (dC, dI) (va_A [(h0, .inr (11, [.ref t0, .ref b0, .ref c0, .ref r0, .ref d0, .ref e0, .ref o0, .ref s0, .ref p0, .ref w0, .int 0, .int 0, .int 0, .int 0, .int ((-1)), .int 0]))] sz) [(h0, .inr (11, [.ref t0, .ref b0, .ref c0, .ref r0, .ref d0, .ref e0, .ref o0, .ref s0, .ref p0, .ref w0, .int 0, .int 0, .int 0, .int 0, .int ((-1)), .int 0]))] [] t) (va_A [(h0, .inr (11, [.ref t0, .ref b0, .ref c0, .ref r0, .ref d0, .ref e0, .ref o0, .ref s0, .ref p0, .ref w0, .int 0, .int 0, .int 0, .int 0, .int ((-1)), .int 0]))] sz)) 0 0 (va_A [(h0, .inr (11, [.ref t0, .ref b0, .ref c0, .ref r0, .ref d0, .ref e0, .ref o0, .ref s0, .ref p0, .ref w0, .int 0, .int 0, .int 0, .int 0, .int ((-1)), .int 0]))] sz) := by
  refine Met.ofW (cc := cX11_waitingDoubts) (maxL := 3) (ret := (some .int)) (by decide) rfl ?_
  intro p e s m args below meth c s₁ B hml hv
  obtain ⟨rfl, hsz, hz, hP, hK, hD0⟩ := hv
  have hx := B.exec
  have hb := B.bytes
  have hr := B.returns
  have hts := atoms_spec (ws := wsX11_waitingDoubts) B.pre
  have hown : s.vm.findClass RX11 = some m.cls := findClass_of_methodNamed B.named
  have hlocks := B.notSynchronized
  subst hsz
  have hD := hD0.self (sz := s.heap.size)
  generalize hAe : va_A [(h0, .inr (11, [.ref t0, .ref b0, .ref c0, .ref r0, .ref d0, .ref e0, .ref o0, .ref s0, .ref p0, .ref w0, .int 0, .int 0, .int 0, .int 0, .int ((-1)), .int 0]))] s.heap.size = A at hD hA0 ⊢
  have hA : ∀ q : Nat, s.heap.size ≤ q → A q := fun q h => by rw [← hAe]; exact Or.inr h
  have hS : va_S A s.heap s.heap [] := va_S.rf
  have hl := lv_entry ([.ref h0]) (n := 3) (Nat.le_of_ble_eq_true rfl)
  rw [lg_entry_eq]
  generalize (lg_sl ([.ref h0]) ++ List.replicate (3 - (lg_sl ([.ref h0])).length) Slot.unset).toArray = ls at hl ⊢
  have hl : lv_has ls 3 [(0, .ref h0)] := hl
  have hP : va_P (dC, dI) vwCl [(h0, .inr (11, [.ref t0, .ref b0, .ref c0, .ref r0, .ref d0, .ref e0, .ref o0, .ref s0, .ref p0, .ref w0, .int 0, .int 0, .int 0, .int 0, .int ((-1)), .int 0]))] s.heap := hP
  have hiX11 : ∀ w ∈ u_ws RX11 TX11 16, w ∈ wsX11_waitingDoubts := fun _ h => List.mem_cons_of_mem _ (List.mem_append_left _ (List.mem_append_right _ h))
  have hw1 := hts (.fieldLink RX11 215 "PostHouse" "doubtCount" "I") (by decide +kernel)
  refine lv_iconst (v := 0) hx hb dX11_waitingDoubts_0 (by decide) ?_
  refine lv_istore_n (lv' := [(1, .int 0), (0, .ref h0)]) hx hb dX11_waitingDoubts_1 rfl hl (by decide) rfl (fun ls hl => ?_)
  refine lv_iconst (v := 0) hx hb dX11_waitingDoubts_2 (by decide) ?_
  refine lv_istore_n (lv' := [(2, .int 0), (1, .int 0), (0, .ref h0)]) hx hb dX11_waitingDoubts_3 rfl hl (by decide) rfl (fun ls hl => ?_)
  refine lv_iload_n hx hb dX11_waitingDoubts_4 rfl (lv_at hl 0 rfl) ?_
  refine lv_aload_n hx hb dX11_waitingDoubts_5 rfl (lv_at hl 2 rfl) ?_
  refine va_get (D := (dC, dI)) (ci := 11) (v := .int 0) (C := RX11) (T := TX11) (N := 16) hx hb hts hiX11 hown hK hP 0 rfl rfl 10 (by decide) hw1 (fun _ h9 => h9) rfl dX11_waitingDoubts_6 ?_
  refine lv_icmp_ge (tgt := 33) hx hb dX11_waitingDoubts_9 (by decide) (fun c1 => ?_) (fun c1 => absurd (by decide) c1)
  refine lv_iload_n hx hb dX11_waitingDoubts_33 rfl (lv_at hl 1 rfl) ?_
  have hP9 := hP.sub (ws' := [(h0, .inr (11, [.ref t0, .ref b0, .ref c0, .ref r0, .ref d0, .ref e0, .ref o0, .ref s0, .ref p0, .ref w0, .int 0, .int 0, .int 0, .int 0, .int ((-1)), .int 0]))]) [0] rfl
  have hD9 := hD.sub (ws' := [(h0, .inr (11, [.ref t0, .ref b0, .ref c0, .ref r0, .ref d0, .ref e0, .ref o0, .ref s0, .ref p0, .ref w0, .int 0, .int 0, .int 0, .int 0, .int ((-1)), .int 0]))]) [0] (by decide) rfl
  have hK9 := hK.sub (tys' := []) [] rfl
  refine W.widen (k := 0) (n := 0) (by decide) (by decide) ?_
  exact W.iret (v := 0) hx hb hr (fun t ht hW => ⟨⟨0, (), rfl, rfl, ⟨by rw [ht]; exact hP9, va_K.moved hW.alike hK9, hD9⟩⟩, hS.F ht⟩) hS.2.2 dX11_waitingDoubts_34
set_option maxHeartbeats 4000000 in
set_option maxRecDepth 100000 in
/-- moneyOfOrders on a fresh object -/
theorem c_moneyOfOrders (l : Launch) (hl0 : l.stackTraces = false) (dC : Nat → ClassId) (dI : Nat → Nat → Nat) (A0 : Nat → Prop) (ad : Nat → Nat) (sz : Nat) (h0 t0 b0 c0 r0 d0 e0 o0 s0 p0 w0 : Nat) (hA0 : ∀ q, va_A [(h0, .inr (11, [.ref t0, .ref b0, .ref c0, .ref r0, .ref d0, .ref e0, .ref o0, .ref s0, .ref p0, .ref w0, .int 0, .int 0, .int 0, .int 0, .int ((-1)), .int 0]))] sz q → A0 q) : Met l yX11_moneyOfOrders wsX11_moneyOfOrders ({ frames := 0, cells := 0, slots := 0, locals := 0 }) (va_Pc [.ref h0] (zPc A0 ad (dC, dI) [(h0, .inr (11, [.ref t0, .ref b0, .ref c0, .ref r0, .ref d0, .ref e0, .ref o0, .ref s0, .ref p0, .ref w0, .int 0, .int 0, .int 0, .int 0, .int ((-1)), .int 0]))] [] sz)) (va_Qi (fun (r : Int32) (_ : Unit) => r = 0) (fun (_ : Unit) (t : State) => zB (dC, dI) (va_A [(h0, .inr (11, [.ref t0, .ref b0, .ref c0, .ref r0, .ref d0, .ref e0, .ref o0, .ref s0, .ref p0, .ref w0, .int 0, .int 0, .int 0, .int 0, .int ((-1)), .int 0]))] sz) [(h0, .inr (11, [.ref t0, .ref b0, .ref c0, .ref r0, .ref d0, .ref e0, .ref o0, .ref s0, .ref p0, .ref w0, .int 0, .int 0, .int 0, .int 0, .int ((-1)), .int 0]))] [] t) (va_A [(h0, .inr (11, [.ref t0, .ref b0, .ref c0, .ref r0, .ref d0, .ref e0, .ref o0, .ref s0, .ref p0, .ref w0, .int 0, .int 0, .int 0, .int 0, .int ((-1)), .int 0]))] sz)) 0 0 (va_A [(h0, .inr (11, [.ref t0, .ref b0, .ref c0, .ref r0, .ref d0, .ref e0, .ref o0, .ref s0, .ref p0, .ref w0, .int 0, .int 0, .int 0, .int 0, .int ((-1)), .int 0]))] sz) := by
  refine Met.ofW (cc := cX11_moneyOfOrders) (maxL := 3) (ret := (some .int)) (by decide) rfl ?_
  intro p e s m args below meth c s₁ B hml hv
  obtain ⟨rfl, hsz, hz, hP, hK, hD0⟩ := hv
  have hx := B.exec
  have hb := B.bytes
  have hr := B.returns
  have hts := atoms_spec (ws := wsX11_moneyOfOrders) B.pre
  have hown : s.vm.findClass RX11 = some m.cls := findClass_of_methodNamed B.named
  have hlocks := B.notSynchronized
  subst hsz
  have hD := hD0.self (sz := s.heap.size)
  generalize hAe : va_A [(h0, .inr (11, [.ref t0, .ref b0, .ref c0, .ref r0, .ref d0, .ref e0, .ref o0, .ref s0, .ref p0, .ref w0, .int 0, .int 0, .int 0, .int 0, .int ((-1)), .int 0]))] s.heap.size = A at hD hA0 ⊢
  have hA : ∀ q : Nat, s.heap.size ≤ q → A q := fun q h => by rw [← hAe]; exact Or.inr h
  have hS : va_S A s.heap s.heap [] := va_S.rf
  have hl := lv_entry ([.ref h0]) (n := 3) (Nat.le_of_ble_eq_true rfl)
  rw [lg_entry_eq]
  generalize (lg_sl ([.ref h0]) ++ List.replicate (3 - (lg_sl ([.ref h0])).length) Slot.unset).toArray = ls at hl ⊢
  have hl : lv_has ls 3 [(0, .ref h0)] := hl
  have hP : va_P (dC, dI) vwCl [(h0, .inr (11, [.ref t0, .ref b0, .ref c0, .ref r0, .ref d0, .ref e0, .ref o0, .ref s0, .ref p0, .ref w0, .int 0, .int 0, .int 0, .int 0, .int ((-1)), .int 0]))] s.heap := hP
  have hiX11 : ∀ w ∈ u_ws RX11 TX11 16, w ∈ wsX11_moneyOfOrders := fun _ h => List.mem_cons_of_mem _ (List.mem_append_left _ (List.mem_append_right _ h))
  have hw1 := hts (.fieldLink RX11 366 "PostHouse" "orderCount" "I") (by decide +kernel)
  refine lv_iconst (v := 0) hx hb dX11_moneyOfOrders_0 (by decide) ?_
  refine lv_istore_n (lv' := [(1, .int 0), (0, .ref h0)]) hx hb dX11_moneyOfOrders_1 rfl hl (by decide) rfl (fun ls hl => ?_)
  refine lv_iconst (v := 0) hx hb dX11_moneyOfOrders_2 (by decide) ?_
  refine lv_istore_n (lv' := [(2, .int 0), (1, .int 0), (0, .ref h0)]) hx hb dX11_moneyOfOrders_3 rfl hl (by decide) rfl (fun ls hl => ?_)
  refine lv_iload_n hx hb dX11_moneyOfOrders_4 rfl (lv_at hl 0 rfl) ?_
  refine lv_aload_n hx hb dX11_moneyOfOrders_5 rfl (lv_at hl 2 rfl) ?_
  refine va_get (D := (dC, dI)) (ci := 11) (v := .int 0) (C := RX11) (T := TX11) (N := 16) hx hb hts hiX11 hown hK hP 0 rfl rfl 11 (by decide) hw1 (fun _ h9 => h9) rfl dX11_moneyOfOrders_6 ?_
  refine lv_icmp_ge (tgt := 30) hx hb dX11_moneyOfOrders_9 (by decide) (fun c1 => ?_) (fun c1 => absurd (by decide) c1)
  refine lv_iload_n hx hb dX11_moneyOfOrders_30 rfl (lv_at hl 1 rfl) ?_
  have hP9 := hP.sub (ws' := [(h0, .inr (11, [.ref t0, .ref b0, .ref c0, .ref r0, .ref d0, .ref e0, .ref o0, .ref s0, .ref p0, .ref w0, .int 0, .int 0, .int 0, .int 0, .int ((-1)), .int 0]))]) [0] rfl
  have hD9 := hD.sub (ws' := [(h0, .inr (11, [.ref t0, .ref b0, .ref c0, .ref r0, .ref d0, .ref e0, .ref o0, .ref s0, .ref p0, .ref w0, .int 0, .int 0, .int 0, .int 0, .int ((-1)), .int 0]))]) [0] (by decide) rfl
  have hK9 := hK.sub (tys' := []) [] rfl
  refine W.widen (k := 0) (n := 0) (by decide) (by decide) ?_
  exact W.iret (v := 0) hx hb hr (fun t ht hW => ⟨⟨0, (), rfl, rfl, ⟨by rw [ht]; exact hP9, va_K.moved hW.alike hK9, hD9⟩⟩, hS.F ht⟩) hS.2.2 dX11_moneyOfOrders_31
set_option maxHeartbeats 4000000 in
set_option maxRecDepth 100000 in
/-- creditOfOrders on a fresh object -/
theorem c_creditOfOrders (l : Launch) (hl0 : l.stackTraces = false) (dC : Nat → ClassId) (dI : Nat → Nat → Nat) (A0 : Nat → Prop) (ad : Nat → Nat) (sz : Nat) (h0 t0 b0 c0 r0 d0 e0 o0 s0 p0 w0 : Nat) (hA0 : ∀ q, va_A [(h0, .inr (11, [.ref t0, .ref b0, .ref c0, .ref r0, .ref d0, .ref e0, .ref o0, .ref s0, .ref p0, .ref w0, .int 0, .int 0, .int 0, .int 0, .int ((-1)), .int 0]))] sz q → A0 q) : Met l yX11_creditOfOrders wsX11_creditOfOrders ({ frames := 0, cells := 0, slots := 0, locals := 0 }) (va_Pc [.ref h0] (zPc A0 ad (dC, dI) [(h0, .inr (11, [.ref t0, .ref b0, .ref c0, .ref r0, .ref d0, .ref e0, .ref o0, .ref s0, .ref p0, .ref w0, .int 0, .int 0, .int 0, .int 0, .int ((-1)), .int 0]))] [] sz)) (va_Qi (fun (r : Int32) (_ : Unit) => r = 0) (fun (_ : Unit) (t : State) => zB (dC, dI) (va_A [(h0, .inr (11, [.ref t0, .ref b0, .ref c0, .ref r0, .ref d0, .ref e0, .ref o0, .ref s0, .ref p0, .ref w0, .int 0, .int 0, .int 0, .int 0, .int ((-1)), .int 0]))] sz) [(h0, .inr (11, [.ref t0, .ref b0, .ref c0, .ref r0, .ref d0, .ref e0, .ref o0, .ref s0, .ref p0, .ref w0, .int 0, .int 0, .int 0, .int 0, .int ((-1)), .int 0]))] [] t) (va_A [(h0, .inr (11, [.ref t0, .ref b0, .ref c0, .ref r0, .ref d0, .ref e0, .ref o0, .ref s0, .ref p0, .ref w0, .int 0, .int 0, .int 0, .int 0, .int ((-1)), .int 0]))] sz)) 0 0 (va_A [(h0, .inr (11, [.ref t0, .ref b0, .ref c0, .ref r0, .ref d0, .ref e0, .ref o0, .ref s0, .ref p0, .ref w0, .int 0, .int 0, .int 0, .int 0, .int ((-1)), .int 0]))] sz) := by
  refine Met.ofW (cc := cX11_creditOfOrders) (maxL := 3) (ret := (some .int)) (by decide) rfl ?_
  intro p e s m args below meth c s₁ B hml hv
  obtain ⟨rfl, hsz, hz, hP, hK, hD0⟩ := hv
  have hx := B.exec
  have hb := B.bytes
  have hr := B.returns
  have hts := atoms_spec (ws := wsX11_creditOfOrders) B.pre
  have hown : s.vm.findClass RX11 = some m.cls := findClass_of_methodNamed B.named
  have hlocks := B.notSynchronized
  subst hsz
  have hD := hD0.self (sz := s.heap.size)
  generalize hAe : va_A [(h0, .inr (11, [.ref t0, .ref b0, .ref c0, .ref r0, .ref d0, .ref e0, .ref o0, .ref s0, .ref p0, .ref w0, .int 0, .int 0, .int 0, .int 0, .int ((-1)), .int 0]))] s.heap.size = A at hD hA0 ⊢
  have hA : ∀ q : Nat, s.heap.size ≤ q → A q := fun q h => by rw [← hAe]; exact Or.inr h
  have hS : va_S A s.heap s.heap [] := va_S.rf
  have hl := lv_entry ([.ref h0]) (n := 3) (Nat.le_of_ble_eq_true rfl)
  rw [lg_entry_eq]
  generalize (lg_sl ([.ref h0]) ++ List.replicate (3 - (lg_sl ([.ref h0])).length) Slot.unset).toArray = ls at hl ⊢
  have hl : lv_has ls 3 [(0, .ref h0)] := hl
  have hP : va_P (dC, dI) vwCl [(h0, .inr (11, [.ref t0, .ref b0, .ref c0, .ref r0, .ref d0, .ref e0, .ref o0, .ref s0, .ref p0, .ref w0, .int 0, .int 0, .int 0, .int 0, .int ((-1)), .int 0]))] s.heap := hP
  have hiX11 : ∀ w ∈ u_ws RX11 TX11 16, w ∈ wsX11_creditOfOrders := fun _ h => List.mem_cons_of_mem _ (List.mem_append_left _ (List.mem_append_right _ h))
  have hw1 := hts (.fieldLink RX11 366 "PostHouse" "orderCount" "I") (by decide +kernel)
  refine lv_iconst (v := 0) hx hb dX11_creditOfOrders_0 (by decide) ?_
  refine lv_istore_n (lv' := [(1, .int 0), (0, .ref h0)]) hx hb dX11_creditOfOrders_1 rfl hl (by decide) rfl (fun ls hl => ?_)
  refine lv_iconst (v := 0) hx hb dX11_creditOfOrders_2 (by decide) ?_
  refine lv_istore_n (lv' := [(2, .int 0), (1, .int 0), (0, .ref h0)]) hx hb dX11_creditOfOrders_3 rfl hl (by decide) rfl (fun ls hl => ?_)
  refine lv_iload_n hx hb dX11_creditOfOrders_4 rfl (lv_at hl 0 rfl) ?_
  refine lv_aload_n hx hb dX11_creditOfOrders_5 rfl (lv_at hl 2 rfl) ?_
  refine va_get (D := (dC, dI)) (ci := 11) (v := .int 0) (C := RX11) (T := TX11) (N := 16) hx hb hts hiX11 hown hK hP 0 rfl rfl 11 (by decide) hw1 (fun _ h9 => h9) rfl dX11_creditOfOrders_6 ?_
  refine lv_icmp_ge (tgt := 30) hx hb dX11_creditOfOrders_9 (by decide) (fun c1 => ?_) (fun c1 => absurd (by decide) c1)
  refine lv_iload_n hx hb dX11_creditOfOrders_30 rfl (lv_at hl 1 rfl) ?_
  have hP9 := hP.sub (ws' := [(h0, .inr (11, [.ref t0, .ref b0, .ref c0, .ref r0, .ref d0, .ref e0, .ref o0, .ref s0, .ref p0, .ref w0, .int 0, .int 0, .int 0, .int 0, .int ((-1)), .int 0]))]) [0] rfl
  have hD9 := hD.sub (ws' := [(h0, .inr (11, [.ref t0, .ref b0, .ref c0, .ref r0, .ref d0, .ref e0, .ref o0, .ref s0, .ref p0, .ref w0, .int 0, .int 0, .int 0, .int 0, .int ((-1)), .int 0]))]) [0] (by decide) rfl
  have hK9 := hK.sub (tys' := []) [] rfl
  refine W.widen (k := 0) (n := 0) (by decide) (by decide) ?_
  exact W.iret (v := 0) hx hb hr (fun t ht hW => ⟨⟨0, (), rfl, rfl, ⟨by rw [ht]; exact hP9, va_K.moved hW.alike hK9, hD9⟩⟩, hS.F ht⟩) hS.2.2 dX11_creditOfOrders_31
set_option maxHeartbeats 4000000 in
set_option maxRecDepth 100000 in
/-- allPieces where nothing comes -/
theorem c_allPieces (l : Launch) (hl0 : l.stackTraces = false) (dC : Nat → ClassId) (dI : Nat → Nat → Nat) (A0 : Nat → Prop) (ad : Nat → Nat) (sz : Nat) (c0 x1 x2 x3 : Nat) (hA0 : ∀ q, va_A [(c0, .inr (1, [.ref x1, .ref x2, .ref x3, .int 0]))] sz q → A0 q) : Met l yX1_allPieces wsX1_allPieces ({ frames := 0, cells := 0, slots := 0, locals := 0 }) (va_Pc [.ref c0] (zPc A0 ad (dC, dI) [(c0, .inr (1, [.ref x1, .ref x2, .ref x3, .int 0]))] [] sz)) (va_Qi (fun (r : Int32) (_ : Unit) => r = 0) (fun (_ : Unit) (t : State) => zB (dC, dI) (va_A [(c0, .inr (1, [.ref x1, .ref x2, .ref x3, .int 0]))] sz) [(c0, .inr (1, [.ref x1, .ref x2, .ref x3, .int 0]))] [] t) (va_A [(c0, .inr (1, [.ref x1, .ref x2, .ref x3, .int 0]))] sz)) 0 0 (va_A [(c0, .inr (1, [.ref x1, .ref x2, .ref x3, .int 0]))] sz) := by
  refine Met.ofW (cc := cX1_allPieces) (maxL := 3) (ret := (some .int)) (by decide) rfl ?_
  intro p e s m args below meth c s₁ B hml hv
  obtain ⟨rfl, hsz, hz, hP, hK, hD0⟩ := hv
  have hx := B.exec
  have hb := B.bytes
  have hr := B.returns
  have hts := atoms_spec (ws := wsX1_allPieces) B.pre
  have hown : s.vm.findClass RX1 = some m.cls := findClass_of_methodNamed B.named
  have hlocks := B.notSynchronized
  subst hsz
  have hD := hD0.self (sz := s.heap.size)
  generalize hAe : va_A [(c0, .inr (1, [.ref x1, .ref x2, .ref x3, .int 0]))] s.heap.size = A at hD hA0 ⊢
  have hA : ∀ q : Nat, s.heap.size ≤ q → A q := fun q h => by rw [← hAe]; exact Or.inr h
  have hS : va_S A s.heap s.heap [] := va_S.rf
  have hl := lv_entry ([.ref c0]) (n := 3) (Nat.le_of_ble_eq_true rfl)
  rw [lg_entry_eq]
  generalize (lg_sl ([.ref c0]) ++ List.replicate (3 - (lg_sl ([.ref c0])).length) Slot.unset).toArray = ls at hl ⊢
  have hl : lv_has ls 3 [(0, .ref c0)] := hl
  have hP : va_P (dC, dI) vwCl [(c0, .inr (1, [.ref x1, .ref x2, .ref x3, .int 0]))] s.heap := hP
  have hiX1 : ∀ w ∈ u_ws RX1 TX1 4, w ∈ wsX1_allPieces := fun _ h => List.mem_cons_of_mem _ (List.mem_append_right _ h)
  have hw1 := hts (.fieldLink RX1 24 "PostHouse$Comings" "size" "I") (by decide +kernel)
  refine lv_iconst (v := 0) hx hb dX1_allPieces_0 (by decide) ?_
  refine lv_istore_n (lv' := [(1, .int 0), (0, .ref c0)]) hx hb dX1_allPieces_1 rfl hl (by decide) rfl (fun ls hl => ?_)
  refine lv_iconst (v := 0) hx hb dX1_allPieces_2 (by decide) ?_
  refine lv_istore_n (lv' := [(2, .int 0), (1, .int 0), (0, .ref c0)]) hx hb dX1_allPieces_3 rfl hl (by decide) rfl (fun ls hl => ?_)
  refine lv_iload_n hx hb dX1_allPieces_4 rfl (lv_at hl 0 rfl) ?_
  refine lv_aload_n hx hb dX1_allPieces_5 rfl (lv_at hl 2 rfl) ?_
  refine va_get (D := (dC, dI)) (ci := 1) (v := .int 0) (C := RX1) (T := TX1) (N := 4) hx hb hts hiX1 hown hK hP 0 rfl rfl 3 (by decide) hw1 (fun _ h9 => h9) rfl dX1_allPieces_6 ?_
  refine lv_icmp_ge (tgt := 27) hx hb dX1_allPieces_9 (by decide) (fun c1 => ?_) (fun c1 => absurd (by decide) c1)
  refine lv_iload_n hx hb dX1_allPieces_27 rfl (lv_at hl 1 rfl) ?_
  have hP9 := hP.sub (ws' := [(c0, .inr (1, [.ref x1, .ref x2, .ref x3, .int 0]))]) [0] rfl
  have hD9 := hD.sub (ws' := [(c0, .inr (1, [.ref x1, .ref x2, .ref x3, .int 0]))]) [0] (by decide) rfl
  have hK9 := hK.sub (tys' := []) [] rfl
  refine W.widen (k := 0) (n := 0) (by decide) (by decide) ?_
  exact W.iret (v := 0) hx hb hr (fun t ht hW => ⟨⟨0, (), rfl, rfl, ⟨by rw [ht]; exact hP9, va_K.moved hW.alike hK9, hD9⟩⟩, hS.F ht⟩) hS.2.2 dX1_allPieces_28
def zCnt (k : Int32) : Int32 := if k.toInt < 0 ∨ 9 < k.toInt then -1 else 0
theorem zCase9 (x : Int32) : x = 0 ∨ x = 1 ∨ x = 2 ∨ x = 3 ∨ x = 4 ∨ x = 5 ∨ x = 6 ∨ x = 7 ∨ x = 8 ∨ x = 9 ∨ (x.toInt < 0 ∨ 9 < x.toInt) := by
  by_cases h : x.toInt < 0 ∨ 9 < x.toInt
  · simp [h]
  · have a : x.toInt = 0 ∨ x.toInt = 1 ∨ x.toInt = 2 ∨ x.toInt = 3 ∨ x.toInt = 4 ∨ x.toInt = 5 ∨ x.toInt = 6 ∨ x.toInt = 7 ∨ x.toInt = 8 ∨ x.toInt = 9 := by omega
    have e : ∀ k : Int32, x.toInt = k.toInt → x = k := fun k q => Int32.toInt_inj.mp q
    rcases a with a | a | a | a | a | a | a | a | a | a
    · exact Or.inl (e 0 a)
    · exact Or.inr (Or.inl (e 1 a))
    · exact Or.inr (Or.inr (Or.inl (e 2 a)))
    · exact Or.inr (Or.inr (Or.inr (Or.inl (e 3 a))))
    · exact Or.inr (Or.inr (Or.inr (Or.inr (Or.inl (e 4 a)))))
    · exact Or.inr (Or.inr (Or.inr (Or.inr (Or.inr (Or.inl (e 5 a))))))
    · exact Or.inr (Or.inr (Or.inr (Or.inr (Or.inr (Or.inr (Or.inl (e 6 a)))))))
    · exact Or.inr (Or.inr (Or.inr (Or.inr (Or.inr (Or.inr (Or.inr (Or.inl (e 7 a))))))))
    · exact Or.inr (Or.inr (Or.inr (Or.inr (Or.inr (Or.inr (Or.inr (Or.inr (Or.inl (e 8 a)))))))))
    · exact Or.inr (Or.inr (Or.inr (Or.inr (Or.inr (Or.inr (Or.inr (Or.inr (Or.inr (Or.inl (e 9 a))))))))))
set_option maxHeartbeats 4000000 in
set_option maxRecDepth 100000 in
/-- count on a fresh object -/
theorem c_count (l : Launch) (hl0 : l.stackTraces = false) (dC : Nat → ClassId) (dI : Nat → Nat → Nat) (A0 : Nat → Prop) (ad : Nat → Nat) (sz : Nat) (h0 t0 b0 c0 r0 d0 e0 o0 s0 p0 w0 : Nat) (bt x1 x2 x3 y0 y1 y2 y3 y4 : Nat) (x : Int32) (hA0 : ∀ q, va_A [(h0, .inr (11, [.ref t0, .ref b0, .ref c0, .ref r0, .ref d0, .ref e0, .ref o0, .ref s0, .ref p0, .ref w0, .int 0, .int 0, .int 0, .int 0, .int ((-1)), .int 0])), (b0, .inr (0, [.ref bt, .int 0])), (c0, .inr (1, [.ref x1, .ref x2, .ref x3, .int 0])), (w0, .inr (9, [.ref y0, .int 0, .ref y1, .ref y2, .ref y3, .ref y4]))] sz q → A0 q) : Met l yX11_count wsX11_count ({ frames := 1, cells := 0, slots := 0, locals := 22 }) (va_Pc [.ref h0, .int x] (zPc A0 ad (dC, dI) [(h0, .inr (11, [.ref t0, .ref b0, .ref c0, .ref r0, .ref d0, .ref e0, .ref o0, .ref s0, .ref p0, .ref w0, .int 0, .int 0, .int 0, .int 0, .int ((-1)), .int 0])), (b0, .inr (0, [.ref bt, .int 0])), (c0, .inr (1, [.ref x1, .ref x2, .ref x3, .int 0])), (w0, .inr (9, [.ref y0, .int 0, .ref y1, .ref y2, .ref y3, .ref y4]))] [] sz)) (va_Qi (fun (r : Int32) (_ : Unit) => r = zCnt x) (fun (_ : Unit) (t : State) => zB (dC, dI) (va_A [(h0, .inr (11, [.ref t0, .ref b0, .ref c0, .ref r0, .ref d0, .ref e0, .ref o0, .ref s0, .ref p0, .ref w0, .int 0, .int 0, .int 0, .int 0, .int ((-1)), .int 0])), (b0, .inr (0, [.ref bt, .int 0])), (c0, .inr (1, [.ref x1, .ref x2, .ref x3, .int 0])), (w0, .inr (9, [.ref y0, .int 0, .ref y1, .ref y2, .ref y3, .ref y4]))] sz) [(h0, .inr (11, [.ref t0, .ref b0, .ref c0, .ref r0, .ref d0, .ref e0, .ref o0, .ref s0, .ref p0, .ref w0, .int 0, .int 0, .int 0, .int 0, .int ((-1)), .int 0])), (b0, .inr (0, [.ref bt, .int 0])), (c0, .inr (1, [.ref x1, .ref x2, .ref x3, .int 0])), (w0, .inr (9, [.ref y0, .int 0, .ref y1, .ref y2, .ref y3, .ref y4]))] [] t) (va_A [(h0, .inr (11, [.ref t0, .ref b0, .ref c0, .ref r0, .ref d0, .ref e0, .ref o0, .ref s0, .ref p0, .ref w0, .int 0, .int 0, .int 0, .int 0, .int ((-1)), .int 0])), (b0, .inr (0, [.ref bt, .int 0])), (c0, .inr (1, [.ref x1, .ref x2, .ref x3, .int 0])), (w0, .inr (9, [.ref y0, .int 0, .ref y1, .ref y2, .ref y3, .ref y4]))] sz)) 0 0 (va_A [(h0, .inr (11, [.ref t0, .ref b0, .ref c0, .ref r0, .ref d0, .ref e0, .ref o0, .ref s0, .ref p0, .ref w0, .int 0, .int 0, .int 0, .int 0, .int ((-1)), .int 0])), (b0, .inr (0, [.ref bt, .int 0])), (c0, .inr (1, [.ref x1, .ref x2, .ref x3, .int 0])), (w0, .inr (9, [.ref y0, .int 0, .ref y1, .ref y2, .ref y3, .ref y4]))] sz) := by
  refine Met.ofW (cc := cX11_count) (maxL := 2) (ret := (some .int)) (by decide) rfl ?_
  intro p e s m args below meth c s₁ B hml hv
  obtain ⟨rfl, hsz, hz, hP, hK, hD0⟩ := hv
  have hx := B.exec
  have hb := B.bytes
  have hr := B.returns
  have hts := atoms_spec (ws := wsX11_count) B.pre
  have hown : s.vm.findClass RX11 = some m.cls := findClass_of_methodNamed B.named
  have hlocks := B.notSynchronized
  subst hsz
  have hD := hD0.self (sz := s.heap.size)
  generalize hAe : va_A [(h0, .inr (11, [.ref t0, .ref b0, .ref c0, .ref r0, .ref d0, .ref e0, .ref o0, .ref s0, .ref p0, .ref w0, .int 0, .int 0, .int 0, .int 0, .int ((-1)), .int 0])), (b0, .inr (0, [.ref bt, .int 0])), (c0, .inr (1, [.ref x1, .ref x2, .ref x3, .int 0])), (w0, .inr (9, [.ref y0, .int 0, .ref y1, .ref y2, .ref y3, .ref y4]))] s.heap.size = A at hD hA0 ⊢
  have hA : ∀ q : Nat, s.heap.size ≤ q → A q := fun q h => by rw [← hAe]; exact Or.inr h
  have hS : va_S A s.heap s.heap [] := va_S.rf
  have hl := lv_entry ([.ref h0, .int x]) (n := 2) (Nat.le_of_ble_eq_true rfl)
  rw [lg_entry_eq]
  generalize (lg_sl ([.ref h0, .int x]) ++ List.replicate (2 - (lg_sl ([.ref h0, .int x])).length) Slot.unset).toArray = ls at hl ⊢
  have hl : lv_has ls 2 [(0, .ref h0), (1, .int x)] := hl
  have hP : va_P (dC, dI) vwCl [(h0, .inr (11, [.ref t0, .ref b0, .ref c0, .ref r0, .ref d0, .ref e0, .ref o0, .ref s0, .ref p0, .ref w0, .int 0, .int 0, .int 0, .int 0, .int ((-1)), .int 0])), (b0, .inr (0, [.ref bt, .int 0])), (c0, .inr (1, [.ref x1, .ref x2, .ref x3, .int 0])), (w0, .inr (9, [.ref y0, .int 0, .ref y1, .ref y2, .ref y3, .ref y4]))] s.heap := hP
  have hiX11 : ∀ w ∈ u_ws RX11 TX11 16, w ∈ wsX11_count := fun _ h => List.mem_cons_of_mem _ (List.mem_append_left _ (List.mem_append_left _ (List.mem_append_left _ (List.mem_append_left _ (List.mem_append_left _ (List.mem_append_right _ h))))))
  have hw1 := hts (.fieldLink RX11 136 "PostHouse" "today" "I") (by decide +kernel)
  have hw2 := hts (.fieldLink RX11 19 "PostHouse" "book" "LPostHouse$Book;") (by decide +kernel)
  have hiX0 : ∀ w ∈ u_ws RX0 TX0 2, w ∈ wsX11_count := fun _ h => List.mem_cons_of_mem _ (List.mem_append_left _ (List.mem_append_left _ (List.mem_append_left _ (List.mem_append_left _ (List.mem_append_right _ h)))))
  have hw4 := hts (.fieldLink RX11 104 "PostHouse$Book" "size" "I") (by decide +kernel)
  have hw5 := hts (.fieldLink RX11 366 "PostHouse" "orderCount" "I") (by decide +kernel)
  have hw6 := hts (.fieldLink RX11 319 "PostHouse" "sendingCount" "I") (by decide +kernel)
  have hw7 := hts (.fieldLink RX11 68 "PostHouse" "walk" "LPostHouse$Walk;") (by decide +kernel)
  have hiX9 : ∀ w ∈ u_ws RX9 TX9 6, w ∈ wsX11_count := fun _ h => List.mem_cons_of_mem _ (List.mem_append_left _ (List.mem_append_left _ (List.mem_append_left _ (List.mem_append_right _ h))))
  have hw9 := hts (.fieldLink RX11 345 "PostHouse$Walk" "size" "I") (by decide +kernel)
  have hw10 := hts (.fieldLink RX11 204 "PostHouse" "mendedAtOnce" "I") (by decide +kernel)
  have hw11 := hts (.fieldLink RX11 26 "PostHouse" "comings" "LPostHouse$Comings;") (by decide +kernel)
  refine lv_iload_n hx hb dX11_count_0 rfl (lv_at hl 1 rfl) ?_
  rcases (show x = 0 ∨ x = 1 ∨ x = 2 ∨ x = 3 ∨ x = 4 ∨ x = 5 ∨ x = 6 ∨ x = 7 ∨ x = 8 ∨ x = 9 ∨ (x.toInt < 0 ∨ 9 < x.toInt) by exact zCase9 x) with rfl | rfl | rfl | rfl | rfl | rfl | rfl | rfl | rfl | rfl | c1
  · refine lv_tableIn (tgt := 56) (off := 55) hx hb dX11_count_1 (by decide) (by decide) rfl (by decide) ?_
    refine lv_aload_n hx hb dX11_count_56 rfl (lv_at hl 0 rfl) ?_
    refine va_get (D := (dC, dI)) (ci := 11) (v := .int 0) (C := RX11) (T := TX11) (N := 16) hx hb hts hiX11 hown hK hP 0 rfl rfl 15 (by decide) hw1 (fun _ h9 => h9) rfl dX11_count_57 ?_
    have hP9 := hP.sub (ws' := [(h0, .inr (11, [.ref t0, .ref b0, .ref c0, .ref r0, .ref d0, .ref e0, .ref o0, .ref s0, .ref p0, .ref w0, .int 0, .int 0, .int 0, .int 0, .int ((-1)), .int 0])), (b0, .inr (0, [.ref bt, .int 0])), (c0, .inr (1, [.ref x1, .ref x2, .ref x3, .int 0])), (w0, .inr (9, [.ref y0, .int 0, .ref y1, .ref y2, .ref y3, .ref y4]))]) [0, 1, 2, 3] rfl
    have hD9 := hD.sub (ws' := [(h0, .inr (11, [.ref t0, .ref b0, .ref c0, .ref r0, .ref d0, .ref e0, .ref o0, .ref s0, .ref p0, .ref w0, .int 0, .int 0, .int 0, .int 0, .int ((-1)), .int 0])), (b0, .inr (0, [.ref bt, .int 0])), (c0, .inr (1, [.ref x1, .ref x2, .ref x3, .int 0])), (w0, .inr (9, [.ref y0, .int 0, .ref y1, .ref y2, .ref y3, .ref y4]))]) [0, 1, 2, 3] (by decide) rfl
    have hK9 := hK.sub (tys' := []) [] rfl
    refine W.widen (k := 0) (n := 0) (by decide) (by decide) ?_
    exact W.iret (v := 0) hx hb hr (fun t ht hW => ⟨⟨0, (), rfl, by decide, ⟨by rw [ht]; exact hP9, va_K.moved hW.alike hK9, hD9⟩⟩, hS.F ht⟩) hS.2.2 dX11_count_60
  · refine lv_tableIn (tgt := 61) (off := 60) hx hb dX11_count_1 (by decide) (by decide) rfl (by decide) ?_
    refine lv_aload_n hx hb dX11_count_61 rfl (lv_at hl 0 rfl) ?_
    refine va_get (D := (dC, dI)) (ci := 11) (v := .ref b0) (C := RX11) (T := TX11) (N := 16) hx hb hts hiX11 hown hK hP 0 rfl rfl 1 (by decide) hw2 (fun _ h9 => h9) rfl dX11_count_62 ?_
    refine va_get (D := (dC, dI)) (ci := 0) (v := .int 0) (C := RX0) (T := TX0) (N := 2) hx hb hts hiX0 hown hK hP 1 rfl rfl 1 (by decide) hw4 (fun _ h9 => h9) rfl dX11_count_65 ?_
    have hP9 := hP.sub (ws' := [(h0, .inr (11, [.ref t0, .ref b0, .ref c0, .ref r0, .ref d0, .ref e0, .ref o0, .ref s0, .ref p0, .ref w0, .int 0, .int 0, .int 0, .int 0, .int ((-1)), .int 0])), (b0, .inr (0, [.ref bt, .int 0])), (c0, .inr (1, [.ref x1, .ref x2, .ref x3, .int 0])), (w0, .inr (9, [.ref y0, .int 0, .ref y1, .ref y2, .ref y3, .ref y4]))]) [0, 1, 2, 3] rfl
    have hD9 := hD.sub (ws' := [(h0, .inr (11, [.ref t0, .ref b0, .ref c0, .ref r0, .ref d0, .ref e0, .ref o0, .ref s0, .ref p0, .ref w0, .int 0, .int 0, .int 0, .int 0, .int ((-1)), .int 0])), (b0, .inr (0, [.ref bt, .int 0])), (c0, .inr (1, [.ref x1, .ref x2, .ref x3, .int 0])), (w0, .inr (9, [.ref y0, .int 0, .ref y1, .ref y2, .ref y3, .ref y4]))]) [0, 1, 2, 3] (by decide) rfl
    have hK9 := hK.sub (tys' := []) [] rfl
    refine W.widen (k := 0) (n := 0) (by decide) (by decide) ?_
    exact W.iret (v := 0) hx hb hr (fun t ht hW => ⟨⟨0, (), rfl, by decide, ⟨by rw [ht]; exact hP9, va_K.moved hW.alike hK9, hD9⟩⟩, hS.F ht⟩) hS.2.2 dX11_count_68
  · refine lv_tableIn (tgt := 69) (off := 68) hx hb dX11_count_1 (by decide) (by decide) rfl (by decide) ?_
    refine lv_aload_n hx hb dX11_count_69 rfl (lv_at hl 0 rfl) ?_
    refine va_get (D := (dC, dI)) (ci := 11) (v := .int 0) (C := RX11) (T := TX11) (N := 16) hx hb hts hiX11 hown hK hP 0 rfl rfl 11 (by decide) hw5 (fun _ h9 => h9) rfl dX11_count_70 ?_
    have hP9 := hP.sub (ws' := [(h0, .inr (11, [.ref t0, .ref b0, .ref c0, .ref r0, .ref d0, .ref e0, .ref o0, .ref s0, .ref p0, .ref w0, .int 0, .int 0, .int 0, .int 0, .int ((-1)), .int 0])), (b0, .inr (0, [.ref bt, .int 0])), (c0, .inr (1, [.ref x1, .ref x2, .ref x3, .int 0])), (w0, .inr (9, [.ref y0, .int 0, .ref y1, .ref y2, .ref y3, .ref y4]))]) [0, 1, 2, 3] rfl
    have hD9 := hD.sub (ws' := [(h0, .inr (11, [.ref t0, .ref b0, .ref c0, .ref r0, .ref d0, .ref e0, .ref o0, .ref s0, .ref p0, .ref w0, .int 0, .int 0, .int 0, .int 0, .int ((-1)), .int 0])), (b0, .inr (0, [.ref bt, .int 0])), (c0, .inr (1, [.ref x1, .ref x2, .ref x3, .int 0])), (w0, .inr (9, [.ref y0, .int 0, .ref y1, .ref y2, .ref y3, .ref y4]))]) [0, 1, 2, 3] (by decide) rfl
    have hK9 := hK.sub (tys' := []) [] rfl
    refine W.widen (k := 0) (n := 0) (by decide) (by decide) ?_
    exact W.iret (v := 0) hx hb hr (fun t ht hW => ⟨⟨0, (), rfl, by decide, ⟨by rw [ht]; exact hP9, va_K.moved hW.alike hK9, hD9⟩⟩, hS.F ht⟩) hS.2.2 dX11_count_73
  · refine lv_tableIn (tgt := 74) (off := 73) hx hb dX11_count_1 (by decide) (by decide) rfl (by decide) ?_
    refine lv_aload_n hx hb dX11_count_74 rfl (lv_at hl 0 rfl) ?_
    have hPc := hP.sub (ws' := [(h0, .inr (11, [.ref t0, .ref b0, .ref c0, .ref r0, .ref d0, .ref e0, .ref o0, .ref s0, .ref p0, .ref w0, .int 0, .int 0, .int 0, .int 0, .int ((-1)), .int 0]))]) [0] rfl
    have hDc := hD.sub (ws' := [(h0, .inr (11, [.ref t0, .ref b0, .ref c0, .ref r0, .ref d0, .ref e0, .ref o0, .ref s0, .ref p0, .ref w0, .int 0, .int 0, .int 0, .int 0, .int ((-1)), .int 0]))]) [0] (by decide) rfl
    have hKc := hK.sub (tys' := []) [] rfl
    have hFc := va_free (wc := [(h0, .inr (11, [.ref t0, .ref b0, .ref c0, .ref r0, .ref d0, .ref e0, .ref o0, .ref s0, .ref p0, .ref w0, .int 0, .int 0, .int 0, .int 0, .int ((-1)), .int 0]))]) hD hS hA [0] rfl
    refine va_calli (va_runV (As := []) (rest := []) ⟨hx, hb, hml, hown, hts⟩ (c_waitingDoubts l hl0 dC dI A0 ad s.heap.size h0 t0 b0 c0 r0 d0 e0 o0 s0 p0 w0 (fun q h => hA0 q (hFc q h))) (cwV 0 hts gX11_count_X11_waitingDoubts rfl rfl rfl (by decide +kernel) ⟨Nat.le_of_ble_eq_true rfl, Nat.le_of_ble_eq_true rfl⟩) ⟨zPc_bl, va_recv hKc hPc (ci := 11) (q0 := 0) rfl rfl, zPc_at hz hS hA0 hPc hKc hDc⟩ rfl rfl hl.1 rfl (lv_room (Nat.le_of_ble_eq_true rfl)) dX11_count_75 ⟨Nat.le_of_ble_eq_true rfl, Nat.le_of_ble_eq_true rfl⟩) hS (fun q _ h => hFc q h) hFc (fun r2 u t H1 locs ht hvm hw hB hz1 hk1 hS => ?_)
    obtain ⟨hP1, hK1, hD1⟩ := hB
    rw [ht] at hP1
    have hK1 := va_K.moved hvm.symm hK1
    obtain ⟨hP, hD⟩ := va_join (wr := [(b0, .inr (0, [.ref bt, .int 0])), (c0, .inr (1, [.ref x1, .ref x2, .ref x3, .int 0])), (w0, .inr (9, [.ref y0, .int 0, .ref y1, .ref y2, .ref y3, .ref y4]))]) (w1 := [(h0, .inr (11, [.ref t0, .ref b0, .ref c0, .ref r0, .ref d0, .ref e0, .ref o0, .ref s0, .ref p0, .ref w0, .int 0, .int 0, .int 0, .int 0, .int ((-1)), .int 0]))]) hP hD [0] [1, 2, 3] rfl rfl (by decide) (by decide) hk1 hFc hP1 hD1
    have hK := (hK.sub (tys' := []) [] rfl).app hK1
    generalize H1 = H at hP hS ⊢
    have hP : va_P (dC, dI) vwCl [(b0, .inr (0, [.ref bt, .int 0])), (c0, .inr (1, [.ref x1, .ref x2, .ref x3, .int 0])), (w0, .inr (9, [.ref y0, .int 0, .ref y1, .ref y2, .ref y3, .ref y4])), (h0, .inr (11, [.ref t0, .ref b0, .ref c0, .ref r0, .ref d0, .ref e0, .ref o0, .ref s0, .ref p0, .ref w0, .int 0, .int 0, .int 0, .int 0, .int ((-1)), .int 0]))] H := hP
    have hD : va_D A [(b0, .inr (0, [.ref bt, .int 0])), (c0, .inr (1, [.ref x1, .ref x2, .ref x3, .int 0])), (w0, .inr (9, [.ref y0, .int 0, .ref y1, .ref y2, .ref y3, .ref y4])), (h0, .inr (11, [.ref t0, .ref b0, .ref c0, .ref r0, .ref d0, .ref e0, .ref o0, .ref s0, .ref p0, .ref w0, .int 0, .int 0, .int 0, .int 0, .int ((-1)), .int 0]))] := hD
    have hK : va_K (dC, dI) vwCl [] s := hK
    obtain rfl : r2 = 0 := hw
    have hP9 := hP.sub (ws' := [(h0, .inr (11, [.ref t0, .ref b0, .ref c0, .ref r0, .ref d0, .ref e0, .ref o0, .ref s0, .ref p0, .ref w0, .int 0, .int 0, .int 0, .int 0, .int ((-1)), .int 0])), (b0, .inr (0, [.ref bt, .int 0])), (c0, .inr (1, [.ref x1, .ref x2, .ref x3, .int 0])), (w0, .inr (9, [.ref y0, .int 0, .ref y1, .ref y2, .ref y3, .ref y4]))]) [3, 0, 1, 2] rfl
    have hD9 := hD.sub (ws' := [(h0, .inr (11, [.ref t0, .ref b0, .ref c0, .ref r0, .ref d0, .ref e0, .ref o0, .ref s0, .ref p0, .ref w0, .int 0, .int 0, .int 0, .int 0, .int ((-1)), .int 0])), (b0, .inr (0, [.ref bt, .int 0])), (c0, .inr (1, [.ref x1, .ref x2, .ref x3, .int 0])), (w0, .inr (9, [.ref y0, .int 0, .ref y1, .ref y2, .ref y3, .ref y4]))]) [3, 0, 1, 2] (by decide) rfl
    have hK9 := hK.sub (tys' := []) [] rfl
    refine W.widen (k := 0) (n := 0) (by decide) (by decide) ?_
    exact W.iret (v := 0) hx hb hr (fun t ht hW => ⟨⟨0, (), rfl, by decide, ⟨by rw [ht]; exact hP9, va_K.moved hW.alike hK9, hD9⟩⟩, hS.F ht⟩) hS.2.2 dX11_count_78
  · refine lv_tableIn (tgt := 79) (off := 78) hx hb dX11_count_1 (by decide) (by decide) rfl (by decide) ?_
    refine lv_aload_n hx hb dX11_count_79 rfl (lv_at hl 0 rfl) ?_
    refine va_get (D := (dC, dI)) (ci := 11) (v := .int 0) (C := RX11) (T := TX11) (N := 16) hx hb hts hiX11 hown hK hP 0 rfl rfl 12 (by decide) hw6 (fun _ h9 => h9) rfl dX11_count_80 ?_
    have hP9 := hP.sub (ws' := [(h0, .inr (11, [.ref t0, .ref b0, .ref c0, .ref r0, .ref d0, .ref e0, .ref o0, .ref s0, .ref p0, .ref w0, .int 0, .int 0, .int 0, .int 0, .int ((-1)), .int 0])), (b0, .inr (0, [.ref bt, .int 0])), (c0, .inr (1, [.ref x1, .ref x2, .ref x3, .int 0])), (w0, .inr (9, [.ref y0, .int 0, .ref y1, .ref y2, .ref y3, .ref y4]))]) [0, 1, 2, 3] rfl
    have hD9 := hD.sub (ws' := [(h0, .inr (11, [.ref t0, .ref b0, .ref c0, .ref r0, .ref d0, .ref e0, .ref o0, .ref s0, .ref p0, .ref w0, .int 0, .int 0, .int 0, .int 0, .int ((-1)), .int 0])), (b0, .inr (0, [.ref bt, .int 0])), (c0, .inr (1, [.ref x1, .ref x2, .ref x3, .int 0])), (w0, .inr (9, [.ref y0, .int 0, .ref y1, .ref y2, .ref y3, .ref y4]))]) [0, 1, 2, 3] (by decide) rfl
    have hK9 := hK.sub (tys' := []) [] rfl
    refine W.widen (k := 0) (n := 0) (by decide) (by decide) ?_
    exact W.iret (v := 0) hx hb hr (fun t ht hW => ⟨⟨0, (), rfl, by decide, ⟨by rw [ht]; exact hP9, va_K.moved hW.alike hK9, hD9⟩⟩, hS.F ht⟩) hS.2.2 dX11_count_83
  · refine lv_tableIn (tgt := 84) (off := 83) hx hb dX11_count_1 (by decide) (by decide) rfl (by decide) ?_
    refine lv_aload_n hx hb dX11_count_84 rfl (lv_at hl 0 rfl) ?_
    refine va_get (D := (dC, dI)) (ci := 11) (v := .ref w0) (C := RX11) (T := TX11) (N := 16) hx hb hts hiX11 hown hK hP 0 rfl rfl 9 (by decide) hw7 (fun _ h9 => h9) rfl dX11_count_85 ?_
    refine va_get (D := (dC, dI)) (ci := 9) (v := .int 0) (C := RX9) (T := TX9) (N := 6) hx hb hts hiX9 hown hK hP 3 rfl rfl 1 (by decide) hw9 (fun _ h9 => h9) rfl dX11_count_88 ?_
    have hP9 := hP.sub (ws' := [(h0, .inr (11, [.ref t0, .ref b0, .ref c0, .ref r0, .ref d0, .ref e0, .ref o0, .ref s0, .ref p0, .ref w0, .int 0, .int 0, .int 0, .int 0, .int ((-1)), .int 0])), (b0, .inr (0, [.ref bt, .int 0])), (c0, .inr (1, [.ref x1, .ref x2, .ref x3, .int 0])), (w0, .inr (9, [.ref y0, .int 0, .ref y1, .ref y2, .ref y3, .ref y4]))]) [0, 1, 2, 3] rfl
    have hD9 := hD.sub (ws' := [(h0, .inr (11, [.ref t0, .ref b0, .ref c0, .ref r0, .ref d0, .ref e0, .ref o0, .ref s0, .ref p0, .ref w0, .int 0, .int 0, .int 0, .int 0, .int ((-1)), .int 0])), (b0, .inr (0, [.ref bt, .int 0])), (c0, .inr (1, [.ref x1, .ref x2, .ref x3, .int 0])), (w0, .inr (9, [.ref y0, .int 0, .ref y1, .ref y2, .ref y3, .ref y4]))]) [0, 1, 2, 3] (by decide) rfl
    have hK9 := hK.sub (tys' := []) [] rfl
    refine W.widen (k := 0) (n := 0) (by decide) (by decide) ?_
    exact W.iret (v := 0) hx hb hr (fun t ht hW => ⟨⟨0, (), rfl, by decide, ⟨by rw [ht]; exact hP9, va_K.moved hW.alike hK9, hD9⟩⟩, hS.F ht⟩) hS.2.2 dX11_count_91
  · refine lv_tableIn (tgt := 92) (off := 91) hx hb dX11_count_1 (by decide) (by decide) rfl (by decide) ?_
    refine lv_aload_n hx hb dX11_count_92 rfl (lv_at hl 0 rfl) ?_
    refine va_get (D := (dC, dI)) (ci := 11) (v := .int 0) (C := RX11) (T := TX11) (N := 16) hx hb hts hiX11 hown hK hP 0 rfl rfl 13 (by decide) hw10 (fun _ h9 => h9) rfl dX11_count_93 ?_
    have hP9 := hP.sub (ws' := [(h0, .inr (11, [.ref t0, .ref b0, .ref c0, .ref r0, .ref d0, .ref e0, .ref o0, .ref s0, .ref p0, .ref w0, .int 0, .int 0, .int 0, .int 0, .int ((-1)), .int 0])), (b0, .inr (0, [.ref bt, .int 0])), (c0, .inr (1, [.ref x1, .ref x2, .ref x3, .int 0])), (w0, .inr (9, [.ref y0, .int 0, .ref y1, .ref y2, .ref y3, .ref y4]))]) [0, 1, 2, 3] rfl
    have hD9 := hD.sub (ws' := [(h0, .inr (11, [.ref t0, .ref b0, .ref c0, .ref r0, .ref d0, .ref e0, .ref o0, .ref s0, .ref p0, .ref w0, .int 0, .int 0, .int 0, .int 0, .int ((-1)), .int 0])), (b0, .inr (0, [.ref bt, .int 0])), (c0, .inr (1, [.ref x1, .ref x2, .ref x3, .int 0])), (w0, .inr (9, [.ref y0, .int 0, .ref y1, .ref y2, .ref y3, .ref y4]))]) [0, 1, 2, 3] (by decide) rfl
    have hK9 := hK.sub (tys' := []) [] rfl
    refine W.widen (k := 0) (n := 0) (by decide) (by decide) ?_
    exact W.iret (v := 0) hx hb hr (fun t ht hW => ⟨⟨0, (), rfl, by decide, ⟨by rw [ht]; exact hP9, va_K.moved hW.alike hK9, hD9⟩⟩, hS.F ht⟩) hS.2.2 dX11_count_96
  · refine lv_tableIn (tgt := 97) (off := 96) hx hb dX11_count_1 (by decide) (by decide) rfl (by decide) ?_
    refine lv_aload_n hx hb dX11_count_97 rfl (lv_at hl 0 rfl) ?_
    have hPc := hP.sub (ws' := [(h0, .inr (11, [.ref t0, .ref b0, .ref c0, .ref r0, .ref d0, .ref e0, .ref o0, .ref s0, .ref p0, .ref w0, .int 0, .int 0, .int 0, .int 0, .int ((-1)), .int 0]))]) [0] rfl
    have hDc := hD.sub (ws' := [(h0, .inr (11, [.ref t0, .ref b0, .ref c0, .ref r0, .ref d0, .ref e0, .ref o0, .ref s0, .ref p0, .ref w0, .int 0, .int 0, .int 0, .int 0, .int ((-1)), .int 0]))]) [0] (by decide) rfl
    have hKc := hK.sub (tys' := []) [] rfl
    have hFc := va_free (wc := [(h0, .inr (11, [.ref t0, .ref b0, .ref c0, .ref r0, .ref d0, .ref e0, .ref o0, .ref s0, .ref p0, .ref w0, .int 0, .int 0, .int 0, .int 0, .int ((-1)), .int 0]))]) hD hS hA [0] rfl
    refine va_calli (va_runV (As := []) (rest := []) ⟨hx, hb, hml, hown, hts⟩ (c_moneyOfOrders l hl0 dC dI A0 ad s.heap.size h0 t0 b0 c0 r0 d0 e0 o0 s0 p0 w0 (fun q h => hA0 q (hFc q h))) (cwV 0 hts gX11_count_X11_moneyOfOrders rfl rfl rfl (by decide +kernel) ⟨Nat.le_of_ble_eq_true rfl, Nat.le_of_ble_eq_true rfl⟩) ⟨zPc_bl, va_recv hKc hPc (ci := 11) (q0 := 0) rfl rfl, zPc_at hz hS hA0 hPc hKc hDc⟩ rfl rfl hl.1 rfl (lv_room (Nat.le_of_ble_eq_true rfl)) dX11_count_98 ⟨Nat.le_of_ble_eq_true rfl, Nat.le_of_ble_eq_true rfl⟩) hS (fun q _ h => hFc q h) hFc (fun r3 u t H1 locs ht hvm hw hB hz1 hk1 hS => ?_)
    obtain ⟨hP1, hK1, hD1⟩ := hB
    rw [ht] at hP1
    have hK1 := va_K.moved hvm.symm hK1
    obtain ⟨hP, hD⟩ := va_join (wr := [(b0, .inr (0, [.ref bt, .int 0])), (c0, .inr (1, [.ref x1, .ref x2, .ref x3, .int 0])), (w0, .inr (9, [.ref y0, .int 0, .ref y1, .ref y2, .ref y3, .ref y4]))]) (w1 := [(h0, .inr (11, [.ref t0, .ref b0, .ref c0, .ref r0, .ref d0, .ref e0, .ref o0, .ref s0, .ref p0, .ref w0, .int 0, .int 0, .int 0, .int 0, .int ((-1)), .int 0]))]) hP hD [0] [1, 2, 3] rfl rfl (by decide) (by decide) hk1 hFc hP1 hD1
    have hK := (hK.sub (tys' := []) [] rfl).app hK1
    generalize H1 = H at hP hS ⊢
    have hP : va_P (dC, dI) vwCl [(b0, .inr (0, [.ref bt, .int 0])), (c0, .inr (1, [.ref x1, .ref x2, .ref x3, .int 0])), (w0, .inr (9, [.ref y0, .int 0, .ref y1, .ref y2, .ref y3, .ref y4])), (h0, .inr (11, [.ref t0, .ref b0, .ref c0, .ref r0, .ref d0, .ref e0, .ref o0, .ref s0, .ref p0, .ref w0, .int 0, .int 0, .int 0, .int 0, .int ((-1)), .int 0]))] H := hP
    have hD : va_D A [(b0, .inr (0, [.ref bt, .int 0])), (c0, .inr (1, [.ref x1, .ref x2, .ref x3, .int 0])), (w0, .inr (9, [.ref y0, .int 0, .ref y1, .ref y2, .ref y3, .ref y4])), (h0, .inr (11, [.ref t0, .ref b0, .ref c0, .ref r0, .ref d0, .ref e0, .ref o0, .ref s0, .ref p0, .ref w0, .int 0, .int 0, .int 0, .int 0, .int ((-1)), .int 0]))] := hD
    have hK : va_K (dC, dI) vwCl [] s := hK
    obtain rfl : r3 = 0 := hw
    have hP9 := hP.sub (ws' := [(h0, .inr (11, [.ref t0, .ref b0, .ref c0, .ref r0, .ref d0, .ref e0, .ref o0, .ref s0, .ref p0, .ref w0, .int 0, .int 0, .int 0, .int 0, .int ((-1)), .int 0])), (b0, .inr (0, [.ref bt, .int 0])), (c0, .inr (1, [.ref x1, .ref x2, .ref x3, .int 0])), (w0, .inr (9, [.ref y0, .int 0, .ref y1, .ref y2, .ref y3, .ref y4]))]) [3, 0, 1, 2] rfl
    have hD9 := hD.sub (ws' := [(h0, .inr (11, [.ref t0, .ref b0, .ref c0, .ref r0, .ref d0, .ref e0, .ref o0, .ref s0, .ref p0, .ref w0, .int 0, .int 0, .int 0, .int 0, .int ((-1)), .int 0])), (b0, .inr (0, [.ref bt, .int 0])), (c0, .inr (1, [.ref x1, .ref x2, .ref x3, .int 0])), (w0, .inr (9, [.ref y0, .int 0, .ref y1, .ref y2, .ref y3, .ref y4]))]) [3, 0, 1, 2] (by decide) rfl
    have hK9 := hK.sub (tys' := []) [] rfl
    refine W.widen (k := 0) (n := 0) (by decide) (by decide) ?_
    exact W.iret (v := 0) hx hb hr (fun t ht hW => ⟨⟨0, (), rfl, by decide, ⟨by rw [ht]; exact hP9, va_K.moved hW.alike hK9, hD9⟩⟩, hS.F ht⟩) hS.2.2 dX11_count_101
  · refine lv_tableIn (tgt := 102) (off := 101) hx hb dX11_count_1 (by decide) (by decide) rfl (by decide) ?_
    refine lv_aload_n hx hb dX11_count_102 rfl (lv_at hl 0 rfl) ?_
    have hPc := hP.sub (ws' := [(h0, .inr (11, [.ref t0, .ref b0, .ref c0, .ref r0, .ref d0, .ref e0, .ref o0, .ref s0, .ref p0, .ref w0, .int 0, .int 0, .int 0, .int 0, .int ((-1)), .int 0]))]) [0] rfl
    have hDc := hD.sub (ws' := [(h0, .inr (11, [.ref t0, .ref b0, .ref c0, .ref r0, .ref d0, .ref e0, .ref o0, .ref s0, .ref p0, .ref w0, .int 0, .int 0, .int 0, .int 0, .int ((-1)), .int 0]))]) [0] (by decide) rfl
    have hKc := hK.sub (tys' := []) [] rfl
    have hFc := va_free (wc := [(h0, .inr (11, [.ref t0, .ref b0, .ref c0, .ref r0, .ref d0, .ref e0, .ref o0, .ref s0, .ref p0, .ref w0, .int 0, .int 0, .int 0, .int 0, .int ((-1)), .int 0]))]) hD hS hA [0] rfl
    refine va_calli (va_runV (As := []) (rest := []) ⟨hx, hb, hml, hown, hts⟩ (c_creditOfOrders l hl0 dC dI A0 ad s.heap.size h0 t0 b0 c0 r0 d0 e0 o0 s0 p0 w0 (fun q h => hA0 q (hFc q h))) (cwV 0 hts gX11_count_X11_creditOfOrders rfl rfl rfl (by decide +kernel) ⟨Nat.le_of_ble_eq_true rfl, Nat.le_of_ble_eq_true rfl⟩) ⟨zPc_bl, va_recv hKc hPc (ci := 11) (q0 := 0) rfl rfl, zPc_at hz hS hA0 hPc hKc hDc⟩ rfl rfl hl.1 rfl (lv_room (Nat.le_of_ble_eq_true rfl)) dX11_count_103 ⟨Nat.le_of_ble_eq_true rfl, Nat.le_of_ble_eq_true rfl⟩) hS (fun q _ h => hFc q h) hFc (fun r4 u t H1 locs ht hvm hw hB hz1 hk1 hS => ?_)
    obtain ⟨hP1, hK1, hD1⟩ := hB
    rw [ht] at hP1
    have hK1 := va_K.moved hvm.symm hK1
    obtain ⟨hP, hD⟩ := va_join (wr := [(b0, .inr (0, [.ref bt, .int 0])), (c0, .inr (1, [.ref x1, .ref x2, .ref x3, .int 0])), (w0, .inr (9, [.ref y0, .int 0, .ref y1, .ref y2, .ref y3, .ref y4]))]) (w1 := [(h0, .inr (11, [.ref t0, .ref b0, .ref c0, .ref r0, .ref d0, .ref e0, .ref o0, .ref s0, .ref p0, .ref w0, .int 0, .int 0, .int 0, .int 0, .int ((-1)), .int 0]))]) hP hD [0] [1, 2, 3] rfl rfl (by decide) (by decide) hk1 hFc hP1 hD1
    have hK := (hK.sub (tys' := []) [] rfl).app hK1
    generalize H1 = H at hP hS ⊢
    have hP : va_P (dC, dI) vwCl [(b0, .inr (0, [.ref bt, .int 0])), (c0, .inr (1, [.ref x1, .ref x2, .ref x3, .int 0])), (w0, .inr (9, [.ref y0, .int 0, .ref y1, .ref y2, .ref y3, .ref y4])), (h0, .inr (11, [.ref t0, .ref b0, .ref c0, .ref r0, .ref d0, .ref e0, .ref o0, .ref s0, .ref p0, .ref w0, .int 0, .int 0, .int 0, .int 0, .int ((-1)), .int 0]))] H := hP
    have hD : va_D A [(b0, .inr (0, [.ref bt, .int 0])), (c0, .inr (1, [.ref x1, .ref x2, .ref x3, .int 0])), (w0, .inr (9, [.ref y0, .int 0, .ref y1, .ref y2, .ref y3, .ref y4])), (h0, .inr (11, [.ref t0, .ref b0, .ref c0, .ref r0, .ref d0, .ref e0, .ref o0, .ref s0, .ref p0, .ref w0, .int 0, .int 0, .int 0, .int 0, .int ((-1)), .int 0]))] := hD
    have hK : va_K (dC, dI) vwCl [] s := hK
    obtain rfl : r4 = 0 := hw
    have hP9 := hP.sub (ws' := [(h0, .inr (11, [.ref t0, .ref b0, .ref c0, .ref r0, .ref d0, .ref e0, .ref o0, .ref s0, .ref p0, .ref w0, .int 0, .int 0, .int 0, .int 0, .int ((-1)), .int 0])), (b0, .inr (0, [.ref bt, .int 0])), (c0, .inr (1, [.ref x1, .ref x2, .ref x3, .int 0])), (w0, .inr (9, [.ref y0, .int 0, .ref y1, .ref y2, .ref y3, .ref y4]))]) [3, 0, 1, 2] rfl
    have hD9 := hD.sub (ws' := [(h0, .inr (11, [.ref t0, .ref b0, .ref c0, .ref r0, .ref d0, .ref e0, .ref o0, .ref s0, .ref p0, .ref w0, .int 0, .int 0, .int 0, .int 0, .int ((-1)), .int 0])), (b0, .inr (0, [.ref bt, .int 0])), (c0, .inr (1, [.ref x1, .ref x2, .ref x3, .int 0])), (w0, .inr (9, [.ref y0, .int 0, .ref y1, .ref y2, .ref y3, .ref y4]))]) [3, 0, 1, 2] (by decide) rfl
    have hK9 := hK.sub (tys' := []) [] rfl
    refine W.widen (k := 0) (n := 0) (by decide) (by decide) ?_
    exact W.iret (v := 0) hx hb hr (fun t ht hW => ⟨⟨0, (), rfl, by decide, ⟨by rw [ht]; exact hP9, va_K.moved hW.alike hK9, hD9⟩⟩, hS.F ht⟩) hS.2.2 dX11_count_106
  · refine lv_tableIn (tgt := 107) (off := 106) hx hb dX11_count_1 (by decide) (by decide) rfl (by decide) ?_
    refine lv_aload_n hx hb dX11_count_107 rfl (lv_at hl 0 rfl) ?_
    refine va_get (D := (dC, dI)) (ci := 11) (v := .ref c0) (C := RX11) (T := TX11) (N := 16) hx hb hts hiX11 hown hK hP 0 rfl rfl 2 (by decide) hw11 (fun _ h9 => h9) rfl dX11_count_108 ?_
    have hPc := hP.sub (ws' := [(c0, .inr (1, [.ref x1, .ref x2, .ref x3, .int 0]))]) [2] rfl
    have hDc := hD.sub (ws' := [(c0, .inr (1, [.ref x1, .ref x2, .ref x3, .int 0]))]) [2] (by decide) rfl
    have hKc := hK.sub (tys' := []) [] rfl
    have hFc := va_free (wc := [(c0, .inr (1, [.ref x1, .ref x2, .ref x3, .int 0]))]) hD hS hA [2] rfl
    refine va_calli (va_runV (As := []) (rest := []) ⟨hx, hb, hml, hown, hts⟩ (c_allPieces l hl0 dC dI A0 ad s.heap.size c0 x1 x2 x3 (fun q h => hA0 q (hFc q h))) (cwV 0 hts gX11_count_X1_allPieces rfl rfl rfl (by decide +kernel) ⟨Nat.le_of_ble_eq_true rfl, Nat.le_of_ble_eq_true rfl⟩) ⟨zPc_bl, va_recv hKc hPc (ci := 1) (q0 := 0) rfl rfl, zPc_at hz hS hA0 hPc hKc hDc⟩ rfl rfl hl.1 rfl (lv_room (Nat.le_of_ble_eq_true rfl)) dX11_count_111 ⟨Nat.le_of_ble_eq_true rfl, Nat.le_of_ble_eq_true rfl⟩) hS (fun q _ h => hFc q h) hFc (fun r5 u t H1 locs ht hvm hw hB hz1 hk1 hS => ?_)
    obtain ⟨hP1, hK1, hD1⟩ := hB
    rw [ht] at hP1
    have hK1 := va_K.moved hvm.symm hK1
    obtain ⟨hP, hD⟩ := va_join (wr := [(h0, .inr (11, [.ref t0, .ref b0, .ref c0, .ref r0, .ref d0, .ref e0, .ref o0, .ref s0, .ref p0, .ref w0, .int 0, .int 0, .int 0, .int 0, .int ((-1)), .int 0])), (b0, .inr (0, [.ref bt, .int 0])), (w0, .inr (9, [.ref y0, .int 0, .ref y1, .ref y2, .ref y3, .ref y4]))]) (w1 := [(c0, .inr (1, [.ref x1, .ref x2, .ref x3, .int 0]))]) hP hD [2] [0, 1, 3] rfl rfl (by decide) (by decide) hk1 hFc hP1 hD1
    have hK := (hK.sub (tys' := []) [] rfl).app hK1
    generalize H1 = H at hP hS ⊢
    have hP : va_P (dC, dI) vwCl [(h0, .inr (11, [.ref t0, .ref b0, .ref c0, .ref r0, .ref d0, .ref e0, .ref o0, .ref s0, .ref p0, .ref w0, .int 0, .int 0, .int 0, .int 0, .int ((-1)), .int 0])), (b0, .inr (0, [.ref bt, .int 0])), (w0, .inr (9, [.ref y0, .int 0, .ref y1, .ref y2, .ref y3, .ref y4])), (c0, .inr (1, [.ref x1, .ref x2, .ref x3, .int 0]))] H := hP
    have hD : va_D A [(h0, .inr (11, [.ref t0, .ref b0, .ref c0, .ref r0, .ref d0, .ref e0, .ref o0, .ref s0, .ref p0, .ref w0, .int 0, .int 0, .int 0, .int 0, .int ((-1)), .int 0])), (b0, .inr (0, [.ref bt, .int 0])), (w0, .inr (9, [.ref y0, .int 0, .ref y1, .ref y2, .ref y3, .ref y4])), (c0, .inr (1, [.ref x1, .ref x2, .ref x3, .int 0]))] := hD
    have hK : va_K (dC, dI) vwCl [] s := hK
    obtain rfl : r5 = 0 := hw
    have hP9 := hP.sub (ws' := [(h0, .inr (11, [.ref t0, .ref b0, .ref c0, .ref r0, .ref d0, .ref e0, .ref o0, .ref s0, .ref p0, .ref w0, .int 0, .int 0, .int 0, .int 0, .int ((-1)), .int 0])), (b0, .inr (0, [.ref bt, .int 0])), (c0, .inr (1, [.ref x1, .ref x2, .ref x3, .int 0])), (w0, .inr (9, [.ref y0, .int 0, .ref y1, .ref y2, .ref y3, .ref y4]))]) [0, 1, 3, 2] rfl
    have hD9 := hD.sub (ws' := [(h0, .inr (11, [.ref t0, .ref b0, .ref c0, .ref r0, .ref d0, .ref e0, .ref o0, .ref s0, .ref p0, .ref w0, .int 0, .int 0, .int 0, .int 0, .int ((-1)), .int 0])), (b0, .inr (0, [.ref bt, .int 0])), (c0, .inr (1, [.ref x1, .ref x2, .ref x3, .int 0])), (w0, .inr (9, [.ref y0, .int 0, .ref y1, .ref y2, .ref y3, .ref y4]))]) [0, 1, 3, 2] (by decide) rfl
    have hK9 := hK.sub (tys' := []) [] rfl
    refine W.widen (k := 0) (n := 0) (by decide) (by decide) ?_
    exact W.iret (v := 0) hx hb hr (fun t ht hW => ⟨⟨0, (), rfl, by decide, ⟨by rw [ht]; exact hP9, va_K.moved hW.alike hK9, hD9⟩⟩, hS.F ht⟩) hS.2.2 dX11_count_114
  · refine lv_tableOut (tgt := 115) hx hb dX11_count_1 c1 (by decide) ?_
    refine lv_iconst (v := (-1)) hx hb dX11_count_115 (by decide) ?_
    have hP9 := hP.sub (ws' := [(h0, .inr (11, [.ref t0, .ref b0, .ref c0, .ref r0, .ref d0, .ref e0, .ref o0, .ref s0, .ref p0, .ref w0, .int 0, .int 0, .int 0, .int 0, .int ((-1)), .int 0])), (b0, .inr (0, [.ref bt, .int 0])), (c0, .inr (1, [.ref x1, .ref x2, .ref x3, .int 0])), (w0, .inr (9, [.ref y0, .int 0, .ref y1, .ref y2, .ref y3, .ref y4]))]) [0, 1, 2, 3] rfl
    have hD9 := hD.sub (ws' := [(h0, .inr (11, [.ref t0, .ref b0, .ref c0, .ref r0, .ref d0, .ref e0, .ref o0, .ref s0, .ref p0, .ref w0, .int 0, .int 0, .int 0, .int 0, .int ((-1)), .int 0])), (b0, .inr (0, [.ref bt, .int 0])), (c0, .inr (1, [.ref x1, .ref x2, .ref x3, .int 0])), (w0, .inr (9, [.ref y0, .int 0, .ref y1, .ref y2, .ref y3, .ref y4]))]) [0, 1, 2, 3] (by decide) rfl
    have hK9 := hK.sub (tys' := []) [] rfl
    refine W.widen (k := 0) (n := 0) (by decide) (by decide) ?_
    exact W.iret (v := (-1)) hx hb hr (fun t ht hW => ⟨⟨(-1), (), rfl, by rw [zCnt, if_pos c1], ⟨by rw [ht]; exact hP9, va_K.moved hW.alike hK9, hD9⟩⟩, hS.F ht⟩) hS.2.2 dX11_count_116
set_option maxHeartbeats 4000000 in
set_option maxRecDepth 100000 in
/-- arrive where nothing comes -/
theorem c_arrive (l : Launch) (hl0 : l.stackTraces = false) (dC : Nat → ClassId) (dI : Nat → Nat → Nat) (A0 : Nat → Prop) (ad : Nat → Nat) (sz : Nat) (c0 x1 x2 x3 : Nat) (x : Int32) (hA0 : ∀ q, va_A [(c0, .inr (1, [.ref x1, .ref x2, .ref x3, .int 0]))] sz q → A0 q) : Met l yX1_arrive wsX1_arrive ({ frames := 0, cells := 0, slots := 0, locals := 0 }) (va_Pc [.ref c0, .int x] (zPc A0 ad (dC, dI) [(c0, .inr (1, [.ref x1, .ref x2, .ref x3, .int 0]))] [] sz)) (va_Qv (fun (_ : Unit) => True) (fun (_ : Unit) (t : State) => zB (dC, dI) (va_A [(c0, .inr (1, [.ref x1, .ref x2, .ref x3, .int 0]))] sz) [(c0, .inr (1, [.ref x1, .ref x2, .ref x3, .int 0]))] [] t) (va_A [(c0, .inr (1, [.ref x1, .ref x2, .ref x3, .int 0]))] sz)) 0 0 (va_A [(c0, .inr (1, [.ref x1, .ref x2, .ref x3, .int 0]))] sz) := by
  refine Met.ofW (cc := cX1_arrive) (maxL := 4) (ret := none) (by decide) rfl ?_
  intro p e s m args below meth c s₁ B hml hv
  obtain ⟨rfl, hsz, hz, hP, hK, hD0⟩ := hv
  have hx := B.exec
  have hb := B.bytes
  have hr := B.returns
  have hts := atoms_spec (ws := wsX1_arrive) B.pre
  have hown : s.vm.findClass RX1 = some m.cls := findClass_of_methodNamed B.named
  have hlocks := B.notSynchronized
  subst hsz
  have hD := hD0.self (sz := s.heap.size)
  generalize hAe : va_A [(c0, .inr (1, [.ref x1, .ref x2, .ref x3, .int 0]))] s.heap.size = A at hD hA0 ⊢
  have hA : ∀ q : Nat, s.heap.size ≤ q → A q := fun q h => by rw [← hAe]; exact Or.inr h
  have hS : va_S A s.heap s.heap [] := va_S.rf
  have hl := lv_entry ([.ref c0, .int x]) (n := 4) (Nat.le_of_ble_eq_true rfl)
  rw [lg_entry_eq]
  generalize (lg_sl ([.ref c0, .int x]) ++ List.replicate (4 - (lg_sl ([.ref c0, .int x])).length) Slot.unset).toArray = ls at hl ⊢
  have hl : lv_has ls 4 [(0, .ref c0), (1, .int x)] := hl
  have hP : va_P (dC, dI) vwCl [(c0, .inr (1, [.ref x1, .ref x2, .ref x3, .int 0]))] s.heap := hP
  have hiX1 : ∀ w ∈ u_ws RX1 TX1 4, w ∈ wsX1_arrive := fun _ h => List.mem_cons_of_mem _ (List.mem_append_left _ (List.mem_append_right _ h))
  have hw1 := hts (.fieldLink RX1 24 "PostHouse$Comings" "size" "I") (by decide +kernel)
  refine lv_iconst (v := 0) hx hb dX1_arrive_0 (by decide) ?_
  refine lv_istore_n (lv' := [(2, .int 0), (0, .ref c0), (1, .int x)]) hx hb dX1_arrive_1 rfl hl (by decide) rfl (fun ls hl => ?_)
  refine lv_iconst (v := 0) hx hb dX1_arrive_2 (by decide) ?_
  refine lv_istore_n (lv' := [(3, .int 0), (2, .int 0), (0, .ref c0), (1, .int x)]) hx hb dX1_arrive_3 rfl hl (by decide) rfl (fun ls hl => ?_)
  refine lv_iload_n hx hb dX1_arrive_4 rfl (lv_at hl 0 rfl) ?_
  refine lv_aload_n hx hb dX1_arrive_5 rfl (lv_at hl 2 rfl) ?_
  refine va_get (D := (dC, dI)) (ci := 1) (v := .int 0) (C := RX1) (T := TX1) (N := 4) hx hb hts hiX1 hown hK hP 0 rfl rfl 3 (by decide) hw1 (fun _ h9 => h9) rfl dX1_arrive_6 ?_
  refine lv_icmp_ge (tgt := 90) hx hb dX1_arrive_9 (by decide) (fun c1 => ?_) (fun c1 => absurd (by decide) c1)
  refine lv_aload_n hx hb dX1_arrive_90 rfl (lv_at hl 2 rfl) ?_
  refine lv_iload_n hx hb dX1_arrive_91 rfl (lv_at hl 1 rfl) ?_
  refine va_put (D := (dC, dI)) (ci := 1) (v := .int 0) (ty := .int) (C := RX1) (T := TX1) (N := 4) hx hb hts hiX1 tyX1 tyX1_ok nmX1 hown hK hP hD hS 0 rfl rfl 3 (by decide) hw1 (fun _ h9 => h9) rfl (by decide +kernel) rfl rfl (Nat.le_of_ble_eq_true rfl) dX1_arrive_92 (fun H locs hP hD hS => ?_)
  have hP : va_P (dC, dI) vwCl [(c0, .inr (1, [.ref x1, .ref x2, .ref x3, .int 0]))] H := hP
  have hD : va_D A [(c0, .inr (1, [.ref x1, .ref x2, .ref x3, .int 0]))] := hD
  have hP9 := hP.sub (ws' := [(c0, .inr (1, [.ref x1, .ref x2, .ref x3, .int 0]))]) [0] rfl
  have hD9 := hD.sub (ws' := [(c0, .inr (1, [.ref x1, .ref x2, .ref x3, .int 0]))]) [0] (by decide) rfl
  have hK9 := hK.sub (tys' := []) [] rfl
  refine W.widen (k := 0) (n := 0) (by decide) (by decide) ?_
  exact W.vret hx hb hr (fun t ht hW => ⟨⟨(), rfl, trivial, ⟨by rw [ht]; exact hP9, va_K.moved hW.alike hK9, hD9⟩⟩, hS.F ht⟩) hS.2.2 dX1_arrive_95
