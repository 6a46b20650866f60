theorem zP0 {D : va_G} {cl : List vw_C} {H : Heap} : va_P D cl [] H := fun k q h => by simp at h
theorem zD0 {A : Nat → Prop} : va_D A [] := ⟨fun i j p q h => by simp at h, fun k q h => by simp at h⟩
set_option maxHeartbeats 4000000 in
set_option maxRecDepth 100000 in
/-- the law's price -/
theorem c_L_price (l : Launch) (hl0 : l.stackTraces = false) (dC : Nat → ClassId) (dI : Nat → Nat → Nat) (A0 : Nat → Prop) (ad : Nat → Nat) (sz : Nat) (h0 t0 b0 c0 r0 d0 e0 o0 s0 p0 w0 : Nat) (bt : Nat) (x0 x1 x2 x3 : Int32) (ob : Nat) (cob : ClassId) (fo : Nat → Int64) (hA0 : ∀ q, va_A [(h0, .inr (11, [.ref t0, .ref b0, .ref c0, .ref r0, .ref d0, .ref e0, .ref o0, .ref s0, .ref p0, .ref w0, .int 0, .int 0, .int 0, .int 0, .int ((-1)), .int 0])), (b0, .inr (0, [.ref bt, .int 0])), (ob, .inl (cob, 1, .inr (.inl fo)))] sz q → A0 q) : vx_Met l yL_price wsL_price ({ frames := 8, cells := 1, slots := 6, locals := 129 }) (va_Pc [.ref h0, .int x0, .int x1, .int x2, .int x3, .ref ob] (zPc A0 ad (dC, dI) [(h0, .inr (11, [.ref t0, .ref b0, .ref c0, .ref r0, .ref d0, .ref e0, .ref o0, .ref s0, .ref p0, .ref w0, .int 0, .int 0, .int 0, .int 0, .int ((-1)), .int 0])), (b0, .inr (0, [.ref bt, .int 0])), (ob, .inl (cob, 1, .inr (.inl fo)))] [(cob, .long)] sz)) (va_Qi (fun (r : Int32) (_ : Unit) => r = 1) (fun (_ : Unit) (t : State) => zB (dC, dI) (va_A [(h0, .inr (11, [.ref t0, .ref b0, .ref c0, .ref r0, .ref d0, .ref e0, .ref o0, .ref s0, .ref p0, .ref w0, .int 0, .int 0, .int 0, .int 0, .int ((-1)), .int 0])), (b0, .inr (0, [.ref bt, .int 0])), (ob, .inl (cob, 1, .inr (.inl fo)))] sz) [(ob, .inl (cob, 1, .inr (.inl fo)))] [(cob, .long)] t) (va_A [(h0, .inr (11, [.ref t0, .ref b0, .ref c0, .ref r0, .ref d0, .ref e0, .ref o0, .ref s0, .ref p0, .ref w0, .int 0, .int 0, .int 0, .int 0, .int ((-1)), .int 0])), (b0, .inr (0, [.ref bt, .int 0])), (ob, .inl (cob, 1, .inr (.inl fo)))] sz)) (vx_X (fun _ : Unit => True) (fun (E : String) (_ : Unit) (_ : State) => False) (va_A [(h0, .inr (11, [.ref t0, .ref b0, .ref c0, .ref r0, .ref d0, .ref e0, .ref o0, .ref s0, .ref p0, .ref w0, .int 0, .int 0, .int 0, .int 0, .int ((-1)), .int 0])), (b0, .inr (0, [.ref bt, .int 0])), (ob, .inl (cob, 1, .inr (.inl fo)))] sz)) 1 6 (va_A [(h0, .inr (11, [.ref t0, .ref b0, .ref c0, .ref r0, .ref d0, .ref e0, .ref o0, .ref s0, .ref p0, .ref w0, .int 0, .int 0, .int 0, .int 0, .int ((-1)), .int 0])), (b0, .inr (0, [.ref bt, .int 0])), (ob, .inl (cob, 1, .inr (.inl fo)))] sz) := by
  refine vx_ofWH (cc := cL_price) (maxL := 7) (ret := (some .int)) (hh := [(0, 14, 17, 20), (0, 14, 21, 13), (0, 14, 25, 15)]) (by decide) rfl ?_
  intro p e s m args below meth c s₁ B hml hv
  obtain ⟨rfl, hsz, hz, hP, hK, hD0⟩ := hv
  have hx := B.exec
  have hb := B.bytes
  have hr := B.returns
  have hts := atoms_spec (ws := wsL_price) B.pre
  have hown : s.vm.findClass RL = some m.cls := findClass_of_methodNamed B.named
  have hlocks := B.notSynchronized
  have htab := vx_table (x := yL_price) B (hts (.codeWith yL_price cL_price 7 (some .int) [(0, 14, 17, 20), (0, 14, 21, 13), (0, 14, 25, 15)]) List.mem_cons_self)
  subst hsz
  have hD := hD0.self (sz := s.heap.size)
  generalize hAe : va_A [(h0, .inr (11, [.ref t0, .ref b0, .ref c0, .ref r0, .ref d0, .ref e0, .ref o0, .ref s0, .ref p0, .ref w0, .int 0, .int 0, .int 0, .int 0, .int ((-1)), .int 0])), (b0, .inr (0, [.ref bt, .int 0])), (ob, .inl (cob, 1, .inr (.inl fo)))] s.heap.size = A at hD hA0 ⊢
  have hA : ∀ q : Nat, s.heap.size ≤ q → A q := fun q h => by rw [← hAe]; exact Or.inr h
  have hS : va_S A s.heap s.heap [] := va_S.rf
  have hl := lv_entry ([.ref h0, .int x0, .int x1, .int x2, .int x3, .ref ob]) (n := 7) (Nat.le_of_ble_eq_true rfl)
  rw [lg_entry_eq]
  generalize (lg_sl ([.ref h0, .int x0, .int x1, .int x2, .int x3, .ref ob]) ++ List.replicate (7 - (lg_sl ([.ref h0, .int x0, .int x1, .int x2, .int x3, .ref ob])).length) Slot.unset).toArray = ls at hl ⊢
  have hl : lv_has ls 7 [(0, .ref h0), (1, .int x0), (2, .int x1), (3, .int x2), (4, .int x3), (5, .ref ob)] := hl
  have hP : va_P (dC, dI) vwCl [(h0, .inr (11, [.ref t0, .ref b0, .ref c0, .ref r0, .ref d0, .ref e0, .ref o0, .ref s0, .ref p0, .ref w0, .int 0, .int 0, .int 0, .int 0, .int ((-1)), .int 0])), (b0, .inr (0, [.ref bt, .int 0])), (ob, .inl (cob, 1, .inr (.inl fo)))] s.heap := hP
  have hw0 := hts (.classLink RL 20 "java/lang/IndexOutOfBoundsException") (by decide +kernel)
  refine lv_aload hx hb dL_price_0 (lv_at hl 5 rfl) ?_
  refine lv_iconst (v := 0) hx hb dL_price_2 (by decide) ?_
  refine lv_aload_n hx hb dL_price_3 rfl (lv_at hl 0 rfl) ?_
  refine lv_iload_n hx hb dL_price_4 rfl (lv_at hl 1 rfl) ?_
  refine lv_iload_n hx hb dL_price_5 rfl (lv_at hl 2 rfl) ?_
  refine lv_iload_n hx hb dL_price_6 rfl (lv_at hl 3 rfl) ?_
  refine lv_iload hx hb dL_price_7 (lv_at hl 4 rfl) ?_
  have hPc := hP.sub (ws' := [(h0, .inr (11, [.ref t0, .ref b0, .ref c0, .ref r0, .ref d0, .ref e0, .ref o0, .ref s0, .ref p0, .ref w0, .int 0, .int 0, .int 0, .int 0, .int ((-1)), .int 0])), (b0, .inr (0, [.ref bt, .int 0]))]) [0, 1] rfl
  have hDc := hD.sub (ws' := [(h0, .inr (11, [.ref t0, .ref b0, .ref c0, .ref r0, .ref d0, .ref e0, .ref o0, .ref s0, .ref p0, .ref w0, .int 0, .int 0, .int 0, .int 0, .int ((-1)), .int 0])), (b0, .inr (0, [.ref bt, .int 0]))]) [0, 1] (by decide) rfl
  have hKc := hK.sub (tys' := []) [] rfl
  have hFc := va_free (wc := [(h0, .inr (11, [.ref t0, .ref b0, .ref c0, .ref r0, .ref d0, .ref e0, .ref o0, .ref s0, .ref p0, .ref w0, .int 0, .int 0, .int 0, .int 0, .int ((-1)), .int 0])), (b0, .inr (0, [.ref bt, .int 0]))]) hD hS hA [0, 1] rfl
  refine vx_calli (vx_runV (As := [.int x0, .int x1, .int x2, .int x3]) (rest := [.int 0, .ref ob]) ⟨hx, hb, hml, hown, hts⟩ (c_price l hl0 dC dI A0 ad s.heap.size h0 t0 b0 c0 r0 d0 e0 o0 s0 p0 w0 bt x0 x1 x2 x3 (fun q h => hA0 q (hFc q h))) (cwV 4 hts gL_price_X11_price rfl rfl rfl (by decide +kernel) ⟨Nat.le_of_ble_eq_true rfl, Nat.le_of_ble_eq_true rfl⟩) ⟨zPc_bl, va_recv hKc hPc (ci := 11) (q0 := 0) rfl rfl, zPc_at hz hS hA0 hPc hKc hDc⟩ rfl rfl hl.1 rfl (lv_room (Nat.le_of_ble_eq_true rfl)) dL_price_9 ⟨Nat.le_of_ble_eq_true rfl, Nat.le_of_ble_eq_true rfl⟩) hS (fun q _ h => hFc q h) hFc (fun q _ h => hFc q h) (fun E ce q9 u t H1 locs ht hvm hw hB hz1 hk1 hS hce hcv hcl => ?_) (fun r1 u t H1 locs ht hvm hw hB hz1 hk1 hS => ?_)
  · skip
    have hB : E = "java/lang/IndexOutOfBoundsException" := hB
    obtain rfl := hB
    obtain ⟨hP, hD⟩ := va_join (wr := [(ob, .inl (cob, 1, .inr (.inl fo)))]) (w1 := []) hP hD [0, 1] [2] rfl rfl (by decide) (by decide) hk1 hFc zP0 zD0
    have hK := hK.sub (tys' := [(cob, .long)]) [0] rfl
    generalize H1 = H at hP hS hce ⊢
    have hP : va_P (dC, dI) vwCl [(ob, .inl (cob, 1, .inr (.inl fo)))] H := hP
    have hD : va_D A [(ob, .inl (cob, 1, .inr (.inl fo)))] := hD
    refine vx_catch hown [] { startPc := 0, endPc := 14, handlerPc := 17, catchType := 20 } _ (by rw [htab]; rfl) (fun z h9 => absurd h9 List.not_mem_nil) (by decide) (by decide) hw0 (va_Nw.use rfl (hz.2.2.2.2.2.2.2.1 _ (List.mem_of_getElem? (i := 0) rfl))) hce hcv hcl ?_
    refine W.widen (k := 1) (n := 6) (by decide) (by decide) ?_
    refine lv_astore (lv' := [(6, .ref q9), (0, .ref h0), (1, .int x0), (2, .int x1), (3, .int x2), (4, .int x3), (5, .ref ob)]) hx hb dL_price_17 hl (by decide) rfl (fun ls hl => ?_)
    refine lv_iconst (v := 1) hx hb dL_price_19 (by decide) ?_
    have hP9 := hP.sub (ws' := [(ob, .inl (cob, 1, .inr (.inl fo)))]) [0] rfl
    have hD9 := hD.sub (ws' := [(ob, .inl (cob, 1, .inr (.inl fo)))]) [0] (by decide) rfl
    have hK9 := hK.sub (tys' := [(cob, .long)]) [0] rfl
    refine W.widen (k := 1) (n := 6) (by decide) (by decide) ?_
    refine vx_ret ?_
    exact W.iret (v := 1) hx hb hr (fun t ht hW => ⟨⟨1, (), rfl, rfl, ⟨by rw [ht]; exact hP9, va_K.moved hW.alike hK9, hD9⟩⟩, hS.F ht⟩) hS.2.2 dL_price_20
  · exact hw.elim
set_option maxHeartbeats 4000000 in
set_option maxRecDepth 100000 in
/-- the law's costs -/
theorem c_L_costs (l : Launch) (hl0 : l.stackTraces = false) (dC : Nat → ClassId) (dI : Nat → Nat → Nat) (A0 : Nat → Prop) (ad : Nat → Nat) (sz : Nat) (h0 t0 b0 c0 r0 d0 e0 o0 s0 p0 w0 : Nat) (bt : Nat) (x0 x1 : Int32) (ob : Nat) (cob : ClassId) (fo : Nat → Int64) (hA0 : ∀ q, va_A [(h0, .inr (11, [.ref t0, .ref b0, .ref c0, .ref r0, .ref d0, .ref e0, .ref o0, .ref s0, .ref p0, .ref w0, .int 0, .int 0, .int 0, .int 0, .int ((-1)), .int 0])), (b0, .inr (0, [.ref bt, .int 0])), (ob, .inl (cob, 1, .inr (.inl fo)))] sz q → A0 q) : vx_Met l yL_costs wsL_costs ({ frames := 8, cells := 1, slots := 6, locals := 126 }) (va_Pc [.ref h0, .int x0, .int x1, .ref ob] (zPc A0 ad (dC, dI) [(h0, .inr (11, [.ref t0, .ref b0, .ref c0, .ref r0, .ref d0, .ref e0, .ref o0, .ref s0, .ref p0, .ref w0, .int 0, .int 0, .int 0, .int 0, .int ((-1)), .int 0])), (b0, .inr (0, [.ref bt, .int 0])), (ob, .inl (cob, 1, .inr (.inl fo)))] [(cob, .long)] sz)) (va_Qi (fun (r : Int32) (_ : Unit) => r = 1) (fun (_ : Unit) (t : State) => zB (dC, dI) (va_A [(h0, .inr (11, [.ref t0, .ref b0, .ref c0, .ref r0, .ref d0, .ref e0, .ref o0, .ref s0, .ref p0, .ref w0, .int 0, .int 0, .int 0, .int 0, .int ((-1)), .int 0])), (b0, .inr (0, [.ref bt, .int 0])), (ob, .inl (cob, 1, .inr (.inl fo)))] sz) [(ob, .inl (cob, 1, .inr (.inl fo)))] [(cob, .long)] t) (va_A [(h0, .inr (11, [.ref t0, .ref b0, .ref c0, .ref r0, .ref d0, .ref e0, .ref o0, .ref s0, .ref p0, .ref w0, .int 0, .int 0, .int 0, .int 0, .int ((-1)), .int 0])), (b0, .inr (0, [.ref bt, .int 0])), (ob, .inl (cob, 1, .inr (.inl fo)))] sz)) (vx_X (fun _ : Unit => True) (fun (E : String) (_ : Unit) (_ : State) => False) (va_A [(h0, .inr (11, [.ref t0, .ref b0, .ref c0, .ref r0, .ref d0, .ref e0, .ref o0, .ref s0, .ref p0, .ref w0, .int 0, .int 0, .int 0, .int 0, .int ((-1)), .int 0])), (b0, .inr (0, [.ref bt, .int 0])), (ob, .inl (cob, 1, .inr (.inl fo)))] sz)) 1 6 (va_A [(h0, .inr (11, [.ref t0, .ref b0, .ref c0, .ref r0, .ref d0, .ref e0, .ref o0, .ref s0, .ref p0, .ref w0, .int 0, .int 0, .int 0, .int 0, .int ((-1)), .int 0])), (b0, .inr (0, [.ref bt, .int 0])), (ob, .inl (cob, 1, .inr (.inl fo)))] sz) := by
  refine vx_ofWH (cc := cL_costs) (maxL := 5) (ret := (some .int)) (hh := [(0, 10, 13, 20)]) (by decide) rfl ?_
  intro p e s m args below meth c s₁ B hml hv
  obtain ⟨rfl, hsz, hz, hP, hK, hD0⟩ := hv
  have hx := B.exec
  have hb := B.bytes
  have hr := B.returns
  have hts := atoms_spec (ws := wsL_costs) B.pre
  have hown : s.vm.findClass RL = some m.cls := findClass_of_methodNamed B.named
  have hlocks := B.notSynchronized
  have htab := vx_table (x := yL_costs) B (hts (.codeWith yL_costs cL_costs 5 (some .int) [(0, 10, 13, 20)]) List.mem_cons_self)
  subst hsz
  have hD := hD0.self (sz := s.heap.size)
  generalize hAe : va_A [(h0, .inr (11, [.ref t0, .ref b0, .ref c0, .ref r0, .ref d0, .ref e0, .ref o0, .ref s0, .ref p0, .ref w0, .int 0, .int 0, .int 0, .int 0, .int ((-1)), .int 0])), (b0, .inr (0, [.ref bt, .int 0])), (ob, .inl (cob, 1, .inr (.inl fo)))] s.heap.size = A at hD hA0 ⊢
  have hA : ∀ q : Nat, s.heap.size ≤ q → A q := fun q h => by rw [← hAe]; exact Or.inr h
  have hS : va_S A s.heap s.heap [] := va_S.rf
  have hl := lv_entry ([.ref h0, .int x0, .int x1, .ref ob]) (n := 5) (Nat.le_of_ble_eq_true rfl)
  rw [lg_entry_eq]
  generalize (lg_sl ([.ref h0, .int x0, .int x1, .ref ob]) ++ List.replicate (5 - (lg_sl ([.ref h0, .int x0, .int x1, .ref ob])).length) Slot.unset).toArray = ls at hl ⊢
  have hl : lv_has ls 5 [(0, .ref h0), (1, .int x0), (2, .int x1), (3, .ref ob)] := hl
  have hP : va_P (dC, dI) vwCl [(h0, .inr (11, [.ref t0, .ref b0, .ref c0, .ref r0, .ref d0, .ref e0, .ref o0, .ref s0, .ref p0, .ref w0, .int 0, .int 0, .int 0, .int 0, .int ((-1)), .int 0])), (b0, .inr (0, [.ref bt, .int 0])), (ob, .inl (cob, 1, .inr (.inl fo)))] s.heap := hP
  have hw0 := hts (.classLink RL 20 "java/lang/IndexOutOfBoundsException") (by decide +kernel)
  refine lv_aload_n hx hb dL_costs_0 rfl (lv_at hl 3 rfl) ?_
  refine lv_iconst (v := 0) hx hb dL_costs_1 (by decide) ?_
  refine lv_aload_n hx hb dL_costs_2 rfl (lv_at hl 0 rfl) ?_
  refine lv_iload_n hx hb dL_costs_3 rfl (lv_at hl 1 rfl) ?_
  refine lv_iload_n hx hb dL_costs_4 rfl (lv_at hl 2 rfl) ?_
  have hPc := hP.sub (ws' := [(h0, .inr (11, [.ref t0, .ref b0, .ref c0, .ref r0, .ref d0, .ref e0, .ref o0, .ref s0, .ref p0, .ref w0, .int 0, .int 0, .int 0, .int 0, .int ((-1)), .int 0])), (b0, .inr (0, [.ref bt, .int 0]))]) [0, 1] rfl
  have hDc := hD.sub (ws' := [(h0, .inr (11, [.ref t0, .ref b0, .ref c0, .ref r0, .ref d0, .ref e0, .ref o0, .ref s0, .ref p0, .ref w0, .int 0, .int 0, .int 0, .int 0, .int ((-1)), .int 0])), (b0, .inr (0, [.ref bt, .int 0]))]) [0, 1] (by decide) rfl
  have hKc := hK.sub (tys' := []) [] rfl
  have hFc := va_free (wc := [(h0, .inr (11, [.ref t0, .ref b0, .ref c0, .ref r0, .ref d0, .ref e0, .ref o0, .ref s0, .ref p0, .ref w0, .int 0, .int 0, .int 0, .int 0, .int ((-1)), .int 0])), (b0, .inr (0, [.ref bt, .int 0]))]) hD hS hA [0, 1] rfl
  refine vx_calli (vx_runV (As := [.int x0, .int x1]) (rest := [.int 0, .ref ob]) ⟨hx, hb, hml, hown, hts⟩ (c_costs l hl0 dC dI A0 ad s.heap.size h0 t0 b0 c0 r0 d0 e0 o0 s0 p0 w0 bt x0 x1 (fun q h => hA0 q (hFc q h))) (cwV 2 hts gL_costs_X11_costs rfl rfl rfl (by decide +kernel) ⟨Nat.le_of_ble_eq_true rfl, Nat.le_of_ble_eq_true rfl⟩) ⟨zPc_bl, va_recv hKc hPc (ci := 11) (q0 := 0) rfl rfl, zPc_at hz hS hA0 hPc hKc hDc⟩ rfl rfl hl.1 rfl (lv_room (Nat.le_of_ble_eq_true rfl)) dL_costs_5 ⟨Nat.le_of_ble_eq_true rfl, Nat.le_of_ble_eq_true rfl⟩) hS (fun q _ h => hFc q h) hFc (fun q _ h => hFc q h) (fun E ce q9 u t H1 locs ht hvm hw hB hz1 hk1 hS hce hcv hcl => ?_) (fun r1 u t H1 locs ht hvm hw hB hz1 hk1 hS => ?_)
  · skip
    have hB : E = "java/lang/IndexOutOfBoundsException" := hB
    obtain rfl := hB
    obtain ⟨hP, hD⟩ := va_join (wr := [(ob, .inl (cob, 1, .inr (.inl fo)))]) (w1 := []) hP hD [0, 1] [2] rfl rfl (by decide) (by decide) hk1 hFc zP0 zD0
    have hK := hK.sub (tys' := [(cob, .long)]) [0] rfl
    generalize H1 = H at hP hS hce ⊢
    have hP : va_P (dC, dI) vwCl [(ob, .inl (cob, 1, .inr (.inl fo)))] H := hP
    have hD : va_D A [(ob, .inl (cob, 1, .inr (.inl fo)))] := hD
    refine vx_catch hown [] { startPc := 0, endPc := 10, handlerPc := 13, catchType := 20 } _ (by rw [htab]; rfl) (fun z h9 => absurd h9 List.not_mem_nil) (by decide) (by decide) hw0 (va_Nw.use rfl (hz.2.2.2.2.2.2.2.1 _ (List.mem_of_getElem? (i := 0) rfl))) hce hcv hcl ?_
    refine W.widen (k := 1) (n := 6) (by decide) (by decide) ?_
    refine lv_astore (lv' := [(4, .ref q9), (0, .ref h0), (1, .int x0), (2, .int x1), (3, .ref ob)]) hx hb dL_costs_13 hl (by decide) rfl (fun ls hl => ?_)
    refine lv_iconst (v := 1) hx hb dL_costs_15 (by decide) ?_
    have hP9 := hP.sub (ws' := [(ob, .inl (cob, 1, .inr (.inl fo)))]) [0] rfl
    have hD9 := hD.sub (ws' := [(ob, .inl (cob, 1, .inr (.inl fo)))]) [0] (by decide) rfl
    have hK9 := hK.sub (tys' := [(cob, .long)]) [0] rfl
    refine W.widen (k := 1) (n := 6) (by decide) (by decide) ?_
    refine vx_ret ?_
    exact W.iret (v := 1) hx hb hr (fun t ht hW => ⟨⟨1, (), rfl, rfl, ⟨by rw [ht]; exact hP9, va_K.moved hW.alike hK9, hD9⟩⟩, hS.F ht⟩) hS.2.2 dL_costs_16
  · exact hw.elim
set_option maxHeartbeats 4000000 in
set_option maxRecDepth 100000 in
/-- the law's coming -/
theorem c_L_coming (l : Launch) (hl0 : l.stackTraces = false) (dC : Nat → ClassId) (dI : Nat → Nat → Nat) (A0 : Nat → Prop) (ad : Nat → Nat) (sz : Nat) (h0 t0 b0 c0 r0 d0 e0 o0 s0 p0 w0 : Nat) (bt : Nat) (x0 x1 x2 : Int32) (ob : Nat) (cob : ClassId) (fo : Nat → Int64) (hA0 : ∀ q, va_A [(h0, .inr (11, [.ref t0, .ref b0, .ref c0, .ref r0, .ref d0, .ref e0, .ref o0, .ref s0, .ref p0, .ref w0, .int 0, .int 0, .int 0, .int 0, .int ((-1)), .int 0])), (b0, .inr (0, [.ref bt, .int 0])), (ob, .inl (cob, 1, .inr (.inl fo)))] sz q → A0 q) : vx_Met l yL_coming wsL_coming ({ frames := 8, cells := 1, slots := 6, locals := 128 }) (va_Pc [.ref h0, .int x0, .int x1, .int x2, .ref ob] (zPc A0 ad (dC, dI) [(h0, .inr (11, [.ref t0, .ref b0, .ref c0, .ref r0, .ref d0, .ref e0, .ref o0, .ref s0, .ref p0, .ref w0, .int 0, .int 0, .int 0, .int 0, .int ((-1)), .int 0])), (b0, .inr (0, [.ref bt, .int 0])), (ob, .inl (cob, 1, .inr (.inl fo)))] [(cob, .long)] sz)) (va_Qi (fun (r : Int32) (_ : Unit) => r = 1) (fun (_ : Unit) (t : State) => zB (dC, dI) (va_A [(h0, .inr (11, [.ref t0, .ref b0, .ref c0, .ref r0, .ref d0, .ref e0, .ref o0, .ref s0, .ref p0, .ref w0, .int 0, .int 0, .int 0, .int 0, .int ((-1)), .int 0])), (b0, .inr (0, [.ref bt, .int 0])), (ob, .inl (cob, 1, .inr (.inl fo)))] sz) [(ob, .inl (cob, 1, .inr (.inl fo)))] [(cob, .long)] t) (va_A [(h0, .inr (11, [.ref t0, .ref b0, .ref c0, .ref r0, .ref d0, .ref e0, .ref o0, .ref s0, .ref p0, .ref w0, .int 0, .int 0, .int 0, .int 0, .int ((-1)), .int 0])), (b0, .inr (0, [.ref bt, .int 0])), (ob, .inl (cob, 1, .inr (.inl fo)))] sz)) (vx_X (fun _ : Unit => True) (fun (E : String) (_ : Unit) (_ : State) => False) (va_A [(h0, .inr (11, [.ref t0, .ref b0, .ref c0, .ref r0, .ref d0, .ref e0, .ref o0, .ref s0, .ref p0, .ref w0, .int 0, .int 0, .int 0, .int 0, .int ((-1)), .int 0])), (b0, .inr (0, [.ref bt, .int 0])), (ob, .inl (cob, 1, .inr (.inl fo)))] sz)) 1 6 (va_A [(h0, .inr (11, [.ref t0, .ref b0, .ref c0, .ref r0, .ref d0, .ref e0, .ref o0, .ref s0, .ref p0, .ref w0, .int 0, .int 0, .int 0, .int 0, .int ((-1)), .int 0])), (b0, .inr (0, [.ref bt, .int 0])), (ob, .inl (cob, 1, .inr (.inl fo)))] sz) := by
  refine vx_ofWH (cc := cL_coming) (maxL := 6) (ret := (some .int)) (hh := [(0, 12, 15, 20), (0, 12, 19, 13), (0, 12, 23, 15)]) (by decide) rfl ?_
  intro p e s m args below meth c s₁ B hml hv
  obtain ⟨rfl, hsz, hz, hP, hK, hD0⟩ := hv
  have hx := B.exec
  have hb := B.bytes
  have hr := B.returns
  have hts := atoms_spec (ws := wsL_coming) B.pre
  have hown : s.vm.findClass RL = some m.cls := findClass_of_methodNamed B.named
  have hlocks := B.notSynchronized
  have htab := vx_table (x := yL_coming) B (hts (.codeWith yL_coming cL_coming 6 (some .int) [(0, 12, 15, 20), (0, 12, 19, 13), (0, 12, 23, 15)]) List.mem_cons_self)
  subst hsz
  have hD := hD0.self (sz := s.heap.size)
  generalize hAe : va_A [(h0, .inr (11, [.ref t0, .ref b0, .ref c0, .ref r0, .ref d0, .ref e0, .ref o0, .ref s0, .ref p0, .ref w0, .int 0, .int 0, .int 0, .int 0, .int ((-1)), .int 0])), (b0, .inr (0, [.ref bt, .int 0])), (ob, .inl (cob, 1, .inr (.inl fo)))] s.heap.size = A at hD hA0 ⊢
  have hA : ∀ q : Nat, s.heap.size ≤ q → A q := fun q h => by rw [← hAe]; exact Or.inr h
  have hS : va_S A s.heap s.heap [] := va_S.rf
  have hl := lv_entry ([.ref h0, .int x0, .int x1, .int x2, .ref ob]) (n := 6) (Nat.le_of_ble_eq_true rfl)
  rw [lg_entry_eq]
  generalize (lg_sl ([.ref h0, .int x0, .int x1, .int x2, .ref ob]) ++ List.replicate (6 - (lg_sl ([.ref h0, .int x0, .int x1, .int x2, .ref ob])).length) Slot.unset).toArray = ls at hl ⊢
  have hl : lv_has ls 6 [(0, .ref h0), (1, .int x0), (2, .int x1), (3, .int x2), (4, .ref ob)] := hl
  have hP : va_P (dC, dI) vwCl [(h0, .inr (11, [.ref t0, .ref b0, .ref c0, .ref r0, .ref d0, .ref e0, .ref o0, .ref s0, .ref p0, .ref w0, .int 0, .int 0, .int 0, .int 0, .int ((-1)), .int 0])), (b0, .inr (0, [.ref bt, .int 0])), (ob, .inl (cob, 1, .inr (.inl fo)))] s.heap := hP
  have hw0 := hts (.classLink RL 20 "java/lang/IndexOutOfBoundsException") (by decide +kernel)
  refine lv_aload hx hb dL_coming_0 (lv_at hl 4 rfl) ?_
  refine lv_iconst (v := 0) hx hb dL_coming_2 (by decide) ?_
  refine lv_aload_n hx hb dL_coming_3 rfl (lv_at hl 0 rfl) ?_
  refine lv_iload_n hx hb dL_coming_4 rfl (lv_at hl 1 rfl) ?_
  refine lv_iload_n hx hb dL_coming_5 rfl (lv_at hl 2 rfl) ?_
  refine lv_iload_n hx hb dL_coming_6 rfl (lv_at hl 3 rfl) ?_
  have hPc := hP.sub (ws' := [(h0, .inr (11, [.ref t0, .ref b0, .ref c0, .ref r0, .ref d0, .ref e0, .ref o0, .ref s0, .ref p0, .ref w0, .int 0, .int 0, .int 0, .int 0, .int ((-1)), .int 0])), (b0, .inr (0, [.ref bt, .int 0]))]) [0, 1] rfl
  have hDc := hD.sub (ws' := [(h0, .inr (11, [.ref t0, .ref b0, .ref c0, .ref r0, .ref d0, .ref e0, .ref o0, .ref s0, .ref p0, .ref w0, .int 0, .int 0, .int 0, .int 0, .int ((-1)), .int 0])), (b0, .inr (0, [.ref bt, .int 0]))]) [0, 1] (by decide) rfl
  have hKc := hK.sub (tys' := []) [] rfl
  have hFc := va_free (wc := [(h0, .inr (11, [.ref t0, .ref b0, .ref c0, .ref r0, .ref d0, .ref e0, .ref o0, .ref s0, .ref p0, .ref w0, .int 0, .int 0, .int 0, .int 0, .int ((-1)), .int 0])), (b0, .inr (0, [.ref bt, .int 0]))]) hD hS hA [0, 1] rfl
  refine vx_calli (vx_runV (As := [.int x0, .int x1, .int x2]) (rest := [.int 0, .ref ob]) ⟨hx, hb, hml, hown, hts⟩ (c_coming l hl0 dC dI A0 ad s.heap.size h0 t0 b0 c0 r0 d0 e0 o0 s0 p0 w0 bt x0 x1 x2 (fun q h => hA0 q (hFc q h))) (cwV 3 hts gL_coming_X11_coming rfl rfl rfl (by decide +kernel) ⟨Nat.le_of_ble_eq_true rfl, Nat.le_of_ble_eq_true rfl⟩) ⟨zPc_bl, va_recv hKc hPc (ci := 11) (q0 := 0) rfl rfl, zPc_at hz hS hA0 hPc hKc hDc⟩ rfl rfl hl.1 rfl (lv_room (Nat.le_of_ble_eq_true rfl)) dL_coming_7 ⟨Nat.le_of_ble_eq_true rfl, Nat.le_of_ble_eq_true rfl⟩) hS (fun q _ h => hFc q h) hFc (fun q _ h => hFc q h) (fun E ce q9 u t H1 locs ht hvm hw hB hz1 hk1 hS hce hcv hcl => ?_) (fun r1 u t H1 locs ht hvm hw hB hz1 hk1 hS => ?_)
  · skip
    have hB : E = "java/lang/IndexOutOfBoundsException" := hB
    obtain rfl := hB
    obtain ⟨hP, hD⟩ := va_join (wr := [(ob, .inl (cob, 1, .inr (.inl fo)))]) (w1 := []) hP hD [0, 1] [2] rfl rfl (by decide) (by decide) hk1 hFc zP0 zD0
    have hK := hK.sub (tys' := [(cob, .long)]) [0] rfl
    generalize H1 = H at hP hS hce ⊢
    have hP : va_P (dC, dI) vwCl [(ob, .inl (cob, 1, .inr (.inl fo)))] H := hP
    have hD : va_D A [(ob, .inl (cob, 1, .inr (.inl fo)))] := hD
    refine vx_catch hown [] { startPc := 0, endPc := 12, handlerPc := 15, catchType := 20 } _ (by rw [htab]; rfl) (fun z h9 => absurd h9 List.not_mem_nil) (by decide) (by decide) hw0 (va_Nw.use rfl (hz.2.2.2.2.2.2.2.1 _ (List.mem_of_getElem? (i := 0) rfl))) hce hcv hcl ?_
    refine W.widen (k := 1) (n := 6) (by decide) (by decide) ?_
    refine lv_astore (lv' := [(5, .ref q9), (0, .ref h0), (1, .int x0), (2, .int x1), (3, .int x2), (4, .ref ob)]) hx hb dL_coming_15 hl (by decide) rfl (fun ls hl => ?_)
    refine lv_iconst (v := 1) hx hb dL_coming_17 (by decide) ?_
    have hP9 := hP.sub (ws' := [(ob, .inl (cob, 1, .inr (.inl fo)))]) [0] rfl
    have hD9 := hD.sub (ws' := [(ob, .inl (cob, 1, .inr (.inl fo)))]) [0] (by decide) rfl
    have hK9 := hK.sub (tys' := [(cob, .long)]) [0] rfl
    refine W.widen (k := 1) (n := 6) (by decide) (by decide) ?_
    refine vx_ret ?_
    exact W.iret (v := 1) hx hb hr (fun t ht hW => ⟨⟨1, (), rfl, rfl, ⟨by rw [ht]; exact hP9, va_K.moved hW.alike hK9, hD9⟩⟩, hS.F ht⟩) hS.2.2 dL_coming_18
  · exact hw.elim
set_option maxHeartbeats 4000000 in
set_option maxRecDepth 100000 in
/-- the law's stock -/
theorem c_L_stock (l : Launch) (hl0 : l.stackTraces = false) (dC : Nat → ClassId) (dI : Nat → Nat → Nat) (A0 : Nat → Prop) (ad : Nat → Nat) (sz : Nat) (h0 t0 b0 c0 r0 d0 e0 o0 s0 p0 w0 : Nat) (bt : Nat) (x0 : Int32) (ob : Nat) (cob : ClassId) (fo : Nat → Int64) (hA0 : ∀ q, va_A [(h0, .inr (11, [.ref t0, .ref b0, .ref c0, .ref r0, .ref d0, .ref e0, .ref o0, .ref s0, .ref p0, .ref w0, .int 0, .int 0, .int 0, .int 0, .int ((-1)), .int 0])), (b0, .inr (0, [.ref bt, .int 0])), (ob, .inl (cob, 1, .inr (.inl fo)))] sz q → A0 q) : vx_Met l yL_stock wsL_stock ({ frames := 8, cells := 1, slots := 6, locals := 125 }) (va_Pc [.ref h0, .int x0, .ref ob] (zPc A0 ad (dC, dI) [(h0, .inr (11, [.ref t0, .ref b0, .ref c0, .ref r0, .ref d0, .ref e0, .ref o0, .ref s0, .ref p0, .ref w0, .int 0, .int 0, .int 0, .int 0, .int ((-1)), .int 0])), (b0, .inr (0, [.ref bt, .int 0])), (ob, .inl (cob, 1, .inr (.inl fo)))] [(cob, .long)] sz)) (va_Qi (fun (r : Int32) (_ : Unit) => r = 1) (fun (_ : Unit) (t : State) => zB (dC, dI) (va_A [(h0, .inr (11, [.ref t0, .ref b0, .ref c0, .ref r0, .ref d0, .ref e0, .ref o0, .ref s0, .ref p0, .ref w0, .int 0, .int 0, .int 0, .int 0, .int ((-1)), .int 0])), (b0, .inr (0, [.ref bt, .int 0])), (ob, .inl (cob, 1, .inr (.inl fo)))] sz) [(ob, .inl (cob, 1, .inr (.inl fo)))] [(cob, .long)] t) (va_A [(h0, .inr (11, [.ref t0, .ref b0, .ref c0, .ref r0, .ref d0, .ref e0, .ref o0, .ref s0, .ref p0, .ref w0, .int 0, .int 0, .int 0, .int 0, .int ((-1)), .int 0])), (b0, .inr (0, [.ref bt, .int 0])), (ob, .inl (cob, 1, .inr (.inl fo)))] sz)) (vx_X (fun _ : Unit => True) (fun (E : String) (_ : Unit) (_ : State) => False) (va_A [(h0, .inr (11, [.ref t0, .ref b0, .ref c0, .ref r0, .ref d0, .ref e0, .ref o0, .ref s0, .ref p0, .ref w0, .int 0, .int 0, .int 0, .int 0, .int ((-1)), .int 0])), (b0, .inr (0, [.ref bt, .int 0])), (ob, .inl (cob, 1, .inr (.inl fo)))] sz)) 1 6 (va_A [(h0, .inr (11, [.ref t0, .ref b0, .ref c0, .ref r0, .ref d0, .ref e0, .ref o0, .ref s0, .ref p0, .ref w0, .int 0, .int 0, .int 0, .int 0, .int ((-1)), .int 0])), (b0, .inr (0, [.ref bt, .int 0])), (ob, .inl (cob, 1, .inr (.inl fo)))] sz) := by
  refine vx_ofWH (cc := cL_stock) (maxL := 4) (ret := (some .int)) (hh := [(0, 9, 12, 20)]) (by decide) rfl ?_
  intro p e s m args below meth c s₁ B hml hv
  obtain ⟨rfl, hsz, hz, hP, hK, hD0⟩ := hv
  have hx := B.exec
  have hb := B.bytes
  have hr := B.returns
  have hts := atoms_spec (ws := wsL_stock) B.pre
  have hown : s.vm.findClass RL = some m.cls := findClass_of_methodNamed B.named
  have hlocks := B.notSynchronized
  have htab := vx_table (x := yL_stock) B (hts (.codeWith yL_stock cL_stock 4 (some .int) [(0, 9, 12, 20)]) List.mem_cons_self)
  subst hsz
  have hD := hD0.self (sz := s.heap.size)
  generalize hAe : va_A [(h0, .inr (11, [.ref t0, .ref b0, .ref c0, .ref r0, .ref d0, .ref e0, .ref o0, .ref s0, .ref p0, .ref w0, .int 0, .int 0, .int 0, .int 0, .int ((-1)), .int 0])), (b0, .inr (0, [.ref bt, .int 0])), (ob, .inl (cob, 1, .inr (.inl fo)))] s.heap.size = A at hD hA0 ⊢
  have hA : ∀ q : Nat, s.heap.size ≤ q → A q := fun q h => by rw [← hAe]; exact Or.inr h
  have hS : va_S A s.heap s.heap [] := va_S.rf
  have hl := lv_entry ([.ref h0, .int x0, .ref ob]) (n := 4) (Nat.le_of_ble_eq_true rfl)
  rw [lg_entry_eq]
  generalize (lg_sl ([.ref h0, .int x0, .ref ob]) ++ List.replicate (4 - (lg_sl ([.ref h0, .int x0, .ref ob])).length) Slot.unset).toArray = ls at hl ⊢
  have hl : lv_has ls 4 [(0, .ref h0), (1, .int x0), (2, .ref ob)] := hl
  have hP : va_P (dC, dI) vwCl [(h0, .inr (11, [.ref t0, .ref b0, .ref c0, .ref r0, .ref d0, .ref e0, .ref o0, .ref s0, .ref p0, .ref w0, .int 0, .int 0, .int 0, .int 0, .int ((-1)), .int 0])), (b0, .inr (0, [.ref bt, .int 0])), (ob, .inl (cob, 1, .inr (.inl fo)))] s.heap := hP
  have hw0 := hts (.classLink RL 20 "java/lang/IndexOutOfBoundsException") (by decide +kernel)
  refine lv_aload_n hx hb dL_stock_0 rfl (lv_at hl 2 rfl) ?_
  refine lv_iconst (v := 0) hx hb dL_stock_1 (by decide) ?_
  refine lv_aload_n hx hb dL_stock_2 rfl (lv_at hl 0 rfl) ?_
  refine lv_iload_n hx hb dL_stock_3 rfl (lv_at hl 1 rfl) ?_
  have hPc := hP.sub (ws' := [(h0, .inr (11, [.ref t0, .ref b0, .ref c0, .ref r0, .ref d0, .ref e0, .ref o0, .ref s0, .ref p0, .ref w0, .int 0, .int 0, .int 0, .int 0, .int ((-1)), .int 0])), (b0, .inr (0, [.ref bt, .int 0]))]) [0, 1] rfl
  have hDc := hD.sub (ws' := [(h0, .inr (11, [.ref t0, .ref b0, .ref c0, .ref r0, .ref d0, .ref e0, .ref o0, .ref s0, .ref p0, .ref w0, .int 0, .int 0, .int 0, .int 0, .int ((-1)), .int 0])), (b0, .inr (0, [.ref bt, .int 0]))]) [0, 1] (by decide) rfl
  have hKc := hK.sub (tys' := []) [] rfl
  have hFc := va_free (wc := [(h0, .inr (11, [.ref t0, .ref b0, .ref c0, .ref r0, .ref d0, .ref e0, .ref o0, .ref s0, .ref p0, .ref w0, .int 0, .int 0, .int 0, .int 0, .int ((-1)), .int 0])), (b0, .inr (0, [.ref bt, .int 0]))]) hD hS hA [0, 1] rfl
  refine vx_calli (vx_runV (As := [.int x0]) (rest := [.int 0, .ref ob]) ⟨hx, hb, hml, hown, hts⟩ (c_stock l hl0 dC dI A0 ad s.heap.size h0 t0 b0 c0 r0 d0 e0 o0 s0 p0 w0 bt x0 (fun q h => hA0 q (hFc q h))) (cwV 1 hts gL_stock_X11_stock rfl rfl rfl (by decide +kernel) ⟨Nat.le_of_ble_eq_true rfl, Nat.le_of_ble_eq_true rfl⟩) ⟨zPc_bl, va_recv hKc hPc (ci := 11) (q0 := 0) rfl rfl, zPc_at hz hS hA0 hPc hKc hDc⟩ rfl rfl hl.1 rfl (lv_room (Nat.le_of_ble_eq_true rfl)) dL_stock_4 ⟨Nat.le_of_ble_eq_true rfl, Nat.le_of_ble_eq_true rfl⟩) hS (fun q _ h => hFc q h) hFc (fun q _ h => hFc q h) (fun E ce q9 u t H1 locs ht hvm hw hB hz1 hk1 hS hce hcv hcl => ?_) (fun r1 u t H1 locs ht hvm hw hB hz1 hk1 hS => ?_)
  · skip
    have hB : E = "java/lang/IndexOutOfBoundsException" := hB
    obtain rfl := hB
    obtain ⟨hP, hD⟩ := va_join (wr := [(ob, .inl (cob, 1, .inr (.inl fo)))]) (w1 := []) hP hD [0, 1] [2] rfl rfl (by decide) (by decide) hk1 hFc zP0 zD0
    have hK := hK.sub (tys' := [(cob, .long)]) [0] rfl
    generalize H1 = H at hP hS hce ⊢
    have hP : va_P (dC, dI) vwCl [(ob, .inl (cob, 1, .inr (.inl fo)))] H := hP
    have hD : va_D A [(ob, .inl (cob, 1, .inr (.inl fo)))] := hD
    refine vx_catch hown [] { startPc := 0, endPc := 9, handlerPc := 12, catchType := 20 } _ (by rw [htab]; rfl) (fun z h9 => absurd h9 List.not_mem_nil) (by decide) (by decide) hw0 (va_Nw.use rfl (hz.2.2.2.2.2.2.2.1 _ (List.mem_of_getElem? (i := 0) rfl))) hce hcv hcl ?_
    refine W.widen (k := 1) (n := 6) (by decide) (by decide) ?_
    refine lv_astore_n (lv' := [(3, .ref q9), (0, .ref h0), (1, .int x0), (2, .ref ob)]) hx hb dL_stock_12 rfl hl (by decide) rfl (fun ls hl => ?_)
    refine lv_iconst (v := 1) hx hb dL_stock_13 (by decide) ?_
    have hP9 := hP.sub (ws' := [(ob, .inl (cob, 1, .inr (.inl fo)))]) [0] rfl
    have hD9 := hD.sub (ws' := [(ob, .inl (cob, 1, .inr (.inl fo)))]) [0] (by decide) rfl
    have hK9 := hK.sub (tys' := [(cob, .long)]) [0] rfl
    refine W.widen (k := 1) (n := 6) (by decide) (by decide) ?_
    refine vx_ret ?_
    exact W.iret (v := 1) hx hb hr (fun t ht hW => ⟨⟨1, (), rfl, rfl, ⟨by rw [ht]; exact hP9, va_K.moved hW.alike hK9, hD9⟩⟩, hS.F ht⟩) hS.2.2 dL_stock_14
  · exact hw.elim
set_option maxHeartbeats 4000000 in
set_option maxRecDepth 100000 in
/-- the law's pick -/
theorem c_L_pick (l : Launch) (hl0 : l.stackTraces = false) (dC : Nat → ClassId) (dI : Nat → Nat → Nat) (A0 : Nat → Prop) (ad : Nat → Nat) (sz : Nat) (h0 t0 b0 c0 r0 d0 e0 o0 s0 p0 w0 : Nat) (bt : Nat) (x0 : Int32) (ob : Nat) (cob : ClassId) (fo : Nat → Int64) (hA0 : ∀ q, va_A [(h0, .inr (11, [.ref t0, .ref b0, .ref c0, .ref r0, .ref d0, .ref e0, .ref o0, .ref s0, .ref p0, .ref w0, .int 0, .int 0, .int 0, .int 0, .int ((-1)), .int 0])), (b0, .inr (0, [.ref bt, .int 0])), (ob, .inl (cob, 1, .inr (.inl fo)))] sz q → A0 q) : vx_Met l yL_pick wsL_pick ({ frames := 8, cells := 1, slots := 6, locals := 125 }) (va_Pc [.ref h0, .int x0, .ref ob] (zPc A0 ad (dC, dI) [(h0, .inr (11, [.ref t0, .ref b0, .ref c0, .ref r0, .ref d0, .ref e0, .ref o0, .ref s0, .ref p0, .ref w0, .int 0, .int 0, .int 0, .int 0, .int ((-1)), .int 0])), (b0, .inr (0, [.ref bt, .int 0])), (ob, .inl (cob, 1, .inr (.inl fo)))] [(cob, .long)] sz)) (va_Qi (fun (r : Int32) (_ : Unit) => r = 1) (fun (_ : Unit) (t : State) => zB (dC, dI) (va_A [(h0, .inr (11, [.ref t0, .ref b0, .ref c0, .ref r0, .ref d0, .ref e0, .ref o0, .ref s0, .ref p0, .ref w0, .int 0, .int 0, .int 0, .int 0, .int ((-1)), .int 0])), (b0, .inr (0, [.ref bt, .int 0])), (ob, .inl (cob, 1, .inr (.inl fo)))] sz) [(ob, .inl (cob, 1, .inr (.inl fo)))] [(cob, .long)] t) (va_A [(h0, .inr (11, [.ref t0, .ref b0, .ref c0, .ref r0, .ref d0, .ref e0, .ref o0, .ref s0, .ref p0, .ref w0, .int 0, .int 0, .int 0, .int 0, .int ((-1)), .int 0])), (b0, .inr (0, [.ref bt, .int 0])), (ob, .inl (cob, 1, .inr (.inl fo)))] sz)) (vx_X (fun _ : Unit => True) (fun (E : String) (_ : Unit) (_ : State) => False) (va_A [(h0, .inr (11, [.ref t0, .ref b0, .ref c0, .ref r0, .ref d0, .ref e0, .ref o0, .ref s0, .ref p0, .ref w0, .int 0, .int 0, .int 0, .int 0, .int ((-1)), .int 0])), (b0, .inr (0, [.ref bt, .int 0])), (ob, .inl (cob, 1, .inr (.inl fo)))] sz)) 1 6 (va_A [(h0, .inr (11, [.ref t0, .ref b0, .ref c0, .ref r0, .ref d0, .ref e0, .ref o0, .ref s0, .ref p0, .ref w0, .int 0, .int 0, .int 0, .int 0, .int ((-1)), .int 0])), (b0, .inr (0, [.ref bt, .int 0])), (ob, .inl (cob, 1, .inr (.inl fo)))] sz) := by
  refine vx_ofWH (cc := cL_pick) (maxL := 4) (ret := (some .int)) (hh := [(0, 9, 12, 20)]) (by decide) rfl ?_
  intro p e s m args below meth c s₁ B hml hv
  obtain ⟨rfl, hsz, hz, hP, hK, hD0⟩ := hv
  have hx := B.exec
  have hb := B.bytes
  have hr := B.returns
  have hts := atoms_spec (ws := wsL_pick) B.pre
  have hown : s.vm.findClass RL = some m.cls := findClass_of_methodNamed B.named
  have hlocks := B.notSynchronized
  have htab := vx_table (x := yL_pick) B (hts (.codeWith yL_pick cL_pick 4 (some .int) [(0, 9, 12, 20)]) List.mem_cons_self)
  subst hsz
  have hD := hD0.self (sz := s.heap.size)
  generalize hAe : va_A [(h0, .inr (11, [.ref t0, .ref b0, .ref c0, .ref r0, .ref d0, .ref e0, .ref o0, .ref s0, .ref p0, .ref w0, .int 0, .int 0, .int 0, .int 0, .int ((-1)), .int 0])), (b0, .inr (0, [.ref bt, .int 0])), (ob, .inl (cob, 1, .inr (.inl fo)))] s.heap.size = A at hD hA0 ⊢
  have hA : ∀ q : Nat, s.heap.size ≤ q → A q := fun q h => by rw [← hAe]; exact Or.inr h
  have hS : va_S A s.heap s.heap [] := va_S.rf
  have hl := lv_entry ([.ref h0, .int x0, .ref ob]) (n := 4) (Nat.le_of_ble_eq_true rfl)
  rw [lg_entry_eq]
  generalize (lg_sl ([.ref h0, .int x0, .ref ob]) ++ List.replicate (4 - (lg_sl ([.ref h0, .int x0, .ref ob])).length) Slot.unset).toArray = ls at hl ⊢
  have hl : lv_has ls 4 [(0, .ref h0), (1, .int x0), (2, .ref ob)] := hl
  have hP : va_P (dC, dI) vwCl [(h0, .inr (11, [.ref t0, .ref b0, .ref c0, .ref r0, .ref d0, .ref e0, .ref o0, .ref s0, .ref p0, .ref w0, .int 0, .int 0, .int 0, .int 0, .int ((-1)), .int 0])), (b0, .inr (0, [.ref bt, .int 0])), (ob, .inl (cob, 1, .inr (.inl fo)))] s.heap := hP
  have hw0 := hts (.classLink RL 20 "java/lang/IndexOutOfBoundsException") (by decide +kernel)
  refine lv_aload_n hx hb dL_pick_0 rfl (lv_at hl 2 rfl) ?_
  refine lv_iconst (v := 0) hx hb dL_pick_1 (by decide) ?_
  refine lv_aload_n hx hb dL_pick_2 rfl (lv_at hl 0 rfl) ?_
  refine lv_iload_n hx hb dL_pick_3 rfl (lv_at hl 1 rfl) ?_
  have hPc := hP.sub (ws' := [(h0, .inr (11, [.ref t0, .ref b0, .ref c0, .ref r0, .ref d0, .ref e0, .ref o0, .ref s0, .ref p0, .ref w0, .int 0, .int 0, .int 0, .int 0, .int ((-1)), .int 0])), (b0, .inr (0, [.ref bt, .int 0]))]) [0, 1] rfl
  have hDc := hD.sub (ws' := [(h0, .inr (11, [.ref t0, .ref b0, .ref c0, .ref r0, .ref d0, .ref e0, .ref o0, .ref s0, .ref p0, .ref w0, .int 0, .int 0, .int 0, .int 0, .int ((-1)), .int 0])), (b0, .inr (0, [.ref bt, .int 0]))]) [0, 1] (by decide) rfl
  have hKc := hK.sub (tys' := []) [] rfl
  have hFc := va_free (wc := [(h0, .inr (11, [.ref t0, .ref b0, .ref c0, .ref r0, .ref d0, .ref e0, .ref o0, .ref s0, .ref p0, .ref w0, .int 0, .int 0, .int 0, .int 0, .int ((-1)), .int 0])), (b0, .inr (0, [.ref bt, .int 0]))]) hD hS hA [0, 1] rfl
  refine vx_calli (vx_runV (As := [.int x0]) (rest := [.int 0, .ref ob]) ⟨hx, hb, hml, hown, hts⟩ (c_pick l hl0 dC dI A0 ad s.heap.size h0 t0 b0 c0 r0 d0 e0 o0 s0 p0 w0 bt x0 (fun q h => hA0 q (hFc q h))) (cwV 1 hts gL_pick_X11_pick rfl rfl rfl (by decide +kernel) ⟨Nat.le_of_ble_eq_true rfl, Nat.le_of_ble_eq_true rfl⟩) ⟨zPc_bl, va_recv hKc hPc (ci := 11) (q0 := 0) rfl rfl, zPc_at hz hS hA0 hPc hKc hDc⟩ rfl rfl hl.1 rfl (lv_room (Nat.le_of_ble_eq_true rfl)) dL_pick_4 ⟨Nat.le_of_ble_eq_true rfl, Nat.le_of_ble_eq_true rfl⟩) hS (fun q _ h => hFc q h) hFc (fun q _ h => hFc q h) (fun E ce q9 u t H1 locs ht hvm hw hB hz1 hk1 hS hce hcv hcl => ?_) (fun r1 u t H1 locs ht hvm hw hB hz1 hk1 hS => ?_)
  · skip
    have hB : E = "java/lang/IndexOutOfBoundsException" := hB
    obtain rfl := hB
    obtain ⟨hP, hD⟩ := va_join (wr := [(ob, .inl (cob, 1, .inr (.inl fo)))]) (w1 := []) hP hD [0, 1] [2] rfl rfl (by decide) (by decide) hk1 hFc zP0 zD0
    have hK := hK.sub (tys' := [(cob, .long)]) [0] rfl
    generalize H1 = H at hP hS hce ⊢
    have hP : va_P (dC, dI) vwCl [(ob, .inl (cob, 1, .inr (.inl fo)))] H := hP
    have hD : va_D A [(ob, .inl (cob, 1, .inr (.inl fo)))] := hD
    refine vx_catch hown [] { startPc := 0, endPc := 9, handlerPc := 12, catchType := 20 } _ (by rw [htab]; rfl) (fun z h9 => absurd h9 List.not_mem_nil) (by decide) (by decide) hw0 (va_Nw.use rfl (hz.2.2.2.2.2.2.2.1 _ (List.mem_of_getElem? (i := 0) rfl))) hce hcv hcl ?_
    refine W.widen (k := 1) (n := 6) (by decide) (by decide) ?_
    refine lv_astore_n (lv' := [(3, .ref q9), (0, .ref h0), (1, .int x0), (2, .ref ob)]) hx hb dL_pick_12 rfl hl (by decide) rfl (fun ls hl => ?_)
    refine lv_iconst (v := 1) hx hb dL_pick_13 (by decide) ?_
    have hP9 := hP.sub (ws' := [(ob, .inl (cob, 1, .inr (.inl fo)))]) [0] rfl
    have hD9 := hD.sub (ws' := [(ob, .inl (cob, 1, .inr (.inl fo)))]) [0] (by decide) rfl
    have hK9 := hK.sub (tys' := [(cob, .long)]) [0] rfl
    refine W.widen (k := 1) (n := 6) (by decide) (by decide) ?_
    refine vx_ret ?_
    exact W.iret (v := 1) hx hb hr (fun t ht hW => ⟨⟨1, (), rfl, rfl, ⟨by rw [ht]; exact hP9, va_K.moved hW.alike hK9, hD9⟩⟩, hS.F ht⟩) hS.2.2 dL_pick_14
  · exact hw.elim
set_option maxHeartbeats 4000000 in
set_option maxRecDepth 100000 in
/-- the law's foretold -/
theorem c_L_foretold (l : Launch) (hl0 : l.stackTraces = false) (dC : Nat → ClassId) (dI : Nat → Nat → Nat) (A0 : Nat → Prop) (ad : Nat → Nat) (sz : Nat) (h0 t0 b0 c0 r0 d0 e0 o0 s0 p0 w0 : Nat) (bt : Nat) (x0 x1 x2 x3 x4 : Int32) (ob : Nat) (cob : ClassId) (fo : Nat → Int64) (hA0 : ∀ q, va_A [(h0, .inr (11, [.ref t0, .ref b0, .ref c0, .ref r0, .ref d0, .ref e0, .ref o0, .ref s0, .ref p0, .ref w0, .int 0, .int 0, .int 0, .int 0, .int ((-1)), .int 0])), (b0, .inr (0, [.ref bt, .int 0])), (ob, .inl (cob, 1, .inr (.inl fo)))] sz q → A0 q) : vx_Met l yL_foretold wsL_foretold ({ frames := 8, cells := 1, slots := 6, locals := 133 }) (va_Pc [.ref h0, .int x0, .int x1, .int x2, .int x3, .int x4, .ref ob] (zPc A0 ad (dC, dI) [(h0, .inr (11, [.ref t0, .ref b0, .ref c0, .ref r0, .ref d0, .ref e0, .ref o0, .ref s0, .ref p0, .ref w0, .int 0, .int 0, .int 0, .int 0, .int ((-1)), .int 0])), (b0, .inr (0, [.ref bt, .int 0])), (ob, .inl (cob, 1, .inr (.inl fo)))] [(cob, .long)] sz)) (va_Qi (fun (r : Int32) (_ : Unit) => r = 1) (fun (_ : Unit) (t : State) => zB (dC, dI) (va_A [(h0, .inr (11, [.ref t0, .ref b0, .ref c0, .ref r0, .ref d0, .ref e0, .ref o0, .ref s0, .ref p0, .ref w0, .int 0, .int 0, .int 0, .int 0, .int ((-1)), .int 0])), (b0, .inr (0, [.ref bt, .int 0])), (ob, .inl (cob, 1, .inr (.inl fo)))] sz) [(ob, .inl (cob, 1, .inr (.inl fo)))] [(cob, .long)] t) (va_A [(h0, .inr (11, [.ref t0, .ref b0, .ref c0, .ref r0, .ref d0, .ref e0, .ref o0, .ref s0, .ref p0, .ref w0, .int 0, .int 0, .int 0, .int 0, .int ((-1)), .int 0])), (b0, .inr (0, [.ref bt, .int 0])), (ob, .inl (cob, 1, .inr (.inl fo)))] sz)) (vx_X (fun _ : Unit => True) (fun (E : String) (_ : Unit) (_ : State) => False) (va_A [(h0, .inr (11, [.ref t0, .ref b0, .ref c0, .ref r0, .ref d0, .ref e0, .ref o0, .ref s0, .ref p0, .ref w0, .int 0, .int 0, .int 0, .int 0, .int ((-1)), .int 0])), (b0, .inr (0, [.ref bt, .int 0])), (ob, .inl (cob, 1, .inr (.inl fo)))] sz)) 1 6 (va_A [(h0, .inr (11, [.ref t0, .ref b0, .ref c0, .ref r0, .ref d0, .ref e0, .ref o0, .ref s0, .ref p0, .ref w0, .int 0, .int 0, .int 0, .int 0, .int ((-1)), .int 0])), (b0, .inr (0, [.ref bt, .int 0])), (ob, .inl (cob, 1, .inr (.inl fo)))] sz) := by
  refine vx_ofWH (cc := cL_foretold) (maxL := 8) (ret := (some .int)) (hh := [(0, 16, 19, 20), (0, 16, 23, 13), (0, 16, 27, 41)]) (by decide) rfl ?_
  intro p e s m args below meth c s₁ B hml hv
  obtain ⟨rfl, hsz, hz, hP, hK, hD0⟩ := hv
  have hx := B.exec
  have hb := B.bytes
  have hr := B.returns
  have hts := atoms_spec (ws := wsL_foretold) B.pre
  have hown : s.vm.findClass RL = some m.cls := findClass_of_methodNamed B.named
  have hlocks := B.notSynchronized
  have htab := vx_table (x := yL_foretold) B (hts (.codeWith yL_foretold cL_foretold 8 (some .int) [(0, 16, 19, 20), (0, 16, 23, 13), (0, 16, 27, 41)]) List.mem_cons_self)
  subst hsz
  have hD := hD0.self (sz := s.heap.size)
  generalize hAe : va_A [(h0, .inr (11, [.ref t0, .ref b0, .ref c0, .ref r0, .ref d0, .ref e0, .ref o0, .ref s0, .ref p0, .ref w0, .int 0, .int 0, .int 0, .int 0, .int ((-1)), .int 0])), (b0, .inr (0, [.ref bt, .int 0])), (ob, .inl (cob, 1, .inr (.inl fo)))] s.heap.size = A at hD hA0 ⊢
  have hA : ∀ q : Nat, s.heap.size ≤ q → A q := fun q h => by rw [← hAe]; exact Or.inr h
  have hS : va_S A s.heap s.heap [] := va_S.rf
  have hl := lv_entry ([.ref h0, .int x0, .int x1, .int x2, .int x3, .int x4, .ref ob]) (n := 8) (Nat.le_of_ble_eq_true rfl)
  rw [lg_entry_eq]
  generalize (lg_sl ([.ref h0, .int x0, .int x1, .int x2, .int x3, .int x4, .ref ob]) ++ List.replicate (8 - (lg_sl ([.ref h0, .int x0, .int x1, .int x2, .int x3, .int x4, .ref ob])).length) Slot.unset).toArray = ls at hl ⊢
  have hl : lv_has ls 8 [(0, .ref h0), (1, .int x0), (2, .int x1), (3, .int x2), (4, .int x3), (5, .int x4), (6, .ref ob)] := hl
  have hP : va_P (dC, dI) vwCl [(h0, .inr (11, [.ref t0, .ref b0, .ref c0, .ref r0, .ref d0, .ref e0, .ref o0, .ref s0, .ref p0, .ref w0, .int 0, .int 0, .int 0, .int 0, .int ((-1)), .int 0])), (b0, .inr (0, [.ref bt, .int 0])), (ob, .inl (cob, 1, .inr (.inl fo)))] s.heap := hP
  have hw0 := hts (.classLink RL 20 "java/lang/IndexOutOfBoundsException") (by decide +kernel)
  refine lv_aload hx hb dL_foretold_0 (lv_at hl 6 rfl) ?_
  refine lv_iconst (v := 0) hx hb dL_foretold_2 (by decide) ?_
  refine lv_aload_n hx hb dL_foretold_3 rfl (lv_at hl 0 rfl) ?_
  refine lv_iload_n hx hb dL_foretold_4 rfl (lv_at hl 1 rfl) ?_
  refine lv_iload_n hx hb dL_foretold_5 rfl (lv_at hl 2 rfl) ?_
  refine lv_iload_n hx hb dL_foretold_6 rfl (lv_at hl 3 rfl) ?_
  refine lv_iload hx hb dL_foretold_7 (lv_at hl 4 rfl) ?_
  refine lv_iload hx hb dL_foretold_9 (lv_at hl 5 rfl) ?_
  have hPc := hP.sub (ws' := [(h0, .inr (11, [.ref t0, .ref b0, .ref c0, .ref r0, .ref d0, .ref e0, .ref o0, .ref s0, .ref p0, .ref w0, .int 0, .int 0, .int 0, .int 0, .int ((-1)), .int 0])), (b0, .inr (0, [.ref bt, .int 0]))]) [0, 1] rfl
  have hDc := hD.sub (ws' := [(h0, .inr (11, [.ref t0, .ref b0, .ref c0, .ref r0, .ref d0, .ref e0, .ref o0, .ref s0, .ref p0, .ref w0, .int 0, .int 0, .int 0, .int 0, .int ((-1)), .int 0])), (b0, .inr (0, [.ref bt, .int 0]))]) [0, 1] (by decide) rfl
  have hKc := hK.sub (tys' := []) [] rfl
  have hFc := va_free (wc := [(h0, .inr (11, [.ref t0, .ref b0, .ref c0, .ref r0, .ref d0, .ref e0, .ref o0, .ref s0, .ref p0, .ref w0, .int 0, .int 0, .int 0, .int 0, .int ((-1)), .int 0])), (b0, .inr (0, [.ref bt, .int 0]))]) hD hS hA [0, 1] rfl
  refine vx_calli (vx_runV (As := [.int x0, .int x1, .int x2, .int x3, .int x4]) (rest := [.int 0, .ref ob]) ⟨hx, hb, hml, hown, hts⟩ (c_foretold l hl0 dC dI A0 ad s.heap.size h0 t0 b0 c0 r0 d0 e0 o0 s0 p0 w0 bt x0 x1 x2 x3 x4 (fun q h => hA0 q (hFc q h))) (cwV 5 hts gL_foretold_X11_foretold rfl rfl rfl (by decide +kernel) ⟨Nat.le_of_ble_eq_true rfl, Nat.le_of_ble_eq_true rfl⟩) ⟨zPc_bl, va_recv hKc hPc (ci := 11) (q0 := 0) rfl rfl, zPc_at hz hS hA0 hPc hKc hDc⟩ rfl rfl hl.1 rfl (lv_room (Nat.le_of_ble_eq_true rfl)) dL_foretold_11 ⟨Nat.le_of_ble_eq_true rfl, Nat.le_of_ble_eq_true rfl⟩) hS (fun q _ h => hFc q h) hFc (fun q _ h => hFc q h) (fun E ce q9 u t H1 locs ht hvm hw hB hz1 hk1 hS hce hcv hcl => ?_) (fun r1 u t H1 locs ht hvm hw hB hz1 hk1 hS => ?_)
  · skip
    have hB : E = "java/lang/IndexOutOfBoundsException" := hB
    obtain rfl := hB
    obtain ⟨hP, hD⟩ := va_join (wr := [(ob, .inl (cob, 1, .inr (.inl fo)))]) (w1 := []) hP hD [0, 1] [2] rfl rfl (by decide) (by decide) hk1 hFc zP0 zD0
    have hK := hK.sub (tys' := [(cob, .long)]) [0] rfl
    generalize H1 = H at hP hS hce ⊢
    have hP : va_P (dC, dI) vwCl [(ob, .inl (cob, 1, .inr (.inl fo)))] H := hP
    have hD : va_D A [(ob, .inl (cob, 1, .inr (.inl fo)))] := hD
    refine vx_catch hown [] { startPc := 0, endPc := 16, handlerPc := 19, catchType := 20 } _ (by rw [htab]; rfl) (fun z h9 => absurd h9 List.not_mem_nil) (by decide) (by decide) hw0 (va_Nw.use rfl (hz.2.2.2.2.2.2.2.1 _ (List.mem_of_getElem? (i := 0) rfl))) hce hcv hcl ?_
    refine W.widen (k := 1) (n := 6) (by decide) (by decide) ?_
    refine lv_astore (lv' := [(7, .ref q9), (0, .ref h0), (1, .int x0), (2, .int x1), (3, .int x2), (4, .int x3), (5, .int x4), (6, .ref ob)]) hx hb dL_foretold_19 hl (by decide) rfl (fun ls hl => ?_)
    refine lv_iconst (v := 1) hx hb dL_foretold_21 (by decide) ?_
    have hP9 := hP.sub (ws' := [(ob, .inl (cob, 1, .inr (.inl fo)))]) [0] rfl
    have hD9 := hD.sub (ws' := [(ob, .inl (cob, 1, .inr (.inl fo)))]) [0] (by decide) rfl
    have hK9 := hK.sub (tys' := [(cob, .long)]) [0] rfl
    refine W.widen (k := 1) (n := 6) (by decide) (by decide) ?_
    refine vx_ret ?_
    exact W.iret (v := 1) hx hb hr (fun t ht hW => ⟨⟨1, (), rfl, rfl, ⟨by rw [ht]; exact hP9, va_K.moved hW.alike hK9, hD9⟩⟩, hS.F ht⟩) hS.2.2 dL_foretold_22
  · exact hw.elim
set_option maxHeartbeats 4000000 in
set_option maxRecDepth 100000 in
/-- the law's instead -/
theorem c_L_instead (l : Launch) (hl0 : l.stackTraces = false) (dC : Nat → ClassId) (dI : Nat → Nat → Nat) (A0 : Nat → Prop) (ad : Nat → Nat) (sz : Nat) (h0 t0 b0 c0 r0 d0 e0 o0 s0 p0 w0 : Nat) (bt rn rp : Nat) (x0 : Int32) (ob : Nat) (cob : ClassId) (fo : Nat → Int64) (hA0 : ∀ q, va_A [(h0, .inr (11, [.ref t0, .ref b0, .ref c0, .ref r0, .ref d0, .ref e0, .ref o0, .ref s0, .ref p0, .ref w0, .int 0, .int 0, .int 0, .int 0, .int ((-1)), .int 0])), (b0, .inr (0, [.ref bt, .int 0])), (r0, .inr (5, [.ref rn, .ref rp])), (ob, .inl (cob, 1, .inr (.inl fo)))] sz q → A0 q) : vx_Met l yL_instead wsL_instead ({ frames := 8, cells := 1, slots := 6, locals := 125 }) (va_Pc [.ref h0, .int x0, .ref ob] (zPc A0 ad (dC, dI) [(h0, .inr (11, [.ref t0, .ref b0, .ref c0, .ref r0, .ref d0, .ref e0, .ref o0, .ref s0, .ref p0, .ref w0, .int 0, .int 0, .int 0, .int 0, .int ((-1)), .int 0])), (b0, .inr (0, [.ref bt, .int 0])), (r0, .inr (5, [.ref rn, .ref rp])), (ob, .inl (cob, 1, .inr (.inl fo)))] [(cob, .long)] sz)) (va_Qi (fun (r : Int32) (_ : Unit) => r = 1) (fun (_ : Unit) (t : State) => zB (dC, dI) (va_A [(h0, .inr (11, [.ref t0, .ref b0, .ref c0, .ref r0, .ref d0, .ref e0, .ref o0, .ref s0, .ref p0, .ref w0, .int 0, .int 0, .int 0, .int 0, .int ((-1)), .int 0])), (b0, .inr (0, [.ref bt, .int 0])), (r0, .inr (5, [.ref rn, .ref rp])), (ob, .inl (cob, 1, .inr (.inl fo)))] sz) [(ob, .inl (cob, 1, .inr (.inl fo)))] [(cob, .long)] t) (va_A [(h0, .inr (11, [.ref t0, .ref b0, .ref c0, .ref r0, .ref d0, .ref e0, .ref o0, .ref s0, .ref p0, .ref w0, .int 0, .int 0, .int 0, .int 0, .int ((-1)), .int 0])), (b0, .inr (0, [.ref bt, .int 0])), (r0, .inr (5, [.ref rn, .ref rp])), (ob, .inl (cob, 1, .inr (.inl fo)))] sz)) (vx_X (fun _ : Unit => True) (fun (E : String) (_ : Unit) (_ : State) => False) (va_A [(h0, .inr (11, [.ref t0, .ref b0, .ref c0, .ref r0, .ref d0, .ref e0, .ref o0, .ref s0, .ref p0, .ref w0, .int 0, .int 0, .int 0, .int 0, .int ((-1)), .int 0])), (b0, .inr (0, [.ref bt, .int 0])), (r0, .inr (5, [.ref rn, .ref rp])), (ob, .inl (cob, 1, .inr (.inl fo)))] sz)) 1 6 (va_A [(h0, .inr (11, [.ref t0, .ref b0, .ref c0, .ref r0, .ref d0, .ref e0, .ref o0, .ref s0, .ref p0, .ref w0, .int 0, .int 0, .int 0, .int 0, .int ((-1)), .int 0])), (b0, .inr (0, [.ref bt, .int 0])), (r0, .inr (5, [.ref rn, .ref rp])), (ob, .inl (cob, 1, .inr (.inl fo)))] sz) := by
  refine vx_ofWH (cc := cL_instead) (maxL := 4) (ret := (some .int)) (hh := [(0, 9, 12, 20)]) (by decide) rfl ?_
  intro p e s m args below meth c s₁ B hml hv
  obtain ⟨rfl, hsz, hz, hP, hK, hD0⟩ := hv
  have hx := B.exec
  have hb := B.bytes
  have hr := B.returns
  have hts := atoms_spec (ws := wsL_instead) B.pre
  have hown : s.vm.findClass RL = some m.cls := findClass_of_methodNamed B.named
  have hlocks := B.notSynchronized
  have htab := vx_table (x := yL_instead) B (hts (.codeWith yL_instead cL_instead 4 (some .int) [(0, 9, 12, 20)]) List.mem_cons_self)
  subst hsz
  have hD := hD0.self (sz := s.heap.size)
  generalize hAe : va_A [(h0, .inr (11, [.ref t0, .ref b0, .ref c0, .ref r0, .ref d0, .ref e0, .ref o0, .ref s0, .ref p0, .ref w0, .int 0, .int 0, .int 0, .int 0, .int ((-1)), .int 0])), (b0, .inr (0, [.ref bt, .int 0])), (r0, .inr (5, [.ref rn, .ref rp])), (ob, .inl (cob, 1, .inr (.inl fo)))] s.heap.size = A at hD hA0 ⊢
  have hA : ∀ q : Nat, s.heap.size ≤ q → A q := fun q h => by rw [← hAe]; exact Or.inr h
  have hS : va_S A s.heap s.heap [] := va_S.rf
  have hl := lv_entry ([.ref h0, .int x0, .ref ob]) (n := 4) (Nat.le_of_ble_eq_true rfl)
  rw [lg_entry_eq]
  generalize (lg_sl ([.ref h0, .int x0, .ref ob]) ++ List.replicate (4 - (lg_sl ([.ref h0, .int x0, .ref ob])).length) Slot.unset).toArray = ls at hl ⊢
  have hl : lv_has ls 4 [(0, .ref h0), (1, .int x0), (2, .ref ob)] := hl
  have hP : va_P (dC, dI) vwCl [(h0, .inr (11, [.ref t0, .ref b0, .ref c0, .ref r0, .ref d0, .ref e0, .ref o0, .ref s0, .ref p0, .ref w0, .int 0, .int 0, .int 0, .int 0, .int ((-1)), .int 0])), (b0, .inr (0, [.ref bt, .int 0])), (r0, .inr (5, [.ref rn, .ref rp])), (ob, .inl (cob, 1, .inr (.inl fo)))] s.heap := hP
  have hw0 := hts (.classLink RL 20 "java/lang/IndexOutOfBoundsException") (by decide +kernel)
  refine lv_aload_n hx hb dL_instead_0 rfl (lv_at hl 2 rfl) ?_
  refine lv_iconst (v := 0) hx hb dL_instead_1 (by decide) ?_
  refine lv_aload_n hx hb dL_instead_2 rfl (lv_at hl 0 rfl) ?_
  refine lv_iload_n hx hb dL_instead_3 rfl (lv_at hl 1 rfl) ?_
  have hPc := hP.sub (ws' := [(h0, .inr (11, [.ref t0, .ref b0, .ref c0, .ref r0, .ref d0, .ref e0, .ref o0, .ref s0, .ref p0, .ref w0, .int 0, .int 0, .int 0, .int 0, .int ((-1)), .int 0])), (b0, .inr (0, [.ref bt, .int 0])), (r0, .inr (5, [.ref rn, .ref rp]))]) [0, 1, 2] rfl
  have hDc := hD.sub (ws' := [(h0, .inr (11, [.ref t0, .ref b0, .ref c0, .ref r0, .ref d0, .ref e0, .ref o0, .ref s0, .ref p0, .ref w0, .int 0, .int 0, .int 0, .int 0, .int ((-1)), .int 0])), (b0, .inr (0, [.ref bt, .int 0])), (r0, .inr (5, [.ref rn, .ref rp]))]) [0, 1, 2] (by decide) rfl
  have hKc := hK.sub (tys' := []) [] rfl
  have hFc := va_free (wc := [(h0, .inr (11, [.ref t0, .ref b0, .ref c0, .ref r0, .ref d0, .ref e0, .ref o0, .ref s0, .ref p0, .ref w0, .int 0, .int 0, .int 0, .int 0, .int ((-1)), .int 0])), (b0, .inr (0, [.ref bt, .int 0])), (r0, .inr (5, [.ref rn, .ref rp]))]) hD hS hA [0, 1, 2] rfl
  refine vx_calli (vx_runV (As := [.int x0]) (rest := [.int 0, .ref ob]) ⟨hx, hb, hml, hown, hts⟩ (c_instead l hl0 dC dI A0 ad s.heap.size h0 t0 b0 c0 r0 d0 e0 o0 s0 p0 w0 bt rn rp x0 (fun q h => hA0 q (hFc q h))) (cwV 1 hts gL_instead_X11_instead rfl rfl rfl (by decide +kernel) ⟨Nat.le_of_ble_eq_true rfl, Nat.le_of_ble_eq_true rfl⟩) ⟨zPc_bl, va_recv hKc hPc (ci := 11) (q0 := 0) rfl rfl, zPc_at hz hS hA0 hPc hKc hDc⟩ rfl rfl hl.1 rfl (lv_room (Nat.le_of_ble_eq_true rfl)) dL_instead_4 ⟨Nat.le_of_ble_eq_true rfl, Nat.le_of_ble_eq_true rfl⟩) hS (fun q _ h => hFc q h) hFc (fun q _ h => hFc q h) (fun E ce q9 u t H1 locs ht hvm hw hB hz1 hk1 hS hce hcv hcl => ?_) (fun r1 u t H1 locs ht hvm hw hB hz1 hk1 hS => ?_)
  · skip
    have hB : E = "java/lang/IndexOutOfBoundsException" := hB
    obtain rfl := hB
    obtain ⟨hP, hD⟩ := va_join (wr := [(ob, .inl (cob, 1, .inr (.inl fo)))]) (w1 := []) hP hD [0, 1, 2] [3] rfl rfl (by decide) (by decide) hk1 hFc zP0 zD0
    have hK := hK.sub (tys' := [(cob, .long)]) [0] rfl
    generalize H1 = H at hP hS hce ⊢
    have hP : va_P (dC, dI) vwCl [(ob, .inl (cob, 1, .inr (.inl fo)))] H := hP
    have hD : va_D A [(ob, .inl (cob, 1, .inr (.inl fo)))] := hD
    refine vx_catch hown [] { startPc := 0, endPc := 9, handlerPc := 12, catchType := 20 } _ (by rw [htab]; rfl) (fun z h9 => absurd h9 List.not_mem_nil) (by decide) (by decide) hw0 (va_Nw.use rfl (hz.2.2.2.2.2.2.2.1 _ (List.mem_of_getElem? (i := 0) rfl))) hce hcv hcl ?_
    refine W.widen (k := 1) (n := 6) (by decide) (by decide) ?_
    refine lv_astore_n (lv' := [(3, .ref q9), (0, .ref h0), (1, .int x0), (2, .ref ob)]) hx hb dL_instead_12 rfl hl (by decide) rfl (fun ls hl => ?_)
    refine lv_iconst (v := 1) hx hb dL_instead_13 (by decide) ?_
    have hP9 := hP.sub (ws' := [(ob, .inl (cob, 1, .inr (.inl fo)))]) [0] rfl
    have hD9 := hD.sub (ws' := [(ob, .inl (cob, 1, .inr (.inl fo)))]) [0] (by decide) rfl
    have hK9 := hK.sub (tys' := [(cob, .long)]) [0] rfl
    refine W.widen (k := 1) (n := 6) (by decide) (by decide) ?_
    refine vx_ret ?_
    exact W.iret (v := 1) hx hb hr (fun t ht hW => ⟨⟨1, (), rfl, rfl, ⟨by rw [ht]; exact hP9, va_K.moved hW.alike hK9, hD9⟩⟩, hS.F ht⟩) hS.2.2 dL_instead_14
  · exact hw.elim
set_option maxHeartbeats 4000000 in
set_option maxRecDepth 100000 in
/-- the law's doubt -/
theorem c_L_doubt (l : Launch) (hl0 : l.stackTraces = false) (dC : Nat → ClassId) (dI : Nat → Nat → Nat) (A0 : Nat → Prop) (ad : Nat → Nat) (sz : Nat) (h0 t0 b0 c0 r0 d0 e0 o0 s0 p0 w0 : Nat) (x0 x1 : Int32) (ob : Nat) (cob : ClassId) (fo : Nat → Int64) (hA0 : ∀ q, va_A [(h0, .inr (11, [.ref t0, .ref b0, .ref c0, .ref r0, .ref d0, .ref e0, .ref o0, .ref s0, .ref p0, .ref w0, .int 0, .int 0, .int 0, .int 0, .int ((-1)), .int 0])), (ob, .inl (cob, 1, .inr (.inl fo)))] sz q → A0 q) : vx_Met l yL_doubt wsL_doubt ({ frames := 8, cells := 1, slots := 6, locals := 126 }) (va_Pc [.ref h0, .int x0, .int x1, .ref ob] (zPc A0 ad (dC, dI) [(h0, .inr (11, [.ref t0, .ref b0, .ref c0, .ref r0, .ref d0, .ref e0, .ref o0, .ref s0, .ref p0, .ref w0, .int 0, .int 0, .int 0, .int 0, .int ((-1)), .int 0])), (ob, .inl (cob, 1, .inr (.inl fo)))] [(cob, .long)] sz)) (va_Qi (fun (r : Int32) (_ : Unit) => r = 1) (fun (_ : Unit) (t : State) => zB (dC, dI) (va_A [(h0, .inr (11, [.ref t0, .ref b0, .ref c0, .ref r0, .ref d0, .ref e0, .ref o0, .ref s0, .ref p0, .ref w0, .int 0, .int 0, .int 0, .int 0, .int ((-1)), .int 0])), (ob, .inl (cob, 1, .inr (.inl fo)))] sz) [(ob, .inl (cob, 1, .inr (.inl fo)))] [(cob, .long)] t) (va_A [(h0, .inr (11, [.ref t0, .ref b0, .ref c0, .ref r0, .ref d0, .ref e0, .ref o0, .ref s0, .ref p0, .ref w0, .int 0, .int 0, .int 0, .int 0, .int ((-1)), .int 0])), (ob, .inl (cob, 1, .inr (.inl fo)))] sz)) (vx_X (fun _ : Unit => True) (fun (E : String) (_ : Unit) (_ : State) => False) (va_A [(h0, .inr (11, [.ref t0, .ref b0, .ref c0, .ref r0, .ref d0, .ref e0, .ref o0, .ref s0, .ref p0, .ref w0, .int 0, .int 0, .int 0, .int 0, .int ((-1)), .int 0])), (ob, .inl (cob, 1, .inr (.inl fo)))] sz)) 1 6 (va_A [(h0, .inr (11, [.ref t0, .ref b0, .ref c0, .ref r0, .ref d0, .ref e0, .ref o0, .ref s0, .ref p0, .ref w0, .int 0, .int 0, .int 0, .int 0, .int ((-1)), .int 0])), (ob, .inl (cob, 1, .inr (.inl fo)))] sz) := by
  refine vx_ofWH (cc := cL_doubt) (maxL := 5) (ret := (some .int)) (hh := [(0, 10, 13, 20), (0, 10, 17, 41)]) (by decide) rfl ?_
  intro p e s m args below meth c s₁ B hml hv
  obtain ⟨rfl, hsz, hz, hP, hK, hD0⟩ := hv
  have hx := B.exec
  have hb := B.bytes
  have hr := B.returns
  have hts := atoms_spec (ws := wsL_doubt) B.pre
  have hown : s.vm.findClass RL = some m.cls := findClass_of_methodNamed B.named
  have hlocks := B.notSynchronized
  have htab := vx_table (x := yL_doubt) B (hts (.codeWith yL_doubt cL_doubt 5 (some .int) [(0, 10, 13, 20), (0, 10, 17, 41)]) List.mem_cons_self)
  subst hsz
  have hD := hD0.self (sz := s.heap.size)
  generalize hAe : va_A [(h0, .inr (11, [.ref t0, .ref b0, .ref c0, .ref r0, .ref d0, .ref e0, .ref o0, .ref s0, .ref p0, .ref w0, .int 0, .int 0, .int 0, .int 0, .int ((-1)), .int 0])), (ob, .inl (cob, 1, .inr (.inl fo)))] s.heap.size = A at hD hA0 ⊢
  have hA : ∀ q : Nat, s.heap.size ≤ q → A q := fun q h => by rw [← hAe]; exact Or.inr h
  have hS : va_S A s.heap s.heap [] := va_S.rf
  have hl := lv_entry ([.ref h0, .int x0, .int x1, .ref ob]) (n := 5) (Nat.le_of_ble_eq_true rfl)
  rw [lg_entry_eq]
  generalize (lg_sl ([.ref h0, .int x0, .int x1, .ref ob]) ++ List.replicate (5 - (lg_sl ([.ref h0, .int x0, .int x1, .ref ob])).length) Slot.unset).toArray = ls at hl ⊢
  have hl : lv_has ls 5 [(0, .ref h0), (1, .int x0), (2, .int x1), (3, .ref ob)] := hl
  have hP : va_P (dC, dI) vwCl [(h0, .inr (11, [.ref t0, .ref b0, .ref c0, .ref r0, .ref d0, .ref e0, .ref o0, .ref s0, .ref p0, .ref w0, .int 0, .int 0, .int 0, .int 0, .int ((-1)), .int 0])), (ob, .inl (cob, 1, .inr (.inl fo)))] s.heap := hP
  have hw0 := hts (.classLink RL 20 "java/lang/IndexOutOfBoundsException") (by decide +kernel)
  refine lv_aload_n hx hb dL_doubt_0 rfl (lv_at hl 3 rfl) ?_
  refine lv_iconst (v := 0) hx hb dL_doubt_1 (by decide) ?_
  refine lv_aload_n hx hb dL_doubt_2 rfl (lv_at hl 0 rfl) ?_
  refine lv_iload_n hx hb dL_doubt_3 rfl (lv_at hl 1 rfl) ?_
  refine lv_iload_n hx hb dL_doubt_4 rfl (lv_at hl 2 rfl) ?_
  have hPc := hP.sub (ws' := [(h0, .inr (11, [.ref t0, .ref b0, .ref c0, .ref r0, .ref d0, .ref e0, .ref o0, .ref s0, .ref p0, .ref w0, .int 0, .int 0, .int 0, .int 0, .int ((-1)), .int 0]))]) [0] rfl
  have hDc := hD.sub (ws' := [(h0, .inr (11, [.ref t0, .ref b0, .ref c0, .ref r0, .ref d0, .ref e0, .ref o0, .ref s0, .ref p0, .ref w0, .int 0, .int 0, .int 0, .int 0, .int ((-1)), .int 0]))]) [0] (by decide) rfl
  have hKc := hK.sub (tys' := []) [] rfl
  have hFc := va_free (wc := [(h0, .inr (11, [.ref t0, .ref b0, .ref c0, .ref r0, .ref d0, .ref e0, .ref o0, .ref s0, .ref p0, .ref w0, .int 0, .int 0, .int 0, .int 0, .int ((-1)), .int 0]))]) hD hS hA [0] rfl
  refine vx_calli (vx_runV (As := [.int x0, .int x1]) (rest := [.int 0, .ref ob]) ⟨hx, hb, hml, hown, hts⟩ (c_doubt l hl0 dC dI A0 ad s.heap.size h0 t0 b0 c0 r0 d0 e0 o0 s0 p0 w0 x0 x1 (fun q h => hA0 q (hFc q h))) (cwV 2 hts gL_doubt_X11_doubt rfl rfl rfl (by decide +kernel) ⟨Nat.le_of_ble_eq_true rfl, Nat.le_of_ble_eq_true rfl⟩) ⟨zPc_bl, va_recv hKc hPc (ci := 11) (q0 := 0) rfl rfl, zPc_at hz hS hA0 hPc hKc hDc⟩ rfl rfl hl.1 rfl (lv_room (Nat.le_of_ble_eq_true rfl)) dL_doubt_5 ⟨Nat.le_of_ble_eq_true rfl, Nat.le_of_ble_eq_true rfl⟩) hS (fun q _ h => hFc q h) hFc (fun q _ h => hFc q h) (fun E ce q9 u t H1 locs ht hvm hw hB hz1 hk1 hS hce hcv hcl => ?_) (fun r1 u t H1 locs ht hvm hw hB hz1 hk1 hS => ?_)
  · skip
    have hB : E = "java/lang/IndexOutOfBoundsException" := hB
    obtain rfl := hB
    obtain ⟨hP, hD⟩ := va_join (wr := [(ob, .inl (cob, 1, .inr (.inl fo)))]) (w1 := []) hP hD [0] [1] rfl rfl (by decide) (by decide) hk1 hFc zP0 zD0
    have hK := hK.sub (tys' := [(cob, .long)]) [0] rfl
    generalize H1 = H at hP hS hce ⊢
    have hP : va_P (dC, dI) vwCl [(ob, .inl (cob, 1, .inr (.inl fo)))] H := hP
    have hD : va_D A [(ob, .inl (cob, 1, .inr (.inl fo)))] := hD
    refine vx_catch hown [] { startPc := 0, endPc := 10, handlerPc := 13, catchType := 20 } _ (by rw [htab]; rfl) (fun z h9 => absurd h9 List.not_mem_nil) (by decide) (by decide) hw0 (va_Nw.use rfl (hz.2.2.2.2.2.2.2.1 _ (List.mem_of_getElem? (i := 0) rfl))) hce hcv hcl ?_
    refine W.widen (k := 1) (n := 6) (by decide) (by decide) ?_
    refine lv_astore (lv' := [(4, .ref q9), (0, .ref h0), (1, .int x0), (2, .int x1), (3, .ref ob)]) hx hb dL_doubt_13 hl (by decide) rfl (fun ls hl => ?_)
    refine lv_iconst (v := 1) hx hb dL_doubt_15 (by decide) ?_
    have hP9 := hP.sub (ws' := [(ob, .inl (cob, 1, .inr (.inl fo)))]) [0] rfl
    have hD9 := hD.sub (ws' := [(ob, .inl (cob, 1, .inr (.inl fo)))]) [0] (by decide) rfl
    have hK9 := hK.sub (tys' := [(cob, .long)]) [0] rfl
    refine W.widen (k := 1) (n := 6) (by decide) (by decide) ?_
    refine vx_ret ?_
    exact W.iret (v := 1) hx hb hr (fun t ht hW => ⟨⟨1, (), rfl, rfl, ⟨by rw [ht]; exact hP9, va_K.moved hW.alike hK9, hD9⟩⟩, hS.F ht⟩) hS.2.2 dL_doubt_16
  · exact hw.elim
set_option maxHeartbeats 4000000 in
set_option maxRecDepth 100000 in
/-- the law's settle -/
theorem c_L_settle (l : Launch) (hl0 : l.stackTraces = false) (dC : Nat → ClassId) (dI : Nat → Nat → Nat) (A0 : Nat → Prop) (ad : Nat → Nat) (sz : Nat) (h0 t0 b0 c0 r0 d0 e0 o0 s0 p0 w0 : Nat) (x0 x1 : Int32) (ob : Nat) (cob : ClassId) (fo : Nat → Int64) (hA0 : ∀ q, va_A [(h0, .inr (11, [.ref t0, .ref b0, .ref c0, .ref r0, .ref d0, .ref e0, .ref o0, .ref s0, .ref p0, .ref w0, .int 0, .int 0, .int 0, .int 0, .int ((-1)), .int 0])), (ob, .inl (cob, 1, .inr (.inl fo)))] sz q → A0 q) : vx_Met l yL_settle wsL_settle ({ frames := 8, cells := 1, slots := 6, locals := 126 }) (va_Pc [.ref h0, .int x0, .int x1, .ref ob] (zPc A0 ad (dC, dI) [(h0, .inr (11, [.ref t0, .ref b0, .ref c0, .ref r0, .ref d0, .ref e0, .ref o0, .ref s0, .ref p0, .ref w0, .int 0, .int 0, .int 0, .int 0, .int ((-1)), .int 0])), (ob, .inl (cob, 1, .inr (.inl fo)))] [(cob, .long)] sz)) (va_Qi (fun (r : Int32) (_ : Unit) => r = 1) (fun (_ : Unit) (t : State) => zB (dC, dI) (va_A [(h0, .inr (11, [.ref t0, .ref b0, .ref c0, .ref r0, .ref d0, .ref e0, .ref o0, .ref s0, .ref p0, .ref w0, .int 0, .int 0, .int 0, .int 0, .int ((-1)), .int 0])), (ob, .inl (cob, 1, .inr (.inl fo)))] sz) [(ob, .inl (cob, 1, .inr (.inl fo)))] [(cob, .long)] t) (va_A [(h0, .inr (11, [.ref t0, .ref b0, .ref c0, .ref r0, .ref d0, .ref e0, .ref o0, .ref s0, .ref p0, .ref w0, .int 0, .int 0, .int 0, .int 0, .int ((-1)), .int 0])), (ob, .inl (cob, 1, .inr (.inl fo)))] sz)) (vx_X (fun _ : Unit => True) (fun (E : String) (_ : Unit) (_ : State) => False) (va_A [(h0, .inr (11, [.ref t0, .ref b0, .ref c0, .ref r0, .ref d0, .ref e0, .ref o0, .ref s0, .ref p0, .ref w0, .int 0, .int 0, .int 0, .int 0, .int ((-1)), .int 0])), (ob, .inl (cob, 1, .inr (.inl fo)))] sz)) 1 6 (va_A [(h0, .inr (11, [.ref t0, .ref b0, .ref c0, .ref r0, .ref d0, .ref e0, .ref o0, .ref s0, .ref p0, .ref w0, .int 0, .int 0, .int 0, .int 0, .int ((-1)), .int 0])), (ob, .inl (cob, 1, .inr (.inl fo)))] sz) := by
  refine vx_ofWH (cc := cL_settle) (maxL := 5) (ret := (some .int)) (hh := [(0, 10, 13, 20), (0, 10, 17, 56), (0, 10, 21, 15)]) (by decide) rfl ?_
  intro p e s m args below meth c s₁ B hml hv
  obtain ⟨rfl, hsz, hz, hP, hK, hD0⟩ := hv
  have hx := B.exec
  have hb := B.bytes
  have hr := B.returns
  have hts := atoms_spec (ws := wsL_settle) B.pre
  have hown : s.vm.findClass RL = some m.cls := findClass_of_methodNamed B.named
  have hlocks := B.notSynchronized
  have htab := vx_table (x := yL_settle) B (hts (.codeWith yL_settle cL_settle 5 (some .int) [(0, 10, 13, 20), (0, 10, 17, 56), (0, 10, 21, 15)]) List.mem_cons_self)
  subst hsz
  have hD := hD0.self (sz := s.heap.size)
  generalize hAe : va_A [(h0, .inr (11, [.ref t0, .ref b0, .ref c0, .ref r0, .ref d0, .ref e0, .ref o0, .ref s0, .ref p0, .ref w0, .int 0, .int 0, .int 0, .int 0, .int ((-1)), .int 0])), (ob, .inl (cob, 1, .inr (.inl fo)))] s.heap.size = A at hD hA0 ⊢
  have hA : ∀ q : Nat, s.heap.size ≤ q → A q := fun q h => by rw [← hAe]; exact Or.inr h
  have hS : va_S A s.heap s.heap [] := va_S.rf
  have hl := lv_entry ([.ref h0, .int x0, .int x1, .ref ob]) (n := 5) (Nat.le_of_ble_eq_true rfl)
  rw [lg_entry_eq]
  generalize (lg_sl ([.ref h0, .int x0, .int x1, .ref ob]) ++ List.replicate (5 - (lg_sl ([.ref h0, .int x0, .int x1, .ref ob])).length) Slot.unset).toArray = ls at hl ⊢
  have hl : lv_has ls 5 [(0, .ref h0), (1, .int x0), (2, .int x1), (3, .ref ob)] := hl
  have hP : va_P (dC, dI) vwCl [(h0, .inr (11, [.ref t0, .ref b0, .ref c0, .ref r0, .ref d0, .ref e0, .ref o0, .ref s0, .ref p0, .ref w0, .int 0, .int 0, .int 0, .int 0, .int ((-1)), .int 0])), (ob, .inl (cob, 1, .inr (.inl fo)))] s.heap := hP
  have hw0 := hts (.classLink RL 20 "java/lang/IndexOutOfBoundsException") (by decide +kernel)
  refine lv_aload_n hx hb dL_settle_0 rfl (lv_at hl 3 rfl) ?_
  refine lv_iconst (v := 0) hx hb dL_settle_1 (by decide) ?_
  refine lv_aload_n hx hb dL_settle_2 rfl (lv_at hl 0 rfl) ?_
  refine lv_iload_n hx hb dL_settle_3 rfl (lv_at hl 1 rfl) ?_
  refine lv_iload_n hx hb dL_settle_4 rfl (lv_at hl 2 rfl) ?_
  have hPc := hP.sub (ws' := [(h0, .inr (11, [.ref t0, .ref b0, .ref c0, .ref r0, .ref d0, .ref e0, .ref o0, .ref s0, .ref p0, .ref w0, .int 0, .int 0, .int 0, .int 0, .int ((-1)), .int 0]))]) [0] rfl
  have hDc := hD.sub (ws' := [(h0, .inr (11, [.ref t0, .ref b0, .ref c0, .ref r0, .ref d0, .ref e0, .ref o0, .ref s0, .ref p0, .ref w0, .int 0, .int 0, .int 0, .int 0, .int ((-1)), .int 0]))]) [0] (by decide) rfl
  have hKc := hK.sub (tys' := []) [] rfl
  have hFc := va_free (wc := [(h0, .inr (11, [.ref t0, .ref b0, .ref c0, .ref r0, .ref d0, .ref e0, .ref o0, .ref s0, .ref p0, .ref w0, .int 0, .int 0, .int 0, .int 0, .int ((-1)), .int 0]))]) hD hS hA [0] rfl
  refine vx_calli (vx_runV (As := [.int x0, .int x1]) (rest := [.int 0, .ref ob]) ⟨hx, hb, hml, hown, hts⟩ (c_settle l hl0 dC dI A0 ad s.heap.size h0 t0 b0 c0 r0 d0 e0 o0 s0 p0 w0 x0 x1 (fun q h => hA0 q (hFc q h))) (cwV 2 hts gL_settle_X11_settle rfl rfl rfl (by decide +kernel) ⟨Nat.le_of_ble_eq_true rfl, Nat.le_of_ble_eq_true rfl⟩) ⟨zPc_bl, va_recv hKc hPc (ci := 11) (q0 := 0) rfl rfl, zPc_at hz hS hA0 hPc hKc hDc⟩ rfl rfl hl.1 rfl (lv_room (Nat.le_of_ble_eq_true rfl)) dL_settle_5 ⟨Nat.le_of_ble_eq_true rfl, Nat.le_of_ble_eq_true rfl⟩) hS (fun q _ h => hFc q h) hFc (fun q _ h => hFc q h) (fun E ce q9 u t H1 locs ht hvm hw hB hz1 hk1 hS hce hcv hcl => ?_) (fun r1 u t H1 locs ht hvm hw hB hz1 hk1 hS => ?_)
  · skip
    have hB : E = "java/lang/IndexOutOfBoundsException" := hB
    obtain rfl := hB
    obtain ⟨hP, hD⟩ := va_join (wr := [(ob, .inl (cob, 1, .inr (.inl fo)))]) (w1 := []) hP hD [0] [1] rfl rfl (by decide) (by decide) hk1 hFc zP0 zD0
    have hK := hK.sub (tys' := [(cob, .long)]) [0] rfl
    generalize H1 = H at hP hS hce ⊢
    have hP : va_P (dC, dI) vwCl [(ob, .inl (cob, 1, .inr (.inl fo)))] H := hP
    have hD : va_D A [(ob, .inl (cob, 1, .inr (.inl fo)))] := hD
    refine vx_catch hown [] { startPc := 0, endPc := 10, handlerPc := 13, catchType := 20 } _ (by rw [htab]; rfl) (fun z h9 => absurd h9 List.not_mem_nil) (by decide) (by decide) hw0 (va_Nw.use rfl (hz.2.2.2.2.2.2.2.1 _ (List.mem_of_getElem? (i := 0) rfl))) hce hcv hcl ?_
    refine W.widen (k := 1) (n := 6) (by decide) (by decide) ?_
    refine lv_astore (lv' := [(4, .ref q9), (0, .ref h0), (1, .int x0), (2, .int x1), (3, .ref ob)]) hx hb dL_settle_13 hl (by decide) rfl (fun ls hl => ?_)
    refine lv_iconst (v := 1) hx hb dL_settle_15 (by decide) ?_
    have hP9 := hP.sub (ws' := [(ob, .inl (cob, 1, .inr (.inl fo)))]) [0] rfl
    have hD9 := hD.sub (ws' := [(ob, .inl (cob, 1, .inr (.inl fo)))]) [0] (by decide) rfl
    have hK9 := hK.sub (tys' := [(cob, .long)]) [0] rfl
    refine W.widen (k := 1) (n := 6) (by decide) (by decide) ?_
    refine vx_ret ?_
    exact W.iret (v := 1) hx hb hr (fun t ht hW => ⟨⟨1, (), rfl, rfl, ⟨by rw [ht]; exact hP9, va_K.moved hW.alike hK9, hD9⟩⟩, hS.F ht⟩) hS.2.2 dL_settle_16
  · exact hw.elim
set_option maxHeartbeats 4000000 in
set_option maxRecDepth 100000 in
/-- the law's order -/
theorem c_L_order (l : Launch) (hl0 : l.stackTraces = false) (dC : Nat → ClassId) (dI : Nat → Nat → Nat) (A0 : Nat → Prop) (ad : Nat → Nat) (sz : Nat) (h0 t0 b0 c0 r0 d0 e0 o0 s0 p0 w0 : Nat) (x0 x1 : Int32) (ob : Nat) (cob : ClassId) (fo : Nat → Int64) (hA0 : ∀ q, va_A [(h0, .inr (11, [.ref t0, .ref b0, .ref c0, .ref r0, .ref d0, .ref e0, .ref o0, .ref s0, .ref p0, .ref w0, .int 0, .int 0, .int 0, .int 0, .int ((-1)), .int 0])), (ob, .inl (cob, 1, .inr (.inl fo)))] sz q → A0 q) : vx_Met l yL_order wsL_order ({ frames := 8, cells := 1, slots := 6, locals := 126 }) (va_Pc [.ref h0, .int x0, .int x1, .ref ob] (zPc A0 ad (dC, dI) [(h0, .inr (11, [.ref t0, .ref b0, .ref c0, .ref r0, .ref d0, .ref e0, .ref o0, .ref s0, .ref p0, .ref w0, .int 0, .int 0, .int 0, .int 0, .int ((-1)), .int 0])), (ob, .inl (cob, 1, .inr (.inl fo)))] [(cob, .long)] sz)) (va_Qi (fun (r : Int32) (_ : Unit) => r = 1) (fun (_ : Unit) (t : State) => zB (dC, dI) (va_A [(h0, .inr (11, [.ref t0, .ref b0, .ref c0, .ref r0, .ref d0, .ref e0, .ref o0, .ref s0, .ref p0, .ref w0, .int 0, .int 0, .int 0, .int 0, .int ((-1)), .int 0])), (ob, .inl (cob, 1, .inr (.inl fo)))] sz) [(ob, .inl (cob, 1, .inr (.inl fo)))] [(cob, .long)] t) (va_A [(h0, .inr (11, [.ref t0, .ref b0, .ref c0, .ref r0, .ref d0, .ref e0, .ref o0, .ref s0, .ref p0, .ref w0, .int 0, .int 0, .int 0, .int 0, .int ((-1)), .int 0])), (ob, .inl (cob, 1, .inr (.inl fo)))] sz)) (vx_X (fun _ : Unit => True) (fun (E : String) (_ : Unit) (_ : State) => False) (va_A [(h0, .inr (11, [.ref t0, .ref b0, .ref c0, .ref r0, .ref d0, .ref e0, .ref o0, .ref s0, .ref p0, .ref w0, .int 0, .int 0, .int 0, .int 0, .int ((-1)), .int 0])), (ob, .inl (cob, 1, .inr (.inl fo)))] sz)) 1 6 (va_A [(h0, .inr (11, [.ref t0, .ref b0, .ref c0, .ref r0, .ref d0, .ref e0, .ref o0, .ref s0, .ref p0, .ref w0, .int 0, .int 0, .int 0, .int 0, .int ((-1)), .int 0])), (ob, .inl (cob, 1, .inr (.inl fo)))] sz) := by
  refine vx_ofWH (cc := cL_order) (maxL := 5) (ret := (some .int)) (hh := [(0, 10, 13, 20), (0, 10, 17, 41)]) (by decide) rfl ?_
  intro p e s m args below meth c s₁ B hml hv
  obtain ⟨rfl, hsz, hz, hP, hK, hD0⟩ := hv
  have hx := B.exec
  have hb := B.bytes
  have hr := B.returns
  have hts := atoms_spec (ws := wsL_order) B.pre
  have hown : s.vm.findClass RL = some m.cls := findClass_of_methodNamed B.named
  have hlocks := B.notSynchronized
  have htab := vx_table (x := yL_order) B (hts (.codeWith yL_order cL_order 5 (some .int) [(0, 10, 13, 20), (0, 10, 17, 41)]) List.mem_cons_self)
  subst hsz
  have hD := hD0.self (sz := s.heap.size)
  generalize hAe : va_A [(h0, .inr (11, [.ref t0, .ref b0, .ref c0, .ref r0, .ref d0, .ref e0, .ref o0, .ref s0, .ref p0, .ref w0, .int 0, .int 0, .int 0, .int 0, .int ((-1)), .int 0])), (ob, .inl (cob, 1, .inr (.inl fo)))] s.heap.size = A at hD hA0 ⊢
  have hA : ∀ q : Nat, s.heap.size ≤ q → A q := fun q h => by rw [← hAe]; exact Or.inr h
  have hS : va_S A s.heap s.heap [] := va_S.rf
  have hl := lv_entry ([.ref h0, .int x0, .int x1, .ref ob]) (n := 5) (Nat.le_of_ble_eq_true rfl)
  rw [lg_entry_eq]
  generalize (lg_sl ([.ref h0, .int x0, .int x1, .ref ob]) ++ List.replicate (5 - (lg_sl ([.ref h0, .int x0, .int x1, .ref ob])).length) Slot.unset).toArray = ls at hl ⊢
  have hl : lv_has ls 5 [(0, .ref h0), (1, .int x0), (2, .int x1), (3, .ref ob)] := hl
  have hP : va_P (dC, dI) vwCl [(h0, .inr (11, [.ref t0, .ref b0, .ref c0, .ref r0, .ref d0, .ref e0, .ref o0, .ref s0, .ref p0, .ref w0, .int 0, .int 0, .int 0, .int 0, .int ((-1)), .int 0])), (ob, .inl (cob, 1, .inr (.inl fo)))] s.heap := hP
  have hw0 := hts (.classLink RL 20 "java/lang/IndexOutOfBoundsException") (by decide +kernel)
  refine lv_aload_n hx hb dL_order_0 rfl (lv_at hl 3 rfl) ?_
  refine lv_iconst (v := 0) hx hb dL_order_1 (by decide) ?_
  refine lv_aload_n hx hb dL_order_2 rfl (lv_at hl 0 rfl) ?_
  refine lv_iload_n hx hb dL_order_3 rfl (lv_at hl 1 rfl) ?_
  refine lv_iload_n hx hb dL_order_4 rfl (lv_at hl 2 rfl) ?_
  have hPc := hP.sub (ws' := [(h0, .inr (11, [.ref t0, .ref b0, .ref c0, .ref r0, .ref d0, .ref e0, .ref o0, .ref s0, .ref p0, .ref w0, .int 0, .int 0, .int 0, .int 0, .int ((-1)), .int 0]))]) [0] rfl
  have hDc := hD.sub (ws' := [(h0, .inr (11, [.ref t0, .ref b0, .ref c0, .ref r0, .ref d0, .ref e0, .ref o0, .ref s0, .ref p0, .ref w0, .int 0, .int 0, .int 0, .int 0, .int ((-1)), .int 0]))]) [0] (by decide) rfl
  have hKc := hK.sub (tys' := []) [] rfl
  have hFc := va_free (wc := [(h0, .inr (11, [.ref t0, .ref b0, .ref c0, .ref r0, .ref d0, .ref e0, .ref o0, .ref s0, .ref p0, .ref w0, .int 0, .int 0, .int 0, .int 0, .int ((-1)), .int 0]))]) hD hS hA [0] rfl
  refine vx_calli (vx_runV (As := [.int x0, .int x1]) (rest := [.int 0, .ref ob]) ⟨hx, hb, hml, hown, hts⟩ (c_order l hl0 dC dI A0 ad s.heap.size h0 t0 b0 c0 r0 d0 e0 o0 s0 p0 w0 x0 x1 (fun q h => hA0 q (hFc q h))) (cwV 2 hts gL_order_X11_order rfl rfl rfl (by decide +kernel) ⟨Nat.le_of_ble_eq_true rfl, Nat.le_of_ble_eq_true rfl⟩) ⟨zPc_bl, va_recv hKc hPc (ci := 11) (q0 := 0) rfl rfl, zPc_at hz hS hA0 hPc hKc hDc⟩ rfl rfl hl.1 rfl (lv_room (Nat.le_of_ble_eq_true rfl)) dL_order_5 ⟨Nat.le_of_ble_eq_true rfl, Nat.le_of_ble_eq_true rfl⟩) hS (fun q _ h => hFc q h) hFc (fun q _ h => hFc q h) (fun E ce q9 u t H1 locs ht hvm hw hB hz1 hk1 hS hce hcv hcl => ?_) (fun r1 u t H1 locs ht hvm hw hB hz1 hk1 hS => ?_)
  · skip
    have hB : E = "java/lang/IndexOutOfBoundsException" := hB
    obtain rfl := hB
    obtain ⟨hP, hD⟩ := va_join (wr := [(ob, .inl (cob, 1, .inr (.inl fo)))]) (w1 := []) hP hD [0] [1] rfl rfl (by decide) (by decide) hk1 hFc zP0 zD0
    have hK := hK.sub (tys' := [(cob, .long)]) [0] rfl
    generalize H1 = H at hP hS hce ⊢
    have hP : va_P (dC, dI) vwCl [(ob, .inl (cob, 1, .inr (.inl fo)))] H := hP
    have hD : va_D A [(ob, .inl (cob, 1, .inr (.inl fo)))] := hD
    refine vx_catch hown [] { startPc := 0, endPc := 10, handlerPc := 13, catchType := 20 } _ (by rw [htab]; rfl) (fun z h9 => absurd h9 List.not_mem_nil) (by decide) (by decide) hw0 (va_Nw.use rfl (hz.2.2.2.2.2.2.2.1 _ (List.mem_of_getElem? (i := 0) rfl))) hce hcv hcl ?_
    refine W.widen (k := 1) (n := 6) (by decide) (by decide) ?_
    refine lv_astore (lv' := [(4, .ref q9), (0, .ref h0), (1, .int x0), (2, .int x1), (3, .ref ob)]) hx hb dL_order_13 hl (by decide) rfl (fun ls hl => ?_)
    refine lv_iconst (v := 1) hx hb dL_order_15 (by decide) ?_
    have hP9 := hP.sub (ws' := [(ob, .inl (cob, 1, .inr (.inl fo)))]) [0] rfl
    have hD9 := hD.sub (ws' := [(ob, .inl (cob, 1, .inr (.inl fo)))]) [0] (by decide) rfl
    have hK9 := hK.sub (tys' := [(cob, .long)]) [0] rfl
    refine W.widen (k := 1) (n := 6) (by decide) (by decide) ?_
    refine vx_ret ?_
    exact W.iret (v := 1) hx hb hr (fun t ht hW => ⟨⟨1, (), rfl, rfl, ⟨by rw [ht]; exact hP9, va_K.moved hW.alike hK9, hD9⟩⟩, hS.F ht⟩) hS.2.2 dL_order_16
  · exact hw.elim
set_option maxHeartbeats 4000000 in
set_option maxRecDepth 100000 in
/-- the law's want -/
theorem c_L_want (l : Launch) (hl0 : l.stackTraces = false) (dC : Nat → ClassId) (dI : Nat → Nat → Nat) (A0 : Nat → Prop) (ad : Nat → Nat) (sz : Nat) (h0 t0 b0 c0 r0 d0 e0 o0 s0 p0 w0 : Nat) (x0 x1 x2 : Int32) (ob : Nat) (cob : ClassId) (fo : Nat → Int64) (hA0 : ∀ q, va_A [(h0, .inr (11, [.ref t0, .ref b0, .ref c0, .ref r0, .ref d0, .ref e0, .ref o0, .ref s0, .ref p0, .ref w0, .int 0, .int 0, .int 0, .int 0, .int ((-1)), .int 0])), (ob, .inl (cob, 1, .inr (.inl fo)))] sz q → A0 q) : vx_Met l yL_want wsL_want ({ frames := 8, cells := 1, slots := 6, locals := 127 }) (va_Pc [.ref h0, .int x0, .int x1, .int x2, .ref ob] (zPc A0 ad (dC, dI) [(h0, .inr (11, [.ref t0, .ref b0, .ref c0, .ref r0, .ref d0, .ref e0, .ref o0, .ref s0, .ref p0, .ref w0, .int 0, .int 0, .int 0, .int 0, .int ((-1)), .int 0])), (ob, .inl (cob, 1, .inr (.inl fo)))] [(cob, .long)] sz)) (va_Qi (fun (r : Int32) (_ : Unit) => r = 1) (fun (_ : Unit) (t : State) => zB (dC, dI) (va_A [(h0, .inr (11, [.ref t0, .ref b0, .ref c0, .ref r0, .ref d0, .ref e0, .ref o0, .ref s0, .ref p0, .ref w0, .int 0, .int 0, .int 0, .int 0, .int ((-1)), .int 0])), (ob, .inl (cob, 1, .inr (.inl fo)))] sz) [(ob, .inl (cob, 1, .inr (.inl fo)))] [(cob, .long)] t) (va_A [(h0, .inr (11, [.ref t0, .ref b0, .ref c0, .ref r0, .ref d0, .ref e0, .ref o0, .ref s0, .ref p0, .ref w0, .int 0, .int 0, .int 0, .int 0, .int ((-1)), .int 0])), (ob, .inl (cob, 1, .inr (.inl fo)))] sz)) (vx_X (fun _ : Unit => True) (fun (E : String) (_ : Unit) (_ : State) => False) (va_A [(h0, .inr (11, [.ref t0, .ref b0, .ref c0, .ref r0, .ref d0, .ref e0, .ref o0, .ref s0, .ref p0, .ref w0, .int 0, .int 0, .int 0, .int 0, .int ((-1)), .int 0])), (ob, .inl (cob, 1, .inr (.inl fo)))] sz)) 1 6 (va_A [(h0, .inr (11, [.ref t0, .ref b0, .ref c0, .ref r0, .ref d0, .ref e0, .ref o0, .ref s0, .ref p0, .ref w0, .int 0, .int 0, .int 0, .int 0, .int ((-1)), .int 0])), (ob, .inl (cob, 1, .inr (.inl fo)))] sz) := by
  refine vx_ofWH (cc := cL_want) (maxL := 6) (ret := (some .int)) (hh := [(0, 12, 15, 20), (0, 12, 19, 41)]) (by decide) rfl ?_
  intro p e s m args below meth c s₁ B hml hv
  obtain ⟨rfl, hsz, hz, hP, hK, hD0⟩ := hv
  have hx := B.exec
  have hb := B.bytes
  have hr := B.returns
  have hts := atoms_spec (ws := wsL_want) B.pre
  have hown : s.vm.findClass RL = some m.cls := findClass_of_methodNamed B.named
  have hlocks := B.notSynchronized
  have htab := vx_table (x := yL_want) B (hts (.codeWith yL_want cL_want 6 (some .int) [(0, 12, 15, 20), (0, 12, 19, 41)]) List.mem_cons_self)
  subst hsz
  have hD := hD0.self (sz := s.heap.size)
  generalize hAe : va_A [(h0, .inr (11, [.ref t0, .ref b0, .ref c0, .ref r0, .ref d0, .ref e0, .ref o0, .ref s0, .ref p0, .ref w0, .int 0, .int 0, .int 0, .int 0, .int ((-1)), .int 0])), (ob, .inl (cob, 1, .inr (.inl fo)))] s.heap.size = A at hD hA0 ⊢
  have hA : ∀ q : Nat, s.heap.size ≤ q → A q := fun q h => by rw [← hAe]; exact Or.inr h
  have hS : va_S A s.heap s.heap [] := va_S.rf
  have hl := lv_entry ([.ref h0, .int x0, .int x1, .int x2, .ref ob]) (n := 6) (Nat.le_of_ble_eq_true rfl)
  rw [lg_entry_eq]
  generalize (lg_sl ([.ref h0, .int x0, .int x1, .int x2, .ref ob]) ++ List.replicate (6 - (lg_sl ([.ref h0, .int x0, .int x1, .int x2, .ref ob])).length) Slot.unset).toArray = ls at hl ⊢
  have hl : lv_has ls 6 [(0, .ref h0), (1, .int x0), (2, .int x1), (3, .int x2), (4, .ref ob)] := hl
  have hP : va_P (dC, dI) vwCl [(h0, .inr (11, [.ref t0, .ref b0, .ref c0, .ref r0, .ref d0, .ref e0, .ref o0, .ref s0, .ref p0, .ref w0, .int 0, .int 0, .int 0, .int 0, .int ((-1)), .int 0])), (ob, .inl (cob, 1, .inr (.inl fo)))] s.heap := hP
  have hw0 := hts (.classLink RL 20 "java/lang/IndexOutOfBoundsException") (by decide +kernel)
  refine lv_aload hx hb dL_want_0 (lv_at hl 4 rfl) ?_
  refine lv_iconst (v := 0) hx hb dL_want_2 (by decide) ?_
  refine lv_aload_n hx hb dL_want_3 rfl (lv_at hl 0 rfl) ?_
  refine lv_iload_n hx hb dL_want_4 rfl (lv_at hl 1 rfl) ?_
  refine lv_iload_n hx hb dL_want_5 rfl (lv_at hl 2 rfl) ?_
  refine lv_iload_n hx hb dL_want_6 rfl (lv_at hl 3 rfl) ?_
  have hPc := hP.sub (ws' := [(h0, .inr (11, [.ref t0, .ref b0, .ref c0, .ref r0, .ref d0, .ref e0, .ref o0, .ref s0, .ref p0, .ref w0, .int 0, .int 0, .int 0, .int 0, .int ((-1)), .int 0]))]) [0] rfl
  have hDc := hD.sub (ws' := [(h0, .inr (11, [.ref t0, .ref b0, .ref c0, .ref r0, .ref d0, .ref e0, .ref o0, .ref s0, .ref p0, .ref w0, .int 0, .int 0, .int 0, .int 0, .int ((-1)), .int 0]))]) [0] (by decide) rfl
  have hKc := hK.sub (tys' := []) [] rfl
  have hFc := va_free (wc := [(h0, .inr (11, [.ref t0, .ref b0, .ref c0, .ref r0, .ref d0, .ref e0, .ref o0, .ref s0, .ref p0, .ref w0, .int 0, .int 0, .int 0, .int 0, .int ((-1)), .int 0]))]) hD hS hA [0] rfl
  refine vx_calli (vx_runV (As := [.int x0, .int x1, .int x2]) (rest := [.int 0, .ref ob]) ⟨hx, hb, hml, hown, hts⟩ (c_want l hl0 dC dI A0 ad s.heap.size h0 t0 b0 c0 r0 d0 e0 o0 s0 p0 w0 x0 x1 x2 (fun q h => hA0 q (hFc q h))) (cwV 3 hts gL_want_X11_want rfl rfl rfl (by decide +kernel) ⟨Nat.le_of_ble_eq_true rfl, Nat.le_of_ble_eq_true rfl⟩) ⟨zPc_bl, va_recv hKc hPc (ci := 11) (q0 := 0) rfl rfl, zPc_at hz hS hA0 hPc hKc hDc⟩ rfl rfl hl.1 rfl (lv_room (Nat.le_of_ble_eq_true rfl)) dL_want_7 ⟨Nat.le_of_ble_eq_true rfl, Nat.le_of_ble_eq_true rfl⟩) hS (fun q _ h => hFc q h) hFc (fun q _ h => hFc q h) (fun E ce q9 u t H1 locs ht hvm hw hB hz1 hk1 hS hce hcv hcl => ?_) (fun r1 u t H1 locs ht hvm hw hB hz1 hk1 hS => ?_)
  · skip
    have hB : E = "java/lang/IndexOutOfBoundsException" := hB
    obtain rfl := hB
    obtain ⟨hP, hD⟩ := va_join (wr := [(ob, .inl (cob, 1, .inr (.inl fo)))]) (w1 := []) hP hD [0] [1] rfl rfl (by decide) (by decide) hk1 hFc zP0 zD0
    have hK := hK.sub (tys' := [(cob, .long)]) [0] rfl
    generalize H1 = H at hP hS hce ⊢
    have hP : va_P (dC, dI) vwCl [(ob, .inl (cob, 1, .inr (.inl fo)))] H := hP
    have hD : va_D A [(ob, .inl (cob, 1, .inr (.inl fo)))] := hD
    refine vx_catch hown [] { startPc := 0, endPc := 12, handlerPc := 15, catchType := 20 } _ (by rw [htab]; rfl) (fun z h9 => absurd h9 List.not_mem_nil) (by decide) (by decide) hw0 (va_Nw.use rfl (hz.2.2.2.2.2.2.2.1 _ (List.mem_of_getElem? (i := 0) rfl))) hce hcv hcl ?_
    refine W.widen (k := 1) (n := 6) (by decide) (by decide) ?_
    refine lv_astore (lv' := [(5, .ref q9), (0, .ref h0), (1, .int x0), (2, .int x1), (3, .int x2), (4, .ref ob)]) hx hb dL_want_15 hl (by decide) rfl (fun ls hl => ?_)
    refine lv_iconst (v := 1) hx hb dL_want_17 (by decide) ?_
    have hP9 := hP.sub (ws' := [(ob, .inl (cob, 1, .inr (.inl fo)))]) [0] rfl
    have hD9 := hD.sub (ws' := [(ob, .inl (cob, 1, .inr (.inl fo)))]) [0] (by decide) rfl
    have hK9 := hK.sub (tys' := [(cob, .long)]) [0] rfl
    refine W.widen (k := 1) (n := 6) (by decide) (by decide) ?_
    refine vx_ret ?_
    exact W.iret (v := 1) hx hb hr (fun t ht hW => ⟨⟨1, (), rfl, rfl, ⟨by rw [ht]; exact hP9, va_K.moved hW.alike hK9, hD9⟩⟩, hS.F ht⟩) hS.2.2 dL_want_18
  · exact hw.elim
set_option maxHeartbeats 4000000 in
set_option maxRecDepth 100000 in
/-- the law's back -/
theorem c_L_back (l : Launch) (hl0 : l.stackTraces = false) (dC : Nat → ClassId) (dI : Nat → Nat → Nat) (A0 : Nat → Prop) (ad : Nat → Nat) (sz : Nat) (h0 t0 b0 c0 r0 d0 e0 o0 s0 p0 w0 : Nat) (x0 x1 x2 : Int32) (ob : Nat) (cob : ClassId) (fo : Nat → Int64) (hA0 : ∀ q, va_A [(h0, .inr (11, [.ref t0, .ref b0, .ref c0, .ref r0, .ref d0, .ref e0, .ref o0, .ref s0, .ref p0, .ref w0, .int 0, .int 0, .int 0, .int 0, .int ((-1)), .int 0])), (ob, .inl (cob, 1, .inr (.inl fo)))] sz q → A0 q) : vx_Met l yL_back wsL_back ({ frames := 8, cells := 1, slots := 6, locals := 128 }) (va_Pc [.ref h0, .int x0, .int x1, .int x2, .ref ob] (zPc A0 ad (dC, dI) [(h0, .inr (11, [.ref t0, .ref b0, .ref c0, .ref r0, .ref d0, .ref e0, .ref o0, .ref s0, .ref p0, .ref w0, .int 0, .int 0, .int 0, .int 0, .int ((-1)), .int 0])), (ob, .inl (cob, 1, .inr (.inl fo)))] [(cob, .long)] sz)) (va_Qi (fun (r : Int32) (_ : Unit) => r = 1) (fun (_ : Unit) (t : State) => zB (dC, dI) (va_A [(h0, .inr (11, [.ref t0, .ref b0, .ref c0, .ref r0, .ref d0, .ref e0, .ref o0, .ref s0, .ref p0, .ref w0, .int 0, .int 0, .int 0, .int 0, .int ((-1)), .int 0])), (ob, .inl (cob, 1, .inr (.inl fo)))] sz) [(ob, .inl (cob, 1, .inr (.inl fo)))] [(cob, .long)] t) (va_A [(h0, .inr (11, [.ref t0, .ref b0, .ref c0, .ref r0, .ref d0, .ref e0, .ref o0, .ref s0, .ref p0, .ref w0, .int 0, .int 0, .int 0, .int 0, .int ((-1)), .int 0])), (ob, .inl (cob, 1, .inr (.inl fo)))] sz)) (vx_X (fun _ : Unit => True) (fun (E : String) (_ : Unit) (_ : State) => False) (va_A [(h0, .inr (11, [.ref t0, .ref b0, .ref c0, .ref r0, .ref d0, .ref e0, .ref o0, .ref s0, .ref p0, .ref w0, .int 0, .int 0, .int 0, .int 0, .int ((-1)), .int 0])), (ob, .inl (cob, 1, .inr (.inl fo)))] sz)) 1 6 (va_A [(h0, .inr (11, [.ref t0, .ref b0, .ref c0, .ref r0, .ref d0, .ref e0, .ref o0, .ref s0, .ref p0, .ref w0, .int 0, .int 0, .int 0, .int 0, .int ((-1)), .int 0])), (ob, .inl (cob, 1, .inr (.inl fo)))] sz) := by
  refine vx_ofWH (cc := cL_back) (maxL := 6) (ret := (some .int)) (hh := [(0, 19, 22, 20), (0, 19, 26, 13)]) (by decide) rfl ?_
  intro p e s m args below meth c s₁ B hml hv
  obtain ⟨rfl, hsz, hz, hP, hK, hD0⟩ := hv
  have hx := B.exec
  have hb := B.bytes
  have hr := B.returns
  have hts := atoms_spec (ws := wsL_back) B.pre
  have hown : s.vm.findClass RL = some m.cls := findClass_of_methodNamed B.named
  have hlocks := B.notSynchronized
  have htab := vx_table (x := yL_back) B (hts (.codeWith yL_back cL_back 6 (some .int) [(0, 19, 22, 20), (0, 19, 26, 13)]) List.mem_cons_self)
  subst hsz
  have hD := hD0.self (sz := s.heap.size)
  generalize hAe : va_A [(h0, .inr (11, [.ref t0, .ref b0, .ref c0, .ref r0, .ref d0, .ref e0, .ref o0, .ref s0, .ref p0, .ref w0, .int 0, .int 0, .int 0, .int 0, .int ((-1)), .int 0])), (ob, .inl (cob, 1, .inr (.inl fo)))] s.heap.size = A at hD hA0 ⊢
  have hA : ∀ q : Nat, s.heap.size ≤ q → A q := fun q h => by rw [← hAe]; exact Or.inr h
  have hS : va_S A s.heap s.heap [] := va_S.rf
  have hl := lv_entry ([.ref h0, .int x0, .int x1, .int x2, .ref ob]) (n := 6) (Nat.le_of_ble_eq_true rfl)
  rw [lg_entry_eq]
  generalize (lg_sl ([.ref h0, .int x0, .int x1, .int x2, .ref ob]) ++ List.replicate (6 - (lg_sl ([.ref h0, .int x0, .int x1, .int x2, .ref ob])).length) Slot.unset).toArray = ls at hl ⊢
  have hl : lv_has ls 6 [(0, .ref h0), (1, .int x0), (2, .int x1), (3, .int x2), (4, .ref ob)] := hl
  have hP : va_P (dC, dI) vwCl [(h0, .inr (11, [.ref t0, .ref b0, .ref c0, .ref r0, .ref d0, .ref e0, .ref o0, .ref s0, .ref p0, .ref w0, .int 0, .int 0, .int 0, .int 0, .int ((-1)), .int 0])), (ob, .inl (cob, 1, .inr (.inl fo)))] s.heap := hP
  have hw0 := hts (.classLink RL 20 "java/lang/IndexOutOfBoundsException") (by decide +kernel)
  refine lv_aload hx hb dL_back_0 (lv_at hl 4 rfl) ?_
  refine lv_iconst (v := 0) hx hb dL_back_2 (by decide) ?_
  refine lv_aload_n hx hb dL_back_3 rfl (lv_at hl 0 rfl) ?_
  refine lv_iload_n hx hb dL_back_4 rfl (lv_at hl 1 rfl) ?_
  refine lv_iload_n hx hb dL_back_5 rfl (lv_at hl 2 rfl) ?_
  refine lv_iload_n hx hb dL_back_6 rfl (lv_at hl 3 rfl) ?_
  have hPc := hP.sub (ws' := [(h0, .inr (11, [.ref t0, .ref b0, .ref c0, .ref r0, .ref d0, .ref e0, .ref o0, .ref s0, .ref p0, .ref w0, .int 0, .int 0, .int 0, .int 0, .int ((-1)), .int 0]))]) [0] rfl
  have hDc := hD.sub (ws' := [(h0, .inr (11, [.ref t0, .ref b0, .ref c0, .ref r0, .ref d0, .ref e0, .ref o0, .ref s0, .ref p0, .ref w0, .int 0, .int 0, .int 0, .int 0, .int ((-1)), .int 0]))]) [0] (by decide) rfl
  have hKc := hK.sub (tys' := []) [] rfl
  have hFc := va_free (wc := [(h0, .inr (11, [.ref t0, .ref b0, .ref c0, .ref r0, .ref d0, .ref e0, .ref o0, .ref s0, .ref p0, .ref w0, .int 0, .int 0, .int 0, .int 0, .int ((-1)), .int 0]))]) hD hS hA [0] rfl
  refine vx_calli (vx_runV (As := [.int x0, .int x1, .int x2]) (rest := [.int 0, .ref ob]) ⟨hx, hb, hml, hown, hts⟩ (c_back l hl0 dC dI A0 ad s.heap.size h0 t0 b0 c0 r0 d0 e0 o0 s0 p0 w0 x0 x1 x2 (fun q h => hA0 q (hFc q h))) (cwV 3 hts gL_back_X11_back rfl rfl rfl (by decide +kernel) ⟨Nat.le_of_ble_eq_true rfl, Nat.le_of_ble_eq_true rfl⟩) ⟨zPc_bl, va_recv hKc hPc (ci := 11) (q0 := 0) rfl rfl, zPc_at hz hS hA0 hPc hKc hDc⟩ rfl rfl hl.1 rfl (lv_room (Nat.le_of_ble_eq_true rfl)) dL_back_7 ⟨Nat.le_of_ble_eq_true rfl, Nat.le_of_ble_eq_true rfl⟩) hS (fun q _ h => hFc q h) hFc (fun q _ h => hFc q h) (fun E ce q9 u t H1 locs ht hvm hw hB hz1 hk1 hS hce hcv hcl => ?_) (fun r1 u t H1 locs ht hvm hw hB hz1 hk1 hS => ?_)
  · skip
    have hB : E = "java/lang/IndexOutOfBoundsException" := hB
    obtain rfl := hB
    obtain ⟨hP, hD⟩ := va_join (wr := [(ob, .inl (cob, 1, .inr (.inl fo)))]) (w1 := []) hP hD [0] [1] rfl rfl (by decide) (by decide) hk1 hFc zP0 zD0
    have hK := hK.sub (tys' := [(cob, .long)]) [0] rfl
    generalize H1 = H at hP hS hce ⊢
    have hP : va_P (dC, dI) vwCl [(ob, .inl (cob, 1, .inr (.inl fo)))] H := hP
    have hD : va_D A [(ob, .inl (cob, 1, .inr (.inl fo)))] := hD
    refine vx_catch hown [] { startPc := 0, endPc := 19, handlerPc := 22, catchType := 20 } _ (by rw [htab]; rfl) (fun z h9 => absurd h9 List.not_mem_nil) (by decide) (by decide) hw0 (va_Nw.use rfl (hz.2.2.2.2.2.2.2.1 _ (List.mem_of_getElem? (i := 0) rfl))) hce hcv hcl ?_
    refine W.widen (k := 1) (n := 6) (by decide) (by decide) ?_
    refine lv_astore (lv' := [(5, .ref q9), (0, .ref h0), (1, .int x0), (2, .int x1), (3, .int x2), (4, .ref ob)]) hx hb dL_back_22 hl (by decide) rfl (fun ls hl => ?_)
    refine lv_iconst (v := 1) hx hb dL_back_24 (by decide) ?_
    have hP9 := hP.sub (ws' := [(ob, .inl (cob, 1, .inr (.inl fo)))]) [0] rfl
    have hD9 := hD.sub (ws' := [(ob, .inl (cob, 1, .inr (.inl fo)))]) [0] (by decide) rfl
    have hK9 := hK.sub (tys' := [(cob, .long)]) [0] rfl
    refine W.widen (k := 1) (n := 6) (by decide) (by decide) ?_
    refine vx_ret ?_
    exact W.iret (v := 1) hx hb hr (fun t ht hW => ⟨⟨1, (), rfl, rfl, ⟨by rw [ht]; exact hP9, va_K.moved hW.alike hK9, hD9⟩⟩, hS.F ht⟩) hS.2.2 dL_back_25
  · exact hw.elim
set_option maxHeartbeats 4000000 in
set_option maxRecDepth 100000 in
/-- the law's sending -/
theorem c_L_sending (l : Launch) (hl0 : l.stackTraces = false) (dC : Nat → ClassId) (dI : Nat → Nat → Nat) (A0 : Nat → Prop) (ad : Nat → Nat) (sz : Nat) (h0 t0 b0 c0 r0 d0 e0 o0 s0 p0 w0 : Nat) (x0 x1 : Int32) (ob : Nat) (cob : ClassId) (fo : Nat → Int64) (hA0 : ∀ q, va_A [(h0, .inr (11, [.ref t0, .ref b0, .ref c0, .ref r0, .ref d0, .ref e0, .ref o0, .ref s0, .ref p0, .ref w0, .int 0, .int 0, .int 0, .int 0, .int ((-1)), .int 0])), (ob, .inl (cob, 1, .inr (.inl fo)))] sz q → A0 q) : vx_Met l yL_sending wsL_sending ({ frames := 7, cells := 1, slots := 6, locals := 105 }) (va_Pc [.ref h0, .int x0, .int x1, .ref ob] (zPc A0 ad (dC, dI) [(h0, .inr (11, [.ref t0, .ref b0, .ref c0, .ref r0, .ref d0, .ref e0, .ref o0, .ref s0, .ref p0, .ref w0, .int 0, .int 0, .int 0, .int 0, .int ((-1)), .int 0])), (ob, .inl (cob, 1, .inr (.inl fo)))] [(cob, .long)] sz)) (va_Qi (fun (r : Int32) (_ : Unit) => r = 1) (fun (_ : Unit) (t : State) => zB (dC, dI) (va_A [(h0, .inr (11, [.ref t0, .ref b0, .ref c0, .ref r0, .ref d0, .ref e0, .ref o0, .ref s0, .ref p0, .ref w0, .int 0, .int 0, .int 0, .int 0, .int ((-1)), .int 0])), (ob, .inl (cob, 1, .inr (.inl fo)))] sz) [(ob, .inl (cob, 1, .inr (.inl fo)))] [(cob, .long)] t) (va_A [(h0, .inr (11, [.ref t0, .ref b0, .ref c0, .ref r0, .ref d0, .ref e0, .ref o0, .ref s0, .ref p0, .ref w0, .int 0, .int 0, .int 0, .int 0, .int ((-1)), .int 0])), (ob, .inl (cob, 1, .inr (.inl fo)))] sz)) (vx_X (fun _ : Unit => True) (fun (E : String) (_ : Unit) (_ : State) => False) (va_A [(h0, .inr (11, [.ref t0, .ref b0, .ref c0, .ref r0, .ref d0, .ref e0, .ref o0, .ref s0, .ref p0, .ref w0, .int 0, .int 0, .int 0, .int 0, .int ((-1)), .int 0])), (ob, .inl (cob, 1, .inr (.inl fo)))] sz)) 1 6 (va_A [(h0, .inr (11, [.ref t0, .ref b0, .ref c0, .ref r0, .ref d0, .ref e0, .ref o0, .ref s0, .ref p0, .ref w0, .int 0, .int 0, .int 0, .int 0, .int ((-1)), .int 0])), (ob, .inl (cob, 1, .inr (.inl fo)))] sz) := by
  refine vx_ofWH (cc := cL_sending) (maxL := 5) (ret := (some .int)) (hh := [(0, 10, 13, 20), (0, 10, 17, 41)]) (by decide) rfl ?_
  intro p e s m args below meth c s₁ B hml hv
  obtain ⟨rfl, hsz, hz, hP, hK, hD0⟩ := hv
  have hx := B.exec
  have hb := B.bytes
  have hr := B.returns
  have hts := atoms_spec (ws := wsL_sending) B.pre
  have hown : s.vm.findClass RL = some m.cls := findClass_of_methodNamed B.named
  have hlocks := B.notSynchronized
  have htab := vx_table (x := yL_sending) B (hts (.codeWith yL_sending cL_sending 5 (some .int) [(0, 10, 13, 20), (0, 10, 17, 41)]) List.mem_cons_self)
  subst hsz
  have hD := hD0.self (sz := s.heap.size)
  generalize hAe : va_A [(h0, .inr (11, [.ref t0, .ref b0, .ref c0, .ref r0, .ref d0, .ref e0, .ref o0, .ref s0, .ref p0, .ref w0, .int 0, .int 0, .int 0, .int 0, .int ((-1)), .int 0])), (ob, .inl (cob, 1, .inr (.inl fo)))] s.heap.size = A at hD hA0 ⊢
  have hA : ∀ q : Nat, s.heap.size ≤ q → A q := fun q h => by rw [← hAe]; exact Or.inr h
  have hS : va_S A s.heap s.heap [] := va_S.rf
  have hl := lv_entry ([.ref h0, .int x0, .int x1, .ref ob]) (n := 5) (Nat.le_of_ble_eq_true rfl)
  rw [lg_entry_eq]
  generalize (lg_sl ([.ref h0, .int x0, .int x1, .ref ob]) ++ List.replicate (5 - (lg_sl ([.ref h0, .int x0, .int x1, .ref ob])).length) Slot.unset).toArray = ls at hl ⊢
  have hl : lv_has ls 5 [(0, .ref h0), (1, .int x0), (2, .int x1), (3, .ref ob)] := hl
  have hP : va_P (dC, dI) vwCl [(h0, .inr (11, [.ref t0, .ref b0, .ref c0, .ref r0, .ref d0, .ref e0, .ref o0, .ref s0, .ref p0, .ref w0, .int 0, .int 0, .int 0, .int 0, .int ((-1)), .int 0])), (ob, .inl (cob, 1, .inr (.inl fo)))] s.heap := hP
  have hw0 := hts (.classLink RL 20 "java/lang/IndexOutOfBoundsException") (by decide +kernel)
  refine lv_aload_n hx hb dL_sending_0 rfl (lv_at hl 3 rfl) ?_
  refine lv_iconst (v := 0) hx hb dL_sending_1 (by decide) ?_
  refine lv_aload_n hx hb dL_sending_2 rfl (lv_at hl 0 rfl) ?_
  refine lv_iload_n hx hb dL_sending_3 rfl (lv_at hl 1 rfl) ?_
  refine lv_iload_n hx hb dL_sending_4 rfl (lv_at hl 2 rfl) ?_
  have hPc := hP.sub (ws' := [(h0, .inr (11, [.ref t0, .ref b0, .ref c0, .ref r0, .ref d0, .ref e0, .ref o0, .ref s0, .ref p0, .ref w0, .int 0, .int 0, .int 0, .int 0, .int ((-1)), .int 0]))]) [0] rfl
  have hDc := hD.sub (ws' := [(h0, .inr (11, [.ref t0, .ref b0, .ref c0, .ref r0, .ref d0, .ref e0, .ref o0, .ref s0, .ref p0, .ref w0, .int 0, .int 0, .int 0, .int 0, .int ((-1)), .int 0]))]) [0] (by decide) rfl
  have hKc := hK.sub (tys' := []) [] rfl
  have hFc := va_free (wc := [(h0, .inr (11, [.ref t0, .ref b0, .ref c0, .ref r0, .ref d0, .ref e0, .ref o0, .ref s0, .ref p0, .ref w0, .int 0, .int 0, .int 0, .int 0, .int ((-1)), .int 0]))]) hD hS hA [0] rfl
  refine vx_calli (vx_runV (As := [.int x0, .int x1]) (rest := [.int 0, .ref ob]) ⟨hx, hb, hml, hown, hts⟩ (c_sending l hl0 dC dI A0 ad s.heap.size h0 t0 b0 c0 r0 d0 e0 o0 s0 p0 w0 x0 x1 (fun q h => hA0 q (hFc q h))) (cwV 2 hts gL_sending_X11_sending rfl rfl rfl (by decide +kernel) ⟨Nat.le_of_ble_eq_true rfl, Nat.le_of_ble_eq_true rfl⟩) ⟨zPc_bl, va_recv hKc hPc (ci := 11) (q0 := 0) rfl rfl, zPc_at hz hS hA0 hPc hKc hDc⟩ rfl rfl hl.1 rfl (lv_room (Nat.le_of_ble_eq_true rfl)) dL_sending_5 ⟨Nat.le_of_ble_eq_true rfl, Nat.le_of_ble_eq_true rfl⟩) hS (fun q _ h => hFc q h) hFc (fun q _ h => hFc q h) (fun E ce q9 u t H1 locs ht hvm hw hB hz1 hk1 hS hce hcv hcl => ?_) (fun r1 u t H1 locs ht hvm hw hB hz1 hk1 hS => ?_)
  · skip
    have hB : E = "java/lang/IndexOutOfBoundsException" := hB
    obtain rfl := hB
    obtain ⟨hP, hD⟩ := va_join (wr := [(ob, .inl (cob, 1, .inr (.inl fo)))]) (w1 := []) hP hD [0] [1] rfl rfl (by decide) (by decide) hk1 hFc zP0 zD0
    have hK := hK.sub (tys' := [(cob, .long)]) [0] rfl
    generalize H1 = H at hP hS hce ⊢
    have hP : va_P (dC, dI) vwCl [(ob, .inl (cob, 1, .inr (.inl fo)))] H := hP
    have hD : va_D A [(ob, .inl (cob, 1, .inr (.inl fo)))] := hD
    refine vx_catch hown [] { startPc := 0, endPc := 10, handlerPc := 13, catchType := 20 } _ (by rw [htab]; rfl) (fun z h9 => absurd h9 List.not_mem_nil) (by decide) (by decide) hw0 (va_Nw.use rfl (hz.2.2.2.2.2.2.2.1 _ (List.mem_of_getElem? (i := 0) rfl))) hce hcv hcl ?_
    refine W.widen (k := 1) (n := 6) (by decide) (by decide) ?_
    refine lv_astore (lv' := [(4, .ref q9), (0, .ref h0), (1, .int x0), (2, .int x1), (3, .ref ob)]) hx hb dL_sending_13 hl (by decide) rfl (fun ls hl => ?_)
    refine lv_iconst (v := 1) hx hb dL_sending_15 (by decide) ?_
    have hP9 := hP.sub (ws' := [(ob, .inl (cob, 1, .inr (.inl fo)))]) [0] rfl
    have hD9 := hD.sub (ws' := [(ob, .inl (cob, 1, .inr (.inl fo)))]) [0] (by decide) rfl
    have hK9 := hK.sub (tys' := [(cob, .long)]) [0] rfl
    refine W.widen (k := 1) (n := 6) (by decide) (by decide) ?_
    refine vx_ret ?_
    exact W.iret (v := 1) hx hb hr (fun t ht hW => ⟨⟨1, (), rfl, rfl, ⟨by rw [ht]; exact hP9, va_K.moved hW.alike hK9, hD9⟩⟩, hS.F ht⟩) hS.2.2 dL_sending_16
  · exact hw.elim
set_option maxHeartbeats 4000000 in
set_option maxRecDepth 100000 in
/-- the law's rules -/
theorem c_L_rules (l : Launch) (hl0 : l.stackTraces = false) (dC : Nat → ClassId) (dI : Nat → Nat → Nat) (A0 : Nat → Prop) (ad : Nat → Nat) (sz : Nat) (h0 t0 b0 c0 r0 d0 e0 o0 s0 p0 w0 : Nat) (tb rn rp dn dp : Nat) (crn crp cdn cdp : ClassId) (f1 f2 g1 g2 : Nat → Int32) (ob : Nat) (cob : ClassId) (fo : Nat → Int64) (hA0 : ∀ q, va_A [(h0, .inr (11, [.ref t0, .ref b0, .ref c0, .ref r0, .ref d0, .ref e0, .ref o0, .ref s0, .ref p0, .ref w0, .int 0, .int 0, .int 0, .int 0, .int ((-1)), .int 0])), (t0, .inr (7, [.ref tb, .int 0, .int 0, .int ((-1))])), (r0, .inr (5, [.ref rn, .ref rp])), (rn, .inl (crn, 4, .inl f1)), (rp, .inl (crp, 30, .inl f2)), (d0, .inr (5, [.ref dn, .ref dp])), (dn, .inl (cdn, 4, .inl g1)), (dp, .inl (cdp, 30, .inl g2)), (ob, .inl (cob, 1, .inr (.inl fo)))] sz q → A0 q) : vx_Met l yL_rules wsL_rules ({ frames := 7, cells := 1, slots := 6, locals := 127 }) (va_Pc [.ref h0, .ref ob] (zPc A0 ad (dC, dI) [(h0, .inr (11, [.ref t0, .ref b0, .ref c0, .ref r0, .ref d0, .ref e0, .ref o0, .ref s0, .ref p0, .ref w0, .int 0, .int 0, .int 0, .int 0, .int ((-1)), .int 0])), (t0, .inr (7, [.ref tb, .int 0, .int 0, .int ((-1))])), (r0, .inr (5, [.ref rn, .ref rp])), (rn, .inl (crn, 4, .inl f1)), (rp, .inl (crp, 30, .inl f2)), (d0, .inr (5, [.ref dn, .ref dp])), (dn, .inl (cdn, 4, .inl g1)), (dp, .inl (cdp, 30, .inl g2)), (ob, .inl (cob, 1, .inr (.inl fo)))] [(crn, .int), (crp, .int), (cdn, .int), (cdp, .int), (cob, .long)] sz)) (va_Qi (fun (r : Int32) (_ : Unit) => r = 1) (fun (_ : Unit) (t : State) => zB (dC, dI) (va_A [(h0, .inr (11, [.ref t0, .ref b0, .ref c0, .ref r0, .ref d0, .ref e0, .ref o0, .ref s0, .ref p0, .ref w0, .int 0, .int 0, .int 0, .int 0, .int ((-1)), .int 0])), (t0, .inr (7, [.ref tb, .int 0, .int 0, .int ((-1))])), (r0, .inr (5, [.ref rn, .ref rp])), (rn, .inl (crn, 4, .inl f1)), (rp, .inl (crp, 30, .inl f2)), (d0, .inr (5, [.ref dn, .ref dp])), (dn, .inl (cdn, 4, .inl g1)), (dp, .inl (cdp, 30, .inl g2)), (ob, .inl (cob, 1, .inr (.inl fo)))] sz) [(ob, .inl (cob, 1, .inr (.inl fo)))] [(cob, .long)] t) (va_A [(h0, .inr (11, [.ref t0, .ref b0, .ref c0, .ref r0, .ref d0, .ref e0, .ref o0, .ref s0, .ref p0, .ref w0, .int 0, .int 0, .int 0, .int 0, .int ((-1)), .int 0])), (t0, .inr (7, [.ref tb, .int 0, .int 0, .int ((-1))])), (r0, .inr (5, [.ref rn, .ref rp])), (rn, .inl (crn, 4, .inl f1)), (rp, .inl (crp, 30, .inl f2)), (d0, .inr (5, [.ref dn, .ref dp])), (dn, .inl (cdn, 4, .inl g1)), (dp, .inl (cdp, 30, .inl g2)), (ob, .inl (cob, 1, .inr (.inl fo)))] sz)) (vx_X (fun _ : Unit => True) (fun (E : String) (_ : Unit) (_ : State) => False) (va_A [(h0, .inr (11, [.ref t0, .ref b0, .ref c0, .ref r0, .ref d0, .ref e0, .ref o0, .ref s0, .ref p0, .ref w0, .int 0, .int 0, .int 0, .int 0, .int ((-1)), .int 0])), (t0, .inr (7, [.ref tb, .int 0, .int 0, .int ((-1))])), (r0, .inr (5, [.ref rn, .ref rp])), (rn, .inl (crn, 4, .inl f1)), (rp, .inl (crp, 30, .inl f2)), (d0, .inr (5, [.ref dn, .ref dp])), (dn, .inl (cdn, 4, .inl g1)), (dp, .inl (cdp, 30, .inl g2)), (ob, .inl (cob, 1, .inr (.inl fo)))] sz)) 1 6 (va_A [(h0, .inr (11, [.ref t0, .ref b0, .ref c0, .ref r0, .ref d0, .ref e0, .ref o0, .ref s0, .ref p0, .ref w0, .int 0, .int 0, .int 0, .int 0, .int ((-1)), .int 0])), (t0, .inr (7, [.ref tb, .int 0, .int 0, .int ((-1))])), (r0, .inr (5, [.ref rn, .ref rp])), (rn, .inl (crn, 4, .inl f1)), (rp, .inl (crp, 30, .inl f2)), (d0, .inr (5, [.ref dn, .ref dp])), (dn, .inl (cdn, 4, .inl g1)), (dp, .inl (cdp, 30, .inl g2)), (ob, .inl (cob, 1, .inr (.inl fo)))] sz) := by
  refine vx_ofWH (cc := cL_rules) (maxL := 3) (ret := (some .int)) (hh := [(0, 8, 11, 13)]) (by decide) rfl ?_
  intro p e s m args below meth c s₁ B hml hv
  obtain ⟨rfl, hsz, hz, hP, hK, hD0⟩ := hv
  have hx := B.exec
  have hb := B.bytes
  have hr := B.returns
  have hts := atoms_spec (ws := wsL_rules) B.pre
  have hown : s.vm.findClass RL = some m.cls := findClass_of_methodNamed B.named
  have hlocks := B.notSynchronized
  have htab := vx_table (x := yL_rules) B (hts (.codeWith yL_rules cL_rules 3 (some .int) [(0, 8, 11, 13)]) List.mem_cons_self)
  subst hsz
  have hD := hD0.self (sz := s.heap.size)
  generalize hAe : va_A [(h0, .inr (11, [.ref t0, .ref b0, .ref c0, .ref r0, .ref d0, .ref e0, .ref o0, .ref s0, .ref p0, .ref w0, .int 0, .int 0, .int 0, .int 0, .int ((-1)), .int 0])), (t0, .inr (7, [.ref tb, .int 0, .int 0, .int ((-1))])), (r0, .inr (5, [.ref rn, .ref rp])), (rn, .inl (crn, 4, .inl f1)), (rp, .inl (crp, 30, .inl f2)), (d0, .inr (5, [.ref dn, .ref dp])), (dn, .inl (cdn, 4, .inl g1)), (dp, .inl (cdp, 30, .inl g2)), (ob, .inl (cob, 1, .inr (.inl fo)))] s.heap.size = A at hD hA0 ⊢
  have hA : ∀ q : Nat, s.heap.size ≤ q → A q := fun q h => by rw [← hAe]; exact Or.inr h
  have hS : va_S A s.heap s.heap [] := va_S.rf
  have hl := lv_entry ([.ref h0, .ref ob]) (n := 3) (Nat.le_of_ble_eq_true rfl)
  rw [lg_entry_eq]
  generalize (lg_sl ([.ref h0, .ref ob]) ++ List.replicate (3 - (lg_sl ([.ref h0, .ref ob])).length) Slot.unset).toArray = ls at hl ⊢
  have hl : lv_has ls 3 [(0, .ref h0), (1, .ref ob)] := hl
  have hP : va_P (dC, dI) vwCl [(h0, .inr (11, [.ref t0, .ref b0, .ref c0, .ref r0, .ref d0, .ref e0, .ref o0, .ref s0, .ref p0, .ref w0, .int 0, .int 0, .int 0, .int 0, .int ((-1)), .int 0])), (t0, .inr (7, [.ref tb, .int 0, .int 0, .int ((-1))])), (r0, .inr (5, [.ref rn, .ref rp])), (rn, .inl (crn, 4, .inl f1)), (rp, .inl (crp, 30, .inl f2)), (d0, .inr (5, [.ref dn, .ref dp])), (dn, .inl (cdn, 4, .inl g1)), (dp, .inl (cdp, 30, .inl g2)), (ob, .inl (cob, 1, .inr (.inl fo)))] s.heap := hP
  have hw0 := hts (.classLink RL 13 "java/lang/IllegalArgumentException") (by decide +kernel)
  refine lv_aload_n hx hb dL_rules_0 rfl (lv_at hl 1 rfl) ?_
  refine lv_iconst (v := 0) hx hb dL_rules_1 (by decide) ?_
  refine lv_aload_n hx hb dL_rules_2 rfl (lv_at hl 0 rfl) ?_
  have hPc := hP.sub (ws' := [(h0, .inr (11, [.ref t0, .ref b0, .ref c0, .ref r0, .ref d0, .ref e0, .ref o0, .ref s0, .ref p0, .ref w0, .int 0, .int 0, .int 0, .int 0, .int ((-1)), .int 0])), (t0, .inr (7, [.ref tb, .int 0, .int 0, .int ((-1))])), (r0, .inr (5, [.ref rn, .ref rp])), (rn, .inl (crn, 4, .inl f1)), (rp, .inl (crp, 30, .inl f2)), (d0, .inr (5, [.ref dn, .ref dp])), (dn, .inl (cdn, 4, .inl g1)), (dp, .inl (cdp, 30, .inl g2))]) [0, 1, 2, 3, 4, 5, 6, 7] rfl
  have hDc := hD.sub (ws' := [(h0, .inr (11, [.ref t0, .ref b0, .ref c0, .ref r0, .ref d0, .ref e0, .ref o0, .ref s0, .ref p0, .ref w0, .int 0, .int 0, .int 0, .int 0, .int ((-1)), .int 0])), (t0, .inr (7, [.ref tb, .int 0, .int 0, .int ((-1))])), (r0, .inr (5, [.ref rn, .ref rp])), (rn, .inl (crn, 4, .inl f1)), (rp, .inl (crp, 30, .inl f2)), (d0, .inr (5, [.ref dn, .ref dp])), (dn, .inl (cdn, 4, .inl g1)), (dp, .inl (cdp, 30, .inl g2))]) [0, 1, 2, 3, 4, 5, 6, 7] (by decide) rfl
  have hKc := hK.sub (tys' := [(crn, .int), (crp, .int), (cdn, .int), (cdp, .int)]) [0, 1, 2, 3] rfl
  have hFc := va_free (wc := [(h0, .inr (11, [.ref t0, .ref b0, .ref c0, .ref r0, .ref d0, .ref e0, .ref o0, .ref s0, .ref p0, .ref w0, .int 0, .int 0, .int 0, .int 0, .int ((-1)), .int 0])), (t0, .inr (7, [.ref tb, .int 0, .int 0, .int ((-1))])), (r0, .inr (5, [.ref rn, .ref rp])), (rn, .inl (crn, 4, .inl f1)), (rp, .inl (crp, 30, .inl f2)), (d0, .inr (5, [.ref dn, .ref dp])), (dn, .inl (cdn, 4, .inl g1)), (dp, .inl (cdp, 30, .inl g2))]) hD hS hA [0, 1, 2, 3, 4, 5, 6, 7] rfl
  refine vx_calli (vx_runV (As := []) (rest := [.int 0, .ref ob]) ⟨hx, hb, hml, hown, hts⟩ (c_rules l hl0 dC dI A0 ad s.heap.size h0 t0 b0 c0 r0 d0 e0 o0 s0 p0 w0 tb rn rp dn dp crn crp cdn cdp f1 f2 g1 g2 (fun q h => hA0 q (hFc q h))) (cwV 0 hts gL_rules_X11_rules rfl rfl rfl (by decide +kernel) ⟨Nat.le_of_ble_eq_true rfl, Nat.le_of_ble_eq_true rfl⟩) ⟨zPc_bl, va_recv hKc hPc (ci := 11) (q0 := 0) rfl rfl, zPc_at hz hS hA0 hPc hKc hDc⟩ rfl rfl hl.1 rfl (lv_room (Nat.le_of_ble_eq_true rfl)) dL_rules_3 ⟨Nat.le_of_ble_eq_true rfl, Nat.le_of_ble_eq_true rfl⟩) hS (fun q _ h => hFc q h) hFc (fun q _ h => hFc q h) (fun E ce q9 u t H1 locs ht hvm hw hB hz1 hk1 hS hce hcv hcl => ?_) (fun r1 u t H1 locs ht hvm hw hB hz1 hk1 hS => ?_)
  · skip
    have hB : E = "java/lang/IllegalArgumentException" := hB
    obtain rfl := hB
    obtain ⟨hP, hD⟩ := va_join (wr := [(ob, .inl (cob, 1, .inr (.inl fo)))]) (w1 := []) hP hD [0, 1, 2, 3, 4, 5, 6, 7] [8] rfl rfl (by decide) (by decide) hk1 hFc zP0 zD0
    have hK := hK.sub (tys' := [(cob, .long)]) [4] rfl
    generalize H1 = H at hP hS hce ⊢
    have hP : va_P (dC, dI) vwCl [(ob, .inl (cob, 1, .inr (.inl fo)))] H := hP
    have hD : va_D A [(ob, .inl (cob, 1, .inr (.inl fo)))] := hD
    refine vx_catch hown [] { startPc := 0, endPc := 8, handlerPc := 11, catchType := 13 } _ (by rw [htab]; rfl) (fun z h9 => absurd h9 List.not_mem_nil) (by decide) (by decide) hw0 (va_Nw.use rfl (hz.2.2.2.2.2.2.2.1 _ (List.mem_of_getElem? (i := 1) rfl))) hce hcv hcl ?_
    refine W.widen (k := 1) (n := 6) (by decide) (by decide) ?_
    refine lv_astore_n (lv' := [(2, .ref q9), (0, .ref h0), (1, .ref ob)]) hx hb dL_rules_11 rfl hl (by decide) rfl (fun ls hl => ?_)
    refine lv_iconst (v := 1) hx hb dL_rules_12 (by decide) ?_
    have hP9 := hP.sub (ws' := [(ob, .inl (cob, 1, .inr (.inl fo)))]) [0] rfl
    have hD9 := hD.sub (ws' := [(ob, .inl (cob, 1, .inr (.inl fo)))]) [0] (by decide) rfl
    have hK9 := hK.sub (tys' := [(cob, .long)]) [0] rfl
    refine W.widen (k := 1) (n := 6) (by decide) (by decide) ?_
    refine vx_ret ?_
    exact W.iret (v := 1) hx hb hr (fun t ht hW => ⟨⟨1, (), rfl, rfl, ⟨by rw [ht]; exact hP9, va_K.moved hW.alike hK9, hD9⟩⟩, hS.F ht⟩) hS.2.2 dL_rules_13
  · exact hw.elim
set_option maxHeartbeats 4000000 in
set_option maxRecDepth 100000 in
/-- the law's letter -/
theorem c_L_letter (l : Launch) (hl0 : l.stackTraces = false) (dC : Nat → ClassId) (dI : Nat → Nat → Nat) (A0 : Nat → Prop) (ad : Nat → Nat) (sz : Nat) (h0 t0 b0 c0 r0 d0 e0 o0 s0 p0 w0 : Nat) (tb : Nat) (ob : Nat) (cob : ClassId) (fo : Nat → Int64) (hA0 : ∀ q, va_A [(h0, .inr (11, [.ref t0, .ref b0, .ref c0, .ref r0, .ref d0, .ref e0, .ref o0, .ref s0, .ref p0, .ref w0, .int 0, .int 0, .int 0, .int 0, .int ((-1)), .int 0])), (t0, .inr (7, [.ref tb, .int 0, .int 0, .int ((-1))])), (ob, .inl (cob, 1, .inr (.inl fo)))] sz q → A0 q) : vx_Met l yL_letter wsL_letter ({ frames := 7, cells := 4, slots := 32, locals := 130 }) (va_Pc [.ref h0, .ref ob] (zPc A0 ad (dC, dI) [(h0, .inr (11, [.ref t0, .ref b0, .ref c0, .ref r0, .ref d0, .ref e0, .ref o0, .ref s0, .ref p0, .ref w0, .int 0, .int 0, .int 0, .int 0, .int ((-1)), .int 0])), (t0, .inr (7, [.ref tb, .int 0, .int 0, .int ((-1))])), (ob, .inl (cob, 1, .inr (.inl fo)))] [(cob, .long)] sz)) (va_Qi (fun (r : Int32) (_ : Unit) => r = 1) (fun (_ : Unit) (t : State) => zB (dC, dI) (va_A [(h0, .inr (11, [.ref t0, .ref b0, .ref c0, .ref r0, .ref d0, .ref e0, .ref o0, .ref s0, .ref p0, .ref w0, .int 0, .int 0, .int 0, .int 0, .int ((-1)), .int 0])), (t0, .inr (7, [.ref tb, .int 0, .int 0, .int ((-1))])), (ob, .inl (cob, 1, .inr (.inl fo)))] sz) [(ob, .inl (cob, 1, .inr (.inl fo)))] [(cob, .long)] t) (va_A [(h0, .inr (11, [.ref t0, .ref b0, .ref c0, .ref r0, .ref d0, .ref e0, .ref o0, .ref s0, .ref p0, .ref w0, .int 0, .int 0, .int 0, .int 0, .int ((-1)), .int 0])), (t0, .inr (7, [.ref tb, .int 0, .int 0, .int ((-1))])), (ob, .inl (cob, 1, .inr (.inl fo)))] sz)) (vx_X (fun _ : Unit => True) (fun (E : String) (_ : Unit) (_ : State) => False) (va_A [(h0, .inr (11, [.ref t0, .ref b0, .ref c0, .ref r0, .ref d0, .ref e0, .ref o0, .ref s0, .ref p0, .ref w0, .int 0, .int 0, .int 0, .int 0, .int ((-1)), .int 0])), (t0, .inr (7, [.ref tb, .int 0, .int 0, .int ((-1))])), (ob, .inl (cob, 1, .inr (.inl fo)))] sz)) 4 32 (va_A [(h0, .inr (11, [.ref t0, .ref b0, .ref c0, .ref r0, .ref d0, .ref e0, .ref o0, .ref s0, .ref p0, .ref w0, .int 0, .int 0, .int 0, .int 0, .int ((-1)), .int 0])), (t0, .inr (7, [.ref tb, .int 0, .int 0, .int ((-1))])), (ob, .inl (cob, 1, .inr (.inl fo)))] sz) := by
  refine vx_ofWH (cc := cL_letter) (maxL := 3) (ret := (some .int)) (hh := [(0, 8, 11, 13), (0, 8, 14, 15)]) (by decide) rfl ?_
  intro p e s m args below meth c s₁ B hml hv
  obtain ⟨rfl, hsz, hz, hP, hK, hD0⟩ := hv
  have hx := B.exec
  have hb := B.bytes
  have hr := B.returns
  have hts := atoms_spec (ws := wsL_letter) B.pre
  have hown : s.vm.findClass RL = some m.cls := findClass_of_methodNamed B.named
  have hlocks := B.notSynchronized
  have htab := vx_table (x := yL_letter) B (hts (.codeWith yL_letter cL_letter 3 (some .int) [(0, 8, 11, 13), (0, 8, 14, 15)]) List.mem_cons_self)
  subst hsz
  have hD := hD0.self (sz := s.heap.size)
  generalize hAe : va_A [(h0, .inr (11, [.ref t0, .ref b0, .ref c0, .ref r0, .ref d0, .ref e0, .ref o0, .ref s0, .ref p0, .ref w0, .int 0, .int 0, .int 0, .int 0, .int ((-1)), .int 0])), (t0, .inr (7, [.ref tb, .int 0, .int 0, .int ((-1))])), (ob, .inl (cob, 1, .inr (.inl fo)))] s.heap.size = A at hD hA0 ⊢
  have hA : ∀ q : Nat, s.heap.size ≤ q → A q := fun q h => by rw [← hAe]; exact Or.inr h
  have hS : va_S A s.heap s.heap [] := va_S.rf
  have hl := lv_entry ([.ref h0, .ref ob]) (n := 3) (Nat.le_of_ble_eq_true rfl)
  rw [lg_entry_eq]
  generalize (lg_sl ([.ref h0, .ref ob]) ++ List.replicate (3 - (lg_sl ([.ref h0, .ref ob])).length) Slot.unset).toArray = ls at hl ⊢
  have hl : lv_has ls 3 [(0, .ref h0), (1, .ref ob)] := hl
  have hP : va_P (dC, dI) vwCl [(h0, .inr (11, [.ref t0, .ref b0, .ref c0, .ref r0, .ref d0, .ref e0, .ref o0, .ref s0, .ref p0, .ref w0, .int 0, .int 0, .int 0, .int 0, .int ((-1)), .int 0])), (t0, .inr (7, [.ref tb, .int 0, .int 0, .int ((-1))])), (ob, .inl (cob, 1, .inr (.inl fo)))] s.heap := hP
  have hw0 := hts (.classLink RL 13 "java/lang/IllegalArgumentException") (by decide +kernel)
  refine lv_aload_n hx hb dL_letter_0 rfl (lv_at hl 1 rfl) ?_
  refine lv_iconst (v := 0) hx hb dL_letter_1 (by decide) ?_
  refine lv_aload_n hx hb dL_letter_2 rfl (lv_at hl 0 rfl) ?_
  have hPc := hP.sub (ws' := [(h0, .inr (11, [.ref t0, .ref b0, .ref c0, .ref r0, .ref d0, .ref e0, .ref o0, .ref s0, .ref p0, .ref w0, .int 0, .int 0, .int 0, .int 0, .int ((-1)), .int 0])), (t0, .inr (7, [.ref tb, .int 0, .int 0, .int ((-1))]))]) [0, 1] rfl
  have hDc := hD.sub (ws' := [(h0, .inr (11, [.ref t0, .ref b0, .ref c0, .ref r0, .ref d0, .ref e0, .ref o0, .ref s0, .ref p0, .ref w0, .int 0, .int 0, .int 0, .int 0, .int ((-1)), .int 0])), (t0, .inr (7, [.ref tb, .int 0, .int 0, .int ((-1))]))]) [0, 1] (by decide) rfl
  have hKc := hK.sub (tys' := []) [] rfl
  have hFc := va_free (wc := [(h0, .inr (11, [.ref t0, .ref b0, .ref c0, .ref r0, .ref d0, .ref e0, .ref o0, .ref s0, .ref p0, .ref w0, .int 0, .int 0, .int 0, .int 0, .int ((-1)), .int 0])), (t0, .inr (7, [.ref tb, .int 0, .int 0, .int ((-1))]))]) hD hS hA [0, 1] rfl
  refine vx_calli (vx_runV (As := []) (rest := [.int 0, .ref ob]) ⟨hx, hb, hml, hown, hts⟩ (c_letter l hl0 dC dI A0 ad s.heap.size h0 t0 b0 c0 r0 d0 e0 o0 s0 p0 w0 tb (fun q h => hA0 q (hFc q h))) (cwV 0 hts gL_letter_X11_letter rfl rfl rfl (by decide +kernel) ⟨Nat.le_of_ble_eq_true rfl, Nat.le_of_ble_eq_true rfl⟩) ⟨zPc_bl, va_recv hKc hPc (ci := 11) (q0 := 0) rfl rfl, zPc_at hz hS hA0 hPc hKc hDc⟩ rfl rfl hl.1 rfl (lv_room (Nat.le_of_ble_eq_true rfl)) dL_letter_3 ⟨Nat.le_of_ble_eq_true rfl, Nat.le_of_ble_eq_true rfl⟩) hS (fun q _ h => hFc q h) hFc (fun q _ h => hFc q h) (fun E ce q9 u t H1 locs ht hvm hw hB hz1 hk1 hS hce hcv hcl => ?_) (fun r1 u t H1 locs ht hvm hw hB hz1 hk1 hS => ?_)
  · skip
    have hB : E = "java/lang/IllegalArgumentException" := hB
    obtain rfl := hB
    obtain ⟨hP, hD⟩ := va_join (wr := [(ob, .inl (cob, 1, .inr (.inl fo)))]) (w1 := []) hP hD [0, 1] [2] rfl rfl (by decide) (by decide) hk1 hFc zP0 zD0
    have hK := hK.sub (tys' := [(cob, .long)]) [0] rfl
    generalize H1 = H at hP hS hce ⊢
    have hP : va_P (dC, dI) vwCl [(ob, .inl (cob, 1, .inr (.inl fo)))] H := hP
    have hD : va_D A [(ob, .inl (cob, 1, .inr (.inl fo)))] := hD
    refine vx_catch hown [] { startPc := 0, endPc := 8, handlerPc := 11, catchType := 13 } _ (by rw [htab]; rfl) (fun z h9 => absurd h9 List.not_mem_nil) (by decide) (by decide) hw0 (va_Nw.use rfl (hz.2.2.2.2.2.2.2.1 _ (List.mem_of_getElem? (i := 1) rfl))) hce hcv hcl ?_
    refine W.widen (k := 4) (n := 32) (by decide) (by decide) ?_
    refine lv_astore_n (lv' := [(2, .ref q9), (0, .ref h0), (1, .ref ob)]) hx hb dL_letter_11 rfl hl (by decide) rfl (fun ls hl => ?_)
    refine lv_iconst (v := 1) hx hb dL_letter_12 (by decide) ?_
    have hP9 := hP.sub (ws' := [(ob, .inl (cob, 1, .inr (.inl fo)))]) [0] rfl
    have hD9 := hD.sub (ws' := [(ob, .inl (cob, 1, .inr (.inl fo)))]) [0] (by decide) rfl
    have hK9 := hK.sub (tys' := [(cob, .long)]) [0] rfl
    refine W.widen (k := 4) (n := 32) (by decide) (by decide) ?_
    refine vx_ret ?_
    exact W.iret (v := 1) hx hb hr (fun t ht hW => ⟨⟨1, (), rfl, rfl, ⟨by rw [ht]; exact hP9, va_K.moved hW.alike hK9, hD9⟩⟩, hS.F ht⟩) hS.2.2 dL_letter_13
  · exact hw.elim
set_option maxHeartbeats 4000000 in
set_option maxRecDepth 100000 in
/-- the law's thing -/
theorem c_L_thing (l : Launch) (hl0 : l.stackTraces = false) (dC : Nat → ClassId) (dI : Nat → Nat → Nat) (A0 : Nat → Prop) (ad : Nat → Nat) (sz : Nat) (h0 t0 b0 c0 r0 d0 e0 o0 s0 p0 w0 : Nat) (bt : Nat) (cbt : ClassId) (x0 x1 x2 x3 : Int32) (ob : Nat) (cob : ClassId) (fo : Nat → Int64) (hA0 : ∀ q, va_A [(h0, .inr (11, [.ref t0, .ref b0, .ref c0, .ref r0, .ref d0, .ref e0, .ref o0, .ref s0, .ref p0, .ref w0, .int 0, .int 0, .int 0, .int 0, .int ((-1)), .int 0])), (b0, .inr (0, [.ref bt, .int 0])), (bt, .inl (cbt, 30, .inr (.inr (.inr (.inr (fun _ => none)))))), (ob, .inl (cob, 1, .inr (.inl fo)))] sz q → A0 q) : vx_Met l yL_thing wsL_thing ({ frames := 7, cells := 4, slots := 22, locals := 106 }) (va_Pc [.ref h0, .int x0, .int x1, .int x2, .int x3, .ref ob] (zPc A0 ad (dC, dI) [(h0, .inr (11, [.ref t0, .ref b0, .ref c0, .ref r0, .ref d0, .ref e0, .ref o0, .ref s0, .ref p0, .ref w0, .int 0, .int 0, .int 0, .int 0, .int ((-1)), .int 0])), (b0, .inr (0, [.ref bt, .int 0])), (bt, .inl (cbt, 30, .inr (.inr (.inr (.inr (fun _ => none)))))), (ob, .inl (cob, 1, .inr (.inl fo)))] [(cbt, .object "PostHouse$Thing"), (cob, .long)] sz)) (va_Qi (fun (r : Int32) (_ : Unit) => (zGood x0 x1 x2 x3 ∧ r = 0) ∨ (¬ zGood x0 x1 x2 x3 ∧ r = 1)) (fun (_ : Unit) (t : State) => ∃ (fo2 : Nat → Int64), (zGood x0 x1 x2 x3 → fo2 0 = 0) ∧ zB (dC, dI) (va_A [(h0, .inr (11, [.ref t0, .ref b0, .ref c0, .ref r0, .ref d0, .ref e0, .ref o0, .ref s0, .ref p0, .ref w0, .int 0, .int 0, .int 0, .int 0, .int ((-1)), .int 0])), (b0, .inr (0, [.ref bt, .int 0])), (bt, .inl (cbt, 30, .inr (.inr (.inr (.inr (fun _ => none)))))), (ob, .inl (cob, 1, .inr (.inl fo)))] sz) [(ob, .inl (cob, 1, .inr (.inl fo2)))] [(cob, .long)] t) (va_A [(h0, .inr (11, [.ref t0, .ref b0, .ref c0, .ref r0, .ref d0, .ref e0, .ref o0, .ref s0, .ref p0, .ref w0, .int 0, .int 0, .int 0, .int 0, .int ((-1)), .int 0])), (b0, .inr (0, [.ref bt, .int 0])), (bt, .inl (cbt, 30, .inr (.inr (.inr (.inr (fun _ => none)))))), (ob, .inl (cob, 1, .inr (.inl fo)))] sz)) (vx_X (fun _ : Unit => True) (fun (E : String) (_ : Unit) (_ : State) => False) (va_A [(h0, .inr (11, [.ref t0, .ref b0, .ref c0, .ref r0, .ref d0, .ref e0, .ref o0, .ref s0, .ref p0, .ref w0, .int 0, .int 0, .int 0, .int 0, .int ((-1)), .int 0])), (b0, .inr (0, [.ref bt, .int 0])), (bt, .inl (cbt, 30, .inr (.inr (.inr (.inr (fun _ => none)))))), (ob, .inl (cob, 1, .inr (.inl fo)))] sz)) 4 22 (va_A [(h0, .inr (11, [.ref t0, .ref b0, .ref c0, .ref r0, .ref d0, .ref e0, .ref o0, .ref s0, .ref p0, .ref w0, .int 0, .int 0, .int 0, .int 0, .int ((-1)), .int 0])), (b0, .inr (0, [.ref bt, .int 0])), (bt, .inl (cbt, 30, .inr (.inr (.inr (.inr (fun _ => none)))))), (ob, .inl (cob, 1, .inr (.inl fo)))] sz) := by
  refine vx_ofWH (cc := cL_thing) (maxL := 7) (ret := (some .int)) (hh := [(0, 14, 17, 13), (0, 14, 21, 15)]) (by decide) rfl ?_
  intro p e s m args below meth c s₁ B hml hv
  obtain ⟨rfl, hsz, hz, hP, hK, hD0⟩ := hv
  have hx := B.exec
  have hb := B.bytes
  have hr := B.returns
  have hts := atoms_spec (ws := wsL_thing) B.pre
  have hown : s.vm.findClass RL = some m.cls := findClass_of_methodNamed B.named
  have hlocks := B.notSynchronized
  have htab := vx_table (x := yL_thing) B (hts (.codeWith yL_thing cL_thing 7 (some .int) [(0, 14, 17, 13), (0, 14, 21, 15)]) List.mem_cons_self)
  subst hsz
  have hD := hD0.self (sz := s.heap.size)
  generalize hAe : va_A [(h0, .inr (11, [.ref t0, .ref b0, .ref c0, .ref r0, .ref d0, .ref e0, .ref o0, .ref s0, .ref p0, .ref w0, .int 0, .int 0, .int 0, .int 0, .int ((-1)), .int 0])), (b0, .inr (0, [.ref bt, .int 0])), (bt, .inl (cbt, 30, .inr (.inr (.inr (.inr (fun _ => none)))))), (ob, .inl (cob, 1, .inr (.inl fo)))] s.heap.size = A at hD hA0 ⊢
  have hA : ∀ q : Nat, s.heap.size ≤ q → A q := fun q h => by rw [← hAe]; exact Or.inr h
  have hS : va_S A s.heap s.heap [] := va_S.rf
  have hl := lv_entry ([.ref h0, .int x0, .int x1, .int x2, .int x3, .ref ob]) (n := 7) (Nat.le_of_ble_eq_true rfl)
  rw [lg_entry_eq]
  generalize (lg_sl ([.ref h0, .int x0, .int x1, .int x2, .int x3, .ref ob]) ++ List.replicate (7 - (lg_sl ([.ref h0, .int x0, .int x1, .int x2, .int x3, .ref ob])).length) Slot.unset).toArray = ls at hl ⊢
  have hl : lv_has ls 7 [(0, .ref h0), (1, .int x0), (2, .int x1), (3, .int x2), (4, .int x3), (5, .ref ob)] := hl
  have hP : va_P (dC, dI) vwCl [(h0, .inr (11, [.ref t0, .ref b0, .ref c0, .ref r0, .ref d0, .ref e0, .ref o0, .ref s0, .ref p0, .ref w0, .int 0, .int 0, .int 0, .int 0, .int ((-1)), .int 0])), (b0, .inr (0, [.ref bt, .int 0])), (bt, .inl (cbt, 30, .inr (.inr (.inr (.inr (fun _ => none)))))), (ob, .inl (cob, 1, .inr (.inl fo)))] s.heap := hP
  have hw0 := hts (.classLink RL 13 "java/lang/IllegalArgumentException") (by decide +kernel)
  refine lv_aload hx hb dL_thing_0 (lv_at hl 5 rfl) ?_
  refine lv_iconst (v := 0) hx hb dL_thing_2 (by decide) ?_
  refine lv_aload_n hx hb dL_thing_3 rfl (lv_at hl 0 rfl) ?_
  refine lv_iload_n hx hb dL_thing_4 rfl (lv_at hl 1 rfl) ?_
  refine lv_iload_n hx hb dL_thing_5 rfl (lv_at hl 2 rfl) ?_
  refine lv_iload_n hx hb dL_thing_6 rfl (lv_at hl 3 rfl) ?_
  refine lv_iload hx hb dL_thing_7 (lv_at hl 4 rfl) ?_
  have hPc := hP.sub (ws' := [(h0, .inr (11, [.ref t0, .ref b0, .ref c0, .ref r0, .ref d0, .ref e0, .ref o0, .ref s0, .ref p0, .ref w0, .int 0, .int 0, .int 0, .int 0, .int ((-1)), .int 0])), (b0, .inr (0, [.ref bt, .int 0])), (bt, .inl (cbt, 30, .inr (.inr (.inr (.inr (fun _ => none))))))]) [0, 1, 2] rfl
  have hDc := hD.sub (ws' := [(h0, .inr (11, [.ref t0, .ref b0, .ref c0, .ref r0, .ref d0, .ref e0, .ref o0, .ref s0, .ref p0, .ref w0, .int 0, .int 0, .int 0, .int 0, .int ((-1)), .int 0])), (b0, .inr (0, [.ref bt, .int 0])), (bt, .inl (cbt, 30, .inr (.inr (.inr (.inr (fun _ => none))))))]) [0, 1, 2] (by decide) rfl
  have hKc := hK.sub (tys' := [(cbt, .object "PostHouse$Thing")]) [0] rfl
  have hFc := va_free (wc := [(h0, .inr (11, [.ref t0, .ref b0, .ref c0, .ref r0, .ref d0, .ref e0, .ref o0, .ref s0, .ref p0, .ref w0, .int 0, .int 0, .int 0, .int 0, .int ((-1)), .int 0])), (b0, .inr (0, [.ref bt, .int 0])), (bt, .inl (cbt, 30, .inr (.inr (.inr (.inr (fun _ => none))))))]) hD hS hA [0, 1, 2] rfl
  refine vx_calli (vx_runV (As := [.int x0, .int x1, .int x2, .int x3]) (rest := [.int 0, .ref ob]) ⟨hx, hb, hml, hown, hts⟩ (c_thing l hl0 dC dI A0 ad s.heap.size h0 t0 b0 c0 r0 d0 e0 o0 s0 p0 w0 bt cbt x0 x1 x2 x3 (fun q h => hA0 q (hFc q h))) (cwV 4 hts gL_thing_X11_thing rfl rfl rfl (by decide +kernel) ⟨Nat.le_of_ble_eq_true rfl, Nat.le_of_ble_eq_true rfl⟩) ⟨zPc_bl, va_recv hKc hPc (ci := 11) (q0 := 0) rfl rfl, zPc_at hz hS hA0 hPc hKc hDc⟩ rfl rfl hl.1 rfl (lv_room (Nat.le_of_ble_eq_true rfl)) dL_thing_9 ⟨Nat.le_of_ble_eq_true rfl, Nat.le_of_ble_eq_true rfl⟩) hS (fun q _ h => hFc q h) hFc (fun q _ h => hFc q h) (fun E ce q9 u t H1 locs ht hvm hw hB hz1 hk1 hS hce hcv hcl => ?_) (fun r1 u t H1 locs ht hvm hw hB hz1 hk1 hS => ?_)
  · skip
    have hB : E = "java/lang/IllegalArgumentException" ∧ ¬ zGood x0 x1 x2 x3 := hB
    obtain ⟨rfl, hX9⟩ := hB
    obtain ⟨hP, hD⟩ := va_join (wr := [(ob, .inl (cob, 1, .inr (.inl fo)))]) (w1 := []) hP hD [0, 1, 2] [3] rfl rfl (by decide) (by decide) hk1 hFc zP0 zD0
    have hK := hK.sub (tys' := [(cob, .long)]) [1] rfl
    generalize H1 = H at hP hS hce ⊢
    have hP : va_P (dC, dI) vwCl [(ob, .inl (cob, 1, .inr (.inl fo)))] H := hP
    have hD : va_D A [(ob, .inl (cob, 1, .inr (.inl fo)))] := hD
    refine vx_catch hown [] { startPc := 0, endPc := 14, handlerPc := 17, catchType := 13 } _ (by rw [htab]; rfl) (fun z h9 => absurd h9 List.not_mem_nil) (by decide) (by decide) hw0 (va_Nw.use rfl (hz.2.2.2.2.2.2.2.1 _ (List.mem_of_getElem? (i := 1) rfl))) hce hcv hcl ?_
    refine W.widen (k := 4) (n := 22) (by decide) (by decide) ?_
    refine lv_astore (lv' := [(6, .ref q9), (0, .ref h0), (1, .int x0), (2, .int x1), (3, .int x2), (4, .int x3), (5, .ref ob)]) hx hb dL_thing_17 hl (by decide) rfl (fun ls hl => ?_)
    refine lv_iconst (v := 1) hx hb dL_thing_19 (by decide) ?_
    have hP9 := hP.sub (ws' := [(ob, .inl (cob, 1, .inr (.inl fo)))]) [0] rfl
    have hD9 := hD.sub (ws' := [(ob, .inl (cob, 1, .inr (.inl fo)))]) [0] (by decide) rfl
    have hK9 := hK.sub (tys' := [(cob, .long)]) [0] rfl
    refine W.widen (k := 4) (n := 22) (by decide) (by decide) ?_
    refine vx_ret ?_
    exact W.iret (v := 1) hx hb hr (fun t ht hW => ⟨⟨1, (), rfl, Or.inr ⟨hX9, rfl⟩, ⟨fo, fun q => absurd q hX9, ⟨by rw [ht]; exact hP9, va_K.moved hW.alike hK9, hD9⟩⟩⟩, hS.F ht⟩) hS.2.2 dL_thing_20
  · skip
    obtain ⟨zg2, hB⟩ := hB
    obtain ⟨hP1, hK1, hD1⟩ := hB
    rw [ht] at hP1
    have hK1 := va_K.moved hvm.symm hK1
    obtain ⟨hP, hD⟩ := va_join (wr := [(ob, .inl (cob, 1, .inr (.inl fo)))]) (w1 := [(h0, .inr (11, [.ref t0, .ref b0, .ref c0, .ref r0, .ref d0, .ref e0, .ref o0, .ref s0, .ref p0, .ref w0, .int 0, .int 0, .int 0, .int 0, .int ((-1)), .int 0])), (b0, .inr (0, [.ref bt, .int 1])), (bt, .inl (cbt, 30, .inr (.inr (.inr (.inr zg2)))))]) hP hD [0, 1, 2] [3] rfl rfl (by decide) (by decide) hk1 hFc hP1 hD1
    have hK := (hK.sub (tys' := [(cob, .long)]) [1] rfl).app hK1
    generalize H1 = H at hP hS ⊢
    have hP : va_P (dC, dI) vwCl [(ob, .inl (cob, 1, .inr (.inl fo))), (h0, .inr (11, [.ref t0, .ref b0, .ref c0, .ref r0, .ref d0, .ref e0, .ref o0, .ref s0, .ref p0, .ref w0, .int 0, .int 0, .int 0, .int 0, .int ((-1)), .int 0])), (b0, .inr (0, [.ref bt, .int 1])), (bt, .inl (cbt, 30, .inr (.inr (.inr (.inr zg2)))))] H := hP
    have hD : va_D A [(ob, .inl (cob, 1, .inr (.inl fo))), (h0, .inr (11, [.ref t0, .ref b0, .ref c0, .ref r0, .ref d0, .ref e0, .ref o0, .ref s0, .ref p0, .ref w0, .int 0, .int 0, .int 0, .int 0, .int ((-1)), .int 0])), (b0, .inr (0, [.ref bt, .int 1])), (bt, .inl (cbt, 30, .inr (.inr (.inr (.inr zg2)))))] := hD
    have hK : va_K (dC, dI) vwCl [(cob, .long), (cbt, .object "PostHouse$Thing")] s := hK
    refine W.widen (k := 4) (n := 22) (by decide) (by decide) ?_
    have er1 := hw
    refine lv_i2l (v := (r1).toInt64) hx hb dL_thing_12 rfl ?_
    refine va_last (D := (dC, dI)) hx hb hK hP hD hS 0 0 rfl rfl (zIn (by decide) (by decide)) dL_thing_13 (fun H locs hP hD hS => ?_)
    have hP : va_P (dC, dI) vwCl [(ob, .inl (cob, 1, .inr (.inl (vp_updL fo (0 : Int32).toNatClampNeg ((r1).toInt64))))), (h0, .inr (11, [.ref t0, .ref b0, .ref c0, .ref r0, .ref d0, .ref e0, .ref o0, .ref s0, .ref p0, .ref w0, .int 0, .int 0, .int 0, .int 0, .int ((-1)), .int 0])), (b0, .inr (0, [.ref bt, .int 1])), (bt, .inl (cbt, 30, .inr (.inr (.inr (.inr zg2)))))] H := hP
    have hD : va_D A [(ob, .inl (cob, 1, .inr (.inl (vp_updL fo (0 : Int32).toNatClampNeg ((r1).toInt64))))), (h0, .inr (11, [.ref t0, .ref b0, .ref c0, .ref r0, .ref d0, .ref e0, .ref o0, .ref s0, .ref p0, .ref w0, .int 0, .int 0, .int 0, .int 0, .int ((-1)), .int 0])), (b0, .inr (0, [.ref bt, .int 1])), (bt, .inl (cbt, 30, .inr (.inr (.inr (.inr zg2)))))] := hD
    refine lv_goto (tgt := 25) hx hb dL_thing_14 (by decide) ?_
    refine lv_iconst (v := 0) hx hb dL_thing_25 (by decide) ?_
    have hP9 := hP.sub (ws' := [(ob, .inl (cob, 1, .inr (.inl (vp_updL fo (0 : Int32).toNatClampNeg ((r1).toInt64)))))]) [0] rfl
    have hD9 := hD.sub (ws' := [(ob, .inl (cob, 1, .inr (.inl (vp_updL fo (0 : Int32).toNatClampNeg ((r1).toInt64)))))]) [0] (by decide) rfl
    have hK9 := hK.sub (tys' := [(cob, .long)]) [0] rfl
    refine W.widen (k := 4) (n := 22) (by decide) (by decide) ?_
    refine vx_ret ?_
    exact W.iret (v := 0) hx hb hr (fun t ht hW => ⟨⟨0, (), rfl, Or.inl ⟨er1.2, rfl⟩, ⟨(vp_updL fo (0 : Int32).toNatClampNeg ((r1).toInt64)), fun _ => by rw [er1.1]; rfl, ⟨by rw [ht]; exact hP9, va_K.moved hW.alike hK9, hD9⟩⟩⟩, hS.F ht⟩) hS.2.2 dL_thing_26
set_option maxHeartbeats 4000000 in
set_option maxRecDepth 100000 in
/-- the law's says -/
theorem c_L_says (l : Launch) (hl0 : l.stackTraces = false) (dC : Nat → ClassId) (dI : Nat → Nat → Nat) (A0 : Nat → Prop) (ad : Nat → Nat) (sz : Nat) (h0 t0 b0 c0 r0 d0 e0 o0 s0 p0 w0 : Nat) (rn rp : Nat) (crn : ClassId) (x : Int32) (ob : Nat) (cob : ClassId) (fo : Nat → Int64) (hA0 : ∀ q, va_A [(h0, .inr (11, [.ref t0, .ref b0, .ref c0, .ref r0, .ref d0, .ref e0, .ref o0, .ref s0, .ref p0, .ref w0, .int 0, .int 0, .int 0, .int 0, .int ((-1)), .int 0])), (r0, .inr (5, [.ref rn, .ref rp])), (rn, .inl (crn, 4, .inl (upd (upd (upd (upd (fun _ => 0) (0 : Int32).toNatClampNeg 10) (1 : Int32).toNatClampNeg 50) (2 : Int32).toNatClampNeg 10000) (3 : Int32).toNatClampNeg 14))), (ob, .inl (cob, 1, .inr (.inl fo)))] sz q → A0 q) : vx_Met l yL_says wsL_says ({ frames := 7, cells := 1, slots := 6, locals := 103 }) (va_Pc [.ref h0, .int x, .ref ob] (zPc A0 ad (dC, dI) [(h0, .inr (11, [.ref t0, .ref b0, .ref c0, .ref r0, .ref d0, .ref e0, .ref o0, .ref s0, .ref p0, .ref w0, .int 0, .int 0, .int 0, .int 0, .int ((-1)), .int 0])), (r0, .inr (5, [.ref rn, .ref rp])), (rn, .inl (crn, 4, .inl (upd (upd (upd (upd (fun _ => 0) (0 : Int32).toNatClampNeg 10) (1 : Int32).toNatClampNeg 50) (2 : Int32).toNatClampNeg 10000) (3 : Int32).toNatClampNeg 14))), (ob, .inl (cob, 1, .inr (.inl fo)))] [(crn, .int), (cob, .long)] sz)) (va_Qi (fun (r : Int32) (_ : Unit) => (¬ zWi x 0 3 = 0 ∧ r = 0) ∨ (zWi x 0 3 = 0 ∧ r = 1)) (fun (_ : Unit) (t : State) => ∃ (fo2 : Nat → Int64), (¬ zWi x 0 3 = 0 → fo2 0 = (zNum x).toInt64) ∧ zB (dC, dI) (va_A [(h0, .inr (11, [.ref t0, .ref b0, .ref c0, .ref r0, .ref d0, .ref e0, .ref o0, .ref s0, .ref p0, .ref w0, .int 0, .int 0, .int 0, .int 0, .int ((-1)), .int 0])), (r0, .inr (5, [.ref rn, .ref rp])), (rn, .inl (crn, 4, .inl (upd (upd (upd (upd (fun _ => 0) (0 : Int32).toNatClampNeg 10) (1 : Int32).toNatClampNeg 50) (2 : Int32).toNatClampNeg 10000) (3 : Int32).toNatClampNeg 14))), (ob, .inl (cob, 1, .inr (.inl fo)))] sz) [(ob, .inl (cob, 1, .inr (.inl fo2)))] [(cob, .long)] t) (va_A [(h0, .inr (11, [.ref t0, .ref b0, .ref c0, .ref r0, .ref d0, .ref e0, .ref o0, .ref s0, .ref p0, .ref w0, .int 0, .int 0, .int 0, .int 0, .int ((-1)), .int 0])), (r0, .inr (5, [.ref rn, .ref rp])), (rn, .inl (crn, 4, .inl (upd (upd (upd (upd (fun _ => 0) (0 : Int32).toNatClampNeg 10) (1 : Int32).toNatClampNeg 50) (2 : Int32).toNatClampNeg 10000) (3 : Int32).toNatClampNeg 14))), (ob, .inl (cob, 1, .inr (.inl fo)))] sz)) (vx_X (fun _ : Unit => True) (fun (E : String) (_ : Unit) (_ : State) => False) (va_A [(h0, .inr (11, [.ref t0, .ref b0, .ref c0, .ref r0, .ref d0, .ref e0, .ref o0, .ref s0, .ref p0, .ref w0, .int 0, .int 0, .int 0, .int 0, .int ((-1)), .int 0])), (r0, .inr (5, [.ref rn, .ref rp])), (rn, .inl (crn, 4, .inl (upd (upd (upd (upd (fun _ => 0) (0 : Int32).toNatClampNeg 10) (1 : Int32).toNatClampNeg 50) (2 : Int32).toNatClampNeg 10000) (3 : Int32).toNatClampNeg 14))), (ob, .inl (cob, 1, .inr (.inl fo)))] sz)) 1 6 (va_A [(h0, .inr (11, [.ref t0, .ref b0, .ref c0, .ref r0, .ref d0, .ref e0, .ref o0, .ref s0, .ref p0, .ref w0, .int 0, .int 0, .int 0, .int 0, .int ((-1)), .int 0])), (r0, .inr (5, [.ref rn, .ref rp])), (rn, .inl (crn, 4, .inl (upd (upd (upd (upd (fun _ => 0) (0 : Int32).toNatClampNeg 10) (1 : Int32).toNatClampNeg 50) (2 : Int32).toNatClampNeg 10000) (3 : Int32).toNatClampNeg 14))), (ob, .inl (cob, 1, .inr (.inl fo)))] sz) := by
  refine vx_ofWH (cc := cL_says) (maxL := 4) (ret := (some .int)) (hh := [(0, 9, 12, 41)]) (by decide) rfl ?_
  intro p e s m args below meth c s₁ B hml hv
  obtain ⟨rfl, hsz, hz, hP, hK, hD0⟩ := hv
  have hx := B.exec
  have hb := B.bytes
  have hr := B.returns
  have hts := atoms_spec (ws := wsL_says) B.pre
  have hown : s.vm.findClass RL = some m.cls := findClass_of_methodNamed B.named
  have hlocks := B.notSynchronized
  have htab := vx_table (x := yL_says) B (hts (.codeWith yL_says cL_says 4 (some .int) [(0, 9, 12, 41)]) List.mem_cons_self)
  subst hsz
  have hD := hD0.self (sz := s.heap.size)
  generalize hAe : va_A [(h0, .inr (11, [.ref t0, .ref b0, .ref c0, .ref r0, .ref d0, .ref e0, .ref o0, .ref s0, .ref p0, .ref w0, .int 0, .int 0, .int 0, .int 0, .int ((-1)), .int 0])), (r0, .inr (5, [.ref rn, .ref rp])), (rn, .inl (crn, 4, .inl (upd (upd (upd (upd (fun _ => 0) (0 : Int32).toNatClampNeg 10) (1 : Int32).toNatClampNeg 50) (2 : Int32).toNatClampNeg 10000) (3 : Int32).toNatClampNeg 14))), (ob, .inl (cob, 1, .inr (.inl fo)))] s.heap.size = A at hD hA0 ⊢
  have hA : ∀ q : Nat, s.heap.size ≤ q → A q := fun q h => by rw [← hAe]; exact Or.inr h
  have hS : va_S A s.heap s.heap [] := va_S.rf
  have hl := lv_entry ([.ref h0, .int x, .ref ob]) (n := 4) (Nat.le_of_ble_eq_true rfl)
  rw [lg_entry_eq]
  generalize (lg_sl ([.ref h0, .int x, .ref ob]) ++ List.replicate (4 - (lg_sl ([.ref h0, .int x, .ref ob])).length) Slot.unset).toArray = ls at hl ⊢
  have hl : lv_has ls 4 [(0, .ref h0), (1, .int x), (2, .ref ob)] := hl
  have hP : va_P (dC, dI) vwCl [(h0, .inr (11, [.ref t0, .ref b0, .ref c0, .ref r0, .ref d0, .ref e0, .ref o0, .ref s0, .ref p0, .ref w0, .int 0, .int 0, .int 0, .int 0, .int ((-1)), .int 0])), (r0, .inr (5, [.ref rn, .ref rp])), (rn, .inl (crn, 4, .inl (upd (upd (upd (upd (fun _ => 0) (0 : Int32).toNatClampNeg 10) (1 : Int32).toNatClampNeg 50) (2 : Int32).toNatClampNeg 10000) (3 : Int32).toNatClampNeg 14))), (ob, .inl (cob, 1, .inr (.inl fo)))] s.heap := hP
  have hw0 := hts (.classLink RL 41 "java/util/NoSuchElementException") (by decide +kernel)
  refine lv_aload_n hx hb dL_says_0 rfl (lv_at hl 2 rfl) ?_
  refine lv_iconst (v := 0) hx hb dL_says_1 (by decide) ?_
  refine lv_aload_n hx hb dL_says_2 rfl (lv_at hl 0 rfl) ?_
  refine lv_iload_n hx hb dL_says_3 rfl (lv_at hl 1 rfl) ?_
  have hPc := hP.sub (ws' := [(h0, .inr (11, [.ref t0, .ref b0, .ref c0, .ref r0, .ref d0, .ref e0, .ref o0, .ref s0, .ref p0, .ref w0, .int 0, .int 0, .int 0, .int 0, .int ((-1)), .int 0])), (r0, .inr (5, [.ref rn, .ref rp])), (rn, .inl (crn, 4, .inl (upd (upd (upd (upd (fun _ => 0) (0 : Int32).toNatClampNeg 10) (1 : Int32).toNatClampNeg 50) (2 : Int32).toNatClampNeg 10000) (3 : Int32).toNatClampNeg 14)))]) [0, 1, 2] rfl
  have hDc := hD.sub (ws' := [(h0, .inr (11, [.ref t0, .ref b0, .ref c0, .ref r0, .ref d0, .ref e0, .ref o0, .ref s0, .ref p0, .ref w0, .int 0, .int 0, .int 0, .int 0, .int ((-1)), .int 0])), (r0, .inr (5, [.ref rn, .ref rp])), (rn, .inl (crn, 4, .inl (upd (upd (upd (upd (fun _ => 0) (0 : Int32).toNatClampNeg 10) (1 : Int32).toNatClampNeg 50) (2 : Int32).toNatClampNeg 10000) (3 : Int32).toNatClampNeg 14)))]) [0, 1, 2] (by decide) rfl
  have hKc := hK.sub (tys' := [(crn, .int)]) [0] rfl
  have hFc := va_free (wc := [(h0, .inr (11, [.ref t0, .ref b0, .ref c0, .ref r0, .ref d0, .ref e0, .ref o0, .ref s0, .ref p0, .ref w0, .int 0, .int 0, .int 0, .int 0, .int ((-1)), .int 0])), (r0, .inr (5, [.ref rn, .ref rp])), (rn, .inl (crn, 4, .inl (upd (upd (upd (upd (fun _ => 0) (0 : Int32).toNatClampNeg 10) (1 : Int32).toNatClampNeg 50) (2 : Int32).toNatClampNeg 10000) (3 : Int32).toNatClampNeg 14)))]) hD hS hA [0, 1, 2] rfl
  refine vx_calli (vx_runV (As := [.int x]) (rest := [.int 0, .ref ob]) ⟨hx, hb, hml, hown, hts⟩ (c_says l hl0 dC dI A0 ad s.heap.size h0 t0 b0 c0 r0 d0 e0 o0 s0 p0 w0 rn rp crn x (fun q h => hA0 q (hFc q h))) (cwV 1 hts gL_says_X11_says rfl rfl rfl (by decide +kernel) ⟨Nat.le_of_ble_eq_true rfl, Nat.le_of_ble_eq_true rfl⟩) ⟨zPc_bl, va_recv hKc hPc (ci := 11) (q0 := 0) rfl rfl, zPc_at hz hS hA0 hPc hKc hDc⟩ rfl rfl hl.1 rfl (lv_room (Nat.le_of_ble_eq_true rfl)) dL_says_4 ⟨Nat.le_of_ble_eq_true rfl, Nat.le_of_ble_eq_true rfl⟩) hS (fun q _ h => hFc q h) hFc (fun q _ h => hFc q h) (fun E ce q9 u t H1 locs ht hvm hw hB hz1 hk1 hS hce hcv hcl => ?_) (fun r1 u t H1 locs ht hvm hw hB hz1 hk1 hS => ?_)
  · skip
    have hB : E = "java/util/NoSuchElementException" ∧ zWi x 0 3 = 0 := hB
    obtain ⟨rfl, hX9⟩ := hB
    obtain ⟨hP, hD⟩ := va_join (wr := [(ob, .inl (cob, 1, .inr (.inl fo)))]) (w1 := []) hP hD [0, 1, 2] [3] rfl rfl (by decide) (by decide) hk1 hFc zP0 zD0
    have hK := hK.sub (tys' := [(cob, .long)]) [1] rfl
    generalize H1 = H at hP hS hce ⊢
    have hP : va_P (dC, dI) vwCl [(ob, .inl (cob, 1, .inr (.inl fo)))] H := hP
    have hD : va_D A [(ob, .inl (cob, 1, .inr (.inl fo)))] := hD
    refine vx_catch hown [] { startPc := 0, endPc := 9, handlerPc := 12, catchType := 41 } _ (by rw [htab]; rfl) (fun z h9 => absurd h9 List.not_mem_nil) (by decide) (by decide) hw0 (va_Nw.use rfl (hz.2.2.2.2.2.2.2.1 _ (List.mem_of_getElem? (i := 3) rfl))) hce hcv hcl ?_
    refine W.widen (k := 1) (n := 6) (by decide) (by decide) ?_
    refine lv_astore_n (lv' := [(3, .ref q9), (0, .ref h0), (1, .int x), (2, .ref ob)]) hx hb dL_says_12 rfl hl (by decide) rfl (fun ls hl => ?_)
    refine lv_iconst (v := 1) hx hb dL_says_13 (by decide) ?_
    have hP9 := hP.sub (ws' := [(ob, .inl (cob, 1, .inr (.inl fo)))]) [0] rfl
    have hD9 := hD.sub (ws' := [(ob, .inl (cob, 1, .inr (.inl fo)))]) [0] (by decide) rfl
    have hK9 := hK.sub (tys' := [(cob, .long)]) [0] rfl
    refine W.widen (k := 1) (n := 6) (by decide) (by decide) ?_
    refine vx_ret ?_
    exact W.iret (v := 1) hx hb hr (fun t ht hW => ⟨⟨1, (), rfl, Or.inr ⟨hX9, rfl⟩, ⟨fo, fun q => absurd hX9 q, ⟨by rw [ht]; exact hP9, va_K.moved hW.alike hK9, hD9⟩⟩⟩, hS.F ht⟩) hS.2.2 dL_says_14
  · skip
    obtain ⟨hP1, hK1, hD1⟩ := hB
    rw [ht] at hP1
    have hK1 := va_K.moved hvm.symm hK1
    obtain ⟨hP, hD⟩ := va_join (wr := [(ob, .inl (cob, 1, .inr (.inl fo)))]) (w1 := [(h0, .inr (11, [.ref t0, .ref b0, .ref c0, .ref r0, .ref d0, .ref e0, .ref o0, .ref s0, .ref p0, .ref w0, .int 0, .int 0, .int 0, .int 0, .int ((-1)), .int 0])), (r0, .inr (5, [.ref rn, .ref rp])), (rn, .inl (crn, 4, .inl (upd (upd (upd (upd (fun _ => 0) (0 : Int32).toNatClampNeg 10) (1 : Int32).toNatClampNeg 50) (2 : Int32).toNatClampNeg 10000) (3 : Int32).toNatClampNeg 14)))]) hP hD [0, 1, 2] [3] rfl rfl (by decide) (by decide) hk1 hFc hP1 hD1
    have hK := (hK.sub (tys' := [(cob, .long)]) [1] rfl).app hK1
    generalize H1 = H at hP hS ⊢
    have hP : va_P (dC, dI) vwCl [(ob, .inl (cob, 1, .inr (.inl fo))), (h0, .inr (11, [.ref t0, .ref b0, .ref c0, .ref r0, .ref d0, .ref e0, .ref o0, .ref s0, .ref p0, .ref w0, .int 0, .int 0, .int 0, .int 0, .int ((-1)), .int 0])), (r0, .inr (5, [.ref rn, .ref rp])), (rn, .inl (crn, 4, .inl (upd (upd (upd (upd (fun _ => 0) (0 : Int32).toNatClampNeg 10) (1 : Int32).toNatClampNeg 50) (2 : Int32).toNatClampNeg 10000) (3 : Int32).toNatClampNeg 14)))] H := hP
    have hD : va_D A [(ob, .inl (cob, 1, .inr (.inl fo))), (h0, .inr (11, [.ref t0, .ref b0, .ref c0, .ref r0, .ref d0, .ref e0, .ref o0, .ref s0, .ref p0, .ref w0, .int 0, .int 0, .int 0, .int 0, .int ((-1)), .int 0])), (r0, .inr (5, [.ref rn, .ref rp])), (rn, .inl (crn, 4, .inl (upd (upd (upd (upd (fun _ => 0) (0 : Int32).toNatClampNeg 10) (1 : Int32).toNatClampNeg 50) (2 : Int32).toNatClampNeg 10000) (3 : Int32).toNatClampNeg 14)))] := hD
    have hK : va_K (dC, dI) vwCl [(cob, .long), (crn, .int)] s := hK
    refine W.widen (k := 1) (n := 6) (by decide) (by decide) ?_
    have er1 := hw
    refine lv_i2l (v := (r1).toInt64) hx hb dL_says_7 rfl ?_
    refine va_last (D := (dC, dI)) hx hb hK hP hD hS 0 0 rfl rfl (zIn (by decide) (by decide)) dL_says_8 (fun H locs hP hD hS => ?_)
    have hP : va_P (dC, dI) vwCl [(ob, .inl (cob, 1, .inr (.inl (vp_updL fo (0 : Int32).toNatClampNeg ((r1).toInt64))))), (h0, .inr (11, [.ref t0, .ref b0, .ref c0, .ref r0, .ref d0, .ref e0, .ref o0, .ref s0, .ref p0, .ref w0, .int 0, .int 0, .int 0, .int 0, .int ((-1)), .int 0])), (r0, .inr (5, [.ref rn, .ref rp])), (rn, .inl (crn, 4, .inl (upd (upd (upd (upd (fun _ => 0) (0 : Int32).toNatClampNeg 10) (1 : Int32).toNatClampNeg 50) (2 : Int32).toNatClampNeg 10000) (3 : Int32).toNatClampNeg 14)))] H := hP
    have hD : va_D A [(ob, .inl (cob, 1, .inr (.inl (vp_updL fo (0 : Int32).toNatClampNeg ((r1).toInt64))))), (h0, .inr (11, [.ref t0, .ref b0, .ref c0, .ref r0, .ref d0, .ref e0, .ref o0, .ref s0, .ref p0, .ref w0, .int 0, .int 0, .int 0, .int 0, .int ((-1)), .int 0])), (r0, .inr (5, [.ref rn, .ref rp])), (rn, .inl (crn, 4, .inl (upd (upd (upd (upd (fun _ => 0) (0 : Int32).toNatClampNeg 10) (1 : Int32).toNatClampNeg 50) (2 : Int32).toNatClampNeg 10000) (3 : Int32).toNatClampNeg 14)))] := hD
    refine lv_goto (tgt := 15) hx hb dL_says_9 (by decide) ?_
    refine lv_iconst (v := 0) hx hb dL_says_15 (by decide) ?_
    have hP9 := hP.sub (ws' := [(ob, .inl (cob, 1, .inr (.inl (vp_updL fo (0 : Int32).toNatClampNeg ((r1).toInt64)))))]) [0] rfl
    have hD9 := hD.sub (ws' := [(ob, .inl (cob, 1, .inr (.inl (vp_updL fo (0 : Int32).toNatClampNeg ((r1).toInt64)))))]) [0] (by decide) rfl
    have hK9 := hK.sub (tys' := [(cob, .long)]) [0] rfl
    refine W.widen (k := 1) (n := 6) (by decide) (by decide) ?_
    refine vx_ret ?_
    exact W.iret (v := 0) hx hb hr (fun t ht hW => ⟨⟨0, (), rfl, Or.inl ⟨er1.2, rfl⟩, ⟨(vp_updL fo (0 : Int32).toNatClampNeg ((r1).toInt64)), fun _ => by rw [← er1.1]; rfl, ⟨by rw [ht]; exact hP9, va_K.moved hW.alike hK9, hD9⟩⟩⟩, hS.F ht⟩) hS.2.2 dL_says_16
