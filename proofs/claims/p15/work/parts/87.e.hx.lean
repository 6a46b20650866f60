set_option maxHeartbeats 4000000 in
set_option maxRecDepth 100000 in
/-- the law's rules -/
theorem h_rulesX (l : Launch) (hl0 : l.stackTraces = false) (D : va_G) (A : Nat → Prop) (sad : Nat → Nat) (τ : zTy) (fi : zFi) (fr : zFr) (ol : Int64) (L : Nat) (hF : zFix τ fr) (hn : fi 1 1 = nI L) (hn4 : L ≤ 400) (n : Nat) (hT : zTh τ fi fr n) (h4 : ∀ i, 100 ≤ i → τ.2.2.1 i ≠ 4) : vx_Met l yL_rules wsL_rules ({ frames := 9, cells := 1, slots := 6, locals := 195 }) (va_Pc [.ref (τ.1 0), .ref (τ.1 28)] (zQn D A sad τ fi fr ol)) (va_Qi (fun (r : Int32) (u : zFi × Int64) => (∃ rv : Int32, r = nI 0 ∧ u.2 = rv.toInt64 ∧ ((∃ m D9, zRls (fi 2) L (fun t9 => fi (300 + t9) 1) n 401 (zS (fi 2) L 0) (zDru fi) 0 = .ok (m, D9) ∧ rv = nI m ∧ u.1 0 14 = -1 ∧ zDru u.1 = D9) ∧ u.1 1 1 = nI 0 ∧ ∀ i k, ¬ (i = 1 ∨ i = 10 ∨ i = 11 ∨ i = 13 ∨ i = 14 ∨ (i = 0 ∧ k = 14)) → u.1 i k = fi i k)) ∨ (r = nI 1 ∧ u.2 = ol ∧ ("java/lang/IllegalArgumentException" = "java/lang/IllegalArgumentException" ∧ (∃ p, p ≤ 400 ∧ zRls (fi 2) L (fun t9 => fi (300 + t9) 1) n 401 (zS (fi 2) L 0) (zDru fi) 0 = .error p ∧ u.1 0 14 = nI p ∧ zDru u.1 = zDru fi) ∧ u.1 1 1 = nI 0 ∧ ∀ i k, ¬ (i = 1 ∨ i = 10 ∨ i = 11 ∨ i = 13 ∨ i = 14 ∨ (i = 0 ∧ k = 14)) → u.1 i k = fi i k))) (fun (u : zFi × Int64) (t : State) => zH D A τ u.1 fr u.2 t t.heap) A) (vx_X (fun u : Unit => True) (fun (E : String) (u : Unit) (t : State) => (False) ∧ zH D A τ fi fr ol t t.heap) A) 1 6 A := by
  refine vx_ofWH (cc := cL_rules) (maxL := 3) (ret := (some .int)) (hh := [(0, 8, 11, 13)]) (by decide) rfl ?_
  intro p9 e9 s m args below meth c9 s₁ B hml hv
  obtain ⟨rfl, ⟨hz, hH, hA⟩, hnp⟩ := hv
  have hx := B.exec
  have hb := B.bytes
  have hr := B.returns
  have hts := atoms_spec (ws := wsL_rules) B.pre
  have hown : s.vm.findClass RL = some m.cls := findClass_of_methodNamed B.named
  have hlocks := B.notSynchronized
  have htab := vx_table (x := yL_rules) B (hts (.codeWith yL_rules cL_rules 3 (some .int) [(0, 8, 11, 13)]) List.mem_cons_self)
  have hS : va_S A s.heap s.heap [] := va_S.rf
  have hl := lv_entry ([.ref (τ.1 0), .ref (τ.1 28)]) (n := 3) (Nat.le_of_ble_eq_true rfl)
  rw [lg_entry_eq]
  generalize (lg_sl ([.ref (τ.1 0), .ref (τ.1 28)]) ++ List.replicate (3 - (lg_sl ([.ref (τ.1 0), .ref (τ.1 28)])).length) Slot.unset).toArray = ls at hl ⊢
  have hl : lv_has ls 3 [(0, .ref (τ.1 0)), (1, .ref (τ.1 28))] := hl
  have hw0 := hts (.classLink RL 13 "java/lang/IllegalArgumentException") (by decide +kernel)
  refine lv_aload_n hx hb dL_rules_0 rfl (lv_at hl 1 rfl) ?_
  refine lv_iconst (v := nI 0) hx hb dL_rules_1 (by decide) ?_
  refine lv_aload_n hx hb dL_rules_2 rfl (lv_at hl 0 rfl) ?_
  refine vx_calli (vx_runV (As := []) (rest := [.int (nI 0), .ref (τ.1 28)]) ⟨hx, hb, hml, hown, hts⟩ (w_rulesX l hl0 D A sad τ fi fr ol L hF hn hn4 n hT) (cwV 0 hts gL_rules_X11_rules rfl rfl rfl (by decide +kernel) ⟨Nat.le_of_ble_eq_true rfl, Nat.le_of_ble_eq_true rfl⟩) ⟨zQc_bl, zRecv hH (zk_0 hF) rfl, zQc_at hz hS hA hH⟩ rfl rfl hl.1 rfl (lv_room (Nat.le_of_ble_eq_true rfl)) dL_rules_3 ⟨Nat.le_of_ble_eq_true rfl, Nat.le_of_ble_eq_true rfl⟩) hS (fun q _ h => h) (fun q h => h) (fun q _ h => h) (fun E ce q9 u9 t9 H1 locs ht9 hvm9 hw hB hz1 hk1 hS hce hcv hcl => ?_) (fun r101 u9 t9 H1 locs ht9 hvm9 hw hB hz1 hk1 hS => ?_)
  · obtain ⟨hX, hB⟩ := hB
    have hH := zMv ht9 hvm9 hB
    clear hB
    generalize u9 = f102 at hX hH
    generalize H1 = H at hH hS hce ⊢
    have hEx : E = "java/lang/IllegalArgumentException" := hX.1
    rcases hEx with rfl
    · skip
      refine vx_catch hown [] { startPc := 0, endPc := 8, handlerPc := 11, catchType := 13 } _ (by rw [htab]; rfl) (fun z h9 => absurd h9 List.not_mem_nil) (by decide) (by decide) hw0 (va_Nw.use rfl (hz.1.2.2.2.2.2.2.2.1 _ (List.mem_of_getElem? (i := 1) rfl))) hce hcv hcl ?_
      refine W.widen (k := 1) (n := 6) (by decide) (by decide) ?_
      refine lv_astore_n (lv' := [(2, .ref q9), (0, .ref (τ.1 0)), (1, .ref (τ.1 28))]) hx hb dL_rules_11 rfl hl (by decide) rfl (fun ls hl => ?_)
      refine lv_iconst (v := nI 1) hx hb dL_rules_12 (by decide) ?_
      refine W.widen (k := 1) (n := 6) (by decide) (by decide) ?_
      refine vx_ret ?_
      exact W.iret (v := nI 1) hx hb hr (fun t9 ht9 hW9 => ⟨⟨nI 1, (f102, ol), rfl, (show (∃ rv : Int32, (nI 1) = nI 0 ∧ ol = rv.toInt64 ∧ ((∃ m D9, zRls (fi 2) L (fun t9 => fi (300 + t9) 1) n 401 (zS (fi 2) L 0) (zDru fi) 0 = .ok (m, D9) ∧ rv = nI m ∧ f102 0 14 = -1 ∧ zDru f102 = D9) ∧ f102 1 1 = nI 0 ∧ ∀ i k, ¬ (i = 1 ∨ i = 10 ∨ i = 11 ∨ i = 13 ∨ i = 14 ∨ (i = 0 ∧ k = 14)) → f102 i k = fi i k)) ∨ ((nI 1) = nI 1 ∧ ol = ol ∧ ("java/lang/IllegalArgumentException" = "java/lang/IllegalArgumentException" ∧ (∃ p, p ≤ 400 ∧ zRls (fi 2) L (fun t9 => fi (300 + t9) 1) n 401 (zS (fi 2) L 0) (zDru fi) 0 = .error p ∧ f102 0 14 = nI p ∧ zDru f102 = zDru fi) ∧ f102 1 1 = nI 0 ∧ ∀ i k, ¬ (i = 1 ∨ i = 10 ∨ i = 11 ∨ i = 13 ∨ i = 14 ∨ (i = 0 ∧ k = 14)) → f102 i k = fi i k)) from Or.inr (⟨rfl, rfl, hX⟩)), zEnd1 hH ht9 hW9⟩, hS.F ht9⟩) hS.2.2 dL_rules_13
  · skip
    have hH := zMv ht9 hvm9 hB
    clear hB
    generalize u9 = f103 at hw hH
    generalize H1 = H at hH hS ⊢
    refine W.widen (k := 1) (n := 6) (by decide) (by decide) ?_
    have hcp := hw
    clear hw
    have hun := zFix.un hF h4
    refine lv_i2l hx hb dL_rules_6 rfl ?_
    refine lv_topl (fun v104 ev104 => ?_)
    refine zLast (D := D) hx hb hH hS (zk_28 hF) (hun) (zn_28 hF) dL_rules_7 (fun H locs hH hS => ?_)
    refine lv_goto (tgt := 14) hx hb dL_rules_8 (by decide) ?_
    refine lv_iconst (v := nI 0) hx hb dL_rules_14 (by decide) ?_
    refine W.widen (k := 1) (n := 6) (by decide) (by decide) ?_
    refine vx_ret ?_
    exact W.iret (v := nI 0) hx hb hr (fun t9 ht9 hW9 => ⟨⟨nI 0, (f103, v104), rfl, (show (∃ rv : Int32, (nI 0) = nI 0 ∧ v104 = rv.toInt64 ∧ ((∃ m D9, zRls (fi 2) L (fun t9 => fi (300 + t9) 1) n 401 (zS (fi 2) L 0) (zDru fi) 0 = .ok (m, D9) ∧ rv = nI m ∧ f103 0 14 = -1 ∧ zDru f103 = D9) ∧ f103 1 1 = nI 0 ∧ ∀ i k, ¬ (i = 1 ∨ i = 10 ∨ i = 11 ∨ i = 13 ∨ i = 14 ∨ (i = 0 ∧ k = 14)) → f103 i k = fi i k)) ∨ ((nI 0) = nI 1 ∧ v104 = ol ∧ ("java/lang/IllegalArgumentException" = "java/lang/IllegalArgumentException" ∧ (∃ p, p ≤ 400 ∧ zRls (fi 2) L (fun t9 => fi (300 + t9) 1) n 401 (zS (fi 2) L 0) (zDru fi) 0 = .error p ∧ f103 0 14 = nI p ∧ zDru f103 = zDru fi) ∧ f103 1 1 = nI 0 ∧ ∀ i k, ¬ (i = 1 ∨ i = 10 ∨ i = 11 ∨ i = 13 ∨ i = 14 ∨ (i = 0 ∧ k = 14)) → f103 i k = fi i k)) from Or.inl (⟨r101, rfl, ev104, hcp⟩)), zEnd1 hH ht9 hW9⟩, hS.F ht9⟩) hS.2.2 dL_rules_15
set_option maxHeartbeats 4000000 in
set_option maxRecDepth 100000 in
/-- the law's letter -/
theorem h_letterN (l : Launch) (hl0 : l.stackTraces = false) (D : va_G) (A : Nat → Prop) (sad : Nat → Nat) (τ : zTy) (fi : zFi) (fr : zFr) (ol : Int64) (L : Nat) (hF : zFix τ fr) (hn : fi 1 1 = nI L) (hn4 : L ≤ 400) (n : Nat) (hT : zTh τ fi fr n) (o : Nat) (hO : zOr τ fi fr n o) (q : Nat) (hDo : zDo τ fi fr q) (td : Nat) (cd pN : Nat → Nat) (hPk : zqPk fi n td cd pN) (hq1 : q < 512) (h4 : ∀ i, 100 ≤ i → τ.2.2.1 i ≠ 4) : vx_Met l yL_letter wsL_letter ({ frames := 8, cells := 14, slots := 126, locals := 175 }) (va_Pc [.ref (τ.1 0), .ref (τ.1 28)] (zQn D A sad τ fi fr ol)) (va_Qi (fun (r : Int32) (u : zTy × zFi × zFr × Int64) => (∃ rv : Int32, r = nI 0 ∧ u.2.2.2 = rv.toInt64 ∧ ((∃ xl lc2 m2 b2, zLet (fi 2) L (zS (fi 2) L 0) = .ok xl ∧ zLm2 cd pN n xl lc2 m2 b2 ∧ (((b2 = 1 ∧ zPd cd pN n (fi 10) xl.1 lc2 (zMnN xl) xl.2.2.2.2) ∧ o < 60 ∧ rv = nI o ∧ zLo τ fi fr n o q u.1 u.2.1 u.2.2.1) ∨ (¬ (b2 = 1 ∧ zPd cd pN n (fi 10) xl.1 lc2 (zMnN xl) xl.2.2.2.2) ∧ zWt fi q < 20 ∧ rv = -1 - nI (q + 1) ∧ zLd τ fi fr q u.1 u.2.1 u.2.2.1 ∧ zqLw u.2.1 q xl.1 lc2 (zMnN xl) ∧ u.2.1 (3000 + q) 3 = nI (zN xl.2.2.2.1) ∧ u.2.1 (3000 + q) 4 = xl.2.2.2.2 ∧ u.2.1 (3000 + q) 5 = nI m2 ∧ u.2.1 (3000 + q) 8 = nI (zCn (fun j => zPo cd pN n (lc2 j)) xl.1) ∧ u.2.1 (3000 + q) 9 = nI 1))) ∧ u.2.1 0 14 = zFv (zLet (fi 2) L (zS (fi 2) L 0)))) ∨ (r = nI 1 ∧ u.2.2.2 = ol ∧ (("java/lang/IllegalArgumentException" = "java/lang/IllegalArgumentException" ∧ (∃ p, zLet (fi 2) L (zS (fi 2) L 0) = .error p) ∧ zLg τ fi fr q u.1 u.2.1 u.2.2.1 ∧ u.2.1 0 14 = zFv (zLet (fi 2) L (zS (fi 2) L 0))) ∨ ("java/lang/IllegalArgumentException" = "java/lang/UnsupportedOperationException" ∧ (∃ xl lc2 m2 b2, zLet (fi 2) L (zS (fi 2) L 0) = .ok xl ∧ zLm2 cd pN n xl lc2 m2 b2 ∧ (((b2 = 1 ∧ zPd cd pN n (fi 10) xl.1 lc2 (zMnN xl) xl.2.2.2.2) ∧ o = 60) ∨ (¬ (b2 = 1 ∧ zPd cd pN n (fi 10) xl.1 lc2 (zMnN xl) xl.2.2.2.2) ∧ 20 ≤ zWt fi q))) ∧ zLg τ fi fr q u.1 u.2.1 u.2.2.1 ∧ u.2.1 0 14 = zFv (zLet (fi 2) L (zS (fi 2) L 0))))) ∨ (r = nI 2 ∧ u.2.2.2 = ol ∧ (("java/lang/UnsupportedOperationException" = "java/lang/IllegalArgumentException" ∧ (∃ p, zLet (fi 2) L (zS (fi 2) L 0) = .error p) ∧ zLg τ fi fr q u.1 u.2.1 u.2.2.1 ∧ u.2.1 0 14 = zFv (zLet (fi 2) L (zS (fi 2) L 0))) ∨ ("java/lang/UnsupportedOperationException" = "java/lang/UnsupportedOperationException" ∧ (∃ xl lc2 m2 b2, zLet (fi 2) L (zS (fi 2) L 0) = .ok xl ∧ zLm2 cd pN n xl lc2 m2 b2 ∧ (((b2 = 1 ∧ zPd cd pN n (fi 10) xl.1 lc2 (zMnN xl) xl.2.2.2.2) ∧ o = 60) ∨ (¬ (b2 = 1 ∧ zPd cd pN n (fi 10) xl.1 lc2 (zMnN xl) xl.2.2.2.2) ∧ 20 ≤ zWt fi q))) ∧ zLg τ fi fr q u.1 u.2.1 u.2.2.1 ∧ u.2.1 0 14 = zFv (zLet (fi 2) L (zS (fi 2) L 0)))))) (fun (u : zTy × zFi × zFr × Int64) (t : State) => zH D A u.1 u.2.1 u.2.2.1 u.2.2.2 t t.heap) A) (vx_X (fun u : Unit => True) (fun (E : String) (u : Unit) (t : State) => (False) ∧ zH D A τ fi fr ol t t.heap) A) 14 126 A := by
  refine vx_ofWH (cc := cL_letter) (maxL := 3) (ret := (some .int)) (hh := [(0, 8, 11, 13), (0, 8, 14, 15)]) (by decide) rfl ?_
  intro p9 e9 s m args below meth c9 s₁ B hml hv
  obtain ⟨rfl, ⟨hz, hH, hA⟩, hnp⟩ := hv
  have hx := B.exec
  have hb := B.bytes
  have hr := B.returns
  have hts := atoms_spec (ws := wsL_letter) B.pre
  have hown : s.vm.findClass RL = some m.cls := findClass_of_methodNamed B.named
  have hlocks := B.notSynchronized
  have htab := vx_table (x := yL_letter) B (hts (.codeWith yL_letter cL_letter 3 (some .int) [(0, 8, 11, 13), (0, 8, 14, 15)]) List.mem_cons_self)
  have hS : va_S A s.heap s.heap [] := va_S.rf
  have hl := lv_entry ([.ref (τ.1 0), .ref (τ.1 28)]) (n := 3) (Nat.le_of_ble_eq_true rfl)
  rw [lg_entry_eq]
  generalize (lg_sl ([.ref (τ.1 0), .ref (τ.1 28)]) ++ List.replicate (3 - (lg_sl ([.ref (τ.1 0), .ref (τ.1 28)])).length) Slot.unset).toArray = ls at hl ⊢
  have hl : lv_has ls 3 [(0, .ref (τ.1 0)), (1, .ref (τ.1 28))] := hl
  have hw0 := hts (.classLink RL 13 "java/lang/IllegalArgumentException") (by decide +kernel)
  have hw1 := hts (.classLink RL 15 "java/lang/UnsupportedOperationException") (by decide +kernel)
  refine lv_aload_n hx hb dL_letter_0 rfl (lv_at hl 1 rfl) ?_
  refine lv_iconst (v := nI 0) hx hb dL_letter_1 (by decide) ?_
  refine lv_aload_n hx hb dL_letter_2 rfl (lv_at hl 0 rfl) ?_
  refine vx_calli (vx_runV (As := []) (rest := [.int (nI 0), .ref (τ.1 28)]) ⟨hx, hb, hml, hown, hts⟩ (c_letterN l hl0 D A sad τ fi fr ol L hF hn hn4 n hT o hO q hDo td cd pN hPk hq1) (cwV 0 hts gL_letter_X11_letter rfl rfl rfl (by decide +kernel) ⟨Nat.le_of_ble_eq_true rfl, Nat.le_of_ble_eq_true rfl⟩) ⟨zQc_bl, zRecv hH (zk_0 hF) rfl, zQc_at hz hS hA hH⟩ rfl rfl hl.1 rfl (lv_room (Nat.le_of_ble_eq_true rfl)) dL_letter_3 ⟨Nat.le_of_ble_eq_true rfl, Nat.le_of_ble_eq_true rfl⟩) hS (fun q _ h => h) (fun q h => h) (fun q _ h => h) (fun E ce q9 u9 t9 H1 locs ht9 hvm9 hw hB hz1 hk1 hS hce hcv hcl => ?_) (fun r101 u9 t9 H1 locs ht9 hvm9 hw hB hz1 hk1 hS => ?_)
  · obtain ⟨hX, hB⟩ := hB
    obtain ⟨τ102, f103, g104⟩ := u9
    have hH := zMv ht9 hvm9 hB
    clear hB
    simp only at hX hH
    generalize H1 = H at hH hS hce ⊢
    have hEx : E = "java/lang/IllegalArgumentException" ∨ E = "java/lang/UnsupportedOperationException" := by rcases hX with h9 | h9; (exact Or.inl h9.1); exact Or.inr h9.1
    rcases hEx with rfl | rfl
    · skip
      have hF5 : zFix τ102 g104 := by rcases hX with h9 | h9 <;> exact h9.2.2.1.1
      have ha5 : ∀ i, i < 100 → τ102.1 i = τ.1 i := fun i h => by rcases hX with h9 | h9 <;> exact (h9.2.2.1.2.2.2.1 i (by omega)).1
      
      rw [show τ.1 0 = τ102.1 0 from (ha5 0 (by omega)).symm] at hl
      rw [show τ.1 28 = τ102.1 28 from (ha5 28 (by omega)).symm] at hl
      refine vx_catch hown [] { startPc := 0, endPc := 8, handlerPc := 11, catchType := 13 } _ (by rw [htab]; rfl) (fun z h9 => absurd h9 List.not_mem_nil) (by decide) (by decide) hw0 (va_Nw.use rfl (hz.1.2.2.2.2.2.2.2.1 _ (List.mem_of_getElem? (i := 1) rfl))) hce hcv hcl ?_
      refine W.widen (k := 14) (n := 126) (by decide) (by decide) ?_
      refine lv_astore_n (lv' := [(2, .ref q9), (0, .ref (τ102.1 0)), (1, .ref (τ102.1 28))]) hx hb dL_letter_11 rfl hl (by decide) rfl (fun ls hl => ?_)
      refine lv_iconst (v := nI 1) hx hb dL_letter_12 (by decide) ?_
      refine W.widen (k := 14) (n := 126) (by decide) (by decide) ?_
      refine vx_ret ?_
      exact W.iret (v := nI 1) hx hb hr (fun t9 ht9 hW9 => ⟨⟨nI 1, (τ102, f103, g104, ol), rfl, (show (∃ rv : Int32, (nI 1) = nI 0 ∧ ol = rv.toInt64 ∧ ((∃ xl lc2 m2 b2, zLet (fi 2) L (zS (fi 2) L 0) = .ok xl ∧ zLm2 cd pN n xl lc2 m2 b2 ∧ (((b2 = 1 ∧ zPd cd pN n (fi 10) xl.1 lc2 (zMnN xl) xl.2.2.2.2) ∧ o < 60 ∧ rv = nI o ∧ zLo τ fi fr n o q τ102 f103 g104) ∨ (¬ (b2 = 1 ∧ zPd cd pN n (fi 10) xl.1 lc2 (zMnN xl) xl.2.2.2.2) ∧ zWt fi q < 20 ∧ rv = -1 - nI (q + 1) ∧ zLd τ fi fr q τ102 f103 g104 ∧ zqLw f103 q xl.1 lc2 (zMnN xl) ∧ f103 (3000 + q) 3 = nI (zN xl.2.2.2.1) ∧ f103 (3000 + q) 4 = xl.2.2.2.2 ∧ f103 (3000 + q) 5 = nI m2 ∧ f103 (3000 + q) 8 = nI (zCn (fun j => zPo cd pN n (lc2 j)) xl.1) ∧ f103 (3000 + q) 9 = nI 1))) ∧ f103 0 14 = zFv (zLet (fi 2) L (zS (fi 2) L 0)))) ∨ ((nI 1) = nI 1 ∧ ol = ol ∧ (("java/lang/IllegalArgumentException" = "java/lang/IllegalArgumentException" ∧ (∃ p, zLet (fi 2) L (zS (fi 2) L 0) = .error p) ∧ zLg τ fi fr q τ102 f103 g104 ∧ f103 0 14 = zFv (zLet (fi 2) L (zS (fi 2) L 0))) ∨ ("java/lang/IllegalArgumentException" = "java/lang/UnsupportedOperationException" ∧ (∃ xl lc2 m2 b2, zLet (fi 2) L (zS (fi 2) L 0) = .ok xl ∧ zLm2 cd pN n xl lc2 m2 b2 ∧ (((b2 = 1 ∧ zPd cd pN n (fi 10) xl.1 lc2 (zMnN xl) xl.2.2.2.2) ∧ o = 60) ∨ (¬ (b2 = 1 ∧ zPd cd pN n (fi 10) xl.1 lc2 (zMnN xl) xl.2.2.2.2) ∧ 20 ≤ zWt fi q))) ∧ zLg τ fi fr q τ102 f103 g104 ∧ f103 0 14 = zFv (zLet (fi 2) L (zS (fi 2) L 0))))) ∨ ((nI 1) = nI 2 ∧ ol = ol ∧ (("java/lang/UnsupportedOperationException" = "java/lang/IllegalArgumentException" ∧ (∃ p, zLet (fi 2) L (zS (fi 2) L 0) = .error p) ∧ zLg τ fi fr q τ102 f103 g104 ∧ f103 0 14 = zFv (zLet (fi 2) L (zS (fi 2) L 0))) ∨ ("java/lang/UnsupportedOperationException" = "java/lang/UnsupportedOperationException" ∧ (∃ xl lc2 m2 b2, zLet (fi 2) L (zS (fi 2) L 0) = .ok xl ∧ zLm2 cd pN n xl lc2 m2 b2 ∧ (((b2 = 1 ∧ zPd cd pN n (fi 10) xl.1 lc2 (zMnN xl) xl.2.2.2.2) ∧ o = 60) ∨ (¬ (b2 = 1 ∧ zPd cd pN n (fi 10) xl.1 lc2 (zMnN xl) xl.2.2.2.2) ∧ 20 ≤ zWt fi q))) ∧ zLg τ fi fr q τ102 f103 g104 ∧ f103 0 14 = zFv (zLet (fi 2) L (zS (fi 2) L 0))))) from Or.inr (Or.inl (⟨rfl, rfl, hX⟩))), zEnd1 hH ht9 hW9⟩, hS.F ht9⟩) hS.2.2 dL_letter_13
    · skip
      have hF5 : zFix τ102 g104 := by rcases hX with h9 | h9 <;> exact h9.2.2.1.1
      have ha5 : ∀ i, i < 100 → τ102.1 i = τ.1 i := fun i h => by rcases hX with h9 | h9 <;> exact (h9.2.2.1.2.2.2.1 i (by omega)).1
      
      rw [show τ.1 0 = τ102.1 0 from (ha5 0 (by omega)).symm] at hl
      rw [show τ.1 28 = τ102.1 28 from (ha5 28 (by omega)).symm] at hl
      refine vx_catch hown [{ startPc := 0, endPc := 8, handlerPc := 11, catchType := 13 }] { startPc := 0, endPc := 8, handlerPc := 14, catchType := 15 } _ (by rw [htab]; rfl) (List.forall_mem_cons.mpr ⟨Or.inr ⟨by decide, "java/lang/IllegalArgumentException", hw0, hnp _ (by decide) _ (by decide) (by decide)⟩, fun z h9 => absurd h9 List.not_mem_nil⟩) (by decide) (by decide) hw1 (va_Nw.use rfl (hz.1.2.2.2.2.2.2.2.1 _ (List.mem_of_getElem? (i := 2) rfl))) hce hcv hcl ?_
      refine W.widen (k := 14) (n := 126) (by decide) (by decide) ?_
      refine lv_astore_n (lv' := [(2, .ref q9), (0, .ref (τ102.1 0)), (1, .ref (τ102.1 28))]) hx hb dL_letter_14 rfl hl (by decide) rfl (fun ls hl => ?_)
      refine lv_iconst (v := nI 2) hx hb dL_letter_15 (by decide) ?_
      refine W.widen (k := 14) (n := 126) (by decide) (by decide) ?_
      refine vx_ret ?_
      exact W.iret (v := nI 2) hx hb hr (fun t9 ht9 hW9 => ⟨⟨nI 2, (τ102, f103, g104, ol), rfl, (show (∃ rv : Int32, (nI 2) = nI 0 ∧ ol = rv.toInt64 ∧ ((∃ xl lc2 m2 b2, zLet (fi 2) L (zS (fi 2) L 0) = .ok xl ∧ zLm2 cd pN n xl lc2 m2 b2 ∧ (((b2 = 1 ∧ zPd cd pN n (fi 10) xl.1 lc2 (zMnN xl) xl.2.2.2.2) ∧ o < 60 ∧ rv = nI o ∧ zLo τ fi fr n o q τ102 f103 g104) ∨ (¬ (b2 = 1 ∧ zPd cd pN n (fi 10) xl.1 lc2 (zMnN xl) xl.2.2.2.2) ∧ zWt fi q < 20 ∧ rv = -1 - nI (q + 1) ∧ zLd τ fi fr q τ102 f103 g104 ∧ zqLw f103 q xl.1 lc2 (zMnN xl) ∧ f103 (3000 + q) 3 = nI (zN xl.2.2.2.1) ∧ f103 (3000 + q) 4 = xl.2.2.2.2 ∧ f103 (3000 + q) 5 = nI m2 ∧ f103 (3000 + q) 8 = nI (zCn (fun j => zPo cd pN n (lc2 j)) xl.1) ∧ f103 (3000 + q) 9 = nI 1))) ∧ f103 0 14 = zFv (zLet (fi 2) L (zS (fi 2) L 0)))) ∨ ((nI 2) = nI 1 ∧ ol = ol ∧ (("java/lang/IllegalArgumentException" = "java/lang/IllegalArgumentException" ∧ (∃ p, zLet (fi 2) L (zS (fi 2) L 0) = .error p) ∧ zLg τ fi fr q τ102 f103 g104 ∧ f103 0 14 = zFv (zLet (fi 2) L (zS (fi 2) L 0))) ∨ ("java/lang/IllegalArgumentException" = "java/lang/UnsupportedOperationException" ∧ (∃ xl lc2 m2 b2, zLet (fi 2) L (zS (fi 2) L 0) = .ok xl ∧ zLm2 cd pN n xl lc2 m2 b2 ∧ (((b2 = 1 ∧ zPd cd pN n (fi 10) xl.1 lc2 (zMnN xl) xl.2.2.2.2) ∧ o = 60) ∨ (¬ (b2 = 1 ∧ zPd cd pN n (fi 10) xl.1 lc2 (zMnN xl) xl.2.2.2.2) ∧ 20 ≤ zWt fi q))) ∧ zLg τ fi fr q τ102 f103 g104 ∧ f103 0 14 = zFv (zLet (fi 2) L (zS (fi 2) L 0))))) ∨ ((nI 2) = nI 2 ∧ ol = ol ∧ (("java/lang/UnsupportedOperationException" = "java/lang/IllegalArgumentException" ∧ (∃ p, zLet (fi 2) L (zS (fi 2) L 0) = .error p) ∧ zLg τ fi fr q τ102 f103 g104 ∧ f103 0 14 = zFv (zLet (fi 2) L (zS (fi 2) L 0))) ∨ ("java/lang/UnsupportedOperationException" = "java/lang/UnsupportedOperationException" ∧ (∃ xl lc2 m2 b2, zLet (fi 2) L (zS (fi 2) L 0) = .ok xl ∧ zLm2 cd pN n xl lc2 m2 b2 ∧ (((b2 = 1 ∧ zPd cd pN n (fi 10) xl.1 lc2 (zMnN xl) xl.2.2.2.2) ∧ o = 60) ∨ (¬ (b2 = 1 ∧ zPd cd pN n (fi 10) xl.1 lc2 (zMnN xl) xl.2.2.2.2) ∧ 20 ≤ zWt fi q))) ∧ zLg τ fi fr q τ102 f103 g104 ∧ f103 0 14 = zFv (zLet (fi 2) L (zS (fi 2) L 0))))) from Or.inr (Or.inr (⟨rfl, rfl, hX⟩))), zEnd1 hH ht9 hW9⟩, hS.F ht9⟩) hS.2.2 dL_letter_16
  · skip
    obtain ⟨τ105, f106, g107⟩ := u9
    have hH := zMv ht9 hvm9 hB
    clear hB
    simp only at hw hH
    generalize H1 = H at hH hS ⊢
    refine W.widen (k := 14) (n := 126) (by decide) (by decide) ?_
    have hcp := hw
    clear hw
    have hF5 : zFix τ105 g107 := by obtain ⟨⟨xl, lc2, m2, b2, -, -, h9 | h9⟩, -⟩ := hcp; (exact h9.2.2.2.2.1); exact h9.2.2.2.1.2.1
    have h45 := (by obtain ⟨⟨xl, lc2, m2, b2, -, -, h9 | h9⟩, -⟩ := hcp; (exact n4_Lo h4 h9.2.2.2); exact n4_Ld h4 h9.2.2.2.1 : ∀ i, 100 ≤ i → τ105.2.2.1 i ≠ 4)
    have hun := zFix.un hF5 h45
    have ha5 : ∀ i, i < 100 → τ105.1 i = τ.1 i := fun i h => by obtain ⟨⟨xl, lc2, m2, b2, -, -, h9 | h9⟩, -⟩ := hcp; (exact (h9.2.2.2.2.2.2.2.1 i (by omega)).1); exact (h9.2.2.2.1.2.2.2.1 i (by omega)).1
    rw [show τ.1 0 = τ105.1 0 from (ha5 0 (by omega)).symm] at hl
    rw [show τ.1 28 = τ105.1 28 from (ha5 28 (by omega)).symm] at hl
    refine W.eq (g2 := F0 m 6 ls [.int r101, .int (nI 0), .ref (τ105.1 28)]) (by rw [ha5 28 (by omega)]) ?_
    refine lv_i2l hx hb dL_letter_6 rfl ?_
    refine lv_topl (fun v108 ev108 => ?_)
    refine zLast (D := D) hx hb hH hS (zk_28 hF5) (hun) (zn_28 hF5) dL_letter_7 (fun H locs hH hS => ?_)
    refine lv_goto (tgt := 17) hx hb dL_letter_8 (by decide) ?_
    refine lv_iconst (v := nI 0) hx hb dL_letter_17 (by decide) ?_
    refine W.widen (k := 14) (n := 126) (by decide) (by decide) ?_
    refine vx_ret ?_
    exact W.iret (v := nI 0) hx hb hr (fun t9 ht9 hW9 => ⟨⟨nI 0, (τ105, f106, g107, v108), rfl, (show (∃ rv : Int32, (nI 0) = nI 0 ∧ v108 = rv.toInt64 ∧ ((∃ xl lc2 m2 b2, zLet (fi 2) L (zS (fi 2) L 0) = .ok xl ∧ zLm2 cd pN n xl lc2 m2 b2 ∧ (((b2 = 1 ∧ zPd cd pN n (fi 10) xl.1 lc2 (zMnN xl) xl.2.2.2.2) ∧ o < 60 ∧ rv = nI o ∧ zLo τ fi fr n o q τ105 f106 g107) ∨ (¬ (b2 = 1 ∧ zPd cd pN n (fi 10) xl.1 lc2 (zMnN xl) xl.2.2.2.2) ∧ zWt fi q < 20 ∧ rv = -1 - nI (q + 1) ∧ zLd τ fi fr q τ105 f106 g107 ∧ zqLw f106 q xl.1 lc2 (zMnN xl) ∧ f106 (3000 + q) 3 = nI (zN xl.2.2.2.1) ∧ f106 (3000 + q) 4 = xl.2.2.2.2 ∧ f106 (3000 + q) 5 = nI m2 ∧ f106 (3000 + q) 8 = nI (zCn (fun j => zPo cd pN n (lc2 j)) xl.1) ∧ f106 (3000 + q) 9 = nI 1))) ∧ f106 0 14 = zFv (zLet (fi 2) L (zS (fi 2) L 0)))) ∨ ((nI 0) = nI 1 ∧ v108 = ol ∧ (("java/lang/IllegalArgumentException" = "java/lang/IllegalArgumentException" ∧ (∃ p, zLet (fi 2) L (zS (fi 2) L 0) = .error p) ∧ zLg τ fi fr q τ105 f106 g107 ∧ f106 0 14 = zFv (zLet (fi 2) L (zS (fi 2) L 0))) ∨ ("java/lang/IllegalArgumentException" = "java/lang/UnsupportedOperationException" ∧ (∃ xl lc2 m2 b2, zLet (fi 2) L (zS (fi 2) L 0) = .ok xl ∧ zLm2 cd pN n xl lc2 m2 b2 ∧ (((b2 = 1 ∧ zPd cd pN n (fi 10) xl.1 lc2 (zMnN xl) xl.2.2.2.2) ∧ o = 60) ∨ (¬ (b2 = 1 ∧ zPd cd pN n (fi 10) xl.1 lc2 (zMnN xl) xl.2.2.2.2) ∧ 20 ≤ zWt fi q))) ∧ zLg τ fi fr q τ105 f106 g107 ∧ f106 0 14 = zFv (zLet (fi 2) L (zS (fi 2) L 0))))) ∨ ((nI 0) = nI 2 ∧ v108 = ol ∧ (("java/lang/UnsupportedOperationException" = "java/lang/IllegalArgumentException" ∧ (∃ p, zLet (fi 2) L (zS (fi 2) L 0) = .error p) ∧ zLg τ fi fr q τ105 f106 g107 ∧ f106 0 14 = zFv (zLet (fi 2) L (zS (fi 2) L 0))) ∨ ("java/lang/UnsupportedOperationException" = "java/lang/UnsupportedOperationException" ∧ (∃ xl lc2 m2 b2, zLet (fi 2) L (zS (fi 2) L 0) = .ok xl ∧ zLm2 cd pN n xl lc2 m2 b2 ∧ (((b2 = 1 ∧ zPd cd pN n (fi 10) xl.1 lc2 (zMnN xl) xl.2.2.2.2) ∧ o = 60) ∨ (¬ (b2 = 1 ∧ zPd cd pN n (fi 10) xl.1 lc2 (zMnN xl) xl.2.2.2.2) ∧ 20 ≤ zWt fi q))) ∧ zLg τ fi fr q τ105 f106 g107 ∧ f106 0 14 = zFv (zLet (fi 2) L (zS (fi 2) L 0))))) from Or.inl (⟨r101, rfl, ev108, hcp⟩)), zEnd1 hH ht9 hW9⟩, hS.F ht9⟩) hS.2.2 dL_letter_18
set_option maxHeartbeats 4000000 in
set_option maxRecDepth 100000 in
/-- the law's settle -/
theorem h_settleN (l : Launch) (hl0 : l.stackTraces = false) (D : va_G) (A : Nat → Prop) (sad : Nat → Nat) (τ : zTy) (fi : zFi) (fr : zFr) (ol : Int64) (x y : Int32) (hF : zFix τ fr) (n : Nat) (hT : zTh τ fi fr n) (o : Nat) (hO : zOr τ fi fr n o) (d : Nat) (hDo : zDo τ fi fr d) (td : Nat) (cd pN : Nat → Nat) (hPk : zqPk fi n td cd pN) (LL : Nat → Nat) (LC MN : Nat → Nat → Nat) (hDl : ∀ q, q < d → zqLw fi q (LL q) (LC q) (MN q)) (h4 : ∀ i, 100 ≤ i → τ.2.2.1 i ≠ 4) : vx_Met l yL_settle wsL_settle ({ frames := 8, cells := 12, slots := 106, locals := 138 }) (va_Pc [.ref (τ.1 0), .int x, .int y, .ref (τ.1 28)] (zQn D A sad τ fi fr ol)) (va_Qi (fun (r : Int32) (u : zTy × zFi × zFr × Int64) => (∃ rv : Int32, r = nI 0 ∧ u.2.2.2 = rv.toInt64 ∧ (∃ b, b < d ∧ x = nI b ∧ ¬ fi (3000 + b) 9 = 0 ∧ ((y.toInt = 0 ∧ rv = -1 ∧ u.1 = τ ∧ u.2.2.1 = fr ∧ u.2.1 = zu fi (3000 + b) 9 (nI 0)) ∨ (¬ y.toInt = 0 ∧ ¬ zPd cd pN n (fi 10) (LL b) (LC b) (MN b) (fi (3000 + b) 4) ∧ rv = -1 ∧ u.1 = τ ∧ u.2.2.1 = fr ∧ u.2.1 = fi) ∨ (¬ y.toInt = 0 ∧ zPd cd pN n (fi 10) (LL b) (LC b) (MN b) (fi (3000 + b) 4) ∧ o < 60 ∧ rv = nI o ∧ zNO τ (zu fi (3000 + b) 9 (nI 0)) fr n o u.1 u.2.1 u.2.2.1)))) ∨ (r = nI 1 ∧ u.1 = τ ∧ u.2.1 = fi ∧ u.2.2.1 = fr ∧ u.2.2.2 = ol ∧ (("java/lang/IndexOutOfBoundsException" = "java/lang/IndexOutOfBoundsException" ∧ ¬ (0 ≤ x.toInt ∧ x.toInt < (d : Int))) ∨ ("java/lang/IndexOutOfBoundsException" = "java/lang/IllegalStateException" ∧ ∃ b, b < d ∧ x = nI b ∧ fi (3000 + b) 9 = 0) ∨ ("java/lang/IndexOutOfBoundsException" = "java/lang/UnsupportedOperationException" ∧ ∃ b, b < d ∧ x = nI b ∧ ¬ fi (3000 + b) 9 = 0 ∧ ¬ y.toInt = 0 ∧ zPd cd pN n (fi 10) (LL b) (LC b) (MN b) (fi (3000 + b) 4) ∧ o = 60))) ∨ (r = nI 2 ∧ u.1 = τ ∧ u.2.1 = fi ∧ u.2.2.1 = fr ∧ u.2.2.2 = ol ∧ (("java/lang/IllegalStateException" = "java/lang/IndexOutOfBoundsException" ∧ ¬ (0 ≤ x.toInt ∧ x.toInt < (d : Int))) ∨ ("java/lang/IllegalStateException" = "java/lang/IllegalStateException" ∧ ∃ b, b < d ∧ x = nI b ∧ fi (3000 + b) 9 = 0) ∨ ("java/lang/IllegalStateException" = "java/lang/UnsupportedOperationException" ∧ ∃ b, b < d ∧ x = nI b ∧ ¬ fi (3000 + b) 9 = 0 ∧ ¬ y.toInt = 0 ∧ zPd cd pN n (fi 10) (LL b) (LC b) (MN b) (fi (3000 + b) 4) ∧ o = 60))) ∨ (r = nI 3 ∧ u.1 = τ ∧ u.2.1 = fi ∧ u.2.2.1 = fr ∧ u.2.2.2 = ol ∧ (("java/lang/UnsupportedOperationException" = "java/lang/IndexOutOfBoundsException" ∧ ¬ (0 ≤ x.toInt ∧ x.toInt < (d : Int))) ∨ ("java/lang/UnsupportedOperationException" = "java/lang/IllegalStateException" ∧ ∃ b, b < d ∧ x = nI b ∧ fi (3000 + b) 9 = 0) ∨ ("java/lang/UnsupportedOperationException" = "java/lang/UnsupportedOperationException" ∧ ∃ b, b < d ∧ x = nI b ∧ ¬ fi (3000 + b) 9 = 0 ∧ ¬ y.toInt = 0 ∧ zPd cd pN n (fi 10) (LL b) (LC b) (MN b) (fi (3000 + b) 4) ∧ o = 60)))) (fun (u : zTy × zFi × zFr × Int64) (t : State) => zH D A u.1 u.2.1 u.2.2.1 u.2.2.2 t t.heap) A) (vx_X (fun u : Unit => True) (fun (E : String) (u : Unit) (t : State) => (False) ∧ zH D A τ fi fr ol t t.heap) A) 12 106 A := by
  refine vx_ofWH (cc := cL_settle) (maxL := 5) (ret := (some .int)) (hh := [(0, 10, 13, 20), (0, 10, 17, 56), (0, 10, 21, 15)]) (by decide) rfl ?_
  intro p9 e9 s m args below meth c9 s₁ B hml hv
  obtain ⟨rfl, ⟨hz, hH, hA⟩, hnp⟩ := hv
  have hx := B.exec
  have hb := B.bytes
  have hr := B.returns
  have hts := atoms_spec (ws := wsL_settle) B.pre
  have hown : s.vm.findClass RL = some m.cls := findClass_of_methodNamed B.named
  have hlocks := B.notSynchronized
  have htab := vx_table (x := yL_settle) B (hts (.codeWith yL_settle cL_settle 5 (some .int) [(0, 10, 13, 20), (0, 10, 17, 56), (0, 10, 21, 15)]) List.mem_cons_self)
  have hS : va_S A s.heap s.heap [] := va_S.rf
  have hl := lv_entry ([.ref (τ.1 0), .int x, .int y, .ref (τ.1 28)]) (n := 5) (Nat.le_of_ble_eq_true rfl)
  rw [lg_entry_eq]
  generalize (lg_sl ([.ref (τ.1 0), .int x, .int y, .ref (τ.1 28)]) ++ List.replicate (5 - (lg_sl ([.ref (τ.1 0), .int x, .int y, .ref (τ.1 28)])).length) Slot.unset).toArray = ls at hl ⊢
  have hl : lv_has ls 5 [(0, .ref (τ.1 0)), (1, .int x), (2, .int y), (3, .ref (τ.1 28))] := hl
  have hw0 := hts (.classLink RL 20 "java/lang/IndexOutOfBoundsException") (by decide +kernel)
  have hw1 := hts (.classLink RL 56 "java/lang/IllegalStateException") (by decide +kernel)
  have hw2 := hts (.classLink RL 15 "java/lang/UnsupportedOperationException") (by decide +kernel)
  refine lv_aload_n hx hb dL_settle_0 rfl (lv_at hl 3 rfl) ?_
  refine lv_iconst (v := nI 0) hx hb dL_settle_1 (by decide) ?_
  refine lv_aload_n hx hb dL_settle_2 rfl (lv_at hl 0 rfl) ?_
  refine lv_iload_n hx hb dL_settle_3 rfl (lv_at hl 1 rfl) ?_
  refine lv_iload_n hx hb dL_settle_4 rfl (lv_at hl 2 rfl) ?_
  refine vx_calli (vx_runV (As := [.int x, .int y]) (rest := [.int (nI 0), .ref (τ.1 28)]) ⟨hx, hb, hml, hown, hts⟩ (c_settleN l hl0 D A sad τ fi fr ol x y hF n hT o hO d hDo td cd pN hPk LL LC MN hDl) (cwV 2 hts gL_settle_X11_settle rfl rfl rfl (by decide +kernel) ⟨Nat.le_of_ble_eq_true rfl, Nat.le_of_ble_eq_true rfl⟩) ⟨zQc_bl, zRecv hH (zk_0 hF) rfl, zQc_at hz hS hA hH⟩ rfl rfl hl.1 rfl (lv_room (Nat.le_of_ble_eq_true rfl)) dL_settle_5 ⟨Nat.le_of_ble_eq_true rfl, Nat.le_of_ble_eq_true rfl⟩) hS (fun q _ h => h) (fun q h => h) (fun q _ h => h) (fun E ce q9 u9 t9 H1 locs ht9 hvm9 hw hB hz1 hk1 hS hce hcv hcl => ?_) (fun r101 u9 t9 H1 locs ht9 hvm9 hw hB hz1 hk1 hS => ?_)
  · obtain ⟨hX, hB⟩ := hB
    have hH := zMv ht9 hvm9 hB
    generalize H1 = H at hH hS hce ⊢
    have hEx : E = "java/lang/IndexOutOfBoundsException" ∨ E = "java/lang/IllegalStateException" ∨ E = "java/lang/UnsupportedOperationException" := by rcases hX with h9 | h9 | h9; (exact Or.inl h9.1); (exact Or.inr (Or.inl h9.1)); exact Or.inr (Or.inr h9.1)
    rcases hEx with rfl | rfl | rfl
    · skip
      refine vx_catch hown [] { startPc := 0, endPc := 10, handlerPc := 13, catchType := 20 } _ (by rw [htab]; rfl) (fun z h9 => absurd h9 List.not_mem_nil) (by decide) (by decide) hw0 (va_Nw.use rfl (hz.1.2.2.2.2.2.2.2.1 _ (List.mem_of_getElem? (i := 0) rfl))) hce hcv hcl ?_
      refine W.widen (k := 12) (n := 106) (by decide) (by decide) ?_
      refine lv_astore (lv' := [(4, .ref q9), (0, .ref (τ.1 0)), (1, .int x), (2, .int y), (3, .ref (τ.1 28))]) hx hb dL_settle_13 hl (by decide) rfl (fun ls hl => ?_)
      refine lv_iconst (v := nI 1) hx hb dL_settle_15 (by decide) ?_
      refine W.widen (k := 12) (n := 106) (by decide) (by decide) ?_
      refine vx_ret ?_
      exact W.iret (v := nI 1) hx hb hr (fun t9 ht9 hW9 => ⟨⟨nI 1, (τ, fi, fr, ol), rfl, (show (∃ rv : Int32, (nI 1) = nI 0 ∧ ol = rv.toInt64 ∧ (∃ b, b < d ∧ x = nI b ∧ ¬ fi (3000 + b) 9 = 0 ∧ ((y.toInt = 0 ∧ rv = -1 ∧ τ = τ ∧ fr = fr ∧ fi = zu fi (3000 + b) 9 (nI 0)) ∨ (¬ y.toInt = 0 ∧ ¬ zPd cd pN n (fi 10) (LL b) (LC b) (MN b) (fi (3000 + b) 4) ∧ rv = -1 ∧ τ = τ ∧ fr = fr ∧ fi = fi) ∨ (¬ y.toInt = 0 ∧ zPd cd pN n (fi 10) (LL b) (LC b) (MN b) (fi (3000 + b) 4) ∧ o < 60 ∧ rv = nI o ∧ zNO τ (zu fi (3000 + b) 9 (nI 0)) fr n o τ fi fr)))) ∨ ((nI 1) = nI 1 ∧ τ = τ ∧ fi = fi ∧ fr = fr ∧ ol = ol ∧ (("java/lang/IndexOutOfBoundsException" = "java/lang/IndexOutOfBoundsException" ∧ ¬ (0 ≤ x.toInt ∧ x.toInt < (d : Int))) ∨ ("java/lang/IndexOutOfBoundsException" = "java/lang/IllegalStateException" ∧ ∃ b, b < d ∧ x = nI b ∧ fi (3000 + b) 9 = 0) ∨ ("java/lang/IndexOutOfBoundsException" = "java/lang/UnsupportedOperationException" ∧ ∃ b, b < d ∧ x = nI b ∧ ¬ fi (3000 + b) 9 = 0 ∧ ¬ y.toInt = 0 ∧ zPd cd pN n (fi 10) (LL b) (LC b) (MN b) (fi (3000 + b) 4) ∧ o = 60))) ∨ ((nI 1) = nI 2 ∧ τ = τ ∧ fi = fi ∧ fr = fr ∧ ol = ol ∧ (("java/lang/IllegalStateException" = "java/lang/IndexOutOfBoundsException" ∧ ¬ (0 ≤ x.toInt ∧ x.toInt < (d : Int))) ∨ ("java/lang/IllegalStateException" = "java/lang/IllegalStateException" ∧ ∃ b, b < d ∧ x = nI b ∧ fi (3000 + b) 9 = 0) ∨ ("java/lang/IllegalStateException" = "java/lang/UnsupportedOperationException" ∧ ∃ b, b < d ∧ x = nI b ∧ ¬ fi (3000 + b) 9 = 0 ∧ ¬ y.toInt = 0 ∧ zPd cd pN n (fi 10) (LL b) (LC b) (MN b) (fi (3000 + b) 4) ∧ o = 60))) ∨ ((nI 1) = nI 3 ∧ τ = τ ∧ fi = fi ∧ fr = fr ∧ ol = ol ∧ (("java/lang/UnsupportedOperationException" = "java/lang/IndexOutOfBoundsException" ∧ ¬ (0 ≤ x.toInt ∧ x.toInt < (d : Int))) ∨ ("java/lang/UnsupportedOperationException" = "java/lang/IllegalStateException" ∧ ∃ b, b < d ∧ x = nI b ∧ fi (3000 + b) 9 = 0) ∨ ("java/lang/UnsupportedOperationException" = "java/lang/UnsupportedOperationException" ∧ ∃ b, b < d ∧ x = nI b ∧ ¬ fi (3000 + b) 9 = 0 ∧ ¬ y.toInt = 0 ∧ zPd cd pN n (fi 10) (LL b) (LC b) (MN b) (fi (3000 + b) 4) ∧ o = 60))) from Or.inr (Or.inl (⟨rfl, rfl, rfl, rfl, rfl, hX⟩))), zEnd1 hH ht9 hW9⟩, hS.F ht9⟩) hS.2.2 dL_settle_16
    · skip
      refine vx_catch hown [{ startPc := 0, endPc := 10, handlerPc := 13, catchType := 20 }] { startPc := 0, endPc := 10, handlerPc := 17, catchType := 56 } _ (by rw [htab]; rfl) (List.forall_mem_cons.mpr ⟨Or.inr ⟨by decide, "java/lang/IndexOutOfBoundsException", hw0, hnp _ (by decide) _ (by decide) (by decide)⟩, fun z h9 => absurd h9 List.not_mem_nil⟩) (by decide) (by decide) hw1 (va_Nw.use rfl (hz.1.2.2.2.2.2.2.2.1 _ (List.mem_of_getElem? (i := 4) rfl))) hce hcv hcl ?_
      refine W.widen (k := 12) (n := 106) (by decide) (by decide) ?_
      refine lv_astore (lv' := [(4, .ref q9), (0, .ref (τ.1 0)), (1, .int x), (2, .int y), (3, .ref (τ.1 28))]) hx hb dL_settle_17 hl (by decide) rfl (fun ls hl => ?_)
      refine lv_iconst (v := nI 2) hx hb dL_settle_19 (by decide) ?_
      refine W.widen (k := 12) (n := 106) (by decide) (by decide) ?_
      refine vx_ret ?_
      exact W.iret (v := nI 2) hx hb hr (fun t9 ht9 hW9 => ⟨⟨nI 2, (τ, fi, fr, ol), rfl, (show (∃ rv : Int32, (nI 2) = nI 0 ∧ ol = rv.toInt64 ∧ (∃ b, b < d ∧ x = nI b ∧ ¬ fi (3000 + b) 9 = 0 ∧ ((y.toInt = 0 ∧ rv = -1 ∧ τ = τ ∧ fr = fr ∧ fi = zu fi (3000 + b) 9 (nI 0)) ∨ (¬ y.toInt = 0 ∧ ¬ zPd cd pN n (fi 10) (LL b) (LC b) (MN b) (fi (3000 + b) 4) ∧ rv = -1 ∧ τ = τ ∧ fr = fr ∧ fi = fi) ∨ (¬ y.toInt = 0 ∧ zPd cd pN n (fi 10) (LL b) (LC b) (MN b) (fi (3000 + b) 4) ∧ o < 60 ∧ rv = nI o ∧ zNO τ (zu fi (3000 + b) 9 (nI 0)) fr n o τ fi fr)))) ∨ ((nI 2) = nI 1 ∧ τ = τ ∧ fi = fi ∧ fr = fr ∧ ol = ol ∧ (("java/lang/IndexOutOfBoundsException" = "java/lang/IndexOutOfBoundsException" ∧ ¬ (0 ≤ x.toInt ∧ x.toInt < (d : Int))) ∨ ("java/lang/IndexOutOfBoundsException" = "java/lang/IllegalStateException" ∧ ∃ b, b < d ∧ x = nI b ∧ fi (3000 + b) 9 = 0) ∨ ("java/lang/IndexOutOfBoundsException" = "java/lang/UnsupportedOperationException" ∧ ∃ b, b < d ∧ x = nI b ∧ ¬ fi (3000 + b) 9 = 0 ∧ ¬ y.toInt = 0 ∧ zPd cd pN n (fi 10) (LL b) (LC b) (MN b) (fi (3000 + b) 4) ∧ o = 60))) ∨ ((nI 2) = nI 2 ∧ τ = τ ∧ fi = fi ∧ fr = fr ∧ ol = ol ∧ (("java/lang/IllegalStateException" = "java/lang/IndexOutOfBoundsException" ∧ ¬ (0 ≤ x.toInt ∧ x.toInt < (d : Int))) ∨ ("java/lang/IllegalStateException" = "java/lang/IllegalStateException" ∧ ∃ b, b < d ∧ x = nI b ∧ fi (3000 + b) 9 = 0) ∨ ("java/lang/IllegalStateException" = "java/lang/UnsupportedOperationException" ∧ ∃ b, b < d ∧ x = nI b ∧ ¬ fi (3000 + b) 9 = 0 ∧ ¬ y.toInt = 0 ∧ zPd cd pN n (fi 10) (LL b) (LC b) (MN b) (fi (3000 + b) 4) ∧ o = 60))) ∨ ((nI 2) = nI 3 ∧ τ = τ ∧ fi = fi ∧ fr = fr ∧ ol = ol ∧ (("java/lang/UnsupportedOperationException" = "java/lang/IndexOutOfBoundsException" ∧ ¬ (0 ≤ x.toInt ∧ x.toInt < (d : Int))) ∨ ("java/lang/UnsupportedOperationException" = "java/lang/IllegalStateException" ∧ ∃ b, b < d ∧ x = nI b ∧ fi (3000 + b) 9 = 0) ∨ ("java/lang/UnsupportedOperationException" = "java/lang/UnsupportedOperationException" ∧ ∃ b, b < d ∧ x = nI b ∧ ¬ fi (3000 + b) 9 = 0 ∧ ¬ y.toInt = 0 ∧ zPd cd pN n (fi 10) (LL b) (LC b) (MN b) (fi (3000 + b) 4) ∧ o = 60))) from Or.inr (Or.inr (Or.inl (⟨rfl, rfl, rfl, rfl, rfl, hX⟩)))), zEnd1 hH ht9 hW9⟩, hS.F ht9⟩) hS.2.2 dL_settle_20
    · skip
      refine vx_catch hown [{ startPc := 0, endPc := 10, handlerPc := 13, catchType := 20 }, { startPc := 0, endPc := 10, handlerPc := 17, catchType := 56 }] { startPc := 0, endPc := 10, handlerPc := 21, catchType := 15 } _ (by rw [htab]; rfl) (List.forall_mem_cons.mpr ⟨Or.inr ⟨by decide, "java/lang/IndexOutOfBoundsException", hw0, hnp _ (by decide) _ (by decide) (by decide)⟩, List.forall_mem_cons.mpr ⟨Or.inr ⟨by decide, "java/lang/IllegalStateException", hw1, hnp _ (by decide) _ (by decide) (by decide)⟩, fun z h9 => absurd h9 List.not_mem_nil⟩⟩) (by decide) (by decide) hw2 (va_Nw.use rfl (hz.1.2.2.2.2.2.2.2.1 _ (List.mem_of_getElem? (i := 2) rfl))) hce hcv hcl ?_
      refine W.widen (k := 12) (n := 106) (by decide) (by decide) ?_
      refine lv_astore (lv' := [(4, .ref q9), (0, .ref (τ.1 0)), (1, .int x), (2, .int y), (3, .ref (τ.1 28))]) hx hb dL_settle_21 hl (by decide) rfl (fun ls hl => ?_)
      refine lv_iconst (v := nI 3) hx hb dL_settle_23 (by decide) ?_
      refine W.widen (k := 12) (n := 106) (by decide) (by decide) ?_
      refine vx_ret ?_
      exact W.iret (v := nI 3) hx hb hr (fun t9 ht9 hW9 => ⟨⟨nI 3, (τ, fi, fr, ol), rfl, (show (∃ rv : Int32, (nI 3) = nI 0 ∧ ol = rv.toInt64 ∧ (∃ b, b < d ∧ x = nI b ∧ ¬ fi (3000 + b) 9 = 0 ∧ ((y.toInt = 0 ∧ rv = -1 ∧ τ = τ ∧ fr = fr ∧ fi = zu fi (3000 + b) 9 (nI 0)) ∨ (¬ y.toInt = 0 ∧ ¬ zPd cd pN n (fi 10) (LL b) (LC b) (MN b) (fi (3000 + b) 4) ∧ rv = -1 ∧ τ = τ ∧ fr = fr ∧ fi = fi) ∨ (¬ y.toInt = 0 ∧ zPd cd pN n (fi 10) (LL b) (LC b) (MN b) (fi (3000 + b) 4) ∧ o < 60 ∧ rv = nI o ∧ zNO τ (zu fi (3000 + b) 9 (nI 0)) fr n o τ fi fr)))) ∨ ((nI 3) = nI 1 ∧ τ = τ ∧ fi = fi ∧ fr = fr ∧ ol = ol ∧ (("java/lang/IndexOutOfBoundsException" = "java/lang/IndexOutOfBoundsException" ∧ ¬ (0 ≤ x.toInt ∧ x.toInt < (d : Int))) ∨ ("java/lang/IndexOutOfBoundsException" = "java/lang/IllegalStateException" ∧ ∃ b, b < d ∧ x = nI b ∧ fi (3000 + b) 9 = 0) ∨ ("java/lang/IndexOutOfBoundsException" = "java/lang/UnsupportedOperationException" ∧ ∃ b, b < d ∧ x = nI b ∧ ¬ fi (3000 + b) 9 = 0 ∧ ¬ y.toInt = 0 ∧ zPd cd pN n (fi 10) (LL b) (LC b) (MN b) (fi (3000 + b) 4) ∧ o = 60))) ∨ ((nI 3) = nI 2 ∧ τ = τ ∧ fi = fi ∧ fr = fr ∧ ol = ol ∧ (("java/lang/IllegalStateException" = "java/lang/IndexOutOfBoundsException" ∧ ¬ (0 ≤ x.toInt ∧ x.toInt < (d : Int))) ∨ ("java/lang/IllegalStateException" = "java/lang/IllegalStateException" ∧ ∃ b, b < d ∧ x = nI b ∧ fi (3000 + b) 9 = 0) ∨ ("java/lang/IllegalStateException" = "java/lang/UnsupportedOperationException" ∧ ∃ b, b < d ∧ x = nI b ∧ ¬ fi (3000 + b) 9 = 0 ∧ ¬ y.toInt = 0 ∧ zPd cd pN n (fi 10) (LL b) (LC b) (MN b) (fi (3000 + b) 4) ∧ o = 60))) ∨ ((nI 3) = nI 3 ∧ τ = τ ∧ fi = fi ∧ fr = fr ∧ ol = ol ∧ (("java/lang/UnsupportedOperationException" = "java/lang/IndexOutOfBoundsException" ∧ ¬ (0 ≤ x.toInt ∧ x.toInt < (d : Int))) ∨ ("java/lang/UnsupportedOperationException" = "java/lang/IllegalStateException" ∧ ∃ b, b < d ∧ x = nI b ∧ fi (3000 + b) 9 = 0) ∨ ("java/lang/UnsupportedOperationException" = "java/lang/UnsupportedOperationException" ∧ ∃ b, b < d ∧ x = nI b ∧ ¬ fi (3000 + b) 9 = 0 ∧ ¬ y.toInt = 0 ∧ zPd cd pN n (fi 10) (LL b) (LC b) (MN b) (fi (3000 + b) 4) ∧ o = 60))) from Or.inr (Or.inr (Or.inr (⟨rfl, rfl, rfl, rfl, rfl, hX⟩)))), zEnd1 hH ht9 hW9⟩, hS.F ht9⟩) hS.2.2 dL_settle_24
  · skip
    obtain ⟨τ102, f103, g104⟩ := u9
    have hH := zMv ht9 hvm9 hB
    clear hB
    simp only at hw hH
    generalize H1 = H at hH hS ⊢
    refine W.widen (k := 12) (n := 106) (by decide) (by decide) ?_
    have hcp := hw
    clear hw
    have hF5 : zFix τ102 g104 := by obtain ⟨b9, -, -, -, ⟨-, -, h91, h92, -⟩ | ⟨-, -, -, h91, h92, -⟩ | ⟨-, -, -, -, h9⟩⟩ := hcp; (rw [h91, h92]; exact hF); (rw [h91, h92]; exact hF); exact h9.2.1
    have h45 := (by obtain ⟨b9, -, -, -, ⟨-, -, h91, h92, -⟩ | ⟨-, -, -, h91, h92, -⟩ | ⟨-, -, -, -, h9⟩⟩ := hcp; (rw [h91]; exact h4); (rw [h91]; exact h4); exact n4_NO h4 h9 : ∀ i, 100 ≤ i → τ102.2.2.1 i ≠ 4)
    have hun := zFix.un hF5 h45
    have ha5 : ∀ i, i < 100 → τ102.1 i = τ.1 i := fun i h => by obtain ⟨b9, -, -, -, ⟨-, -, h91, h92, -⟩ | ⟨-, -, -, h91, h92, -⟩ | ⟨-, -, -, -, h9⟩⟩ := hcp; (rw [h91]); (rw [h91]); exact (h9.2.2.1 i (by omega)).1
    rw [show τ.1 0 = τ102.1 0 from (ha5 0 (by omega)).symm] at hl
    rw [show τ.1 28 = τ102.1 28 from (ha5 28 (by omega)).symm] at hl
    refine W.eq (g2 := F0 m 8 ls [.int r101, .int (nI 0), .ref (τ102.1 28)]) (by rw [ha5 28 (by omega)]) ?_
    refine lv_i2l hx hb dL_settle_8 rfl ?_
    refine lv_topl (fun v105 ev105 => ?_)
    refine zLast (D := D) hx hb hH hS (zk_28 hF5) (hun) (zn_28 hF5) dL_settle_9 (fun H locs hH hS => ?_)
    refine lv_goto (tgt := 25) hx hb dL_settle_10 (by decide) ?_
    refine lv_iconst (v := nI 0) hx hb dL_settle_25 (by decide) ?_
    refine W.widen (k := 12) (n := 106) (by decide) (by decide) ?_
    refine vx_ret ?_
    exact W.iret (v := nI 0) hx hb hr (fun t9 ht9 hW9 => ⟨⟨nI 0, (τ102, f103, g104, v105), rfl, (show (∃ rv : Int32, (nI 0) = nI 0 ∧ v105 = rv.toInt64 ∧ (∃ b, b < d ∧ x = nI b ∧ ¬ fi (3000 + b) 9 = 0 ∧ ((y.toInt = 0 ∧ rv = -1 ∧ τ102 = τ ∧ g104 = fr ∧ f103 = zu fi (3000 + b) 9 (nI 0)) ∨ (¬ y.toInt = 0 ∧ ¬ zPd cd pN n (fi 10) (LL b) (LC b) (MN b) (fi (3000 + b) 4) ∧ rv = -1 ∧ τ102 = τ ∧ g104 = fr ∧ f103 = fi) ∨ (¬ y.toInt = 0 ∧ zPd cd pN n (fi 10) (LL b) (LC b) (MN b) (fi (3000 + b) 4) ∧ o < 60 ∧ rv = nI o ∧ zNO τ (zu fi (3000 + b) 9 (nI 0)) fr n o τ102 f103 g104)))) ∨ ((nI 0) = nI 1 ∧ τ102 = τ ∧ f103 = fi ∧ g104 = fr ∧ v105 = ol ∧ (("java/lang/IndexOutOfBoundsException" = "java/lang/IndexOutOfBoundsException" ∧ ¬ (0 ≤ x.toInt ∧ x.toInt < (d : Int))) ∨ ("java/lang/IndexOutOfBoundsException" = "java/lang/IllegalStateException" ∧ ∃ b, b < d ∧ x = nI b ∧ fi (3000 + b) 9 = 0) ∨ ("java/lang/IndexOutOfBoundsException" = "java/lang/UnsupportedOperationException" ∧ ∃ b, b < d ∧ x = nI b ∧ ¬ fi (3000 + b) 9 = 0 ∧ ¬ y.toInt = 0 ∧ zPd cd pN n (fi 10) (LL b) (LC b) (MN b) (fi (3000 + b) 4) ∧ o = 60))) ∨ ((nI 0) = nI 2 ∧ τ102 = τ ∧ f103 = fi ∧ g104 = fr ∧ v105 = ol ∧ (("java/lang/IllegalStateException" = "java/lang/IndexOutOfBoundsException" ∧ ¬ (0 ≤ x.toInt ∧ x.toInt < (d : Int))) ∨ ("java/lang/IllegalStateException" = "java/lang/IllegalStateException" ∧ ∃ b, b < d ∧ x = nI b ∧ fi (3000 + b) 9 = 0) ∨ ("java/lang/IllegalStateException" = "java/lang/UnsupportedOperationException" ∧ ∃ b, b < d ∧ x = nI b ∧ ¬ fi (3000 + b) 9 = 0 ∧ ¬ y.toInt = 0 ∧ zPd cd pN n (fi 10) (LL b) (LC b) (MN b) (fi (3000 + b) 4) ∧ o = 60))) ∨ ((nI 0) = nI 3 ∧ τ102 = τ ∧ f103 = fi ∧ g104 = fr ∧ v105 = ol ∧ (("java/lang/UnsupportedOperationException" = "java/lang/IndexOutOfBoundsException" ∧ ¬ (0 ≤ x.toInt ∧ x.toInt < (d : Int))) ∨ ("java/lang/UnsupportedOperationException" = "java/lang/IllegalStateException" ∧ ∃ b, b < d ∧ x = nI b ∧ fi (3000 + b) 9 = 0) ∨ ("java/lang/UnsupportedOperationException" = "java/lang/UnsupportedOperationException" ∧ ∃ b, b < d ∧ x = nI b ∧ ¬ fi (3000 + b) 9 = 0 ∧ ¬ y.toInt = 0 ∧ zPd cd pN n (fi 10) (LL b) (LC b) (MN b) (fi (3000 + b) 4) ∧ o = 60))) from Or.inl (⟨r101, rfl, ev105, hcp⟩)), zEnd1 hH ht9 hW9⟩, hS.F ht9⟩) hS.2.2 dL_settle_26
