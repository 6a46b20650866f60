/-! ===== THE LAW'S HELPERS ===== -/
def zNp (U : State) : Prop := ∀ E ∈ zEx, ∀ T ∈ zEx, E ≠ T → va_Nc E T U
theorem zNp.moved {u U : State} (hvm : u.vm.Alike U.vm) (h : zNp u) : zNp U := fun E hE T hT q => (h E hE T hT q).moved hvm
def zQn (D : va_G) (A : Nat → Prop) (sad : Nat → Nat) (τ : zTy) (fi : zFi) (fr : zFr) (ol : Int64) (U : State) : Prop := zQc D A sad τ fi fr ol U ∧ zNp U
theorem zQn_bl {D : va_G} {A : Nat → Prop} {sad : Nat → Nat} {τ : zTy} {fi : zFi} {fr : zFr} {ol : Int64} {av : List Value} : FrameBlind (va_Pc av (zQn D A sad τ fi fr ol)) := fun a U g mk q => by
  obtain ⟨q0, q1, q2⟩ := q
  obtain ⟨r0, r1⟩ := zQc_bl (D := D) (A := A) (sad := sad) (τ := τ) (fi := fi) (fr := fr) (ol := ol) (av := av) a U g mk ⟨q0, q1⟩
  exact ⟨r0, r1, zNp.moved (u := U) (U := U.calling g mk a) (Vm.Alike.refl U.vm) q2⟩
theorem zQn_at {D : va_G} {A : Nat → Prop} {sad : Nat → Nat} {τ : zTy} {fi : zFi} {fr : zFr} {ol : Int64} {s : State} {H : Heap} {locs : List Loc} {av : List Value} (hz : zG2 A sad s s.heap) (hS : va_S A s.heap H locs) (hA : ∀ q, s.heap.size ≤ q → A q) (hH : zH D A τ fi fr ol s H) (hn : zNp s) :
    ∀ U : State, U.heap = H → s.WarmedH U.vm → va_Pc av (zQn D A sad τ fi fr ol) av.toArray U := fun U hU hW => by
  obtain ⟨r0, r1⟩ := zQc_at (av := av) hz hS hA hH U hU hW
  exact ⟨r0, r1, hn.moved hW.alike⟩
theorem zFix.un {τ : zTy} {fr : zFr} (hF : zFix τ fr) (h4 : ∀ i, 100 ≤ i → τ.2.2.1 i ≠ 4) : ∀ j, j ≠ 28 → τ.2.2.1 j ≠ 4 := fun j hj => by
  by_cases h : j < 100
  · rw [hF.1 j h]
    have : ∀ k : Fin 100, k.val ≠ 28 → zKT.getD k.val 0 ≠ 4 := by decide
    exact this ⟨j, h⟩ hj
  · exact h4 j (by omega)
theorem n4_add {τ τ' : zTy} {fi fi' : zFi} {fr fr' : zFr} {n : Nat} {x1 x2 x3 x4 : Int32} (h4 : ∀ i, 100 ≤ i → τ.2.2.1 i ≠ 4) (h : zAdd τ fi fr n x1 x2 x3 x4 τ' fi' fr') : ∀ i, 100 ≤ i → τ'.2.2.1 i ≠ 4 := fun i hi => by
  obtain ⟨a1, -, a3, -⟩ := h
  obtain ⟨⟨b1, b2, b3, b4⟩, -⟩ := a1.2.2.1 n (by omega)
  by_cases q : i = 300 + n ∨ i = 340 + n ∨ i = 380 + n ∨ i = 420 + n
  · rcases q with q | q | q | q <;> rw [q]
    · rw [b1]; decide
    · rw [b2]; decide
    · rw [b3]; decide
    · rw [b4]; decide
  · rw [(a3 i q).2.1]; exact h4 i hi
theorem n4_NO {τ τ' : zTy} {fi fi' : zFi} {fr fr' : zFr} {n o : Nat} (h4 : ∀ i, 100 ≤ i → τ.2.2.1 i ≠ 4) (h : zNO τ fi fr n o τ' fi' fr') : ∀ i, 100 ≤ i → τ'.2.2.1 i ≠ 4 := fun i hi => by
  obtain ⟨a1, -, a3, -, -, -, a7⟩ := h
  obtain ⟨⟨b1, b2, -⟩, -⟩ := a1.2.2.1 o (by omega)
  by_cases q : i = 500 + o ∨ i = 600 + o ∨ (1000 + 8 * o ≤ i ∧ i < 1008 + 8 * o)
  · rcases q with q | q | ⟨q, q2⟩
    · rw [q, b1]; decide
    · rw [q, b2]; decide
    · rcases a7 i q q2 with r | r <;> rw [r] <;> decide
  · rw [(a3 i q).2.1]; exact h4 i hi
theorem n4_Lo {τ τ' : zTy} {fi fi' : zFi} {fr fr' : zFr} {n o q : Nat} (h4 : ∀ i, 100 ≤ i → τ.2.2.1 i ≠ 4) (h : zLo τ fi fr n o q τ' fi' fr') : ∀ i, 100 ≤ i → τ'.2.2.1 i ≠ 4 := fun i hi => by
  obtain ⟨a1, -, -, a3, -, -, -, a7⟩ := h
  obtain ⟨⟨b1, b2, -⟩, -⟩ := a1.2.2.1 o (by omega)
  by_cases q : i = 500 + o ∨ i = 600 + o ∨ (1000 + 8 * o ≤ i ∧ i < 1008 + 8 * o)
  · rcases q with q | q | ⟨q, q2⟩
    · rw [q, b1]; decide
    · rw [q, b2]; decide
    · rcases a7 i q q2 with r | r <;> rw [r] <;> decide
  · rw [a3 i q]; exact h4 i hi
theorem n4_Ld {τ τ' : zTy} {fi fi' : zFi} {fr fr' : zFr} {q : Nat} (h4 : ∀ i, 100 ≤ i → τ.2.2.1 i ≠ 4) (h : zLd τ fi fr q τ' fi' fr') : ∀ i, 100 ≤ i → τ'.2.2.1 i ≠ 4 := fun i hi => by
  obtain ⟨a1, -, -, a3, -⟩ := h
  obtain ⟨⟨b1, b2, b3, -⟩, -⟩ := a1.2.2.1 q (by omega)
  by_cases r : i = 3000 + q ∨ i = 4000 + q ∨ i = 5000 + q
  · rcases r with r | r | r <;> rw [r]
    · rw [b1]; decide
    · rw [b2]; decide
    · rw [b3]; decide
  · rw [(a3 i r).2.1]; exact h4 i hi
theorem n4_Dy {n : Nat} {τ τ' : zTy} {fi fi' : zFi} {fr fr' : zFr} (h4 : ∀ i, 100 ≤ i → τ.2.2.1 i ≠ 4) (h : zDy n τ fi fr τ' fi' fr') (hs : ∃ s2, zSn τ' fi' fr' s2) : ∀ i, 100 ≤ i → τ'.2.2.1 i ≠ 4 := fun i hi => by
  obtain ⟨s2, b1, -, b3, b4⟩ := hs
  by_cases q : 2000 ≤ i ∧ i < 2300
  · obtain ⟨k, rfl⟩ : ∃ k, i = 2000 + k := ⟨i - 2000, by omega⟩
    by_cases hk : k < s2
    · rw [(b3 k hk).1]; decide
    · rw [b4 k (by omega) (by omega)]; decide
  · rw [(h.1 i q).2.1]; exact h4 i hi
set_option maxHeartbeats 4000000 in
set_option maxRecDepth 100000 in
/-- the law's thing -/
theorem h_thing (l : Launch) (hl0 : l.stackTraces = false) (D : va_G) (A : Nat → Prop) (sad : Nat → Nat) (τ : zTy) (fi : zFi) (fr : zFr) (ol : Int64) (hF : zFix τ fr) (n : Nat) (hT : zTh τ fi fr n) (x1 x2 x3 x4 : Int32) (h4 : ∀ i, 100 ≤ i → τ.2.2.1 i ≠ 4) : vx_Met l yL_thing wsL_thing ({ frames := 7, cells := 4, slots := 22, locals := 106 }) (va_Pc [.ref (τ.1 0), .int x1, .int x2, .int x3, .int x4, .ref (τ.1 28)] (zQn D A sad τ fi fr ol)) (va_Qi (fun (r : Int32) (u : zTy × zFi × zFr × Int64) => (∃ rv : Int32, r = nI 0 ∧ u.2.2.2 = rv.toInt64 ∧ (n < 30 ∧ (0 ≤ x1.toInt ∧ x1.toInt ≤ 9999 ∧ 1 ≤ x2.toInt ∧ x2.toInt ≤ 2000 ∧ 0 ≤ x3.toInt ∧ x3.toInt ≤ 7 ∧ 1 ≤ x4.toInt ∧ x4.toInt ≤ 20 ∧ ∀ j, j < n → ¬ fi (300 + j) 1 = x1) ∧ rv = nI n ∧ zAdd τ fi fr n x1 x2 x3 x4 u.1 u.2.1 u.2.2.1)) ∨ (r = nI 1 ∧ u.1 = τ ∧ u.2.1 = fi ∧ u.2.2.1 = fr ∧ u.2.2.2 = ol ∧ (("java/lang/IllegalArgumentException" = "java/lang/IllegalArgumentException" ∧ ¬ (0 ≤ x1.toInt ∧ x1.toInt ≤ 9999 ∧ 1 ≤ x2.toInt ∧ x2.toInt ≤ 2000 ∧ 0 ≤ x3.toInt ∧ x3.toInt ≤ 7 ∧ 1 ≤ x4.toInt ∧ x4.toInt ≤ 20 ∧ ∀ j, j < n → ¬ fi (300 + j) 1 = x1)) ∨ ("java/lang/IllegalArgumentException" = "java/lang/UnsupportedOperationException" ∧ (0 ≤ x1.toInt ∧ x1.toInt ≤ 9999 ∧ 1 ≤ x2.toInt ∧ x2.toInt ≤ 2000 ∧ 0 ≤ x3.toInt ∧ x3.toInt ≤ 7 ∧ 1 ≤ x4.toInt ∧ x4.toInt ≤ 20 ∧ ∀ j, j < n → ¬ fi (300 + j) 1 = x1) ∧ n = 30))) ∨ (r = nI 2 ∧ u.1 = τ ∧ u.2.1 = fi ∧ u.2.2.1 = fr ∧ u.2.2.2 = ol ∧ (("java/lang/UnsupportedOperationException" = "java/lang/IllegalArgumentException" ∧ ¬ (0 ≤ x1.toInt ∧ x1.toInt ≤ 9999 ∧ 1 ≤ x2.toInt ∧ x2.toInt ≤ 2000 ∧ 0 ≤ x3.toInt ∧ x3.toInt ≤ 7 ∧ 1 ≤ x4.toInt ∧ x4.toInt ≤ 20 ∧ ∀ j, j < n → ¬ fi (300 + j) 1 = x1)) ∨ ("java/lang/UnsupportedOperationException" = "java/lang/UnsupportedOperationException" ∧ (0 ≤ x1.toInt ∧ x1.toInt ≤ 9999 ∧ 1 ≤ x2.toInt ∧ x2.toInt ≤ 2000 ∧ 0 ≤ x3.toInt ∧ x3.toInt ≤ 7 ∧ 1 ≤ x4.toInt ∧ x4.toInt ≤ 20 ∧ ∀ j, j < n → ¬ fi (300 + j) 1 = x1) ∧ n = 30)))) (fun (u : zTy × zFi × zFr × Int64) (t : State) => zH D A u.1 u.2.1 u.2.2.1 u.2.2.2 t t.heap) A) (vx_X (fun u : Unit => True) (fun (E : String) (u : Unit) (t : State) => (False) ∧ zH D A τ fi fr ol t t.heap) A) 4 22 A := by
  refine vx_ofWH (cc := cL_thing) (maxL := 7) (ret := (some .int)) (hh := [(0, 14, 17, 13), (0, 14, 21, 15)]) (by decide) rfl ?_
  intro p9 e9 s m args below meth c9 s₁ B hml hv
  obtain ⟨rfl, ⟨hz, hH, hA⟩, hnp⟩ := hv
  have hx := B.exec
  have hb := B.bytes
  have hr := B.returns
  have hts := atoms_spec (ws := wsL_thing) B.pre
  have hown : s.vm.findClass RL = some m.cls := findClass_of_methodNamed B.named
  have hlocks := B.notSynchronized
  have htab := vx_table (x := yL_thing) B (hts (.codeWith yL_thing cL_thing 7 (some .int) [(0, 14, 17, 13), (0, 14, 21, 15)]) List.mem_cons_self)
  have hS : va_S A s.heap s.heap [] := va_S.rf
  have hl := lv_entry ([.ref (τ.1 0), .int x1, .int x2, .int x3, .int x4, .ref (τ.1 28)]) (n := 7) (Nat.le_of_ble_eq_true rfl)
  rw [lg_entry_eq]
  generalize (lg_sl ([.ref (τ.1 0), .int x1, .int x2, .int x3, .int x4, .ref (τ.1 28)]) ++ List.replicate (7 - (lg_sl ([.ref (τ.1 0), .int x1, .int x2, .int x3, .int x4, .ref (τ.1 28)])).length) Slot.unset).toArray = ls at hl ⊢
  have hl : lv_has ls 7 [(0, .ref (τ.1 0)), (1, .int x1), (2, .int x2), (3, .int x3), (4, .int x4), (5, .ref (τ.1 28))] := hl
  have hw0 := hts (.classLink RL 13 "java/lang/IllegalArgumentException") (by decide +kernel)
  have hw1 := hts (.classLink RL 15 "java/lang/UnsupportedOperationException") (by decide +kernel)
  refine lv_aload hx hb dL_thing_0 (lv_at hl 5 rfl) ?_
  refine lv_iconst (v := nI 0) hx hb dL_thing_2 (by decide) ?_
  refine lv_aload_n hx hb dL_thing_3 rfl (lv_at hl 0 rfl) ?_
  refine lv_iload_n hx hb dL_thing_4 rfl (lv_at hl 1 rfl) ?_
  refine lv_iload_n hx hb dL_thing_5 rfl (lv_at hl 2 rfl) ?_
  refine lv_iload_n hx hb dL_thing_6 rfl (lv_at hl 3 rfl) ?_
  refine lv_iload hx hb dL_thing_7 (lv_at hl 4 rfl) ?_
  refine vx_calli (vx_runV (As := [.int x1, .int x2, .int x3, .int x4]) (rest := [.int (nI 0), .ref (τ.1 28)]) ⟨hx, hb, hml, hown, hts⟩ (c_thing l hl0 D A sad τ fi fr ol hF n hT x1 x2 x3 x4) (cwV 4 hts gL_thing_X11_thing rfl rfl rfl (by decide +kernel) ⟨Nat.le_of_ble_eq_true rfl, Nat.le_of_ble_eq_true rfl⟩) ⟨zQc_bl, zRecv hH (zk_0 hF) rfl, zQc_at hz hS hA hH⟩ rfl rfl hl.1 rfl (lv_room (Nat.le_of_ble_eq_true rfl)) dL_thing_9 ⟨Nat.le_of_ble_eq_true rfl, Nat.le_of_ble_eq_true rfl⟩) hS (fun q _ h => h) (fun q h => h) (fun q _ h => h) (fun E ce q9 u9 t9 H1 locs ht9 hvm9 hw hB hz1 hk1 hS hce hcv hcl => ?_) (fun r101 u9 t9 H1 locs ht9 hvm9 hw hB hz1 hk1 hS => ?_)
  · obtain ⟨hX, hB⟩ := hB
    have hH := zMv ht9 hvm9 hB
    generalize H1 = H at hH hS hce ⊢
    have hEx : E = "java/lang/IllegalArgumentException" ∨ E = "java/lang/UnsupportedOperationException" := by rcases hX with h9 | h9; (exact Or.inl h9.1); exact Or.inr h9.1
    rcases hEx with rfl | rfl
    · skip
      refine vx_catch hown [] { startPc := 0, endPc := 14, handlerPc := 17, catchType := 13 } _ (by rw [htab]; rfl) (fun z h9 => absurd h9 List.not_mem_nil) (by decide) (by decide) hw0 (va_Nw.use rfl (hz.1.2.2.2.2.2.2.2.1 _ (List.mem_of_getElem? (i := 1) rfl))) hce hcv hcl ?_
      refine W.widen (k := 4) (n := 22) (by decide) (by decide) ?_
      refine lv_astore (lv' := [(6, .ref q9), (0, .ref (τ.1 0)), (1, .int x1), (2, .int x2), (3, .int x3), (4, .int x4), (5, .ref (τ.1 28))]) hx hb dL_thing_17 hl (by decide) rfl (fun ls hl => ?_)
      refine lv_iconst (v := nI 1) hx hb dL_thing_19 (by decide) ?_
      refine W.widen (k := 4) (n := 22) (by decide) (by decide) ?_
      refine vx_ret ?_
      exact W.iret (v := nI 1) hx hb hr (fun t9 ht9 hW9 => ⟨⟨nI 1, (τ, fi, fr, ol), rfl, (show (∃ rv : Int32, (nI 1) = nI 0 ∧ ol = rv.toInt64 ∧ (n < 30 ∧ (0 ≤ x1.toInt ∧ x1.toInt ≤ 9999 ∧ 1 ≤ x2.toInt ∧ x2.toInt ≤ 2000 ∧ 0 ≤ x3.toInt ∧ x3.toInt ≤ 7 ∧ 1 ≤ x4.toInt ∧ x4.toInt ≤ 20 ∧ ∀ j, j < n → ¬ fi (300 + j) 1 = x1) ∧ rv = nI n ∧ zAdd τ fi fr n x1 x2 x3 x4 τ fi fr)) ∨ ((nI 1) = nI 1 ∧ τ = τ ∧ fi = fi ∧ fr = fr ∧ ol = ol ∧ (("java/lang/IllegalArgumentException" = "java/lang/IllegalArgumentException" ∧ ¬ (0 ≤ x1.toInt ∧ x1.toInt ≤ 9999 ∧ 1 ≤ x2.toInt ∧ x2.toInt ≤ 2000 ∧ 0 ≤ x3.toInt ∧ x3.toInt ≤ 7 ∧ 1 ≤ x4.toInt ∧ x4.toInt ≤ 20 ∧ ∀ j, j < n → ¬ fi (300 + j) 1 = x1)) ∨ ("java/lang/IllegalArgumentException" = "java/lang/UnsupportedOperationException" ∧ (0 ≤ x1.toInt ∧ x1.toInt ≤ 9999 ∧ 1 ≤ x2.toInt ∧ x2.toInt ≤ 2000 ∧ 0 ≤ x3.toInt ∧ x3.toInt ≤ 7 ∧ 1 ≤ x4.toInt ∧ x4.toInt ≤ 20 ∧ ∀ j, j < n → ¬ fi (300 + j) 1 = x1) ∧ n = 30))) ∨ ((nI 1) = nI 2 ∧ τ = τ ∧ fi = fi ∧ fr = fr ∧ ol = ol ∧ (("java/lang/UnsupportedOperationException" = "java/lang/IllegalArgumentException" ∧ ¬ (0 ≤ x1.toInt ∧ x1.toInt ≤ 9999 ∧ 1 ≤ x2.toInt ∧ x2.toInt ≤ 2000 ∧ 0 ≤ x3.toInt ∧ x3.toInt ≤ 7 ∧ 1 ≤ x4.toInt ∧ x4.toInt ≤ 20 ∧ ∀ j, j < n → ¬ fi (300 + j) 1 = x1)) ∨ ("java/lang/UnsupportedOperationException" = "java/lang/UnsupportedOperationException" ∧ (0 ≤ x1.toInt ∧ x1.toInt ≤ 9999 ∧ 1 ≤ x2.toInt ∧ x2.toInt ≤ 2000 ∧ 0 ≤ x3.toInt ∧ x3.toInt ≤ 7 ∧ 1 ≤ x4.toInt ∧ x4.toInt ≤ 20 ∧ ∀ j, j < n → ¬ fi (300 + j) 1 = x1) ∧ n = 30))) from Or.inr (Or.inl (⟨rfl, rfl, rfl, rfl, rfl, hX⟩))), zEnd1 hH ht9 hW9⟩, hS.F ht9⟩) hS.2.2 dL_thing_20
    · skip
      refine vx_catch hown [{ startPc := 0, endPc := 14, handlerPc := 17, catchType := 13 }] { startPc := 0, endPc := 14, handlerPc := 21, catchType := 15 } _ (by rw [htab]; rfl) (List.forall_mem_cons.mpr ⟨Or.inr ⟨by decide, "java/lang/IllegalArgumentException", hw0, hnp _ (by decide) _ (by decide) (by decide)⟩, fun z h9 => absurd h9 List.not_mem_nil⟩) (by decide) (by decide) hw1 (va_Nw.use rfl (hz.1.2.2.2.2.2.2.2.1 _ (List.mem_of_getElem? (i := 2) rfl))) hce hcv hcl ?_
      refine W.widen (k := 4) (n := 22) (by decide) (by decide) ?_
      refine lv_astore (lv' := [(6, .ref q9), (0, .ref (τ.1 0)), (1, .int x1), (2, .int x2), (3, .int x3), (4, .int x4), (5, .ref (τ.1 28))]) hx hb dL_thing_21 hl (by decide) rfl (fun ls hl => ?_)
      refine lv_iconst (v := nI 2) hx hb dL_thing_23 (by decide) ?_
      refine W.widen (k := 4) (n := 22) (by decide) (by decide) ?_
      refine vx_ret ?_
      exact W.iret (v := nI 2) hx hb hr (fun t9 ht9 hW9 => ⟨⟨nI 2, (τ, fi, fr, ol), rfl, (show (∃ rv : Int32, (nI 2) = nI 0 ∧ ol = rv.toInt64 ∧ (n < 30 ∧ (0 ≤ x1.toInt ∧ x1.toInt ≤ 9999 ∧ 1 ≤ x2.toInt ∧ x2.toInt ≤ 2000 ∧ 0 ≤ x3.toInt ∧ x3.toInt ≤ 7 ∧ 1 ≤ x4.toInt ∧ x4.toInt ≤ 20 ∧ ∀ j, j < n → ¬ fi (300 + j) 1 = x1) ∧ rv = nI n ∧ zAdd τ fi fr n x1 x2 x3 x4 τ fi fr)) ∨ ((nI 2) = nI 1 ∧ τ = τ ∧ fi = fi ∧ fr = fr ∧ ol = ol ∧ (("java/lang/IllegalArgumentException" = "java/lang/IllegalArgumentException" ∧ ¬ (0 ≤ x1.toInt ∧ x1.toInt ≤ 9999 ∧ 1 ≤ x2.toInt ∧ x2.toInt ≤ 2000 ∧ 0 ≤ x3.toInt ∧ x3.toInt ≤ 7 ∧ 1 ≤ x4.toInt ∧ x4.toInt ≤ 20 ∧ ∀ j, j < n → ¬ fi (300 + j) 1 = x1)) ∨ ("java/lang/IllegalArgumentException" = "java/lang/UnsupportedOperationException" ∧ (0 ≤ x1.toInt ∧ x1.toInt ≤ 9999 ∧ 1 ≤ x2.toInt ∧ x2.toInt ≤ 2000 ∧ 0 ≤ x3.toInt ∧ x3.toInt ≤ 7 ∧ 1 ≤ x4.toInt ∧ x4.toInt ≤ 20 ∧ ∀ j, j < n → ¬ fi (300 + j) 1 = x1) ∧ n = 30))) ∨ ((nI 2) = nI 2 ∧ τ = τ ∧ fi = fi ∧ fr = fr ∧ ol = ol ∧ (("java/lang/UnsupportedOperationException" = "java/lang/IllegalArgumentException" ∧ ¬ (0 ≤ x1.toInt ∧ x1.toInt ≤ 9999 ∧ 1 ≤ x2.toInt ∧ x2.toInt ≤ 2000 ∧ 0 ≤ x3.toInt ∧ x3.toInt ≤ 7 ∧ 1 ≤ x4.toInt ∧ x4.toInt ≤ 20 ∧ ∀ j, j < n → ¬ fi (300 + j) 1 = x1)) ∨ ("java/lang/UnsupportedOperationException" = "java/lang/UnsupportedOperationException" ∧ (0 ≤ x1.toInt ∧ x1.toInt ≤ 9999 ∧ 1 ≤ x2.toInt ∧ x2.toInt ≤ 2000 ∧ 0 ≤ x3.toInt ∧ x3.toInt ≤ 7 ∧ 1 ≤ x4.toInt ∧ x4.toInt ≤ 20 ∧ ∀ j, j < n → ¬ fi (300 + j) 1 = x1) ∧ n = 30))) from Or.inr (Or.inr (⟨rfl, rfl, rfl, rfl, rfl, hX⟩))), zEnd1 hH ht9 hW9⟩, hS.F ht9⟩) hS.2.2 dL_thing_24
  · skip
    obtain ⟨τ102, f103, g104⟩ := u9
    have hH := zMv ht9 hvm9 hB
    clear hB
    simp only at hw hH
    generalize H1 = H at hH hS ⊢
    refine W.widen (k := 4) (n := 22) (by decide) (by decide) ?_
    have hcp := hw
    clear hw
    have hF5 : zFix τ102 g104 := hcp.2.2.2.2.1
    have h45 := n4_add h4 hcp.2.2.2
    have hun := zFix.un hF5 h45
    have ha5 : ∀ i, i < 100 → τ102.1 i = τ.1 i := fun i h => (hcp.2.2.2.2.2.1 i (by omega)).1
    rw [show τ.1 0 = τ102.1 0 from (ha5 0 (by omega)).symm] at hl
    rw [show τ.1 28 = τ102.1 28 from (ha5 28 (by omega)).symm] at hl
    refine W.eq (g2 := F0 m 12 ls [.int r101, .int (nI 0), .ref (τ102.1 28)]) (by rw [ha5 28 (by omega)]) ?_
    refine lv_i2l hx hb dL_thing_12 rfl ?_
    refine lv_topl (fun v105 ev105 => ?_)
    refine zLast (D := D) hx hb hH hS (zk_28 hF5) (hun) (zn_28 hF5) dL_thing_13 (fun H locs hH hS => ?_)
    refine lv_goto (tgt := 25) hx hb dL_thing_14 (by decide) ?_
    refine lv_iconst (v := nI 0) hx hb dL_thing_25 (by decide) ?_
    refine W.widen (k := 4) (n := 22) (by decide) (by decide) ?_
    refine vx_ret ?_
    exact W.iret (v := nI 0) hx hb hr (fun t9 ht9 hW9 => ⟨⟨nI 0, (τ102, f103, g104, v105), rfl, (show (∃ rv : Int32, (nI 0) = nI 0 ∧ v105 = rv.toInt64 ∧ (n < 30 ∧ (0 ≤ x1.toInt ∧ x1.toInt ≤ 9999 ∧ 1 ≤ x2.toInt ∧ x2.toInt ≤ 2000 ∧ 0 ≤ x3.toInt ∧ x3.toInt ≤ 7 ∧ 1 ≤ x4.toInt ∧ x4.toInt ≤ 20 ∧ ∀ j, j < n → ¬ fi (300 + j) 1 = x1) ∧ rv = nI n ∧ zAdd τ fi fr n x1 x2 x3 x4 τ102 f103 g104)) ∨ ((nI 0) = nI 1 ∧ τ102 = τ ∧ f103 = fi ∧ g104 = fr ∧ v105 = ol ∧ (("java/lang/IllegalArgumentException" = "java/lang/IllegalArgumentException" ∧ ¬ (0 ≤ x1.toInt ∧ x1.toInt ≤ 9999 ∧ 1 ≤ x2.toInt ∧ x2.toInt ≤ 2000 ∧ 0 ≤ x3.toInt ∧ x3.toInt ≤ 7 ∧ 1 ≤ x4.toInt ∧ x4.toInt ≤ 20 ∧ ∀ j, j < n → ¬ fi (300 + j) 1 = x1)) ∨ ("java/lang/IllegalArgumentException" = "java/lang/UnsupportedOperationException" ∧ (0 ≤ x1.toInt ∧ x1.toInt ≤ 9999 ∧ 1 ≤ x2.toInt ∧ x2.toInt ≤ 2000 ∧ 0 ≤ x3.toInt ∧ x3.toInt ≤ 7 ∧ 1 ≤ x4.toInt ∧ x4.toInt ≤ 20 ∧ ∀ j, j < n → ¬ fi (300 + j) 1 = x1) ∧ n = 30))) ∨ ((nI 0) = nI 2 ∧ τ102 = τ ∧ f103 = fi ∧ g104 = fr ∧ v105 = ol ∧ (("java/lang/UnsupportedOperationException" = "java/lang/IllegalArgumentException" ∧ ¬ (0 ≤ x1.toInt ∧ x1.toInt ≤ 9999 ∧ 1 ≤ x2.toInt ∧ x2.toInt ≤ 2000 ∧ 0 ≤ x3.toInt ∧ x3.toInt ≤ 7 ∧ 1 ≤ x4.toInt ∧ x4.toInt ≤ 20 ∧ ∀ j, j < n → ¬ fi (300 + j) 1 = x1)) ∨ ("java/lang/UnsupportedOperationException" = "java/lang/UnsupportedOperationException" ∧ (0 ≤ x1.toInt ∧ x1.toInt ≤ 9999 ∧ 1 ≤ x2.toInt ∧ x2.toInt ≤ 2000 ∧ 0 ≤ x3.toInt ∧ x3.toInt ≤ 7 ∧ 1 ≤ x4.toInt ∧ x4.toInt ≤ 20 ∧ ∀ j, j < n → ¬ fi (300 + j) 1 = x1) ∧ n = 30))) from Or.inl (⟨r101, rfl, ev105, hcp⟩)), zEnd1 hH ht9 hW9⟩, hS.F ht9⟩) hS.2.2 dL_thing_26
set_option maxHeartbeats 4000000 in
set_option maxRecDepth 100000 in
/-- the law's price -/
theorem h_price (l : Launch) (hl0 : l.stackTraces = false) (D : va_G) (A : Nat → Prop) (sad : Nat → Nat) (τ : zTy) (fi : zFi) (fr : zFr) (ol : Int64) (x y z w : Int32) (hF : zFix τ fr) (n : Nat) (hT : zTh τ fi fr n) (h4 : ∀ i, 100 ≤ i → τ.2.2.1 i ≠ 4) : vx_Met l yL_price wsL_price ({ frames := 8, cells := 2, slots := 12, locals := 129 }) (va_Pc [.ref (τ.1 0), .int x, .int y, .int z, .int w, .ref (τ.1 28)] (zQn D A sad τ fi fr ol)) (va_Qi (fun (r : Int32) (u : zFi × Int64) => (∃ rv : Int32, r = nI 0 ∧ u.2 = rv.toInt64 ∧ (∃ t k, t < n ∧ x = nI t ∧ (1 ≤ y.toInt ∧ y.toInt ≤ 10000 ∧ 0 ≤ z.toInt ∧ z.toInt ≤ 999 ∧ z.toInt ≤ w.toInt ∧ w.toInt ≤ 999) ∧ fi (300 + t) 6 = nI k ∧ k < 4 ∧ rv = nI (k + 1) ∧ u.1 = zu (zu (zu (zu fi (340 + t) k y) (380 + t) k z) (420 + t) k w) (300 + t) 6 (nI (k + 1)))) ∨ (r = nI 1 ∧ u.1 = fi ∧ u.2 = ol ∧ (("java/lang/IndexOutOfBoundsException" = "java/lang/IndexOutOfBoundsException" ∧ ¬ (0 ≤ x.toInt ∧ x.toInt < (n : Int))) ∨ ("java/lang/IndexOutOfBoundsException" = "java/lang/IllegalArgumentException" ∧ (∃ t, t < n ∧ x = nI t) ∧ ¬ (1 ≤ y.toInt ∧ y.toInt ≤ 10000 ∧ 0 ≤ z.toInt ∧ z.toInt ≤ 999 ∧ z.toInt ≤ w.toInt ∧ w.toInt ≤ 999)) ∨ ("java/lang/IndexOutOfBoundsException" = "java/lang/UnsupportedOperationException" ∧ ∃ t, t < n ∧ x = nI t ∧ (1 ≤ y.toInt ∧ y.toInt ≤ 10000 ∧ 0 ≤ z.toInt ∧ z.toInt ≤ 999 ∧ z.toInt ≤ w.toInt ∧ w.toInt ≤ 999) ∧ fi (300 + t) 6 = nI 4))) ∨ (r = nI 2 ∧ u.1 = fi ∧ u.2 = ol ∧ (("java/lang/IllegalArgumentException" = "java/lang/IndexOutOfBoundsException" ∧ ¬ (0 ≤ x.toInt ∧ x.toInt < (n : Int))) ∨ ("java/lang/IllegalArgumentException" = "java/lang/IllegalArgumentException" ∧ (∃ t, t < n ∧ x = nI t) ∧ ¬ (1 ≤ y.toInt ∧ y.toInt ≤ 10000 ∧ 0 ≤ z.toInt ∧ z.toInt ≤ 999 ∧ z.toInt ≤ w.toInt ∧ w.toInt ≤ 999)) ∨ ("java/lang/IllegalArgumentException" = "java/lang/UnsupportedOperationException" ∧ ∃ t, t < n ∧ x = nI t ∧ (1 ≤ y.toInt ∧ y.toInt ≤ 10000 ∧ 0 ≤ z.toInt ∧ z.toInt ≤ 999 ∧ z.toInt ≤ w.toInt ∧ w.toInt ≤ 999) ∧ fi (300 + t) 6 = nI 4))) ∨ (r = nI 3 ∧ u.1 = fi ∧ u.2 = ol ∧ (("java/lang/UnsupportedOperationException" = "java/lang/IndexOutOfBoundsException" ∧ ¬ (0 ≤ x.toInt ∧ x.toInt < (n : Int))) ∨ ("java/lang/UnsupportedOperationException" = "java/lang/IllegalArgumentException" ∧ (∃ t, t < n ∧ x = nI t) ∧ ¬ (1 ≤ y.toInt ∧ y.toInt ≤ 10000 ∧ 0 ≤ z.toInt ∧ z.toInt ≤ 999 ∧ z.toInt ≤ w.toInt ∧ w.toInt ≤ 999)) ∨ ("java/lang/UnsupportedOperationException" = "java/lang/UnsupportedOperationException" ∧ ∃ t, t < n ∧ x = nI t ∧ (1 ≤ y.toInt ∧ y.toInt ≤ 10000 ∧ 0 ≤ z.toInt ∧ z.toInt ≤ 999 ∧ z.toInt ≤ w.toInt ∧ w.toInt ≤ 999) ∧ fi (300 + t) 6 = nI 4)))) (fun (u : zFi × Int64) (t : State) => zH D A τ u.1 fr u.2 t t.heap) A) (vx_X (fun u : Unit => True) (fun (E : String) (u : Unit) (t : State) => (False) ∧ zH D A τ fi fr ol t t.heap) A) 2 12 A := by
  refine vx_ofWH (cc := cL_price) (maxL := 7) (ret := (some .int)) (hh := [(0, 14, 17, 20), (0, 14, 21, 13), (0, 14, 25, 15)]) (by decide) rfl ?_
  intro p9 e9 s m args below meth c9 s₁ B hml hv
  obtain ⟨rfl, ⟨hz, hH, hA⟩, hnp⟩ := hv
  have hx := B.exec
  have hb := B.bytes
  have hr := B.returns
  have hts := atoms_spec (ws := wsL_price) B.pre
  have hown : s.vm.findClass RL = some m.cls := findClass_of_methodNamed B.named
  have hlocks := B.notSynchronized
  have htab := vx_table (x := yL_price) B (hts (.codeWith yL_price cL_price 7 (some .int) [(0, 14, 17, 20), (0, 14, 21, 13), (0, 14, 25, 15)]) List.mem_cons_self)
  have hS : va_S A s.heap s.heap [] := va_S.rf
  have hl := lv_entry ([.ref (τ.1 0), .int x, .int y, .int z, .int w, .ref (τ.1 28)]) (n := 7) (Nat.le_of_ble_eq_true rfl)
  rw [lg_entry_eq]
  generalize (lg_sl ([.ref (τ.1 0), .int x, .int y, .int z, .int w, .ref (τ.1 28)]) ++ List.replicate (7 - (lg_sl ([.ref (τ.1 0), .int x, .int y, .int z, .int w, .ref (τ.1 28)])).length) Slot.unset).toArray = ls at hl ⊢
  have hl : lv_has ls 7 [(0, .ref (τ.1 0)), (1, .int x), (2, .int y), (3, .int z), (4, .int w), (5, .ref (τ.1 28))] := hl
  have hw0 := hts (.classLink RL 20 "java/lang/IndexOutOfBoundsException") (by decide +kernel)
  have hw1 := hts (.classLink RL 13 "java/lang/IllegalArgumentException") (by decide +kernel)
  have hw2 := hts (.classLink RL 15 "java/lang/UnsupportedOperationException") (by decide +kernel)
  refine lv_aload hx hb dL_price_0 (lv_at hl 5 rfl) ?_
  refine lv_iconst (v := nI 0) hx hb dL_price_2 (by decide) ?_
  refine lv_aload_n hx hb dL_price_3 rfl (lv_at hl 0 rfl) ?_
  refine lv_iload_n hx hb dL_price_4 rfl (lv_at hl 1 rfl) ?_
  refine lv_iload_n hx hb dL_price_5 rfl (lv_at hl 2 rfl) ?_
  refine lv_iload_n hx hb dL_price_6 rfl (lv_at hl 3 rfl) ?_
  refine lv_iload hx hb dL_price_7 (lv_at hl 4 rfl) ?_
  refine vx_calli (vx_runV (As := [.int x, .int y, .int z, .int w]) (rest := [.int (nI 0), .ref (τ.1 28)]) ⟨hx, hb, hml, hown, hts⟩ (c_price l hl0 D A sad τ fi fr ol x y z w hF n hT) (cwV 4 hts gL_price_X11_price rfl rfl rfl (by decide +kernel) ⟨Nat.le_of_ble_eq_true rfl, Nat.le_of_ble_eq_true rfl⟩) ⟨zQc_bl, zRecv hH (zk_0 hF) rfl, zQc_at hz hS hA hH⟩ rfl rfl hl.1 rfl (lv_room (Nat.le_of_ble_eq_true rfl)) dL_price_9 ⟨Nat.le_of_ble_eq_true rfl, Nat.le_of_ble_eq_true rfl⟩) hS (fun q _ h => h) (fun q h => h) (fun q _ h => h) (fun E ce q9 u9 t9 H1 locs ht9 hvm9 hw hB hz1 hk1 hS hce hcv hcl => ?_) (fun r101 u9 t9 H1 locs ht9 hvm9 hw hB hz1 hk1 hS => ?_)
  · obtain ⟨hX, hB⟩ := hB
    have hH := zMv ht9 hvm9 hB
    generalize H1 = H at hH hS hce ⊢
    have hEx : E = "java/lang/IndexOutOfBoundsException" ∨ E = "java/lang/IllegalArgumentException" ∨ E = "java/lang/UnsupportedOperationException" := by rcases hX with h9 | h9 | h9; (exact Or.inl h9.1); (exact Or.inr (Or.inl h9.1)); exact Or.inr (Or.inr h9.1)
    rcases hEx with rfl | rfl | rfl
    · skip
      refine vx_catch hown [] { startPc := 0, endPc := 14, handlerPc := 17, catchType := 20 } _ (by rw [htab]; rfl) (fun z h9 => absurd h9 List.not_mem_nil) (by decide) (by decide) hw0 (va_Nw.use rfl (hz.1.2.2.2.2.2.2.2.1 _ (List.mem_of_getElem? (i := 0) rfl))) hce hcv hcl ?_
      refine W.widen (k := 2) (n := 12) (by decide) (by decide) ?_
      refine lv_astore (lv' := [(6, .ref q9), (0, .ref (τ.1 0)), (1, .int x), (2, .int y), (3, .int z), (4, .int w), (5, .ref (τ.1 28))]) hx hb dL_price_17 hl (by decide) rfl (fun ls hl => ?_)
      refine lv_iconst (v := nI 1) hx hb dL_price_19 (by decide) ?_
      refine W.widen (k := 2) (n := 12) (by decide) (by decide) ?_
      refine vx_ret ?_
      exact W.iret (v := nI 1) hx hb hr (fun t9 ht9 hW9 => ⟨⟨nI 1, (fi, ol), rfl, (show (∃ rv : Int32, (nI 1) = nI 0 ∧ ol = rv.toInt64 ∧ (∃ t k, t < n ∧ x = nI t ∧ (1 ≤ y.toInt ∧ y.toInt ≤ 10000 ∧ 0 ≤ z.toInt ∧ z.toInt ≤ 999 ∧ z.toInt ≤ w.toInt ∧ w.toInt ≤ 999) ∧ fi (300 + t) 6 = nI k ∧ k < 4 ∧ rv = nI (k + 1) ∧ fi = zu (zu (zu (zu fi (340 + t) k y) (380 + t) k z) (420 + t) k w) (300 + t) 6 (nI (k + 1)))) ∨ ((nI 1) = nI 1 ∧ fi = fi ∧ ol = ol ∧ (("java/lang/IndexOutOfBoundsException" = "java/lang/IndexOutOfBoundsException" ∧ ¬ (0 ≤ x.toInt ∧ x.toInt < (n : Int))) ∨ ("java/lang/IndexOutOfBoundsException" = "java/lang/IllegalArgumentException" ∧ (∃ t, t < n ∧ x = nI t) ∧ ¬ (1 ≤ y.toInt ∧ y.toInt ≤ 10000 ∧ 0 ≤ z.toInt ∧ z.toInt ≤ 999 ∧ z.toInt ≤ w.toInt ∧ w.toInt ≤ 999)) ∨ ("java/lang/IndexOutOfBoundsException" = "java/lang/UnsupportedOperationException" ∧ ∃ t, t < n ∧ x = nI t ∧ (1 ≤ y.toInt ∧ y.toInt ≤ 10000 ∧ 0 ≤ z.toInt ∧ z.toInt ≤ 999 ∧ z.toInt ≤ w.toInt ∧ w.toInt ≤ 999) ∧ fi (300 + t) 6 = nI 4))) ∨ ((nI 1) = nI 2 ∧ fi = fi ∧ ol = ol ∧ (("java/lang/IllegalArgumentException" = "java/lang/IndexOutOfBoundsException" ∧ ¬ (0 ≤ x.toInt ∧ x.toInt < (n : Int))) ∨ ("java/lang/IllegalArgumentException" = "java/lang/IllegalArgumentException" ∧ (∃ t, t < n ∧ x = nI t) ∧ ¬ (1 ≤ y.toInt ∧ y.toInt ≤ 10000 ∧ 0 ≤ z.toInt ∧ z.toInt ≤ 999 ∧ z.toInt ≤ w.toInt ∧ w.toInt ≤ 999)) ∨ ("java/lang/IllegalArgumentException" = "java/lang/UnsupportedOperationException" ∧ ∃ t, t < n ∧ x = nI t ∧ (1 ≤ y.toInt ∧ y.toInt ≤ 10000 ∧ 0 ≤ z.toInt ∧ z.toInt ≤ 999 ∧ z.toInt ≤ w.toInt ∧ w.toInt ≤ 999) ∧ fi (300 + t) 6 = nI 4))) ∨ ((nI 1) = nI 3 ∧ fi = fi ∧ ol = ol ∧ (("java/lang/UnsupportedOperationException" = "java/lang/IndexOutOfBoundsException" ∧ ¬ (0 ≤ x.toInt ∧ x.toInt < (n : Int))) ∨ ("java/lang/UnsupportedOperationException" = "java/lang/IllegalArgumentException" ∧ (∃ t, t < n ∧ x = nI t) ∧ ¬ (1 ≤ y.toInt ∧ y.toInt ≤ 10000 ∧ 0 ≤ z.toInt ∧ z.toInt ≤ 999 ∧ z.toInt ≤ w.toInt ∧ w.toInt ≤ 999)) ∨ ("java/lang/UnsupportedOperationException" = "java/lang/UnsupportedOperationException" ∧ ∃ t, t < n ∧ x = nI t ∧ (1 ≤ y.toInt ∧ y.toInt ≤ 10000 ∧ 0 ≤ z.toInt ∧ z.toInt ≤ 999 ∧ z.toInt ≤ w.toInt ∧ w.toInt ≤ 999) ∧ fi (300 + t) 6 = nI 4))) from Or.inr (Or.inl (⟨rfl, rfl, rfl, hX⟩))), zEnd1 hH ht9 hW9⟩, hS.F ht9⟩) hS.2.2 dL_price_20
    · skip
      refine vx_catch hown [{ startPc := 0, endPc := 14, handlerPc := 17, catchType := 20 }] { startPc := 0, endPc := 14, handlerPc := 21, catchType := 13 } _ (by rw [htab]; rfl) (List.forall_mem_cons.mpr ⟨Or.inr ⟨by decide, "java/lang/IndexOutOfBoundsException", hw0, hnp _ (by decide) _ (by decide) (by decide)⟩, fun z h9 => absurd h9 List.not_mem_nil⟩) (by decide) (by decide) hw1 (va_Nw.use rfl (hz.1.2.2.2.2.2.2.2.1 _ (List.mem_of_getElem? (i := 1) rfl))) hce hcv hcl ?_
      refine W.widen (k := 2) (n := 12) (by decide) (by decide) ?_
      refine lv_astore (lv' := [(6, .ref q9), (0, .ref (τ.1 0)), (1, .int x), (2, .int y), (3, .int z), (4, .int w), (5, .ref (τ.1 28))]) hx hb dL_price_21 hl (by decide) rfl (fun ls hl => ?_)
      refine lv_iconst (v := nI 2) hx hb dL_price_23 (by decide) ?_
      refine W.widen (k := 2) (n := 12) (by decide) (by decide) ?_
      refine vx_ret ?_
      exact W.iret (v := nI 2) hx hb hr (fun t9 ht9 hW9 => ⟨⟨nI 2, (fi, ol), rfl, (show (∃ rv : Int32, (nI 2) = nI 0 ∧ ol = rv.toInt64 ∧ (∃ t k, t < n ∧ x = nI t ∧ (1 ≤ y.toInt ∧ y.toInt ≤ 10000 ∧ 0 ≤ z.toInt ∧ z.toInt ≤ 999 ∧ z.toInt ≤ w.toInt ∧ w.toInt ≤ 999) ∧ fi (300 + t) 6 = nI k ∧ k < 4 ∧ rv = nI (k + 1) ∧ fi = zu (zu (zu (zu fi (340 + t) k y) (380 + t) k z) (420 + t) k w) (300 + t) 6 (nI (k + 1)))) ∨ ((nI 2) = nI 1 ∧ fi = fi ∧ ol = ol ∧ (("java/lang/IndexOutOfBoundsException" = "java/lang/IndexOutOfBoundsException" ∧ ¬ (0 ≤ x.toInt ∧ x.toInt < (n : Int))) ∨ ("java/lang/IndexOutOfBoundsException" = "java/lang/IllegalArgumentException" ∧ (∃ t, t < n ∧ x = nI t) ∧ ¬ (1 ≤ y.toInt ∧ y.toInt ≤ 10000 ∧ 0 ≤ z.toInt ∧ z.toInt ≤ 999 ∧ z.toInt ≤ w.toInt ∧ w.toInt ≤ 999)) ∨ ("java/lang/IndexOutOfBoundsException" = "java/lang/UnsupportedOperationException" ∧ ∃ t, t < n ∧ x = nI t ∧ (1 ≤ y.toInt ∧ y.toInt ≤ 10000 ∧ 0 ≤ z.toInt ∧ z.toInt ≤ 999 ∧ z.toInt ≤ w.toInt ∧ w.toInt ≤ 999) ∧ fi (300 + t) 6 = nI 4))) ∨ ((nI 2) = nI 2 ∧ fi = fi ∧ ol = ol ∧ (("java/lang/IllegalArgumentException" = "java/lang/IndexOutOfBoundsException" ∧ ¬ (0 ≤ x.toInt ∧ x.toInt < (n : Int))) ∨ ("java/lang/IllegalArgumentException" = "java/lang/IllegalArgumentException" ∧ (∃ t, t < n ∧ x = nI t) ∧ ¬ (1 ≤ y.toInt ∧ y.toInt ≤ 10000 ∧ 0 ≤ z.toInt ∧ z.toInt ≤ 999 ∧ z.toInt ≤ w.toInt ∧ w.toInt ≤ 999)) ∨ ("java/lang/IllegalArgumentException" = "java/lang/UnsupportedOperationException" ∧ ∃ t, t < n ∧ x = nI t ∧ (1 ≤ y.toInt ∧ y.toInt ≤ 10000 ∧ 0 ≤ z.toInt ∧ z.toInt ≤ 999 ∧ z.toInt ≤ w.toInt ∧ w.toInt ≤ 999) ∧ fi (300 + t) 6 = nI 4))) ∨ ((nI 2) = nI 3 ∧ fi = fi ∧ ol = ol ∧ (("java/lang/UnsupportedOperationException" = "java/lang/IndexOutOfBoundsException" ∧ ¬ (0 ≤ x.toInt ∧ x.toInt < (n : Int))) ∨ ("java/lang/UnsupportedOperationException" = "java/lang/IllegalArgumentException" ∧ (∃ t, t < n ∧ x = nI t) ∧ ¬ (1 ≤ y.toInt ∧ y.toInt ≤ 10000 ∧ 0 ≤ z.toInt ∧ z.toInt ≤ 999 ∧ z.toInt ≤ w.toInt ∧ w.toInt ≤ 999)) ∨ ("java/lang/UnsupportedOperationException" = "java/lang/UnsupportedOperationException" ∧ ∃ t, t < n ∧ x = nI t ∧ (1 ≤ y.toInt ∧ y.toInt ≤ 10000 ∧ 0 ≤ z.toInt ∧ z.toInt ≤ 999 ∧ z.toInt ≤ w.toInt ∧ w.toInt ≤ 999) ∧ fi (300 + t) 6 = nI 4))) from Or.inr (Or.inr (Or.inl (⟨rfl, rfl, rfl, hX⟩)))), zEnd1 hH ht9 hW9⟩, hS.F ht9⟩) hS.2.2 dL_price_24
    · skip
      refine vx_catch hown [{ startPc := 0, endPc := 14, handlerPc := 17, catchType := 20 }, { startPc := 0, endPc := 14, handlerPc := 21, catchType := 13 }] { startPc := 0, endPc := 14, handlerPc := 25, catchType := 15 } _ (by rw [htab]; rfl) (List.forall_mem_cons.mpr ⟨Or.inr ⟨by decide, "java/lang/IndexOutOfBoundsException", hw0, hnp _ (by decide) _ (by decide) (by decide)⟩, List.forall_mem_cons.mpr ⟨Or.inr ⟨by decide, "java/lang/IllegalArgumentException", hw1, hnp _ (by decide) _ (by decide) (by decide)⟩, fun z h9 => absurd h9 List.not_mem_nil⟩⟩) (by decide) (by decide) hw2 (va_Nw.use rfl (hz.1.2.2.2.2.2.2.2.1 _ (List.mem_of_getElem? (i := 2) rfl))) hce hcv hcl ?_
      refine W.widen (k := 2) (n := 12) (by decide) (by decide) ?_
      refine lv_astore (lv' := [(6, .ref q9), (0, .ref (τ.1 0)), (1, .int x), (2, .int y), (3, .int z), (4, .int w), (5, .ref (τ.1 28))]) hx hb dL_price_25 hl (by decide) rfl (fun ls hl => ?_)
      refine lv_iconst (v := nI 3) hx hb dL_price_27 (by decide) ?_
      refine W.widen (k := 2) (n := 12) (by decide) (by decide) ?_
      refine vx_ret ?_
      exact W.iret (v := nI 3) hx hb hr (fun t9 ht9 hW9 => ⟨⟨nI 3, (fi, ol), rfl, (show (∃ rv : Int32, (nI 3) = nI 0 ∧ ol = rv.toInt64 ∧ (∃ t k, t < n ∧ x = nI t ∧ (1 ≤ y.toInt ∧ y.toInt ≤ 10000 ∧ 0 ≤ z.toInt ∧ z.toInt ≤ 999 ∧ z.toInt ≤ w.toInt ∧ w.toInt ≤ 999) ∧ fi (300 + t) 6 = nI k ∧ k < 4 ∧ rv = nI (k + 1) ∧ fi = zu (zu (zu (zu fi (340 + t) k y) (380 + t) k z) (420 + t) k w) (300 + t) 6 (nI (k + 1)))) ∨ ((nI 3) = nI 1 ∧ fi = fi ∧ ol = ol ∧ (("java/lang/IndexOutOfBoundsException" = "java/lang/IndexOutOfBoundsException" ∧ ¬ (0 ≤ x.toInt ∧ x.toInt < (n : Int))) ∨ ("java/lang/IndexOutOfBoundsException" = "java/lang/IllegalArgumentException" ∧ (∃ t, t < n ∧ x = nI t) ∧ ¬ (1 ≤ y.toInt ∧ y.toInt ≤ 10000 ∧ 0 ≤ z.toInt ∧ z.toInt ≤ 999 ∧ z.toInt ≤ w.toInt ∧ w.toInt ≤ 999)) ∨ ("java/lang/IndexOutOfBoundsException" = "java/lang/UnsupportedOperationException" ∧ ∃ t, t < n ∧ x = nI t ∧ (1 ≤ y.toInt ∧ y.toInt ≤ 10000 ∧ 0 ≤ z.toInt ∧ z.toInt ≤ 999 ∧ z.toInt ≤ w.toInt ∧ w.toInt ≤ 999) ∧ fi (300 + t) 6 = nI 4))) ∨ ((nI 3) = nI 2 ∧ fi = fi ∧ ol = ol ∧ (("java/lang/IllegalArgumentException" = "java/lang/IndexOutOfBoundsException" ∧ ¬ (0 ≤ x.toInt ∧ x.toInt < (n : Int))) ∨ ("java/lang/IllegalArgumentException" = "java/lang/IllegalArgumentException" ∧ (∃ t, t < n ∧ x = nI t) ∧ ¬ (1 ≤ y.toInt ∧ y.toInt ≤ 10000 ∧ 0 ≤ z.toInt ∧ z.toInt ≤ 999 ∧ z.toInt ≤ w.toInt ∧ w.toInt ≤ 999)) ∨ ("java/lang/IllegalArgumentException" = "java/lang/UnsupportedOperationException" ∧ ∃ t, t < n ∧ x = nI t ∧ (1 ≤ y.toInt ∧ y.toInt ≤ 10000 ∧ 0 ≤ z.toInt ∧ z.toInt ≤ 999 ∧ z.toInt ≤ w.toInt ∧ w.toInt ≤ 999) ∧ fi (300 + t) 6 = nI 4))) ∨ ((nI 3) = nI 3 ∧ fi = fi ∧ ol = ol ∧ (("java/lang/UnsupportedOperationException" = "java/lang/IndexOutOfBoundsException" ∧ ¬ (0 ≤ x.toInt ∧ x.toInt < (n : Int))) ∨ ("java/lang/UnsupportedOperationException" = "java/lang/IllegalArgumentException" ∧ (∃ t, t < n ∧ x = nI t) ∧ ¬ (1 ≤ y.toInt ∧ y.toInt ≤ 10000 ∧ 0 ≤ z.toInt ∧ z.toInt ≤ 999 ∧ z.toInt ≤ w.toInt ∧ w.toInt ≤ 999)) ∨ ("java/lang/UnsupportedOperationException" = "java/lang/UnsupportedOperationException" ∧ ∃ t, t < n ∧ x = nI t ∧ (1 ≤ y.toInt ∧ y.toInt ≤ 10000 ∧ 0 ≤ z.toInt ∧ z.toInt ≤ 999 ∧ z.toInt ≤ w.toInt ∧ w.toInt ≤ 999) ∧ fi (300 + t) 6 = nI 4))) from Or.inr (Or.inr (Or.inr (⟨rfl, rfl, rfl, hX⟩)))), zEnd1 hH ht9 hW9⟩, hS.F ht9⟩) hS.2.2 dL_price_28
  · skip
    have hH := zMv ht9 hvm9 hB
    clear hB
    generalize u9 = f102 at hw hH
    generalize H1 = H at hH hS ⊢
    refine W.widen (k := 2) (n := 12) (by decide) (by decide) ?_
    have hcp := hw
    clear hw
    have hun := zFix.un hF h4
    refine lv_i2l hx hb dL_price_12 rfl ?_
    refine lv_topl (fun v103 ev103 => ?_)
    refine zLast (D := D) hx hb hH hS (zk_28 hF) (hun) (zn_28 hF) dL_price_13 (fun H locs hH hS => ?_)
    refine lv_goto (tgt := 29) hx hb dL_price_14 (by decide) ?_
    refine lv_iconst (v := nI 0) hx hb dL_price_29 (by decide) ?_
    refine W.widen (k := 2) (n := 12) (by decide) (by decide) ?_
    refine vx_ret ?_
    exact W.iret (v := nI 0) hx hb hr (fun t9 ht9 hW9 => ⟨⟨nI 0, (f102, v103), rfl, (show (∃ rv : Int32, (nI 0) = nI 0 ∧ v103 = rv.toInt64 ∧ (∃ t k, t < n ∧ x = nI t ∧ (1 ≤ y.toInt ∧ y.toInt ≤ 10000 ∧ 0 ≤ z.toInt ∧ z.toInt ≤ 999 ∧ z.toInt ≤ w.toInt ∧ w.toInt ≤ 999) ∧ fi (300 + t) 6 = nI k ∧ k < 4 ∧ rv = nI (k + 1) ∧ f102 = zu (zu (zu (zu fi (340 + t) k y) (380 + t) k z) (420 + t) k w) (300 + t) 6 (nI (k + 1)))) ∨ ((nI 0) = nI 1 ∧ f102 = fi ∧ v103 = ol ∧ (("java/lang/IndexOutOfBoundsException" = "java/lang/IndexOutOfBoundsException" ∧ ¬ (0 ≤ x.toInt ∧ x.toInt < (n : Int))) ∨ ("java/lang/IndexOutOfBoundsException" = "java/lang/IllegalArgumentException" ∧ (∃ t, t < n ∧ x = nI t) ∧ ¬ (1 ≤ y.toInt ∧ y.toInt ≤ 10000 ∧ 0 ≤ z.toInt ∧ z.toInt ≤ 999 ∧ z.toInt ≤ w.toInt ∧ w.toInt ≤ 999)) ∨ ("java/lang/IndexOutOfBoundsException" = "java/lang/UnsupportedOperationException" ∧ ∃ t, t < n ∧ x = nI t ∧ (1 ≤ y.toInt ∧ y.toInt ≤ 10000 ∧ 0 ≤ z.toInt ∧ z.toInt ≤ 999 ∧ z.toInt ≤ w.toInt ∧ w.toInt ≤ 999) ∧ fi (300 + t) 6 = nI 4))) ∨ ((nI 0) = nI 2 ∧ f102 = fi ∧ v103 = ol ∧ (("java/lang/IllegalArgumentException" = "java/lang/IndexOutOfBoundsException" ∧ ¬ (0 ≤ x.toInt ∧ x.toInt < (n : Int))) ∨ ("java/lang/IllegalArgumentException" = "java/lang/IllegalArgumentException" ∧ (∃ t, t < n ∧ x = nI t) ∧ ¬ (1 ≤ y.toInt ∧ y.toInt ≤ 10000 ∧ 0 ≤ z.toInt ∧ z.toInt ≤ 999 ∧ z.toInt ≤ w.toInt ∧ w.toInt ≤ 999)) ∨ ("java/lang/IllegalArgumentException" = "java/lang/UnsupportedOperationException" ∧ ∃ t, t < n ∧ x = nI t ∧ (1 ≤ y.toInt ∧ y.toInt ≤ 10000 ∧ 0 ≤ z.toInt ∧ z.toInt ≤ 999 ∧ z.toInt ≤ w.toInt ∧ w.toInt ≤ 999) ∧ fi (300 + t) 6 = nI 4))) ∨ ((nI 0) = nI 3 ∧ f102 = fi ∧ v103 = ol ∧ (("java/lang/UnsupportedOperationException" = "java/lang/IndexOutOfBoundsException" ∧ ¬ (0 ≤ x.toInt ∧ x.toInt < (n : Int))) ∨ ("java/lang/UnsupportedOperationException" = "java/lang/IllegalArgumentException" ∧ (∃ t, t < n ∧ x = nI t) ∧ ¬ (1 ≤ y.toInt ∧ y.toInt ≤ 10000 ∧ 0 ≤ z.toInt ∧ z.toInt ≤ 999 ∧ z.toInt ≤ w.toInt ∧ w.toInt ≤ 999)) ∨ ("java/lang/UnsupportedOperationException" = "java/lang/UnsupportedOperationException" ∧ ∃ t, t < n ∧ x = nI t ∧ (1 ≤ y.toInt ∧ y.toInt ≤ 10000 ∧ 0 ≤ z.toInt ∧ z.toInt ≤ 999 ∧ z.toInt ≤ w.toInt ∧ w.toInt ≤ 999) ∧ fi (300 + t) 6 = nI 4))) from Or.inl (⟨r101, rfl, ev103, hcp⟩)), zEnd1 hH ht9 hW9⟩, hS.F ht9⟩) hS.2.2 dL_price_30
set_option maxHeartbeats 4000000 in
set_option maxRecDepth 100000 in
/-- the law's costs -/
theorem h_costs (l : Launch) (hl0 : l.stackTraces = false) (D : va_G) (A : Nat → Prop) (sad : Nat → Nat) (τ : zTy) (fi : zFi) (fr : zFr) (ol : Int64) (x y : Int32) (hF : zFix τ fr) (n : Nat) (hT : zTh τ fi fr n) (h4 : ∀ i, 100 ≤ i → τ.2.2.1 i ≠ 4) : vx_Met l yL_costs wsL_costs ({ frames := 8, cells := 1, slots := 6, locals := 126 }) (va_Pc [.ref (τ.1 0), .int x, .int y, .ref (τ.1 28)] (zQn D A sad τ fi fr ol)) (va_Qi (fun (r : Int32) (u : Int64) => (∃ rv : Int32, r = nI 0 ∧ u = rv.toInt64 ∧ (∃ t k, t < n ∧ x = nI t ∧ fi (300 + t) 6 = nI k ∧ k ≤ 4 ∧ zMon fi t k y rv)) ∨ (r = nI 1 ∧ u = ol ∧ ("java/lang/IndexOutOfBoundsException" = "java/lang/IndexOutOfBoundsException" ∧ ¬ (0 ≤ x.toInt ∧ x.toInt < (n : Int))))) (fun (u : Int64) (t : State) => zH D A τ fi fr u t t.heap) A) (vx_X (fun u : Unit => True) (fun (E : String) (u : Unit) (t : State) => (False) ∧ zH D A τ fi fr ol t t.heap) A) 1 6 A := by
  refine vx_ofWH (cc := cL_costs) (maxL := 5) (ret := (some .int)) (hh := [(0, 10, 13, 20)]) (by decide) rfl ?_
  intro p9 e9 s m args below meth c9 s₁ B hml hv
  obtain ⟨rfl, ⟨hz, hH, hA⟩, hnp⟩ := hv
  have hx := B.exec
  have hb := B.bytes
  have hr := B.returns
  have hts := atoms_spec (ws := wsL_costs) B.pre
  have hown : s.vm.findClass RL = some m.cls := findClass_of_methodNamed B.named
  have hlocks := B.notSynchronized
  have htab := vx_table (x := yL_costs) B (hts (.codeWith yL_costs cL_costs 5 (some .int) [(0, 10, 13, 20)]) List.mem_cons_self)
  have hS : va_S A s.heap s.heap [] := va_S.rf
  have hl := lv_entry ([.ref (τ.1 0), .int x, .int y, .ref (τ.1 28)]) (n := 5) (Nat.le_of_ble_eq_true rfl)
  rw [lg_entry_eq]
  generalize (lg_sl ([.ref (τ.1 0), .int x, .int y, .ref (τ.1 28)]) ++ List.replicate (5 - (lg_sl ([.ref (τ.1 0), .int x, .int y, .ref (τ.1 28)])).length) Slot.unset).toArray = ls at hl ⊢
  have hl : lv_has ls 5 [(0, .ref (τ.1 0)), (1, .int x), (2, .int y), (3, .ref (τ.1 28))] := hl
  have hw0 := hts (.classLink RL 20 "java/lang/IndexOutOfBoundsException") (by decide +kernel)
  refine lv_aload_n hx hb dL_costs_0 rfl (lv_at hl 3 rfl) ?_
  refine lv_iconst (v := nI 0) hx hb dL_costs_1 (by decide) ?_
  refine lv_aload_n hx hb dL_costs_2 rfl (lv_at hl 0 rfl) ?_
  refine lv_iload_n hx hb dL_costs_3 rfl (lv_at hl 1 rfl) ?_
  refine lv_iload_n hx hb dL_costs_4 rfl (lv_at hl 2 rfl) ?_
  refine vx_calli (vx_runV (As := [.int x, .int y]) (rest := [.int (nI 0), .ref (τ.1 28)]) ⟨hx, hb, hml, hown, hts⟩ (c_costs l hl0 D A sad τ fi fr ol x y hF n hT) (cwV 2 hts gL_costs_X11_costs rfl rfl rfl (by decide +kernel) ⟨Nat.le_of_ble_eq_true rfl, Nat.le_of_ble_eq_true rfl⟩) ⟨zQc_bl, zRecv hH (zk_0 hF) rfl, zQc_at hz hS hA hH⟩ rfl rfl hl.1 rfl (lv_room (Nat.le_of_ble_eq_true rfl)) dL_costs_5 ⟨Nat.le_of_ble_eq_true rfl, Nat.le_of_ble_eq_true rfl⟩) hS (fun q _ h => h) (fun q h => h) (fun q _ h => h) (fun E ce q9 u9 t9 H1 locs ht9 hvm9 hw hB hz1 hk1 hS hce hcv hcl => ?_) (fun r101 u9 t9 H1 locs ht9 hvm9 hw hB hz1 hk1 hS => ?_)
  · obtain ⟨hX, hB⟩ := hB
    have hH := zMv ht9 hvm9 hB
    generalize H1 = H at hH hS hce ⊢
    have hEx : E = "java/lang/IndexOutOfBoundsException" := hX.1
    rcases hEx with rfl
    · skip
      refine vx_catch hown [] { startPc := 0, endPc := 10, handlerPc := 13, catchType := 20 } _ (by rw [htab]; rfl) (fun z h9 => absurd h9 List.not_mem_nil) (by decide) (by decide) hw0 (va_Nw.use rfl (hz.1.2.2.2.2.2.2.2.1 _ (List.mem_of_getElem? (i := 0) rfl))) hce hcv hcl ?_
      refine W.widen (k := 1) (n := 6) (by decide) (by decide) ?_
      refine lv_astore (lv' := [(4, .ref q9), (0, .ref (τ.1 0)), (1, .int x), (2, .int y), (3, .ref (τ.1 28))]) hx hb dL_costs_13 hl (by decide) rfl (fun ls hl => ?_)
      refine lv_iconst (v := nI 1) hx hb dL_costs_15 (by decide) ?_
      refine W.widen (k := 1) (n := 6) (by decide) (by decide) ?_
      refine vx_ret ?_
      exact W.iret (v := nI 1) hx hb hr (fun t9 ht9 hW9 => ⟨⟨nI 1, ol, rfl, Or.inr (⟨rfl, rfl, hX⟩), zEnd1 hH ht9 hW9⟩, hS.F ht9⟩) hS.2.2 dL_costs_16
  · skip
    have hH := zMv ht9 hvm9 hB
    generalize H1 = H at hH hS ⊢
    refine W.widen (k := 1) (n := 6) (by decide) (by decide) ?_
    have hcp := hw
    clear hw
    have hun := zFix.un hF h4
    refine lv_i2l hx hb dL_costs_8 rfl ?_
    refine lv_topl (fun v102 ev102 => ?_)
    refine zLast (D := D) hx hb hH hS (zk_28 hF) (hun) (zn_28 hF) dL_costs_9 (fun H locs hH hS => ?_)
    refine lv_goto (tgt := 17) hx hb dL_costs_10 (by decide) ?_
    refine lv_iconst (v := nI 0) hx hb dL_costs_17 (by decide) ?_
    refine W.widen (k := 1) (n := 6) (by decide) (by decide) ?_
    refine vx_ret ?_
    exact W.iret (v := nI 0) hx hb hr (fun t9 ht9 hW9 => ⟨⟨nI 0, v102, rfl, Or.inl (⟨r101, rfl, ev102, hcp⟩), zEnd1 hH ht9 hW9⟩, hS.F ht9⟩) hS.2.2 dL_costs_18
set_option maxHeartbeats 4000000 in
set_option maxRecDepth 100000 in
/-- the law's coming -/
theorem h_coming (l : Launch) (hl0 : l.stackTraces = false) (D : va_G) (A : Nat → Prop) (sad : Nat → Nat) (τ : zTy) (fi : zFi) (fr : zFr) (ol : Int64) (x y z : Int32) (td : Nat) (htd : fi 0 15 = nI td) (htd9 : td ≤ 999) (hF : zFix τ fr) (n : Nat) (hT : zTh τ fi fr n) (c : Nat) (hC : zCm fi fr n c) (h4 : ∀ i, 100 ≤ i → τ.2.2.1 i ≠ 4) : vx_Met l yL_coming wsL_coming ({ frames := 8, cells := 2, slots := 12, locals := 128 }) (va_Pc [.ref (τ.1 0), .int x, .int y, .int z, .ref (τ.1 28)] (zQn D A sad τ fi fr ol)) (va_Qi (fun (r : Int32) (u : zFi × zFr × Int64) => (∃ rv : Int32, r = nI 0 ∧ u.2.2 = rv.toInt64 ∧ (∃ b, b < n ∧ x = nI b ∧ (((td : Nat) : Int) + 1 ≤ y.toInt ∧ y.toInt ≤ 999 ∧ 1 ≤ z.toInt ∧ z.toInt ≤ 10000) ∧ c < 60 ∧ rv = nI (c + 1) ∧ u.1 = zu (zu (zu fi 7 c y) 8 c z) 5 3 (nI (c + 1)) ∧ u.2.1 = zur fr 6 c (some (300 + b)))) ∨ (r = nI 1 ∧ u.1 = fi ∧ u.2.1 = fr ∧ u.2.2 = ol ∧ (("java/lang/IndexOutOfBoundsException" = "java/lang/IndexOutOfBoundsException" ∧ ¬ (0 ≤ x.toInt ∧ x.toInt < (n : Int))) ∨ ("java/lang/IndexOutOfBoundsException" = "java/lang/IllegalArgumentException" ∧ (∃ b, b < n ∧ x = nI b) ∧ ¬ (((td : Nat) : Int) + 1 ≤ y.toInt ∧ y.toInt ≤ 999 ∧ 1 ≤ z.toInt ∧ z.toInt ≤ 10000)) ∨ ("java/lang/IndexOutOfBoundsException" = "java/lang/UnsupportedOperationException" ∧ (∃ b, b < n ∧ x = nI b) ∧ (((td : Nat) : Int) + 1 ≤ y.toInt ∧ y.toInt ≤ 999 ∧ 1 ≤ z.toInt ∧ z.toInt ≤ 10000) ∧ c = 60))) ∨ (r = nI 2 ∧ u.1 = fi ∧ u.2.1 = fr ∧ u.2.2 = ol ∧ (("java/lang/IllegalArgumentException" = "java/lang/IndexOutOfBoundsException" ∧ ¬ (0 ≤ x.toInt ∧ x.toInt < (n : Int))) ∨ ("java/lang/IllegalArgumentException" = "java/lang/IllegalArgumentException" ∧ (∃ b, b < n ∧ x = nI b) ∧ ¬ (((td : Nat) : Int) + 1 ≤ y.toInt ∧ y.toInt ≤ 999 ∧ 1 ≤ z.toInt ∧ z.toInt ≤ 10000)) ∨ ("java/lang/IllegalArgumentException" = "java/lang/UnsupportedOperationException" ∧ (∃ b, b < n ∧ x = nI b) ∧ (((td : Nat) : Int) + 1 ≤ y.toInt ∧ y.toInt ≤ 999 ∧ 1 ≤ z.toInt ∧ z.toInt ≤ 10000) ∧ c = 60))) ∨ (r = nI 3 ∧ u.1 = fi ∧ u.2.1 = fr ∧ u.2.2 = ol ∧ (("java/lang/UnsupportedOperationException" = "java/lang/IndexOutOfBoundsException" ∧ ¬ (0 ≤ x.toInt ∧ x.toInt < (n : Int))) ∨ ("java/lang/UnsupportedOperationException" = "java/lang/IllegalArgumentException" ∧ (∃ b, b < n ∧ x = nI b) ∧ ¬ (((td : Nat) : Int) + 1 ≤ y.toInt ∧ y.toInt ≤ 999 ∧ 1 ≤ z.toInt ∧ z.toInt ≤ 10000)) ∨ ("java/lang/UnsupportedOperationException" = "java/lang/UnsupportedOperationException" ∧ (∃ b, b < n ∧ x = nI b) ∧ (((td : Nat) : Int) + 1 ≤ y.toInt ∧ y.toInt ≤ 999 ∧ 1 ≤ z.toInt ∧ z.toInt ≤ 10000) ∧ c = 60)))) (fun (u : zFi × zFr × Int64) (t : State) => zH D A τ u.1 u.2.1 u.2.2 t t.heap) A) (vx_X (fun u : Unit => True) (fun (E : String) (u : Unit) (t : State) => (False) ∧ zH D A τ fi fr ol t t.heap) A) 2 12 A := by
  refine vx_ofWH (cc := cL_coming) (maxL := 6) (ret := (some .int)) (hh := [(0, 12, 15, 20), (0, 12, 19, 13), (0, 12, 23, 15)]) (by decide) rfl ?_
  intro p9 e9 s m args below meth c9 s₁ B hml hv
  obtain ⟨rfl, ⟨hz, hH, hA⟩, hnp⟩ := hv
  have hx := B.exec
  have hb := B.bytes
  have hr := B.returns
  have hts := atoms_spec (ws := wsL_coming) B.pre
  have hown : s.vm.findClass RL = some m.cls := findClass_of_methodNamed B.named
  have hlocks := B.notSynchronized
  have htab := vx_table (x := yL_coming) B (hts (.codeWith yL_coming cL_coming 6 (some .int) [(0, 12, 15, 20), (0, 12, 19, 13), (0, 12, 23, 15)]) List.mem_cons_self)
  have hS : va_S A s.heap s.heap [] := va_S.rf
  have hl := lv_entry ([.ref (τ.1 0), .int x, .int y, .int z, .ref (τ.1 28)]) (n := 6) (Nat.le_of_ble_eq_true rfl)
  rw [lg_entry_eq]
  generalize (lg_sl ([.ref (τ.1 0), .int x, .int y, .int z, .ref (τ.1 28)]) ++ List.replicate (6 - (lg_sl ([.ref (τ.1 0), .int x, .int y, .int z, .ref (τ.1 28)])).length) Slot.unset).toArray = ls at hl ⊢
  have hl : lv_has ls 6 [(0, .ref (τ.1 0)), (1, .int x), (2, .int y), (3, .int z), (4, .ref (τ.1 28))] := hl
  have hw0 := hts (.classLink RL 20 "java/lang/IndexOutOfBoundsException") (by decide +kernel)
  have hw1 := hts (.classLink RL 13 "java/lang/IllegalArgumentException") (by decide +kernel)
  have hw2 := hts (.classLink RL 15 "java/lang/UnsupportedOperationException") (by decide +kernel)
  refine lv_aload hx hb dL_coming_0 (lv_at hl 4 rfl) ?_
  refine lv_iconst (v := nI 0) hx hb dL_coming_2 (by decide) ?_
  refine lv_aload_n hx hb dL_coming_3 rfl (lv_at hl 0 rfl) ?_
  refine lv_iload_n hx hb dL_coming_4 rfl (lv_at hl 1 rfl) ?_
  refine lv_iload_n hx hb dL_coming_5 rfl (lv_at hl 2 rfl) ?_
  refine lv_iload_n hx hb dL_coming_6 rfl (lv_at hl 3 rfl) ?_
  refine vx_calli (vx_runV (As := [.int x, .int y, .int z]) (rest := [.int (nI 0), .ref (τ.1 28)]) ⟨hx, hb, hml, hown, hts⟩ (c_coming l hl0 D A sad τ fi fr ol x y z td htd htd9 hF n hT c hC) (cwV 3 hts gL_coming_X11_coming rfl rfl rfl (by decide +kernel) ⟨Nat.le_of_ble_eq_true rfl, Nat.le_of_ble_eq_true rfl⟩) ⟨zQc_bl, zRecv hH (zk_0 hF) rfl, zQc_at hz hS hA hH⟩ rfl rfl hl.1 rfl (lv_room (Nat.le_of_ble_eq_true rfl)) dL_coming_7 ⟨Nat.le_of_ble_eq_true rfl, Nat.le_of_ble_eq_true rfl⟩) hS (fun q _ h => h) (fun q h => h) (fun q _ h => h) (fun E ce q9 u9 t9 H1 locs ht9 hvm9 hw hB hz1 hk1 hS hce hcv hcl => ?_) (fun r101 u9 t9 H1 locs ht9 hvm9 hw hB hz1 hk1 hS => ?_)
  · obtain ⟨hX, hB⟩ := hB
    have hH := zMv ht9 hvm9 hB
    generalize H1 = H at hH hS hce ⊢
    have hEx : E = "java/lang/IndexOutOfBoundsException" ∨ E = "java/lang/IllegalArgumentException" ∨ E = "java/lang/UnsupportedOperationException" := by rcases hX with h9 | h9 | h9; (exact Or.inl h9.1); (exact Or.inr (Or.inl h9.1)); exact Or.inr (Or.inr h9.1)
    rcases hEx with rfl | rfl | rfl
    · skip
      refine vx_catch hown [] { startPc := 0, endPc := 12, handlerPc := 15, catchType := 20 } _ (by rw [htab]; rfl) (fun z h9 => absurd h9 List.not_mem_nil) (by decide) (by decide) hw0 (va_Nw.use rfl (hz.1.2.2.2.2.2.2.2.1 _ (List.mem_of_getElem? (i := 0) rfl))) hce hcv hcl ?_
      refine W.widen (k := 2) (n := 12) (by decide) (by decide) ?_
      refine lv_astore (lv' := [(5, .ref q9), (0, .ref (τ.1 0)), (1, .int x), (2, .int y), (3, .int z), (4, .ref (τ.1 28))]) hx hb dL_coming_15 hl (by decide) rfl (fun ls hl => ?_)
      refine lv_iconst (v := nI 1) hx hb dL_coming_17 (by decide) ?_
      refine W.widen (k := 2) (n := 12) (by decide) (by decide) ?_
      refine vx_ret ?_
      exact W.iret (v := nI 1) hx hb hr (fun t9 ht9 hW9 => ⟨⟨nI 1, (fi, fr, ol), rfl, (show (∃ rv : Int32, (nI 1) = nI 0 ∧ ol = rv.toInt64 ∧ (∃ b, b < n ∧ x = nI b ∧ (((td : Nat) : Int) + 1 ≤ y.toInt ∧ y.toInt ≤ 999 ∧ 1 ≤ z.toInt ∧ z.toInt ≤ 10000) ∧ c < 60 ∧ rv = nI (c + 1) ∧ fi = zu (zu (zu fi 7 c y) 8 c z) 5 3 (nI (c + 1)) ∧ fr = zur fr 6 c (some (300 + b)))) ∨ ((nI 1) = nI 1 ∧ fi = fi ∧ fr = fr ∧ ol = ol ∧ (("java/lang/IndexOutOfBoundsException" = "java/lang/IndexOutOfBoundsException" ∧ ¬ (0 ≤ x.toInt ∧ x.toInt < (n : Int))) ∨ ("java/lang/IndexOutOfBoundsException" = "java/lang/IllegalArgumentException" ∧ (∃ b, b < n ∧ x = nI b) ∧ ¬ (((td : Nat) : Int) + 1 ≤ y.toInt ∧ y.toInt ≤ 999 ∧ 1 ≤ z.toInt ∧ z.toInt ≤ 10000)) ∨ ("java/lang/IndexOutOfBoundsException" = "java/lang/UnsupportedOperationException" ∧ (∃ b, b < n ∧ x = nI b) ∧ (((td : Nat) : Int) + 1 ≤ y.toInt ∧ y.toInt ≤ 999 ∧ 1 ≤ z.toInt ∧ z.toInt ≤ 10000) ∧ c = 60))) ∨ ((nI 1) = nI 2 ∧ fi = fi ∧ fr = fr ∧ ol = ol ∧ (("java/lang/IllegalArgumentException" = "java/lang/IndexOutOfBoundsException" ∧ ¬ (0 ≤ x.toInt ∧ x.toInt < (n : Int))) ∨ ("java/lang/IllegalArgumentException" = "java/lang/IllegalArgumentException" ∧ (∃ b, b < n ∧ x = nI b) ∧ ¬ (((td : Nat) : Int) + 1 ≤ y.toInt ∧ y.toInt ≤ 999 ∧ 1 ≤ z.toInt ∧ z.toInt ≤ 10000)) ∨ ("java/lang/IllegalArgumentException" = "java/lang/UnsupportedOperationException" ∧ (∃ b, b < n ∧ x = nI b) ∧ (((td : Nat) : Int) + 1 ≤ y.toInt ∧ y.toInt ≤ 999 ∧ 1 ≤ z.toInt ∧ z.toInt ≤ 10000) ∧ c = 60))) ∨ ((nI 1) = nI 3 ∧ fi = fi ∧ fr = fr ∧ ol = ol ∧ (("java/lang/UnsupportedOperationException" = "java/lang/IndexOutOfBoundsException" ∧ ¬ (0 ≤ x.toInt ∧ x.toInt < (n : Int))) ∨ ("java/lang/UnsupportedOperationException" = "java/lang/IllegalArgumentException" ∧ (∃ b, b < n ∧ x = nI b) ∧ ¬ (((td : Nat) : Int) + 1 ≤ y.toInt ∧ y.toInt ≤ 999 ∧ 1 ≤ z.toInt ∧ z.toInt ≤ 10000)) ∨ ("java/lang/UnsupportedOperationException" = "java/lang/UnsupportedOperationException" ∧ (∃ b, b < n ∧ x = nI b) ∧ (((td : Nat) : Int) + 1 ≤ y.toInt ∧ y.toInt ≤ 999 ∧ 1 ≤ z.toInt ∧ z.toInt ≤ 10000) ∧ c = 60))) from Or.inr (Or.inl (⟨rfl, rfl, rfl, rfl, hX⟩))), zEnd1 hH ht9 hW9⟩, hS.F ht9⟩) hS.2.2 dL_coming_18
    · skip
      refine vx_catch hown [{ startPc := 0, endPc := 12, handlerPc := 15, catchType := 20 }] { startPc := 0, endPc := 12, handlerPc := 19, catchType := 13 } _ (by rw [htab]; rfl) (List.forall_mem_cons.mpr ⟨Or.inr ⟨by decide, "java/lang/IndexOutOfBoundsException", hw0, hnp _ (by decide) _ (by decide) (by decide)⟩, fun z h9 => absurd h9 List.not_mem_nil⟩) (by decide) (by decide) hw1 (va_Nw.use rfl (hz.1.2.2.2.2.2.2.2.1 _ (List.mem_of_getElem? (i := 1) rfl))) hce hcv hcl ?_
      refine W.widen (k := 2) (n := 12) (by decide) (by decide) ?_
      refine lv_astore (lv' := [(5, .ref q9), (0, .ref (τ.1 0)), (1, .int x), (2, .int y), (3, .int z), (4, .ref (τ.1 28))]) hx hb dL_coming_19 hl (by decide) rfl (fun ls hl => ?_)
      refine lv_iconst (v := nI 2) hx hb dL_coming_21 (by decide) ?_
      refine W.widen (k := 2) (n := 12) (by decide) (by decide) ?_
      refine vx_ret ?_
      exact W.iret (v := nI 2) hx hb hr (fun t9 ht9 hW9 => ⟨⟨nI 2, (fi, fr, ol), rfl, (show (∃ rv : Int32, (nI 2) = nI 0 ∧ ol = rv.toInt64 ∧ (∃ b, b < n ∧ x = nI b ∧ (((td : Nat) : Int) + 1 ≤ y.toInt ∧ y.toInt ≤ 999 ∧ 1 ≤ z.toInt ∧ z.toInt ≤ 10000) ∧ c < 60 ∧ rv = nI (c + 1) ∧ fi = zu (zu (zu fi 7 c y) 8 c z) 5 3 (nI (c + 1)) ∧ fr = zur fr 6 c (some (300 + b)))) ∨ ((nI 2) = nI 1 ∧ fi = fi ∧ fr = fr ∧ ol = ol ∧ (("java/lang/IndexOutOfBoundsException" = "java/lang/IndexOutOfBoundsException" ∧ ¬ (0 ≤ x.toInt ∧ x.toInt < (n : Int))) ∨ ("java/lang/IndexOutOfBoundsException" = "java/lang/IllegalArgumentException" ∧ (∃ b, b < n ∧ x = nI b) ∧ ¬ (((td : Nat) : Int) + 1 ≤ y.toInt ∧ y.toInt ≤ 999 ∧ 1 ≤ z.toInt ∧ z.toInt ≤ 10000)) ∨ ("java/lang/IndexOutOfBoundsException" = "java/lang/UnsupportedOperationException" ∧ (∃ b, b < n ∧ x = nI b) ∧ (((td : Nat) : Int) + 1 ≤ y.toInt ∧ y.toInt ≤ 999 ∧ 1 ≤ z.toInt ∧ z.toInt ≤ 10000) ∧ c = 60))) ∨ ((nI 2) = nI 2 ∧ fi = fi ∧ fr = fr ∧ ol = ol ∧ (("java/lang/IllegalArgumentException" = "java/lang/IndexOutOfBoundsException" ∧ ¬ (0 ≤ x.toInt ∧ x.toInt < (n : Int))) ∨ ("java/lang/IllegalArgumentException" = "java/lang/IllegalArgumentException" ∧ (∃ b, b < n ∧ x = nI b) ∧ ¬ (((td : Nat) : Int) + 1 ≤ y.toInt ∧ y.toInt ≤ 999 ∧ 1 ≤ z.toInt ∧ z.toInt ≤ 10000)) ∨ ("java/lang/IllegalArgumentException" = "java/lang/UnsupportedOperationException" ∧ (∃ b, b < n ∧ x = nI b) ∧ (((td : Nat) : Int) + 1 ≤ y.toInt ∧ y.toInt ≤ 999 ∧ 1 ≤ z.toInt ∧ z.toInt ≤ 10000) ∧ c = 60))) ∨ ((nI 2) = nI 3 ∧ fi = fi ∧ fr = fr ∧ ol = ol ∧ (("java/lang/UnsupportedOperationException" = "java/lang/IndexOutOfBoundsException" ∧ ¬ (0 ≤ x.toInt ∧ x.toInt < (n : Int))) ∨ ("java/lang/UnsupportedOperationException" = "java/lang/IllegalArgumentException" ∧ (∃ b, b < n ∧ x = nI b) ∧ ¬ (((td : Nat) : Int) + 1 ≤ y.toInt ∧ y.toInt ≤ 999 ∧ 1 ≤ z.toInt ∧ z.toInt ≤ 10000)) ∨ ("java/lang/UnsupportedOperationException" = "java/lang/UnsupportedOperationException" ∧ (∃ b, b < n ∧ x = nI b) ∧ (((td : Nat) : Int) + 1 ≤ y.toInt ∧ y.toInt ≤ 999 ∧ 1 ≤ z.toInt ∧ z.toInt ≤ 10000) ∧ c = 60))) from Or.inr (Or.inr (Or.inl (⟨rfl, rfl, rfl, rfl, hX⟩)))), zEnd1 hH ht9 hW9⟩, hS.F ht9⟩) hS.2.2 dL_coming_22
    · skip
      refine vx_catch hown [{ startPc := 0, endPc := 12, handlerPc := 15, catchType := 20 }, { startPc := 0, endPc := 12, handlerPc := 19, catchType := 13 }] { startPc := 0, endPc := 12, handlerPc := 23, catchType := 15 } _ (by rw [htab]; rfl) (List.forall_mem_cons.mpr ⟨Or.inr ⟨by decide, "java/lang/IndexOutOfBoundsException", hw0, hnp _ (by decide) _ (by decide) (by decide)⟩, List.forall_mem_cons.mpr ⟨Or.inr ⟨by decide, "java/lang/IllegalArgumentException", hw1, hnp _ (by decide) _ (by decide) (by decide)⟩, fun z h9 => absurd h9 List.not_mem_nil⟩⟩) (by decide) (by decide) hw2 (va_Nw.use rfl (hz.1.2.2.2.2.2.2.2.1 _ (List.mem_of_getElem? (i := 2) rfl))) hce hcv hcl ?_
      refine W.widen (k := 2) (n := 12) (by decide) (by decide) ?_
      refine lv_astore (lv' := [(5, .ref q9), (0, .ref (τ.1 0)), (1, .int x), (2, .int y), (3, .int z), (4, .ref (τ.1 28))]) hx hb dL_coming_23 hl (by decide) rfl (fun ls hl => ?_)
      refine lv_iconst (v := nI 3) hx hb dL_coming_25 (by decide) ?_
      refine W.widen (k := 2) (n := 12) (by decide) (by decide) ?_
      refine vx_ret ?_
      exact W.iret (v := nI 3) hx hb hr (fun t9 ht9 hW9 => ⟨⟨nI 3, (fi, fr, ol), rfl, (show (∃ rv : Int32, (nI 3) = nI 0 ∧ ol = rv.toInt64 ∧ (∃ b, b < n ∧ x = nI b ∧ (((td : Nat) : Int) + 1 ≤ y.toInt ∧ y.toInt ≤ 999 ∧ 1 ≤ z.toInt ∧ z.toInt ≤ 10000) ∧ c < 60 ∧ rv = nI (c + 1) ∧ fi = zu (zu (zu fi 7 c y) 8 c z) 5 3 (nI (c + 1)) ∧ fr = zur fr 6 c (some (300 + b)))) ∨ ((nI 3) = nI 1 ∧ fi = fi ∧ fr = fr ∧ ol = ol ∧ (("java/lang/IndexOutOfBoundsException" = "java/lang/IndexOutOfBoundsException" ∧ ¬ (0 ≤ x.toInt ∧ x.toInt < (n : Int))) ∨ ("java/lang/IndexOutOfBoundsException" = "java/lang/IllegalArgumentException" ∧ (∃ b, b < n ∧ x = nI b) ∧ ¬ (((td : Nat) : Int) + 1 ≤ y.toInt ∧ y.toInt ≤ 999 ∧ 1 ≤ z.toInt ∧ z.toInt ≤ 10000)) ∨ ("java/lang/IndexOutOfBoundsException" = "java/lang/UnsupportedOperationException" ∧ (∃ b, b < n ∧ x = nI b) ∧ (((td : Nat) : Int) + 1 ≤ y.toInt ∧ y.toInt ≤ 999 ∧ 1 ≤ z.toInt ∧ z.toInt ≤ 10000) ∧ c = 60))) ∨ ((nI 3) = nI 2 ∧ fi = fi ∧ fr = fr ∧ ol = ol ∧ (("java/lang/IllegalArgumentException" = "java/lang/IndexOutOfBoundsException" ∧ ¬ (0 ≤ x.toInt ∧ x.toInt < (n : Int))) ∨ ("java/lang/IllegalArgumentException" = "java/lang/IllegalArgumentException" ∧ (∃ b, b < n ∧ x = nI b) ∧ ¬ (((td : Nat) : Int) + 1 ≤ y.toInt ∧ y.toInt ≤ 999 ∧ 1 ≤ z.toInt ∧ z.toInt ≤ 10000)) ∨ ("java/lang/IllegalArgumentException" = "java/lang/UnsupportedOperationException" ∧ (∃ b, b < n ∧ x = nI b) ∧ (((td : Nat) : Int) + 1 ≤ y.toInt ∧ y.toInt ≤ 999 ∧ 1 ≤ z.toInt ∧ z.toInt ≤ 10000) ∧ c = 60))) ∨ ((nI 3) = nI 3 ∧ fi = fi ∧ fr = fr ∧ ol = ol ∧ (("java/lang/UnsupportedOperationException" = "java/lang/IndexOutOfBoundsException" ∧ ¬ (0 ≤ x.toInt ∧ x.toInt < (n : Int))) ∨ ("java/lang/UnsupportedOperationException" = "java/lang/IllegalArgumentException" ∧ (∃ b, b < n ∧ x = nI b) ∧ ¬ (((td : Nat) : Int) + 1 ≤ y.toInt ∧ y.toInt ≤ 999 ∧ 1 ≤ z.toInt ∧ z.toInt ≤ 10000)) ∨ ("java/lang/UnsupportedOperationException" = "java/lang/UnsupportedOperationException" ∧ (∃ b, b < n ∧ x = nI b) ∧ (((td : Nat) : Int) + 1 ≤ y.toInt ∧ y.toInt ≤ 999 ∧ 1 ≤ z.toInt ∧ z.toInt ≤ 10000) ∧ c = 60))) from Or.inr (Or.inr (Or.inr (⟨rfl, rfl, rfl, rfl, hX⟩)))), zEnd1 hH ht9 hW9⟩, hS.F ht9⟩) hS.2.2 dL_coming_26
  · skip
    obtain ⟨f102, g103⟩ := u9
    have hH := zMv ht9 hvm9 hB
    clear hB
    simp only at hw hH
    generalize H1 = H at hH hS ⊢
    refine W.widen (k := 2) (n := 12) (by decide) (by decide) ?_
    have hcp := hw
    clear hw
    have hF5 : zFix τ g103 := by obtain ⟨b9, -, -, -, -, -, -, h9⟩ := hcp; rw [h9]; exact hF.ur (by omega)
    have hun := zFix.un hF5 h4
    refine lv_i2l hx hb dL_coming_10 rfl ?_
    refine lv_topl (fun v104 ev104 => ?_)
    refine zLast (D := D) hx hb hH hS (zk_28 hF5) (hun) (zn_28 hF5) dL_coming_11 (fun H locs hH hS => ?_)
    refine lv_goto (tgt := 27) hx hb dL_coming_12 (by decide) ?_
    refine lv_iconst (v := nI 0) hx hb dL_coming_27 (by decide) ?_
    refine W.widen (k := 2) (n := 12) (by decide) (by decide) ?_
    refine vx_ret ?_
    exact W.iret (v := nI 0) hx hb hr (fun t9 ht9 hW9 => ⟨⟨nI 0, (f102, g103, v104), rfl, (show (∃ rv : Int32, (nI 0) = nI 0 ∧ v104 = rv.toInt64 ∧ (∃ b, b < n ∧ x = nI b ∧ (((td : Nat) : Int) + 1 ≤ y.toInt ∧ y.toInt ≤ 999 ∧ 1 ≤ z.toInt ∧ z.toInt ≤ 10000) ∧ c < 60 ∧ rv = nI (c + 1) ∧ f102 = zu (zu (zu fi 7 c y) 8 c z) 5 3 (nI (c + 1)) ∧ g103 = zur fr 6 c (some (300 + b)))) ∨ ((nI 0) = nI 1 ∧ f102 = fi ∧ g103 = fr ∧ v104 = ol ∧ (("java/lang/IndexOutOfBoundsException" = "java/lang/IndexOutOfBoundsException" ∧ ¬ (0 ≤ x.toInt ∧ x.toInt < (n : Int))) ∨ ("java/lang/IndexOutOfBoundsException" = "java/lang/IllegalArgumentException" ∧ (∃ b, b < n ∧ x = nI b) ∧ ¬ (((td : Nat) : Int) + 1 ≤ y.toInt ∧ y.toInt ≤ 999 ∧ 1 ≤ z.toInt ∧ z.toInt ≤ 10000)) ∨ ("java/lang/IndexOutOfBoundsException" = "java/lang/UnsupportedOperationException" ∧ (∃ b, b < n ∧ x = nI b) ∧ (((td : Nat) : Int) + 1 ≤ y.toInt ∧ y.toInt ≤ 999 ∧ 1 ≤ z.toInt ∧ z.toInt ≤ 10000) ∧ c = 60))) ∨ ((nI 0) = nI 2 ∧ f102 = fi ∧ g103 = fr ∧ v104 = ol ∧ (("java/lang/IllegalArgumentException" = "java/lang/IndexOutOfBoundsException" ∧ ¬ (0 ≤ x.toInt ∧ x.toInt < (n : Int))) ∨ ("java/lang/IllegalArgumentException" = "java/lang/IllegalArgumentException" ∧ (∃ b, b < n ∧ x = nI b) ∧ ¬ (((td : Nat) : Int) + 1 ≤ y.toInt ∧ y.toInt ≤ 999 ∧ 1 ≤ z.toInt ∧ z.toInt ≤ 10000)) ∨ ("java/lang/IllegalArgumentException" = "java/lang/UnsupportedOperationException" ∧ (∃ b, b < n ∧ x = nI b) ∧ (((td : Nat) : Int) + 1 ≤ y.toInt ∧ y.toInt ≤ 999 ∧ 1 ≤ z.toInt ∧ z.toInt ≤ 10000) ∧ c = 60))) ∨ ((nI 0) = nI 3 ∧ f102 = fi ∧ g103 = fr ∧ v104 = ol ∧ (("java/lang/UnsupportedOperationException" = "java/lang/IndexOutOfBoundsException" ∧ ¬ (0 ≤ x.toInt ∧ x.toInt < (n : Int))) ∨ ("java/lang/UnsupportedOperationException" = "java/lang/IllegalArgumentException" ∧ (∃ b, b < n ∧ x = nI b) ∧ ¬ (((td : Nat) : Int) + 1 ≤ y.toInt ∧ y.toInt ≤ 999 ∧ 1 ≤ z.toInt ∧ z.toInt ≤ 10000)) ∨ ("java/lang/UnsupportedOperationException" = "java/lang/UnsupportedOperationException" ∧ (∃ b, b < n ∧ x = nI b) ∧ (((td : Nat) : Int) + 1 ≤ y.toInt ∧ y.toInt ≤ 999 ∧ 1 ≤ z.toInt ∧ z.toInt ≤ 10000) ∧ c = 60))) from Or.inl (⟨r101, rfl, ev104, hcp⟩)), zEnd1 hH ht9 hW9⟩, hS.F ht9⟩) hS.2.2 dL_coming_28
set_option maxHeartbeats 4000000 in
set_option maxRecDepth 100000 in
/-- the law's stock -/
theorem h_stock (l : Launch) (hl0 : l.stackTraces = false) (D : va_G) (A : Nat → Prop) (sad : Nat → Nat) (τ : zTy) (fi : zFi) (fr : zFr) (ol : Int64) (x : Int32) (hF : zFix τ fr) (n : Nat) (hT : zTh τ fi fr n) (h4 : ∀ i, 100 ≤ i → τ.2.2.1 i ≠ 4) : vx_Met l yL_stock wsL_stock ({ frames := 8, cells := 1, slots := 6, locals := 125 }) (va_Pc [.ref (τ.1 0), .int x, .ref (τ.1 28)] (zQn D A sad τ fi fr ol)) (va_Qi (fun (r : Int32) (u : Int64) => (∃ rv : Int32, r = nI 0 ∧ u = rv.toInt64 ∧ (True)) ∨ (r = nI 1 ∧ u = ol ∧ ("java/lang/IndexOutOfBoundsException" = "java/lang/IndexOutOfBoundsException" ∧ ¬ (0 ≤ x.toInt ∧ x.toInt < (n : Int))))) (fun (u : Int64) (t : State) => zH D A τ fi fr u t t.heap) A) (vx_X (fun u : Unit => True) (fun (E : String) (u : Unit) (t : State) => (False) ∧ zH D A τ fi fr ol t t.heap) A) 1 6 A := by
  refine vx_ofWH (cc := cL_stock) (maxL := 4) (ret := (some .int)) (hh := [(0, 9, 12, 20)]) (by decide) rfl ?_
  intro p9 e9 s m args below meth c9 s₁ B hml hv
  obtain ⟨rfl, ⟨hz, hH, hA⟩, hnp⟩ := hv
  have hx := B.exec
  have hb := B.bytes
  have hr := B.returns
  have hts := atoms_spec (ws := wsL_stock) B.pre
  have hown : s.vm.findClass RL = some m.cls := findClass_of_methodNamed B.named
  have hlocks := B.notSynchronized
  have htab := vx_table (x := yL_stock) B (hts (.codeWith yL_stock cL_stock 4 (some .int) [(0, 9, 12, 20)]) List.mem_cons_self)
  have hS : va_S A s.heap s.heap [] := va_S.rf
  have hl := lv_entry ([.ref (τ.1 0), .int x, .ref (τ.1 28)]) (n := 4) (Nat.le_of_ble_eq_true rfl)
  rw [lg_entry_eq]
  generalize (lg_sl ([.ref (τ.1 0), .int x, .ref (τ.1 28)]) ++ List.replicate (4 - (lg_sl ([.ref (τ.1 0), .int x, .ref (τ.1 28)])).length) Slot.unset).toArray = ls at hl ⊢
  have hl : lv_has ls 4 [(0, .ref (τ.1 0)), (1, .int x), (2, .ref (τ.1 28))] := hl
  have hw0 := hts (.classLink RL 20 "java/lang/IndexOutOfBoundsException") (by decide +kernel)
  refine lv_aload_n hx hb dL_stock_0 rfl (lv_at hl 2 rfl) ?_
  refine lv_iconst (v := nI 0) hx hb dL_stock_1 (by decide) ?_
  refine lv_aload_n hx hb dL_stock_2 rfl (lv_at hl 0 rfl) ?_
  refine lv_iload_n hx hb dL_stock_3 rfl (lv_at hl 1 rfl) ?_
  refine vx_calli (vx_runV (As := [.int x]) (rest := [.int (nI 0), .ref (τ.1 28)]) ⟨hx, hb, hml, hown, hts⟩ (c_stock l hl0 D A sad τ fi fr ol x hF n hT) (cwV 1 hts gL_stock_X11_stock rfl rfl rfl (by decide +kernel) ⟨Nat.le_of_ble_eq_true rfl, Nat.le_of_ble_eq_true rfl⟩) ⟨zQc_bl, zRecv hH (zk_0 hF) rfl, zQc_at hz hS hA hH⟩ rfl rfl hl.1 rfl (lv_room (Nat.le_of_ble_eq_true rfl)) dL_stock_4 ⟨Nat.le_of_ble_eq_true rfl, Nat.le_of_ble_eq_true rfl⟩) hS (fun q _ h => h) (fun q h => h) (fun q _ h => h) (fun E ce q9 u9 t9 H1 locs ht9 hvm9 hw hB hz1 hk1 hS hce hcv hcl => ?_) (fun r101 u9 t9 H1 locs ht9 hvm9 hw hB hz1 hk1 hS => ?_)
  · obtain ⟨hX, hB⟩ := hB
    have hH := zMv ht9 hvm9 hB
    generalize H1 = H at hH hS hce ⊢
    have hEx : E = "java/lang/IndexOutOfBoundsException" := hX.1
    rcases hEx with rfl
    · skip
      refine vx_catch hown [] { startPc := 0, endPc := 9, handlerPc := 12, catchType := 20 } _ (by rw [htab]; rfl) (fun z h9 => absurd h9 List.not_mem_nil) (by decide) (by decide) hw0 (va_Nw.use rfl (hz.1.2.2.2.2.2.2.2.1 _ (List.mem_of_getElem? (i := 0) rfl))) hce hcv hcl ?_
      refine W.widen (k := 1) (n := 6) (by decide) (by decide) ?_
      refine lv_astore_n (lv' := [(3, .ref q9), (0, .ref (τ.1 0)), (1, .int x), (2, .ref (τ.1 28))]) hx hb dL_stock_12 rfl hl (by decide) rfl (fun ls hl => ?_)
      refine lv_iconst (v := nI 1) hx hb dL_stock_13 (by decide) ?_
      refine W.widen (k := 1) (n := 6) (by decide) (by decide) ?_
      refine vx_ret ?_
      exact W.iret (v := nI 1) hx hb hr (fun t9 ht9 hW9 => ⟨⟨nI 1, ol, rfl, Or.inr (⟨rfl, rfl, hX⟩), zEnd1 hH ht9 hW9⟩, hS.F ht9⟩) hS.2.2 dL_stock_14
  · skip
    have hH := zMv ht9 hvm9 hB
    generalize H1 = H at hH hS ⊢
    refine W.widen (k := 1) (n := 6) (by decide) (by decide) ?_
    have hcp := hw
    clear hw
    have hun := zFix.un hF h4
    refine lv_i2l hx hb dL_stock_7 rfl ?_
    refine lv_topl (fun v102 ev102 => ?_)
    refine zLast (D := D) hx hb hH hS (zk_28 hF) (hun) (zn_28 hF) dL_stock_8 (fun H locs hH hS => ?_)
    refine lv_goto (tgt := 15) hx hb dL_stock_9 (by decide) ?_
    refine lv_iconst (v := nI 0) hx hb dL_stock_15 (by decide) ?_
    refine W.widen (k := 1) (n := 6) (by decide) (by decide) ?_
    refine vx_ret ?_
    exact W.iret (v := nI 0) hx hb hr (fun t9 ht9 hW9 => ⟨⟨nI 0, v102, rfl, Or.inl (⟨r101, rfl, ev102, hcp⟩), zEnd1 hH ht9 hW9⟩, hS.F ht9⟩) hS.2.2 dL_stock_16
set_option maxHeartbeats 4000000 in
set_option maxRecDepth 100000 in
/-- the law's rules -/
theorem h_rules (l : Launch) (hl0 : l.stackTraces = false) (D : va_G) (A : Nat → Prop) (sad : Nat → Nat) (τ : zTy) (fi : zFi) (fr : zFr) (ol : Int64) (L : Nat) (hF : zFix τ fr) (hn : fi 1 1 = nI L) (hn4 : L ≤ 400) (n : Nat) (hT : zTh τ fi fr n) (h4 : ∀ i, 100 ≤ i → τ.2.2.1 i ≠ 4) : vx_Met l yL_rules wsL_rules ({ frames := 9, cells := 1, slots := 6, locals := 195 }) (va_Pc [.ref (τ.1 0), .ref (τ.1 28)] (zQn D A sad τ fi fr ol)) (va_Qi (fun (r : Int32) (u : zFi × Int64) => (∃ rv : Int32, r = nI 0 ∧ u.2 = rv.toInt64 ∧ (u.1 1 1 = nI 0 ∧ ∀ i k, ¬ (i = 1 ∨ i = 10 ∨ i = 11 ∨ i = 13 ∨ i = 14 ∨ (i = 0 ∧ k = 14)) → u.1 i k = fi i k)) ∨ (r = nI 1 ∧ u.2 = ol ∧ ("java/lang/IllegalArgumentException" = "java/lang/IllegalArgumentException" ∧ u.1 1 1 = nI 0 ∧ ∀ i k, ¬ (i = 1 ∨ i = 10 ∨ i = 11 ∨ i = 13 ∨ i = 14 ∨ (i = 0 ∧ k = 14)) → u.1 i k = fi i k))) (fun (u : zFi × Int64) (t : State) => zH D A τ u.1 fr u.2 t t.heap) A) (vx_X (fun u : Unit => True) (fun (E : String) (u : Unit) (t : State) => (False) ∧ zH D A τ fi fr ol t t.heap) A) 1 6 A := by
  refine vx_ofWH (cc := cL_rules) (maxL := 3) (ret := (some .int)) (hh := [(0, 8, 11, 13)]) (by decide) rfl ?_
  intro p9 e9 s m args below meth c9 s₁ B hml hv
  obtain ⟨rfl, ⟨hz, hH, hA⟩, hnp⟩ := hv
  have hx := B.exec
  have hb := B.bytes
  have hr := B.returns
  have hts := atoms_spec (ws := wsL_rules) B.pre
  have hown : s.vm.findClass RL = some m.cls := findClass_of_methodNamed B.named
  have hlocks := B.notSynchronized
  have htab := vx_table (x := yL_rules) B (hts (.codeWith yL_rules cL_rules 3 (some .int) [(0, 8, 11, 13)]) List.mem_cons_self)
  have hS : va_S A s.heap s.heap [] := va_S.rf
  have hl := lv_entry ([.ref (τ.1 0), .ref (τ.1 28)]) (n := 3) (Nat.le_of_ble_eq_true rfl)
  rw [lg_entry_eq]
  generalize (lg_sl ([.ref (τ.1 0), .ref (τ.1 28)]) ++ List.replicate (3 - (lg_sl ([.ref (τ.1 0), .ref (τ.1 28)])).length) Slot.unset).toArray = ls at hl ⊢
  have hl : lv_has ls 3 [(0, .ref (τ.1 0)), (1, .ref (τ.1 28))] := hl
  have hw0 := hts (.classLink RL 13 "java/lang/IllegalArgumentException") (by decide +kernel)
  refine lv_aload_n hx hb dL_rules_0 rfl (lv_at hl 1 rfl) ?_
  refine lv_iconst (v := nI 0) hx hb dL_rules_1 (by decide) ?_
  refine lv_aload_n hx hb dL_rules_2 rfl (lv_at hl 0 rfl) ?_
  refine vx_calli (vx_runV (As := []) (rest := [.int (nI 0), .ref (τ.1 28)]) ⟨hx, hb, hml, hown, hts⟩ (w_rules l hl0 D A sad τ fi fr ol L hF hn hn4 n hT) (cwV 0 hts gL_rules_X11_rules rfl rfl rfl (by decide +kernel) ⟨Nat.le_of_ble_eq_true rfl, Nat.le_of_ble_eq_true rfl⟩) ⟨zQc_bl, zRecv hH (zk_0 hF) rfl, zQc_at hz hS hA hH⟩ rfl rfl hl.1 rfl (lv_room (Nat.le_of_ble_eq_true rfl)) dL_rules_3 ⟨Nat.le_of_ble_eq_true rfl, Nat.le_of_ble_eq_true rfl⟩) hS (fun q _ h => h) (fun q h => h) (fun q _ h => h) (fun E ce q9 u9 t9 H1 locs ht9 hvm9 hw hB hz1 hk1 hS hce hcv hcl => ?_) (fun r101 u9 t9 H1 locs ht9 hvm9 hw hB hz1 hk1 hS => ?_)
  · obtain ⟨hX, hB⟩ := hB
    have hH := zMv ht9 hvm9 hB
    clear hB
    generalize u9 = f102 at hX hH
    generalize H1 = H at hH hS hce ⊢
    have hEx : E = "java/lang/IllegalArgumentException" := hX.1
    rcases hEx with rfl
    · skip
      refine vx_catch hown [] { startPc := 0, endPc := 8, handlerPc := 11, catchType := 13 } _ (by rw [htab]; rfl) (fun z h9 => absurd h9 List.not_mem_nil) (by decide) (by decide) hw0 (va_Nw.use rfl (hz.1.2.2.2.2.2.2.2.1 _ (List.mem_of_getElem? (i := 1) rfl))) hce hcv hcl ?_
      refine W.widen (k := 1) (n := 6) (by decide) (by decide) ?_
      refine lv_astore_n (lv' := [(2, .ref q9), (0, .ref (τ.1 0)), (1, .ref (τ.1 28))]) hx hb dL_rules_11 rfl hl (by decide) rfl (fun ls hl => ?_)
      refine lv_iconst (v := nI 1) hx hb dL_rules_12 (by decide) ?_
      refine W.widen (k := 1) (n := 6) (by decide) (by decide) ?_
      refine vx_ret ?_
      exact W.iret (v := nI 1) hx hb hr (fun t9 ht9 hW9 => ⟨⟨nI 1, (f102, ol), rfl, (show (∃ rv : Int32, (nI 1) = nI 0 ∧ ol = rv.toInt64 ∧ (f102 1 1 = nI 0 ∧ ∀ i k, ¬ (i = 1 ∨ i = 10 ∨ i = 11 ∨ i = 13 ∨ i = 14 ∨ (i = 0 ∧ k = 14)) → f102 i k = fi i k)) ∨ ((nI 1) = nI 1 ∧ ol = ol ∧ ("java/lang/IllegalArgumentException" = "java/lang/IllegalArgumentException" ∧ f102 1 1 = nI 0 ∧ ∀ i k, ¬ (i = 1 ∨ i = 10 ∨ i = 11 ∨ i = 13 ∨ i = 14 ∨ (i = 0 ∧ k = 14)) → f102 i k = fi i k)) from Or.inr (⟨rfl, rfl, hX⟩)), zEnd1 hH ht9 hW9⟩, hS.F ht9⟩) hS.2.2 dL_rules_13
  · skip
    have hH := zMv ht9 hvm9 hB
    clear hB
    generalize u9 = f103 at hw hH
    generalize H1 = H at hH hS ⊢
    refine W.widen (k := 1) (n := 6) (by decide) (by decide) ?_
    have hcp := hw
    clear hw
    have hun := zFix.un hF h4
    refine lv_i2l hx hb dL_rules_6 rfl ?_
    refine lv_topl (fun v104 ev104 => ?_)
    refine zLast (D := D) hx hb hH hS (zk_28 hF) (hun) (zn_28 hF) dL_rules_7 (fun H locs hH hS => ?_)
    refine lv_goto (tgt := 14) hx hb dL_rules_8 (by decide) ?_
    refine lv_iconst (v := nI 0) hx hb dL_rules_14 (by decide) ?_
    refine W.widen (k := 1) (n := 6) (by decide) (by decide) ?_
    refine vx_ret ?_
    exact W.iret (v := nI 0) hx hb hr (fun t9 ht9 hW9 => ⟨⟨nI 0, (f103, v104), rfl, (show (∃ rv : Int32, (nI 0) = nI 0 ∧ v104 = rv.toInt64 ∧ (f103 1 1 = nI 0 ∧ ∀ i k, ¬ (i = 1 ∨ i = 10 ∨ i = 11 ∨ i = 13 ∨ i = 14 ∨ (i = 0 ∧ k = 14)) → f103 i k = fi i k)) ∨ ((nI 0) = nI 1 ∧ v104 = ol ∧ ("java/lang/IllegalArgumentException" = "java/lang/IllegalArgumentException" ∧ f103 1 1 = nI 0 ∧ ∀ i k, ¬ (i = 1 ∨ i = 10 ∨ i = 11 ∨ i = 13 ∨ i = 14 ∨ (i = 0 ∧ k = 14)) → f103 i k = fi i k)) from Or.inl (⟨r101, rfl, ev104, hcp⟩)), zEnd1 hH ht9 hW9⟩, hS.F ht9⟩) hS.2.2 dL_rules_15
set_option maxHeartbeats 4000000 in
set_option maxRecDepth 100000 in
/-- the law's says -/
theorem h_says (l : Launch) (hl0 : l.stackTraces = false) (D : va_G) (A : Nat → Prop) (sad : Nat → Nat) (τ : zTy) (fi : zFi) (fr : zFr) (ol : Int64) (x : Int32) (hF : zFix τ fr) (h4 : ∀ i, 100 ≤ i → τ.2.2.1 i ≠ 4) : vx_Met l yL_says wsL_says ({ frames := 7, cells := 1, slots := 6, locals := 103 }) (va_Pc [.ref (τ.1 0), .int x, .ref (τ.1 28)] (zQn D A sad τ fi fr ol)) (va_Qi (fun (r : Int32) (u : Int64) => (∃ rv : Int32, r = nI 0 ∧ u = rv.toInt64 ∧ (∃ k, k < 4 ∧ x = nI k ∧ rv = fi 10 k)) ∨ (r = nI 1 ∧ u = ol ∧ ("java/util/NoSuchElementException" = "java/util/NoSuchElementException" ∧ ¬ (0 ≤ x.toInt ∧ x.toInt ≤ 3)))) (fun (u : Int64) (t : State) => zH D A τ fi fr u t t.heap) A) (vx_X (fun u : Unit => True) (fun (E : String) (u : Unit) (t : State) => (False) ∧ zH D A τ fi fr ol t t.heap) A) 1 6 A := by
  refine vx_ofWH (cc := cL_says) (maxL := 4) (ret := (some .int)) (hh := [(0, 9, 12, 41)]) (by decide) rfl ?_
  intro p9 e9 s m args below meth c9 s₁ B hml hv
  obtain ⟨rfl, ⟨hz, hH, hA⟩, hnp⟩ := hv
  have hx := B.exec
  have hb := B.bytes
  have hr := B.returns
  have hts := atoms_spec (ws := wsL_says) B.pre
  have hown : s.vm.findClass RL = some m.cls := findClass_of_methodNamed B.named
  have hlocks := B.notSynchronized
  have htab := vx_table (x := yL_says) B (hts (.codeWith yL_says cL_says 4 (some .int) [(0, 9, 12, 41)]) List.mem_cons_self)
  have hS : va_S A s.heap s.heap [] := va_S.rf
  have hl := lv_entry ([.ref (τ.1 0), .int x, .ref (τ.1 28)]) (n := 4) (Nat.le_of_ble_eq_true rfl)
  rw [lg_entry_eq]
  generalize (lg_sl ([.ref (τ.1 0), .int x, .ref (τ.1 28)]) ++ List.replicate (4 - (lg_sl ([.ref (τ.1 0), .int x, .ref (τ.1 28)])).length) Slot.unset).toArray = ls at hl ⊢
  have hl : lv_has ls 4 [(0, .ref (τ.1 0)), (1, .int x), (2, .ref (τ.1 28))] := hl
  have hw0 := hts (.classLink RL 41 "java/util/NoSuchElementException") (by decide +kernel)
  refine lv_aload_n hx hb dL_says_0 rfl (lv_at hl 2 rfl) ?_
  refine lv_iconst (v := nI 0) hx hb dL_says_1 (by decide) ?_
  refine lv_aload_n hx hb dL_says_2 rfl (lv_at hl 0 rfl) ?_
  refine lv_iload_n hx hb dL_says_3 rfl (lv_at hl 1 rfl) ?_
  refine vx_calli (vx_runV (As := [.int x]) (rest := [.int (nI 0), .ref (τ.1 28)]) ⟨hx, hb, hml, hown, hts⟩ (c_says l hl0 D A sad τ fi fr ol x hF) (cwV 1 hts gL_says_X11_says rfl rfl rfl (by decide +kernel) ⟨Nat.le_of_ble_eq_true rfl, Nat.le_of_ble_eq_true rfl⟩) ⟨zQc_bl, zRecv hH (zk_0 hF) rfl, zQc_at hz hS hA hH⟩ rfl rfl hl.1 rfl (lv_room (Nat.le_of_ble_eq_true rfl)) dL_says_4 ⟨Nat.le_of_ble_eq_true rfl, Nat.le_of_ble_eq_true rfl⟩) hS (fun q _ h => h) (fun q h => h) (fun q _ h => h) (fun E ce q9 u9 t9 H1 locs ht9 hvm9 hw hB hz1 hk1 hS hce hcv hcl => ?_) (fun r101 u9 t9 H1 locs ht9 hvm9 hw hB hz1 hk1 hS => ?_)
  · obtain ⟨hX, hB⟩ := hB
    have hH := zMv ht9 hvm9 hB
    generalize H1 = H at hH hS hce ⊢
    have hEx : E = "java/util/NoSuchElementException" := hX.1
    rcases hEx with rfl
    · skip
      refine vx_catch hown [] { startPc := 0, endPc := 9, handlerPc := 12, catchType := 41 } _ (by rw [htab]; rfl) (fun z h9 => absurd h9 List.not_mem_nil) (by decide) (by decide) hw0 (va_Nw.use rfl (hz.1.2.2.2.2.2.2.2.1 _ (List.mem_of_getElem? (i := 3) rfl))) hce hcv hcl ?_
      refine W.widen (k := 1) (n := 6) (by decide) (by decide) ?_
      refine lv_astore_n (lv' := [(3, .ref q9), (0, .ref (τ.1 0)), (1, .int x), (2, .ref (τ.1 28))]) hx hb dL_says_12 rfl hl (by decide) rfl (fun ls hl => ?_)
      refine lv_iconst (v := nI 1) hx hb dL_says_13 (by decide) ?_
      refine W.widen (k := 1) (n := 6) (by decide) (by decide) ?_
      refine vx_ret ?_
      exact W.iret (v := nI 1) hx hb hr (fun t9 ht9 hW9 => ⟨⟨nI 1, ol, rfl, Or.inr (⟨rfl, rfl, hX⟩), zEnd1 hH ht9 hW9⟩, hS.F ht9⟩) hS.2.2 dL_says_14
  · skip
    have hH := zMv ht9 hvm9 hB
    generalize H1 = H at hH hS ⊢
    refine W.widen (k := 1) (n := 6) (by decide) (by decide) ?_
    have hcp := hw
    clear hw
    have hun := zFix.un hF h4
    refine lv_i2l hx hb dL_says_7 rfl ?_
    refine lv_topl (fun v102 ev102 => ?_)
    refine zLast (D := D) hx hb hH hS (zk_28 hF) (hun) (zn_28 hF) dL_says_8 (fun H locs hH hS => ?_)
    refine lv_goto (tgt := 15) hx hb dL_says_9 (by decide) ?_
    refine lv_iconst (v := nI 0) hx hb dL_says_15 (by decide) ?_
    refine W.widen (k := 1) (n := 6) (by decide) (by decide) ?_
    refine vx_ret ?_
    exact W.iret (v := nI 0) hx hb hr (fun t9 ht9 hW9 => ⟨⟨nI 0, v102, rfl, Or.inl (⟨r101, rfl, ev102, hcp⟩), zEnd1 hH ht9 hW9⟩, hS.F ht9⟩) hS.2.2 dL_says_16
set_option maxHeartbeats 4000000 in
set_option maxRecDepth 100000 in
/-- the law's instead -/
theorem h_instead (l : Launch) (hl0 : l.stackTraces = false) (D : va_G) (A : Nat → Prop) (sad : Nat → Nat) (τ : zTy) (fi : zFi) (fr : zFr) (ol : Int64) (x : Int32) (hF : zFix τ fr) (n : Nat) (hT : zTh τ fi fr n) (h4 : ∀ i, 100 ≤ i → τ.2.2.1 i ≠ 4) : vx_Met l yL_instead wsL_instead ({ frames := 8, cells := 1, slots := 6, locals := 125 }) (va_Pc [.ref (τ.1 0), .int x, .ref (τ.1 28)] (zQn D A sad τ fi fr ol)) (va_Qi (fun (r : Int32) (u : Int64) => (∃ rv : Int32, r = nI 0 ∧ u = rv.toInt64 ∧ (∃ t, t < n ∧ x = nI t ∧ rv = fi 11 t)) ∨ (r = nI 1 ∧ u = ol ∧ ("java/lang/IndexOutOfBoundsException" = "java/lang/IndexOutOfBoundsException" ∧ ¬ (0 ≤ x.toInt ∧ x.toInt < (n : Int))))) (fun (u : Int64) (t : State) => zH D A τ fi fr u t t.heap) A) (vx_X (fun u : Unit => True) (fun (E : String) (u : Unit) (t : State) => (False) ∧ zH D A τ fi fr ol t t.heap) A) 1 6 A := by
  refine vx_ofWH (cc := cL_instead) (maxL := 4) (ret := (some .int)) (hh := [(0, 9, 12, 20)]) (by decide) rfl ?_
  intro p9 e9 s m args below meth c9 s₁ B hml hv
  obtain ⟨rfl, ⟨hz, hH, hA⟩, hnp⟩ := hv
  have hx := B.exec
  have hb := B.bytes
  have hr := B.returns
  have hts := atoms_spec (ws := wsL_instead) B.pre
  have hown : s.vm.findClass RL = some m.cls := findClass_of_methodNamed B.named
  have hlocks := B.notSynchronized
  have htab := vx_table (x := yL_instead) B (hts (.codeWith yL_instead cL_instead 4 (some .int) [(0, 9, 12, 20)]) List.mem_cons_self)
  have hS : va_S A s.heap s.heap [] := va_S.rf
  have hl := lv_entry ([.ref (τ.1 0), .int x, .ref (τ.1 28)]) (n := 4) (Nat.le_of_ble_eq_true rfl)
  rw [lg_entry_eq]
  generalize (lg_sl ([.ref (τ.1 0), .int x, .ref (τ.1 28)]) ++ List.replicate (4 - (lg_sl ([.ref (τ.1 0), .int x, .ref (τ.1 28)])).length) Slot.unset).toArray = ls at hl ⊢
  have hl : lv_has ls 4 [(0, .ref (τ.1 0)), (1, .int x), (2, .ref (τ.1 28))] := hl
  have hw0 := hts (.classLink RL 20 "java/lang/IndexOutOfBoundsException") (by decide +kernel)
  refine lv_aload_n hx hb dL_instead_0 rfl (lv_at hl 2 rfl) ?_
  refine lv_iconst (v := nI 0) hx hb dL_instead_1 (by decide) ?_
  refine lv_aload_n hx hb dL_instead_2 rfl (lv_at hl 0 rfl) ?_
  refine lv_iload_n hx hb dL_instead_3 rfl (lv_at hl 1 rfl) ?_
  refine vx_calli (vx_runV (As := [.int x]) (rest := [.int (nI 0), .ref (τ.1 28)]) ⟨hx, hb, hml, hown, hts⟩ (c_instead l hl0 D A sad τ fi fr ol x hF n hT) (cwV 1 hts gL_instead_X11_instead rfl rfl rfl (by decide +kernel) ⟨Nat.le_of_ble_eq_true rfl, Nat.le_of_ble_eq_true rfl⟩) ⟨zQc_bl, zRecv hH (zk_0 hF) rfl, zQc_at hz hS hA hH⟩ rfl rfl hl.1 rfl (lv_room (Nat.le_of_ble_eq_true rfl)) dL_instead_4 ⟨Nat.le_of_ble_eq_true rfl, Nat.le_of_ble_eq_true rfl⟩) hS (fun q _ h => h) (fun q h => h) (fun q _ h => h) (fun E ce q9 u9 t9 H1 locs ht9 hvm9 hw hB hz1 hk1 hS hce hcv hcl => ?_) (fun r101 u9 t9 H1 locs ht9 hvm9 hw hB hz1 hk1 hS => ?_)
  · obtain ⟨hX, hB⟩ := hB
    have hH := zMv ht9 hvm9 hB
    generalize H1 = H at hH hS hce ⊢
    have hEx : E = "java/lang/IndexOutOfBoundsException" := hX.1
    rcases hEx with rfl
    · skip
      refine vx_catch hown [] { startPc := 0, endPc := 9, handlerPc := 12, catchType := 20 } _ (by rw [htab]; rfl) (fun z h9 => absurd h9 List.not_mem_nil) (by decide) (by decide) hw0 (va_Nw.use rfl (hz.1.2.2.2.2.2.2.2.1 _ (List.mem_of_getElem? (i := 0) rfl))) hce hcv hcl ?_
      refine W.widen (k := 1) (n := 6) (by decide) (by decide) ?_
      refine lv_astore_n (lv' := [(3, .ref q9), (0, .ref (τ.1 0)), (1, .int x), (2, .ref (τ.1 28))]) hx hb dL_instead_12 rfl hl (by decide) rfl (fun ls hl => ?_)
      refine lv_iconst (v := nI 1) hx hb dL_instead_13 (by decide) ?_
      refine W.widen (k := 1) (n := 6) (by decide) (by decide) ?_
      refine vx_ret ?_
      exact W.iret (v := nI 1) hx hb hr (fun t9 ht9 hW9 => ⟨⟨nI 1, ol, rfl, Or.inr (⟨rfl, rfl, hX⟩), zEnd1 hH ht9 hW9⟩, hS.F ht9⟩) hS.2.2 dL_instead_14
  · skip
    have hH := zMv ht9 hvm9 hB
    generalize H1 = H at hH hS ⊢
    refine W.widen (k := 1) (n := 6) (by decide) (by decide) ?_
    have hcp := hw
    clear hw
    have hun := zFix.un hF h4
    refine lv_i2l hx hb dL_instead_7 rfl ?_
    refine lv_topl (fun v102 ev102 => ?_)
    refine zLast (D := D) hx hb hH hS (zk_28 hF) (hun) (zn_28 hF) dL_instead_8 (fun H locs hH hS => ?_)
    refine lv_goto (tgt := 15) hx hb dL_instead_9 (by decide) ?_
    refine lv_iconst (v := nI 0) hx hb dL_instead_15 (by decide) ?_
    refine W.widen (k := 1) (n := 6) (by decide) (by decide) ?_
    refine vx_ret ?_
    exact W.iret (v := nI 0) hx hb hr (fun t9 ht9 hW9 => ⟨⟨nI 0, v102, rfl, Or.inl (⟨r101, rfl, ev102, hcp⟩), zEnd1 hH ht9 hW9⟩, hS.F ht9⟩) hS.2.2 dL_instead_16
set_option maxHeartbeats 4000000 in
set_option maxRecDepth 100000 in
/-- the law's letter -/
theorem h_letter (l : Launch) (hl0 : l.stackTraces = false) (D : va_G) (A : Nat → Prop) (sad : Nat → Nat) (τ : zTy) (fi : zFi) (fr : zFr) (ol : Int64) (L : Nat) (hF : zFix τ fr) (hn : fi 1 1 = nI L) (hn4 : L ≤ 400) (n : Nat) (hT : zTh τ fi fr n) (o : Nat) (hO : zOr τ fi fr n o) (q : Nat) (hDo : zDo τ fi fr q) (h4 : ∀ i, 100 ≤ i → τ.2.2.1 i ≠ 4) : vx_Met l yL_letter wsL_letter ({ frames := 8, cells := 14, slots := 126, locals := 175 }) (va_Pc [.ref (τ.1 0), .ref (τ.1 28)] (zQn D A sad τ fi fr ol)) (va_Qi (fun (r : Int32) (u : zTy × zFi × zFr × Int64) => (∃ rv : Int32, r = nI 0 ∧ u.2.2.2 = rv.toInt64 ∧ ((o < 60 ∧ rv = nI o ∧ zLo τ fi fr n o q u.1 u.2.1 u.2.2.1) ∨ (q < 512 ∧ zLd τ fi fr q u.1 u.2.1 u.2.2.1))) ∨ (r = nI 1 ∧ u.2.2.2 = ol ∧ (("java/lang/IllegalArgumentException" = "java/lang/IllegalArgumentException" ∨ "java/lang/IllegalArgumentException" = "java/lang/UnsupportedOperationException") ∧ zLg τ fi fr q u.1 u.2.1 u.2.2.1)) ∨ (r = nI 2 ∧ u.2.2.2 = ol ∧ (("java/lang/UnsupportedOperationException" = "java/lang/IllegalArgumentException" ∨ "java/lang/UnsupportedOperationException" = "java/lang/UnsupportedOperationException") ∧ zLg τ fi fr q u.1 u.2.1 u.2.2.1))) (fun (u : zTy × zFi × zFr × Int64) (t : State) => zH D A u.1 u.2.1 u.2.2.1 u.2.2.2 t t.heap) A) (vx_X (fun u : Unit => True) (fun (E : String) (u : Unit) (t : State) => (False) ∧ zH D A τ fi fr ol t t.heap) A) 14 126 A := by
  refine vx_ofWH (cc := cL_letter) (maxL := 3) (ret := (some .int)) (hh := [(0, 8, 11, 13), (0, 8, 14, 15)]) (by decide) rfl ?_
  intro p9 e9 s m args below meth c9 s₁ B hml hv
  obtain ⟨rfl, ⟨hz, hH, hA⟩, hnp⟩ := hv
  have hx := B.exec
  have hb := B.bytes
  have hr := B.returns
  have hts := atoms_spec (ws := wsL_letter) B.pre
  have hown : s.vm.findClass RL = some m.cls := findClass_of_methodNamed B.named
  have hlocks := B.notSynchronized
  have htab := vx_table (x := yL_letter) B (hts (.codeWith yL_letter cL_letter 3 (some .int) [(0, 8, 11, 13), (0, 8, 14, 15)]) List.mem_cons_self)
  have hS : va_S A s.heap s.heap [] := va_S.rf
  have hl := lv_entry ([.ref (τ.1 0), .ref (τ.1 28)]) (n := 3) (Nat.le_of_ble_eq_true rfl)
  rw [lg_entry_eq]
  generalize (lg_sl ([.ref (τ.1 0), .ref (τ.1 28)]) ++ List.replicate (3 - (lg_sl ([.ref (τ.1 0), .ref (τ.1 28)])).length) Slot.unset).toArray = ls at hl ⊢
  have hl : lv_has ls 3 [(0, .ref (τ.1 0)), (1, .ref (τ.1 28))] := hl
  have hw0 := hts (.classLink RL 13 "java/lang/IllegalArgumentException") (by decide +kernel)
  have hw1 := hts (.classLink RL 15 "java/lang/UnsupportedOperationException") (by decide +kernel)
  refine lv_aload_n hx hb dL_letter_0 rfl (lv_at hl 1 rfl) ?_
  refine lv_iconst (v := nI 0) hx hb dL_letter_1 (by decide) ?_
  refine lv_aload_n hx hb dL_letter_2 rfl (lv_at hl 0 rfl) ?_
  refine vx_calli (vx_runV (As := []) (rest := [.int (nI 0), .ref (τ.1 28)]) ⟨hx, hb, hml, hown, hts⟩ (c_letter l hl0 D A sad τ fi fr ol L hF hn hn4 n hT o hO q hDo) (cwV 0 hts gL_letter_X11_letter rfl rfl rfl (by decide +kernel) ⟨Nat.le_of_ble_eq_true rfl, Nat.le_of_ble_eq_true rfl⟩) ⟨zQc_bl, zRecv hH (zk_0 hF) rfl, zQc_at hz hS hA hH⟩ rfl rfl hl.1 rfl (lv_room (Nat.le_of_ble_eq_true rfl)) dL_letter_3 ⟨Nat.le_of_ble_eq_true rfl, Nat.le_of_ble_eq_true rfl⟩) hS (fun q _ h => h) (fun q h => h) (fun q _ h => h) (fun E ce q9 u9 t9 H1 locs ht9 hvm9 hw hB hz1 hk1 hS hce hcv hcl => ?_) (fun r101 u9 t9 H1 locs ht9 hvm9 hw hB hz1 hk1 hS => ?_)
  · obtain ⟨hX, hB⟩ := hB
    obtain ⟨τ102, f103, g104⟩ := u9
    have hH := zMv ht9 hvm9 hB
    clear hB
    simp only at hX hH
    generalize H1 = H at hH hS hce ⊢
    have hEx : E = "java/lang/IllegalArgumentException" ∨ E = "java/lang/UnsupportedOperationException" := hX.1
    rcases hEx with rfl | rfl
    · skip
      have hF5 : zFix τ102 g104 := hX.2.1
      have ha5 : ∀ i, i < 100 → τ102.1 i = τ.1 i := fun i h => (hX.2.2.2.2.1 i (by omega)).1
      
      rw [show τ.1 0 = τ102.1 0 from (ha5 0 (by omega)).symm] at hl
      rw [show τ.1 28 = τ102.1 28 from (ha5 28 (by omega)).symm] at hl
      refine vx_catch hown [] { startPc := 0, endPc := 8, handlerPc := 11, catchType := 13 } _ (by rw [htab]; rfl) (fun z h9 => absurd h9 List.not_mem_nil) (by decide) (by decide) hw0 (va_Nw.use rfl (hz.1.2.2.2.2.2.2.2.1 _ (List.mem_of_getElem? (i := 1) rfl))) hce hcv hcl ?_
      refine W.widen (k := 14) (n := 126) (by decide) (by decide) ?_
      refine lv_astore_n (lv' := [(2, .ref q9), (0, .ref (τ102.1 0)), (1, .ref (τ102.1 28))]) hx hb dL_letter_11 rfl hl (by decide) rfl (fun ls hl => ?_)
      refine lv_iconst (v := nI 1) hx hb dL_letter_12 (by decide) ?_
      refine W.widen (k := 14) (n := 126) (by decide) (by decide) ?_
      refine vx_ret ?_
      exact W.iret (v := nI 1) hx hb hr (fun t9 ht9 hW9 => ⟨⟨nI 1, (τ102, f103, g104, ol), rfl, (show (∃ rv : Int32, (nI 1) = nI 0 ∧ ol = rv.toInt64 ∧ ((o < 60 ∧ rv = nI o ∧ zLo τ fi fr n o q τ102 f103 g104) ∨ (q < 512 ∧ zLd τ fi fr q τ102 f103 g104))) ∨ ((nI 1) = nI 1 ∧ ol = ol ∧ (("java/lang/IllegalArgumentException" = "java/lang/IllegalArgumentException" ∨ "java/lang/IllegalArgumentException" = "java/lang/UnsupportedOperationException") ∧ zLg τ fi fr q τ102 f103 g104)) ∨ ((nI 1) = nI 2 ∧ ol = ol ∧ (("java/lang/UnsupportedOperationException" = "java/lang/IllegalArgumentException" ∨ "java/lang/UnsupportedOperationException" = "java/lang/UnsupportedOperationException") ∧ zLg τ fi fr q τ102 f103 g104)) from Or.inr (Or.inl (⟨rfl, rfl, hX⟩))), zEnd1 hH ht9 hW9⟩, hS.F ht9⟩) hS.2.2 dL_letter_13
    · skip
      have hF5 : zFix τ102 g104 := hX.2.1
      have ha5 : ∀ i, i < 100 → τ102.1 i = τ.1 i := fun i h => (hX.2.2.2.2.1 i (by omega)).1
      
      rw [show τ.1 0 = τ102.1 0 from (ha5 0 (by omega)).symm] at hl
      rw [show τ.1 28 = τ102.1 28 from (ha5 28 (by omega)).symm] at hl
      refine vx_catch hown [{ startPc := 0, endPc := 8, handlerPc := 11, catchType := 13 }] { startPc := 0, endPc := 8, handlerPc := 14, catchType := 15 } _ (by rw [htab]; rfl) (List.forall_mem_cons.mpr ⟨Or.inr ⟨by decide, "java/lang/IllegalArgumentException", hw0, hnp _ (by decide) _ (by decide) (by decide)⟩, fun z h9 => absurd h9 List.not_mem_nil⟩) (by decide) (by decide) hw1 (va_Nw.use rfl (hz.1.2.2.2.2.2.2.2.1 _ (List.mem_of_getElem? (i := 2) rfl))) hce hcv hcl ?_
      refine W.widen (k := 14) (n := 126) (by decide) (by decide) ?_
      refine lv_astore_n (lv' := [(2, .ref q9), (0, .ref (τ102.1 0)), (1, .ref (τ102.1 28))]) hx hb dL_letter_14 rfl hl (by decide) rfl (fun ls hl => ?_)
      refine lv_iconst (v := nI 2) hx hb dL_letter_15 (by decide) ?_
      refine W.widen (k := 14) (n := 126) (by decide) (by decide) ?_
      refine vx_ret ?_
      exact W.iret (v := nI 2) hx hb hr (fun t9 ht9 hW9 => ⟨⟨nI 2, (τ102, f103, g104, ol), rfl, (show (∃ rv : Int32, (nI 2) = nI 0 ∧ ol = rv.toInt64 ∧ ((o < 60 ∧ rv = nI o ∧ zLo τ fi fr n o q τ102 f103 g104) ∨ (q < 512 ∧ zLd τ fi fr q τ102 f103 g104))) ∨ ((nI 2) = nI 1 ∧ ol = ol ∧ (("java/lang/IllegalArgumentException" = "java/lang/IllegalArgumentException" ∨ "java/lang/IllegalArgumentException" = "java/lang/UnsupportedOperationException") ∧ zLg τ fi fr q τ102 f103 g104)) ∨ ((nI 2) = nI 2 ∧ ol = ol ∧ (("java/lang/UnsupportedOperationException" = "java/lang/IllegalArgumentException" ∨ "java/lang/UnsupportedOperationException" = "java/lang/UnsupportedOperationException") ∧ zLg τ fi fr q τ102 f103 g104)) from Or.inr (Or.inr (⟨rfl, rfl, hX⟩))), zEnd1 hH ht9 hW9⟩, hS.F ht9⟩) hS.2.2 dL_letter_16
  · skip
    obtain ⟨τ105, f106, g107⟩ := u9
    have hH := zMv ht9 hvm9 hB
    clear hB
    simp only at hw hH
    generalize H1 = H at hH hS ⊢
    refine W.widen (k := 14) (n := 126) (by decide) (by decide) ?_
    have hcp := hw
    clear hw
    have hF5 : zFix τ105 g107 := by rcases hcp with h9 | h9; exact h9.2.2.2.1; exact h9.2.2.1
    have h45 := (by rcases hcp with h9 | h9; exact n4_Lo h4 h9.2.2; exact n4_Ld h4 h9.2 : ∀ i, 100 ≤ i → τ105.2.2.1 i ≠ 4)
    have hun := zFix.un hF5 h45
    have ha5 : ∀ i, i < 100 → τ105.1 i = τ.1 i := fun i h => by rcases hcp with h9 | h9; exact (h9.2.2.2.2.2.2.1 i (by omega)).1; exact (h9.2.2.2.2.1 i (by omega)).1
    rw [show τ.1 0 = τ105.1 0 from (ha5 0 (by omega)).symm] at hl
    rw [show τ.1 28 = τ105.1 28 from (ha5 28 (by omega)).symm] at hl
    refine W.eq (g2 := F0 m 6 ls [.int r101, .int (nI 0), .ref (τ105.1 28)]) (by rw [ha5 28 (by omega)]) ?_
    refine lv_i2l hx hb dL_letter_6 rfl ?_
    refine lv_topl (fun v108 ev108 => ?_)
    refine zLast (D := D) hx hb hH hS (zk_28 hF5) (hun) (zn_28 hF5) dL_letter_7 (fun H locs hH hS => ?_)
    refine lv_goto (tgt := 17) hx hb dL_letter_8 (by decide) ?_
    refine lv_iconst (v := nI 0) hx hb dL_letter_17 (by decide) ?_
    refine W.widen (k := 14) (n := 126) (by decide) (by decide) ?_
    refine vx_ret ?_
    exact W.iret (v := nI 0) hx hb hr (fun t9 ht9 hW9 => ⟨⟨nI 0, (τ105, f106, g107, v108), rfl, (show (∃ rv : Int32, (nI 0) = nI 0 ∧ v108 = rv.toInt64 ∧ ((o < 60 ∧ rv = nI o ∧ zLo τ fi fr n o q τ105 f106 g107) ∨ (q < 512 ∧ zLd τ fi fr q τ105 f106 g107))) ∨ ((nI 0) = nI 1 ∧ v108 = ol ∧ (("java/lang/IllegalArgumentException" = "java/lang/IllegalArgumentException" ∨ "java/lang/IllegalArgumentException" = "java/lang/UnsupportedOperationException") ∧ zLg τ fi fr q τ105 f106 g107)) ∨ ((nI 0) = nI 2 ∧ v108 = ol ∧ (("java/lang/UnsupportedOperationException" = "java/lang/IllegalArgumentException" ∨ "java/lang/UnsupportedOperationException" = "java/lang/UnsupportedOperationException") ∧ zLg τ fi fr q τ105 f106 g107)) from Or.inl (⟨r101, rfl, ev108, hcp⟩)), zEnd1 hH ht9 hW9⟩, hS.F ht9⟩) hS.2.2 dL_letter_18
set_option maxHeartbeats 4000000 in
set_option maxRecDepth 100000 in
/-- the law's doubt -/
theorem h_doubt (l : Launch) (hl0 : l.stackTraces = false) (D : va_G) (A : Nat → Prop) (sad : Nat → Nat) (τ : zTy) (fi : zFi) (fr : zFr) (ol : Int64) (x y : Int32) (hF : zFix τ fr) (d : Nat) (hDo : zDo τ fi fr d) (h4 : ∀ i, 100 ≤ i → τ.2.2.1 i ≠ 4) : vx_Met l yL_doubt wsL_doubt ({ frames := 8, cells := 2, slots := 12, locals := 126 }) (va_Pc [.ref (τ.1 0), .int x, .int y, .ref (τ.1 28)] (zQn D A sad τ fi fr ol)) (va_Qi (fun (r : Int32) (u : Int64) => (∃ rv : Int32, r = nI 0 ∧ u = rv.toInt64 ∧ (∃ q, q < d ∧ x = nI q ∧ ((y = nI 0 ∧ ((rv = 1 ∧ ¬ fi (3000 + q) 9 = 0) ∨ (rv = 0 ∧ fi (3000 + q) 9 = 0))) ∨ (1 ≤ y.toInt ∧ y.toInt ≤ 5 ∧ rv = fi (3000 + q) (zDof y))))) ∨ (r = nI 1 ∧ u = ol ∧ (("java/lang/IndexOutOfBoundsException" = "java/lang/IndexOutOfBoundsException" ∧ ¬ (0 ≤ x.toInt ∧ x.toInt < (d : Int))) ∨ ("java/lang/IndexOutOfBoundsException" = "java/util/NoSuchElementException" ∧ (∃ q, q < d ∧ x = nI q) ∧ ¬ (0 ≤ y.toInt ∧ y.toInt ≤ 5)))) ∨ (r = nI 2 ∧ u = ol ∧ (("java/util/NoSuchElementException" = "java/lang/IndexOutOfBoundsException" ∧ ¬ (0 ≤ x.toInt ∧ x.toInt < (d : Int))) ∨ ("java/util/NoSuchElementException" = "java/util/NoSuchElementException" ∧ (∃ q, q < d ∧ x = nI q) ∧ ¬ (0 ≤ y.toInt ∧ y.toInt ≤ 5))))) (fun (u : Int64) (t : State) => zH D A τ fi fr u t t.heap) A) (vx_X (fun u : Unit => True) (fun (E : String) (u : Unit) (t : State) => (False) ∧ zH D A τ fi fr ol t t.heap) A) 2 12 A := by
  refine vx_ofWH (cc := cL_doubt) (maxL := 5) (ret := (some .int)) (hh := [(0, 10, 13, 20), (0, 10, 17, 41)]) (by decide) rfl ?_
  intro p9 e9 s m args below meth c9 s₁ B hml hv
  obtain ⟨rfl, ⟨hz, hH, hA⟩, hnp⟩ := hv
  have hx := B.exec
  have hb := B.bytes
  have hr := B.returns
  have hts := atoms_spec (ws := wsL_doubt) B.pre
  have hown : s.vm.findClass RL = some m.cls := findClass_of_methodNamed B.named
  have hlocks := B.notSynchronized
  have htab := vx_table (x := yL_doubt) B (hts (.codeWith yL_doubt cL_doubt 5 (some .int) [(0, 10, 13, 20), (0, 10, 17, 41)]) List.mem_cons_self)
  have hS : va_S A s.heap s.heap [] := va_S.rf
  have hl := lv_entry ([.ref (τ.1 0), .int x, .int y, .ref (τ.1 28)]) (n := 5) (Nat.le_of_ble_eq_true rfl)
  rw [lg_entry_eq]
  generalize (lg_sl ([.ref (τ.1 0), .int x, .int y, .ref (τ.1 28)]) ++ List.replicate (5 - (lg_sl ([.ref (τ.1 0), .int x, .int y, .ref (τ.1 28)])).length) Slot.unset).toArray = ls at hl ⊢
  have hl : lv_has ls 5 [(0, .ref (τ.1 0)), (1, .int x), (2, .int y), (3, .ref (τ.1 28))] := hl
  have hw0 := hts (.classLink RL 20 "java/lang/IndexOutOfBoundsException") (by decide +kernel)
  have hw1 := hts (.classLink RL 41 "java/util/NoSuchElementException") (by decide +kernel)
  refine lv_aload_n hx hb dL_doubt_0 rfl (lv_at hl 3 rfl) ?_
  refine lv_iconst (v := nI 0) hx hb dL_doubt_1 (by decide) ?_
  refine lv_aload_n hx hb dL_doubt_2 rfl (lv_at hl 0 rfl) ?_
  refine lv_iload_n hx hb dL_doubt_3 rfl (lv_at hl 1 rfl) ?_
  refine lv_iload_n hx hb dL_doubt_4 rfl (lv_at hl 2 rfl) ?_
  refine vx_calli (vx_runV (As := [.int x, .int y]) (rest := [.int (nI 0), .ref (τ.1 28)]) ⟨hx, hb, hml, hown, hts⟩ (c_doubt l hl0 D A sad τ fi fr ol x y hF d hDo) (cwV 2 hts gL_doubt_X11_doubt rfl rfl rfl (by decide +kernel) ⟨Nat.le_of_ble_eq_true rfl, Nat.le_of_ble_eq_true rfl⟩) ⟨zQc_bl, zRecv hH (zk_0 hF) rfl, zQc_at hz hS hA hH⟩ rfl rfl hl.1 rfl (lv_room (Nat.le_of_ble_eq_true rfl)) dL_doubt_5 ⟨Nat.le_of_ble_eq_true rfl, Nat.le_of_ble_eq_true rfl⟩) hS (fun q _ h => h) (fun q h => h) (fun q _ h => h) (fun E ce q9 u9 t9 H1 locs ht9 hvm9 hw hB hz1 hk1 hS hce hcv hcl => ?_) (fun r101 u9 t9 H1 locs ht9 hvm9 hw hB hz1 hk1 hS => ?_)
  · obtain ⟨hX, hB⟩ := hB
    have hH := zMv ht9 hvm9 hB
    generalize H1 = H at hH hS hce ⊢
    have hEx : E = "java/lang/IndexOutOfBoundsException" ∨ E = "java/util/NoSuchElementException" := by rcases hX with h9 | h9; (exact Or.inl h9.1); exact Or.inr h9.1
    rcases hEx with rfl | rfl
    · skip
      refine vx_catch hown [] { startPc := 0, endPc := 10, handlerPc := 13, catchType := 20 } _ (by rw [htab]; rfl) (fun z h9 => absurd h9 List.not_mem_nil) (by decide) (by decide) hw0 (va_Nw.use rfl (hz.1.2.2.2.2.2.2.2.1 _ (List.mem_of_getElem? (i := 0) rfl))) hce hcv hcl ?_
      refine W.widen (k := 2) (n := 12) (by decide) (by decide) ?_
      refine lv_astore (lv' := [(4, .ref q9), (0, .ref (τ.1 0)), (1, .int x), (2, .int y), (3, .ref (τ.1 28))]) hx hb dL_doubt_13 hl (by decide) rfl (fun ls hl => ?_)
      refine lv_iconst (v := nI 1) hx hb dL_doubt_15 (by decide) ?_
      refine W.widen (k := 2) (n := 12) (by decide) (by decide) ?_
      refine vx_ret ?_
      exact W.iret (v := nI 1) hx hb hr (fun t9 ht9 hW9 => ⟨⟨nI 1, ol, rfl, Or.inr (Or.inl (⟨rfl, rfl, hX⟩)), zEnd1 hH ht9 hW9⟩, hS.F ht9⟩) hS.2.2 dL_doubt_16
    · skip
      refine vx_catch hown [{ startPc := 0, endPc := 10, handlerPc := 13, catchType := 20 }] { startPc := 0, endPc := 10, handlerPc := 17, catchType := 41 } _ (by rw [htab]; rfl) (List.forall_mem_cons.mpr ⟨Or.inr ⟨by decide, "java/lang/IndexOutOfBoundsException", hw0, hnp _ (by decide) _ (by decide) (by decide)⟩, fun z h9 => absurd h9 List.not_mem_nil⟩) (by decide) (by decide) hw1 (va_Nw.use rfl (hz.1.2.2.2.2.2.2.2.1 _ (List.mem_of_getElem? (i := 3) rfl))) hce hcv hcl ?_
      refine W.widen (k := 2) (n := 12) (by decide) (by decide) ?_
      refine lv_astore (lv' := [(4, .ref q9), (0, .ref (τ.1 0)), (1, .int x), (2, .int y), (3, .ref (τ.1 28))]) hx hb dL_doubt_17 hl (by decide) rfl (fun ls hl => ?_)
      refine lv_iconst (v := nI 2) hx hb dL_doubt_19 (by decide) ?_
      refine W.widen (k := 2) (n := 12) (by decide) (by decide) ?_
      refine vx_ret ?_
      exact W.iret (v := nI 2) hx hb hr (fun t9 ht9 hW9 => ⟨⟨nI 2, ol, rfl, Or.inr (Or.inr (⟨rfl, rfl, hX⟩)), zEnd1 hH ht9 hW9⟩, hS.F ht9⟩) hS.2.2 dL_doubt_20
  · skip
    have hH := zMv ht9 hvm9 hB
    generalize H1 = H at hH hS ⊢
    refine W.widen (k := 2) (n := 12) (by decide) (by decide) ?_
    have hcp := hw
    clear hw
    have hun := zFix.un hF h4
    refine lv_i2l hx hb dL_doubt_8 rfl ?_
    refine lv_topl (fun v102 ev102 => ?_)
    refine zLast (D := D) hx hb hH hS (zk_28 hF) (hun) (zn_28 hF) dL_doubt_9 (fun H locs hH hS => ?_)
    refine lv_goto (tgt := 21) hx hb dL_doubt_10 (by decide) ?_
    refine lv_iconst (v := nI 0) hx hb dL_doubt_21 (by decide) ?_
    refine W.widen (k := 2) (n := 12) (by decide) (by decide) ?_
    refine vx_ret ?_
    exact W.iret (v := nI 0) hx hb hr (fun t9 ht9 hW9 => ⟨⟨nI 0, v102, rfl, Or.inl (⟨r101, rfl, ev102, hcp⟩), zEnd1 hH ht9 hW9⟩, hS.F ht9⟩) hS.2.2 dL_doubt_22
set_option maxHeartbeats 4000000 in
set_option maxRecDepth 100000 in
/-- the law's settle -/
theorem h_settle (l : Launch) (hl0 : l.stackTraces = false) (D : va_G) (A : Nat → Prop) (sad : Nat → Nat) (τ : zTy) (fi : zFi) (fr : zFr) (ol : Int64) (x y : Int32) (hF : zFix τ fr) (n : Nat) (hT : zTh τ fi fr n) (o : Nat) (hO : zOr τ fi fr n o) (d : Nat) (hDo : zDo τ fi fr d) (h4 : ∀ i, 100 ≤ i → τ.2.2.1 i ≠ 4) : vx_Met l yL_settle wsL_settle ({ frames := 8, cells := 12, slots := 106, locals := 138 }) (va_Pc [.ref (τ.1 0), .int x, .int y, .ref (τ.1 28)] (zQn D A sad τ fi fr ol)) (va_Qi (fun (r : Int32) (u : zTy × zFi × zFr × Int64) => (∃ rv : Int32, r = nI 0 ∧ u.2.2.2 = rv.toInt64 ∧ ((u.1 = τ ∧ u.2.2.1 = fr ∧ ((∃ b, b < d ∧ x = nI b ∧ u.2.1 = zu fi (3000 + b) 9 (nI 0)) ∨ u.2.1 = fi)) ∨ (∃ b, b < d ∧ x = nI b ∧ rv = nI o ∧ zNO τ (zu fi (3000 + b) 9 (nI 0)) fr n o u.1 u.2.1 u.2.2.1))) ∨ (r = nI 1 ∧ u.1 = τ ∧ u.2.1 = fi ∧ u.2.2.1 = fr ∧ u.2.2.2 = ol ∧ ("java/lang/IndexOutOfBoundsException" = "java/lang/IndexOutOfBoundsException" ∨ "java/lang/IndexOutOfBoundsException" = "java/lang/IllegalStateException" ∨ "java/lang/IndexOutOfBoundsException" = "java/lang/UnsupportedOperationException")) ∨ (r = nI 2 ∧ u.1 = τ ∧ u.2.1 = fi ∧ u.2.2.1 = fr ∧ u.2.2.2 = ol ∧ ("java/lang/IllegalStateException" = "java/lang/IndexOutOfBoundsException" ∨ "java/lang/IllegalStateException" = "java/lang/IllegalStateException" ∨ "java/lang/IllegalStateException" = "java/lang/UnsupportedOperationException")) ∨ (r = nI 3 ∧ u.1 = τ ∧ u.2.1 = fi ∧ u.2.2.1 = fr ∧ u.2.2.2 = ol ∧ ("java/lang/UnsupportedOperationException" = "java/lang/IndexOutOfBoundsException" ∨ "java/lang/UnsupportedOperationException" = "java/lang/IllegalStateException" ∨ "java/lang/UnsupportedOperationException" = "java/lang/UnsupportedOperationException"))) (fun (u : zTy × zFi × zFr × Int64) (t : State) => zH D A u.1 u.2.1 u.2.2.1 u.2.2.2 t t.heap) A) (vx_X (fun u : Unit => True) (fun (E : String) (u : Unit) (t : State) => (False) ∧ zH D A τ fi fr ol t t.heap) A) 12 106 A := by
  refine vx_ofWH (cc := cL_settle) (maxL := 5) (ret := (some .int)) (hh := [(0, 10, 13, 20), (0, 10, 17, 56), (0, 10, 21, 15)]) (by decide) rfl ?_
  intro p9 e9 s m args below meth c9 s₁ B hml hv
  obtain ⟨rfl, ⟨hz, hH, hA⟩, hnp⟩ := hv
  have hx := B.exec
  have hb := B.bytes
  have hr := B.returns
  have hts := atoms_spec (ws := wsL_settle) B.pre
  have hown : s.vm.findClass RL = some m.cls := findClass_of_methodNamed B.named
  have hlocks := B.notSynchronized
  have htab := vx_table (x := yL_settle) B (hts (.codeWith yL_settle cL_settle 5 (some .int) [(0, 10, 13, 20), (0, 10, 17, 56), (0, 10, 21, 15)]) List.mem_cons_self)
  have hS : va_S A s.heap s.heap [] := va_S.rf
  have hl := lv_entry ([.ref (τ.1 0), .int x, .int y, .ref (τ.1 28)]) (n := 5) (Nat.le_of_ble_eq_true rfl)
  rw [lg_entry_eq]
  generalize (lg_sl ([.ref (τ.1 0), .int x, .int y, .ref (τ.1 28)]) ++ List.replicate (5 - (lg_sl ([.ref (τ.1 0), .int x, .int y, .ref (τ.1 28)])).length) Slot.unset).toArray = ls at hl ⊢
  have hl : lv_has ls 5 [(0, .ref (τ.1 0)), (1, .int x), (2, .int y), (3, .ref (τ.1 28))] := hl
  have hw0 := hts (.classLink RL 20 "java/lang/IndexOutOfBoundsException") (by decide +kernel)
  have hw1 := hts (.classLink RL 56 "java/lang/IllegalStateException") (by decide +kernel)
  have hw2 := hts (.classLink RL 15 "java/lang/UnsupportedOperationException") (by decide +kernel)
  refine lv_aload_n hx hb dL_settle_0 rfl (lv_at hl 3 rfl) ?_
  refine lv_iconst (v := nI 0) hx hb dL_settle_1 (by decide) ?_
  refine lv_aload_n hx hb dL_settle_2 rfl (lv_at hl 0 rfl) ?_
  refine lv_iload_n hx hb dL_settle_3 rfl (lv_at hl 1 rfl) ?_
  refine lv_iload_n hx hb dL_settle_4 rfl (lv_at hl 2 rfl) ?_
  refine vx_calli (vx_runV (As := [.int x, .int y]) (rest := [.int (nI 0), .ref (τ.1 28)]) ⟨hx, hb, hml, hown, hts⟩ (c_settle l hl0 D A sad τ fi fr ol x y hF n hT o hO d hDo) (cwV 2 hts gL_settle_X11_settle rfl rfl rfl (by decide +kernel) ⟨Nat.le_of_ble_eq_true rfl, Nat.le_of_ble_eq_true rfl⟩) ⟨zQc_bl, zRecv hH (zk_0 hF) rfl, zQc_at hz hS hA hH⟩ rfl rfl hl.1 rfl (lv_room (Nat.le_of_ble_eq_true rfl)) dL_settle_5 ⟨Nat.le_of_ble_eq_true rfl, Nat.le_of_ble_eq_true rfl⟩) hS (fun q _ h => h) (fun q h => h) (fun q _ h => h) (fun E ce q9 u9 t9 H1 locs ht9 hvm9 hw hB hz1 hk1 hS hce hcv hcl => ?_) (fun r101 u9 t9 H1 locs ht9 hvm9 hw hB hz1 hk1 hS => ?_)
  · obtain ⟨hX, hB⟩ := hB
    have hH := zMv ht9 hvm9 hB
    generalize H1 = H at hH hS hce ⊢
    have hEx : E = "java/lang/IndexOutOfBoundsException" ∨ E = "java/lang/IllegalStateException" ∨ E = "java/lang/UnsupportedOperationException" := hX
    rcases hEx with rfl | rfl | rfl
    · skip
      refine vx_catch hown [] { startPc := 0, endPc := 10, handlerPc := 13, catchType := 20 } _ (by rw [htab]; rfl) (fun z h9 => absurd h9 List.not_mem_nil) (by decide) (by decide) hw0 (va_Nw.use rfl (hz.1.2.2.2.2.2.2.2.1 _ (List.mem_of_getElem? (i := 0) rfl))) hce hcv hcl ?_
      refine W.widen (k := 12) (n := 106) (by decide) (by decide) ?_
      refine lv_astore (lv' := [(4, .ref q9), (0, .ref (τ.1 0)), (1, .int x), (2, .int y), (3, .ref (τ.1 28))]) hx hb dL_settle_13 hl (by decide) rfl (fun ls hl => ?_)
      refine lv_iconst (v := nI 1) hx hb dL_settle_15 (by decide) ?_
      refine W.widen (k := 12) (n := 106) (by decide) (by decide) ?_
      refine vx_ret ?_
      exact W.iret (v := nI 1) hx hb hr (fun t9 ht9 hW9 => ⟨⟨nI 1, (τ, fi, fr, ol), rfl, (show (∃ rv : Int32, (nI 1) = nI 0 ∧ ol = rv.toInt64 ∧ ((τ = τ ∧ fr = fr ∧ ((∃ b, b < d ∧ x = nI b ∧ fi = zu fi (3000 + b) 9 (nI 0)) ∨ fi = fi)) ∨ (∃ b, b < d ∧ x = nI b ∧ rv = nI o ∧ zNO τ (zu fi (3000 + b) 9 (nI 0)) fr n o τ fi fr))) ∨ ((nI 1) = nI 1 ∧ τ = τ ∧ fi = fi ∧ fr = fr ∧ ol = ol ∧ ("java/lang/IndexOutOfBoundsException" = "java/lang/IndexOutOfBoundsException" ∨ "java/lang/IndexOutOfBoundsException" = "java/lang/IllegalStateException" ∨ "java/lang/IndexOutOfBoundsException" = "java/lang/UnsupportedOperationException")) ∨ ((nI 1) = nI 2 ∧ τ = τ ∧ fi = fi ∧ fr = fr ∧ ol = ol ∧ ("java/lang/IllegalStateException" = "java/lang/IndexOutOfBoundsException" ∨ "java/lang/IllegalStateException" = "java/lang/IllegalStateException" ∨ "java/lang/IllegalStateException" = "java/lang/UnsupportedOperationException")) ∨ ((nI 1) = nI 3 ∧ τ = τ ∧ fi = fi ∧ fr = fr ∧ ol = ol ∧ ("java/lang/UnsupportedOperationException" = "java/lang/IndexOutOfBoundsException" ∨ "java/lang/UnsupportedOperationException" = "java/lang/IllegalStateException" ∨ "java/lang/UnsupportedOperationException" = "java/lang/UnsupportedOperationException")) from Or.inr (Or.inl (⟨rfl, rfl, rfl, rfl, rfl, hX⟩))), zEnd1 hH ht9 hW9⟩, hS.F ht9⟩) hS.2.2 dL_settle_16
    · skip
      refine vx_catch hown [{ startPc := 0, endPc := 10, handlerPc := 13, catchType := 20 }] { startPc := 0, endPc := 10, handlerPc := 17, catchType := 56 } _ (by rw [htab]; rfl) (List.forall_mem_cons.mpr ⟨Or.inr ⟨by decide, "java/lang/IndexOutOfBoundsException", hw0, hnp _ (by decide) _ (by decide) (by decide)⟩, fun z h9 => absurd h9 List.not_mem_nil⟩) (by decide) (by decide) hw1 (va_Nw.use rfl (hz.1.2.2.2.2.2.2.2.1 _ (List.mem_of_getElem? (i := 4) rfl))) hce hcv hcl ?_
      refine W.widen (k := 12) (n := 106) (by decide) (by decide) ?_
      refine lv_astore (lv' := [(4, .ref q9), (0, .ref (τ.1 0)), (1, .int x), (2, .int y), (3, .ref (τ.1 28))]) hx hb dL_settle_17 hl (by decide) rfl (fun ls hl => ?_)
      refine lv_iconst (v := nI 2) hx hb dL_settle_19 (by decide) ?_
      refine W.widen (k := 12) (n := 106) (by decide) (by decide) ?_
      refine vx_ret ?_
      exact W.iret (v := nI 2) hx hb hr (fun t9 ht9 hW9 => ⟨⟨nI 2, (τ, fi, fr, ol), rfl, (show (∃ rv : Int32, (nI 2) = nI 0 ∧ ol = rv.toInt64 ∧ ((τ = τ ∧ fr = fr ∧ ((∃ b, b < d ∧ x = nI b ∧ fi = zu fi (3000 + b) 9 (nI 0)) ∨ fi = fi)) ∨ (∃ b, b < d ∧ x = nI b ∧ rv = nI o ∧ zNO τ (zu fi (3000 + b) 9 (nI 0)) fr n o τ fi fr))) ∨ ((nI 2) = nI 1 ∧ τ = τ ∧ fi = fi ∧ fr = fr ∧ ol = ol ∧ ("java/lang/IndexOutOfBoundsException" = "java/lang/IndexOutOfBoundsException" ∨ "java/lang/IndexOutOfBoundsException" = "java/lang/IllegalStateException" ∨ "java/lang/IndexOutOfBoundsException" = "java/lang/UnsupportedOperationException")) ∨ ((nI 2) = nI 2 ∧ τ = τ ∧ fi = fi ∧ fr = fr ∧ ol = ol ∧ ("java/lang/IllegalStateException" = "java/lang/IndexOutOfBoundsException" ∨ "java/lang/IllegalStateException" = "java/lang/IllegalStateException" ∨ "java/lang/IllegalStateException" = "java/lang/UnsupportedOperationException")) ∨ ((nI 2) = nI 3 ∧ τ = τ ∧ fi = fi ∧ fr = fr ∧ ol = ol ∧ ("java/lang/UnsupportedOperationException" = "java/lang/IndexOutOfBoundsException" ∨ "java/lang/UnsupportedOperationException" = "java/lang/IllegalStateException" ∨ "java/lang/UnsupportedOperationException" = "java/lang/UnsupportedOperationException")) from Or.inr (Or.inr (Or.inl (⟨rfl, rfl, rfl, rfl, rfl, hX⟩)))), zEnd1 hH ht9 hW9⟩, hS.F ht9⟩) hS.2.2 dL_settle_20
    · skip
      refine vx_catch hown [{ startPc := 0, endPc := 10, handlerPc := 13, catchType := 20 }, { startPc := 0, endPc := 10, handlerPc := 17, catchType := 56 }] { startPc := 0, endPc := 10, handlerPc := 21, catchType := 15 } _ (by rw [htab]; rfl) (List.forall_mem_cons.mpr ⟨Or.inr ⟨by decide, "java/lang/IndexOutOfBoundsException", hw0, hnp _ (by decide) _ (by decide) (by decide)⟩, List.forall_mem_cons.mpr ⟨Or.inr ⟨by decide, "java/lang/IllegalStateException", hw1, hnp _ (by decide) _ (by decide) (by decide)⟩, fun z h9 => absurd h9 List.not_mem_nil⟩⟩) (by decide) (by decide) hw2 (va_Nw.use rfl (hz.1.2.2.2.2.2.2.2.1 _ (List.mem_of_getElem? (i := 2) rfl))) hce hcv hcl ?_
      refine W.widen (k := 12) (n := 106) (by decide) (by decide) ?_
      refine lv_astore (lv' := [(4, .ref q9), (0, .ref (τ.1 0)), (1, .int x), (2, .int y), (3, .ref (τ.1 28))]) hx hb dL_settle_21 hl (by decide) rfl (fun ls hl => ?_)
      refine lv_iconst (v := nI 3) hx hb dL_settle_23 (by decide) ?_
      refine W.widen (k := 12) (n := 106) (by decide) (by decide) ?_
      refine vx_ret ?_
      exact W.iret (v := nI 3) hx hb hr (fun t9 ht9 hW9 => ⟨⟨nI 3, (τ, fi, fr, ol), rfl, (show (∃ rv : Int32, (nI 3) = nI 0 ∧ ol = rv.toInt64 ∧ ((τ = τ ∧ fr = fr ∧ ((∃ b, b < d ∧ x = nI b ∧ fi = zu fi (3000 + b) 9 (nI 0)) ∨ fi = fi)) ∨ (∃ b, b < d ∧ x = nI b ∧ rv = nI o ∧ zNO τ (zu fi (3000 + b) 9 (nI 0)) fr n o τ fi fr))) ∨ ((nI 3) = nI 1 ∧ τ = τ ∧ fi = fi ∧ fr = fr ∧ ol = ol ∧ ("java/lang/IndexOutOfBoundsException" = "java/lang/IndexOutOfBoundsException" ∨ "java/lang/IndexOutOfBoundsException" = "java/lang/IllegalStateException" ∨ "java/lang/IndexOutOfBoundsException" = "java/lang/UnsupportedOperationException")) ∨ ((nI 3) = nI 2 ∧ τ = τ ∧ fi = fi ∧ fr = fr ∧ ol = ol ∧ ("java/lang/IllegalStateException" = "java/lang/IndexOutOfBoundsException" ∨ "java/lang/IllegalStateException" = "java/lang/IllegalStateException" ∨ "java/lang/IllegalStateException" = "java/lang/UnsupportedOperationException")) ∨ ((nI 3) = nI 3 ∧ τ = τ ∧ fi = fi ∧ fr = fr ∧ ol = ol ∧ ("java/lang/UnsupportedOperationException" = "java/lang/IndexOutOfBoundsException" ∨ "java/lang/UnsupportedOperationException" = "java/lang/IllegalStateException" ∨ "java/lang/UnsupportedOperationException" = "java/lang/UnsupportedOperationException")) from Or.inr (Or.inr (Or.inr (⟨rfl, rfl, rfl, rfl, rfl, hX⟩)))), zEnd1 hH ht9 hW9⟩, hS.F ht9⟩) hS.2.2 dL_settle_24
  · skip
    obtain ⟨τ102, f103, g104⟩ := u9
    have hH := zMv ht9 hvm9 hB
    clear hB
    simp only at hw hH
    generalize H1 = H at hH hS ⊢
    refine W.widen (k := 12) (n := 106) (by decide) (by decide) ?_
    have hcp := hw
    clear hw
    have hF5 : zFix τ102 g104 := by rcases hcp with ⟨h91, h92, -⟩ | ⟨b9, -, -, -, h9⟩; (rw [h91, h92]; exact hF); exact h9.2.1
    have h45 := (by rcases hcp with ⟨h91, -, -⟩ | ⟨b9, -, -, -, h9⟩; (rw [h91]; exact h4); exact n4_NO h4 h9 : ∀ i, 100 ≤ i → τ102.2.2.1 i ≠ 4)
    have hun := zFix.un hF5 h45
    have ha5 : ∀ i, i < 100 → τ102.1 i = τ.1 i := fun i h => by rcases hcp with ⟨h91, -, -⟩ | ⟨b9, -, -, -, h9⟩; (rw [h91]); exact (h9.2.2.1 i (by omega)).1
    rw [show τ.1 0 = τ102.1 0 from (ha5 0 (by omega)).symm] at hl
    rw [show τ.1 28 = τ102.1 28 from (ha5 28 (by omega)).symm] at hl
    refine W.eq (g2 := F0 m 8 ls [.int r101, .int (nI 0), .ref (τ102.1 28)]) (by rw [ha5 28 (by omega)]) ?_
    refine lv_i2l hx hb dL_settle_8 rfl ?_
    refine lv_topl (fun v105 ev105 => ?_)
    refine zLast (D := D) hx hb hH hS (zk_28 hF5) (hun) (zn_28 hF5) dL_settle_9 (fun H locs hH hS => ?_)
    refine lv_goto (tgt := 25) hx hb dL_settle_10 (by decide) ?_
    refine lv_iconst (v := nI 0) hx hb dL_settle_25 (by decide) ?_
    refine W.widen (k := 12) (n := 106) (by decide) (by decide) ?_
    refine vx_ret ?_
    exact W.iret (v := nI 0) hx hb hr (fun t9 ht9 hW9 => ⟨⟨nI 0, (τ102, f103, g104, v105), rfl, (show (∃ rv : Int32, (nI 0) = nI 0 ∧ v105 = rv.toInt64 ∧ ((τ102 = τ ∧ g104 = fr ∧ ((∃ b, b < d ∧ x = nI b ∧ f103 = zu fi (3000 + b) 9 (nI 0)) ∨ f103 = fi)) ∨ (∃ b, b < d ∧ x = nI b ∧ rv = nI o ∧ zNO τ (zu fi (3000 + b) 9 (nI 0)) fr n o τ102 f103 g104))) ∨ ((nI 0) = nI 1 ∧ τ102 = τ ∧ f103 = fi ∧ g104 = fr ∧ v105 = ol ∧ ("java/lang/IndexOutOfBoundsException" = "java/lang/IndexOutOfBoundsException" ∨ "java/lang/IndexOutOfBoundsException" = "java/lang/IllegalStateException" ∨ "java/lang/IndexOutOfBoundsException" = "java/lang/UnsupportedOperationException")) ∨ ((nI 0) = nI 2 ∧ τ102 = τ ∧ f103 = fi ∧ g104 = fr ∧ v105 = ol ∧ ("java/lang/IllegalStateException" = "java/lang/IndexOutOfBoundsException" ∨ "java/lang/IllegalStateException" = "java/lang/IllegalStateException" ∨ "java/lang/IllegalStateException" = "java/lang/UnsupportedOperationException")) ∨ ((nI 0) = nI 3 ∧ τ102 = τ ∧ f103 = fi ∧ g104 = fr ∧ v105 = ol ∧ ("java/lang/UnsupportedOperationException" = "java/lang/IndexOutOfBoundsException" ∨ "java/lang/UnsupportedOperationException" = "java/lang/IllegalStateException" ∨ "java/lang/UnsupportedOperationException" = "java/lang/UnsupportedOperationException")) from Or.inl (⟨r101, rfl, ev105, hcp⟩)), zEnd1 hH ht9 hW9⟩, hS.F ht9⟩) hS.2.2 dL_settle_26
set_option maxHeartbeats 4000000 in
set_option maxRecDepth 100000 in
/-- the law's days -/
theorem h_days (l : Launch) (hl0 : l.stackTraces = false) (D : va_G) (A : Nat → Prop) (sad : Nat → Nat) (τ : zTy) (fi : zFi) (fr : zFr) (ol : Int64) (x : Int32) (td : Nat) (htd : fi 0 15 = nI td) (htd9 : td ≤ 999) (hF : zFix τ fr) (n : Nat) (hT : zTh τ fi fr n) (c : Nat) (hC : zCm fi fr n c) (o : Nat) (hO : zOr τ fi fr n o) (sn : Nat) (hSn : zSn τ fi fr sn) (hkx : ∃ k, k ≤ 16 ∧ fi 18 3 = nI k) (h4 : ∀ i, 100 ≤ i → τ.2.2.1 i ≠ 4) : vx_Met l yL_days wsL_days ({ frames := 7, cells := 360, slots := 1440, locals := 159 }) (va_Pc [.ref (τ.1 0), .int x, .ref (τ.1 28)] (zQn D A sad τ fi fr ol)) (va_Qi (fun (r : Int32) (u : zTy × zFi × zFr × Int64) => (∃ rv : Int32, r = nI 0 ∧ u.2.2.2 = rv.toInt64 ∧ (∃ b, b ≤ 100 ∧ x = nI b ∧ (∃ c2, zCm u.2.1 u.2.2.1 n c2) ∧ zDy n τ fi fr u.1 u.2.1 u.2.2.1 ∧ zFix u.1 u.2.2.1 ∧ (∃ k, k ≤ 16 ∧ u.2.1 18 3 = nI k) ∧ (∃ s2, zSn u.1 u.2.1 u.2.2.1 s2) ∧ rv = nI (min (td + b) 999) ∧ u.2.1 0 15 = nI (min (td + b) 999) ∧ ∃ i8, min (td + i8) 999 = min (td + b) 999 ∧ ∀ Ld : List Int32, Ld.length = c → zLs fi 7 Ld → zLs u.2.1 7 (zIt Ld td i8) ∧ u.2.1 5 3 = nI (zIt Ld td i8).length)) ∨ (r = nI 1 ∧ u.1 = τ ∧ u.2.1 = fi ∧ u.2.2.1 = fr ∧ u.2.2.2 = ol ∧ ("java/lang/IllegalArgumentException" = "java/lang/IllegalArgumentException" ∧ ¬ (0 ≤ x.toInt ∧ x.toInt ≤ 100)))) (fun (u : zTy × zFi × zFr × Int64) (t : State) => zH D A u.1 u.2.1 u.2.2.1 u.2.2.2 t t.heap) A) (vx_X (fun u : Unit => True) (fun (E : String) (u : Unit) (t : State) => (False) ∧ zH D A τ fi fr ol t t.heap) A) 360 1440 A := by
  refine vx_ofWH (cc := cL_days) (maxL := 4) (ret := (some .int)) (hh := [(0, 9, 12, 13)]) (by decide) rfl ?_
  intro p9 e9 s m args below meth c9 s₁ B hml hv
  obtain ⟨rfl, ⟨hz, hH, hA⟩, hnp⟩ := hv
  have hx := B.exec
  have hb := B.bytes
  have hr := B.returns
  have hts := atoms_spec (ws := wsL_days) B.pre
  have hown : s.vm.findClass RL = some m.cls := findClass_of_methodNamed B.named
  have hlocks := B.notSynchronized
  have htab := vx_table (x := yL_days) B (hts (.codeWith yL_days cL_days 4 (some .int) [(0, 9, 12, 13)]) List.mem_cons_self)
  have hS : va_S A s.heap s.heap [] := va_S.rf
  have hl := lv_entry ([.ref (τ.1 0), .int x, .ref (τ.1 28)]) (n := 4) (Nat.le_of_ble_eq_true rfl)
  rw [lg_entry_eq]
  generalize (lg_sl ([.ref (τ.1 0), .int x, .ref (τ.1 28)]) ++ List.replicate (4 - (lg_sl ([.ref (τ.1 0), .int x, .ref (τ.1 28)])).length) Slot.unset).toArray = ls at hl ⊢
  have hl : lv_has ls 4 [(0, .ref (τ.1 0)), (1, .int x), (2, .ref (τ.1 28))] := hl
  have hw0 := hts (.classLink RL 13 "java/lang/IllegalArgumentException") (by decide +kernel)
  refine lv_aload_n hx hb dL_days_0 rfl (lv_at hl 2 rfl) ?_
  refine lv_iconst (v := nI 0) hx hb dL_days_1 (by decide) ?_
  refine lv_aload_n hx hb dL_days_2 rfl (lv_at hl 0 rfl) ?_
  refine lv_iload_n hx hb dL_days_3 rfl (lv_at hl 1 rfl) ?_
  refine vx_calli (vx_runV (As := [.int x]) (rest := [.int (nI 0), .ref (τ.1 28)]) ⟨hx, hb, hml, hown, hts⟩ (c_days l hl0 D A sad τ fi fr ol x td htd htd9 hF n hT c hC o hO sn hSn hkx) (cwV 1 hts gL_days_X11_days rfl rfl rfl (by decide +kernel) ⟨Nat.le_of_ble_eq_true rfl, Nat.le_of_ble_eq_true rfl⟩) ⟨zQc_bl, zRecv hH (zk_0 hF) rfl, zQc_at hz hS hA hH⟩ rfl rfl hl.1 rfl (lv_room (Nat.le_of_ble_eq_true rfl)) dL_days_4 ⟨Nat.le_of_ble_eq_true rfl, Nat.le_of_ble_eq_true rfl⟩) hS (fun q _ h => h) (fun q h => h) (fun q _ h => h) (fun E ce q9 u9 t9 H1 locs ht9 hvm9 hw hB hz1 hk1 hS hce hcv hcl => ?_) (fun r101 u9 t9 H1 locs ht9 hvm9 hw hB hz1 hk1 hS => ?_)
  · obtain ⟨hX, hB⟩ := hB
    have hH := zMv ht9 hvm9 hB
    generalize H1 = H at hH hS hce ⊢
    have hEx : E = "java/lang/IllegalArgumentException" := hX.1
    rcases hEx with rfl
    · skip
      refine vx_catch hown [] { startPc := 0, endPc := 9, handlerPc := 12, catchType := 13 } _ (by rw [htab]; rfl) (fun z h9 => absurd h9 List.not_mem_nil) (by decide) (by decide) hw0 (va_Nw.use rfl (hz.1.2.2.2.2.2.2.2.1 _ (List.mem_of_getElem? (i := 1) rfl))) hce hcv hcl ?_
      refine W.widen (k := 360) (n := 1440) (by decide) (by decide) ?_
      refine lv_astore_n (lv' := [(3, .ref q9), (0, .ref (τ.1 0)), (1, .int x), (2, .ref (τ.1 28))]) hx hb dL_days_12 rfl hl (by decide) rfl (fun ls hl => ?_)
      refine lv_iconst (v := nI 1) hx hb dL_days_13 (by decide) ?_
      refine W.widen (k := 360) (n := 1440) (by decide) (by decide) ?_
      refine vx_ret ?_
      exact W.iret (v := nI 1) hx hb hr (fun t9 ht9 hW9 => ⟨⟨nI 1, (τ, fi, fr, ol), rfl, (show (∃ rv : Int32, (nI 1) = nI 0 ∧ ol = rv.toInt64 ∧ (∃ b, b ≤ 100 ∧ x = nI b ∧ (∃ c2, zCm fi fr n c2) ∧ zDy n τ fi fr τ fi fr ∧ zFix τ fr ∧ (∃ k, k ≤ 16 ∧ fi 18 3 = nI k) ∧ (∃ s2, zSn τ fi fr s2) ∧ rv = nI (min (td + b) 999) ∧ fi 0 15 = nI (min (td + b) 999) ∧ ∃ i8, min (td + i8) 999 = min (td + b) 999 ∧ ∀ Ld : List Int32, Ld.length = c → zLs fi 7 Ld → zLs fi 7 (zIt Ld td i8) ∧ fi 5 3 = nI (zIt Ld td i8).length)) ∨ ((nI 1) = nI 1 ∧ τ = τ ∧ fi = fi ∧ fr = fr ∧ ol = ol ∧ ("java/lang/IllegalArgumentException" = "java/lang/IllegalArgumentException" ∧ ¬ (0 ≤ x.toInt ∧ x.toInt ≤ 100))) from Or.inr (⟨rfl, rfl, rfl, rfl, rfl, hX⟩)), zEnd1 hH ht9 hW9⟩, hS.F ht9⟩) hS.2.2 dL_days_14
  · skip
    obtain ⟨τ102, f103, g104⟩ := u9
    have hH := zMv ht9 hvm9 hB
    clear hB
    simp only at hw hH
    generalize H1 = H at hH hS ⊢
    refine W.widen (k := 360) (n := 1440) (by decide) (by decide) ?_
    have hcp := hw
    clear hw
    have hF5 : zFix τ102 g104 := by obtain ⟨b9, -, -, -, -, h9, -⟩ := hcp; exact h9
    have h45 := (by obtain ⟨b9, -, -, -, h9, -, -, h8, -⟩ := hcp; exact n4_Dy h4 h9 h8 : ∀ i, 100 ≤ i → τ102.2.2.1 i ≠ 4)
    have hun := zFix.un hF5 h45
    have ha5 : ∀ i, i < 100 → τ102.1 i = τ.1 i := fun i h => by obtain ⟨b9, -, -, -, h9, -⟩ := hcp; exact (h9.1 i (by omega)).1
    rw [show τ.1 0 = τ102.1 0 from (ha5 0 (by omega)).symm] at hl
    rw [show τ.1 28 = τ102.1 28 from (ha5 28 (by omega)).symm] at hl
    refine W.eq (g2 := F0 m 7 ls [.int r101, .int (nI 0), .ref (τ102.1 28)]) (by rw [ha5 28 (by omega)]) ?_
    refine lv_i2l hx hb dL_days_7 rfl ?_
    refine lv_topl (fun v105 ev105 => ?_)
    refine zLast (D := D) hx hb hH hS (zk_28 hF5) (hun) (zn_28 hF5) dL_days_8 (fun H locs hH hS => ?_)
    refine lv_goto (tgt := 15) hx hb dL_days_9 (by decide) ?_
    refine lv_iconst (v := nI 0) hx hb dL_days_15 (by decide) ?_
    refine W.widen (k := 360) (n := 1440) (by decide) (by decide) ?_
    refine vx_ret ?_
    exact W.iret (v := nI 0) hx hb hr (fun t9 ht9 hW9 => ⟨⟨nI 0, (τ102, f103, g104, v105), rfl, (show (∃ rv : Int32, (nI 0) = nI 0 ∧ v105 = rv.toInt64 ∧ (∃ b, b ≤ 100 ∧ x = nI b ∧ (∃ c2, zCm f103 g104 n c2) ∧ zDy n τ fi fr τ102 f103 g104 ∧ zFix τ102 g104 ∧ (∃ k, k ≤ 16 ∧ f103 18 3 = nI k) ∧ (∃ s2, zSn τ102 f103 g104 s2) ∧ rv = nI (min (td + b) 999) ∧ f103 0 15 = nI (min (td + b) 999) ∧ ∃ i8, min (td + i8) 999 = min (td + b) 999 ∧ ∀ Ld : List Int32, Ld.length = c → zLs fi 7 Ld → zLs f103 7 (zIt Ld td i8) ∧ f103 5 3 = nI (zIt Ld td i8).length)) ∨ ((nI 0) = nI 1 ∧ τ102 = τ ∧ f103 = fi ∧ g104 = fr ∧ v105 = ol ∧ ("java/lang/IllegalArgumentException" = "java/lang/IllegalArgumentException" ∧ ¬ (0 ≤ x.toInt ∧ x.toInt ≤ 100))) from Or.inl (⟨r101, rfl, ev105, hcp⟩)), zEnd1 hH ht9 hW9⟩, hS.F ht9⟩) hS.2.2 dL_days_16
set_option maxHeartbeats 4000000 in
set_option maxRecDepth 100000 in
/-- the law's order -/
theorem h_order (l : Launch) (hl0 : l.stackTraces = false) (D : va_G) (A : Nat → Prop) (sad : Nat → Nat) (τ : zTy) (fi : zFi) (fr : zFr) (ol : Int64) (x y : Int32) (hF : zFix τ fr) (n o : Nat) (hO : zOr τ fi fr n o) (h4 : ∀ i, 100 ≤ i → τ.2.2.1 i ≠ 4) : vx_Met l yL_order wsL_order ({ frames := 8, cells := 2, slots := 12, locals := 126 }) (va_Pc [.ref (τ.1 0), .int x, .int y, .ref (τ.1 28)] (zQn D A sad τ fi fr ol)) (va_Qi (fun (r : Int32) (u : Int64) => (∃ rv : Int32, r = nI 0 ∧ u = rv.toInt64 ∧ (True)) ∨ (r = nI 1 ∧ u = ol ∧ ("java/lang/IndexOutOfBoundsException" = "java/lang/IndexOutOfBoundsException" ∨ "java/lang/IndexOutOfBoundsException" = "java/util/NoSuchElementException")) ∨ (r = nI 2 ∧ u = ol ∧ ("java/util/NoSuchElementException" = "java/lang/IndexOutOfBoundsException" ∨ "java/util/NoSuchElementException" = "java/util/NoSuchElementException"))) (fun (u : Int64) (t : State) => zH D A τ fi fr u t t.heap) A) (vx_X (fun u : Unit => True) (fun (E : String) (u : Unit) (t : State) => (False) ∧ zH D A τ fi fr ol t t.heap) A) 2 12 A := by
  refine vx_ofWH (cc := cL_order) (maxL := 5) (ret := (some .int)) (hh := [(0, 10, 13, 20), (0, 10, 17, 41)]) (by decide) rfl ?_
  intro p9 e9 s m args below meth c9 s₁ B hml hv
  obtain ⟨rfl, ⟨hz, hH, hA⟩, hnp⟩ := hv
  have hx := B.exec
  have hb := B.bytes
  have hr := B.returns
  have hts := atoms_spec (ws := wsL_order) B.pre
  have hown : s.vm.findClass RL = some m.cls := findClass_of_methodNamed B.named
  have hlocks := B.notSynchronized
  have htab := vx_table (x := yL_order) B (hts (.codeWith yL_order cL_order 5 (some .int) [(0, 10, 13, 20), (0, 10, 17, 41)]) List.mem_cons_self)
  have hS : va_S A s.heap s.heap [] := va_S.rf
  have hl := lv_entry ([.ref (τ.1 0), .int x, .int y, .ref (τ.1 28)]) (n := 5) (Nat.le_of_ble_eq_true rfl)
  rw [lg_entry_eq]
  generalize (lg_sl ([.ref (τ.1 0), .int x, .int y, .ref (τ.1 28)]) ++ List.replicate (5 - (lg_sl ([.ref (τ.1 0), .int x, .int y, .ref (τ.1 28)])).length) Slot.unset).toArray = ls at hl ⊢
  have hl : lv_has ls 5 [(0, .ref (τ.1 0)), (1, .int x), (2, .int y), (3, .ref (τ.1 28))] := hl
  have hw0 := hts (.classLink RL 20 "java/lang/IndexOutOfBoundsException") (by decide +kernel)
  have hw1 := hts (.classLink RL 41 "java/util/NoSuchElementException") (by decide +kernel)
  refine lv_aload_n hx hb dL_order_0 rfl (lv_at hl 3 rfl) ?_
  refine lv_iconst (v := nI 0) hx hb dL_order_1 (by decide) ?_
  refine lv_aload_n hx hb dL_order_2 rfl (lv_at hl 0 rfl) ?_
  refine lv_iload_n hx hb dL_order_3 rfl (lv_at hl 1 rfl) ?_
  refine lv_iload_n hx hb dL_order_4 rfl (lv_at hl 2 rfl) ?_
  refine vx_calli (vx_runV (As := [.int x, .int y]) (rest := [.int (nI 0), .ref (τ.1 28)]) ⟨hx, hb, hml, hown, hts⟩ (c_order l hl0 D A sad τ fi fr ol x y hF n o hO) (cwV 2 hts gL_order_X11_order rfl rfl rfl (by decide +kernel) ⟨Nat.le_of_ble_eq_true rfl, Nat.le_of_ble_eq_true rfl⟩) ⟨zQc_bl, zRecv hH (zk_0 hF) rfl, zQc_at hz hS hA hH⟩ rfl rfl hl.1 rfl (lv_room (Nat.le_of_ble_eq_true rfl)) dL_order_5 ⟨Nat.le_of_ble_eq_true rfl, Nat.le_of_ble_eq_true rfl⟩) hS (fun q _ h => h) (fun q h => h) (fun q _ h => h) (fun E ce q9 u9 t9 H1 locs ht9 hvm9 hw hB hz1 hk1 hS hce hcv hcl => ?_) (fun r101 u9 t9 H1 locs ht9 hvm9 hw hB hz1 hk1 hS => ?_)
  · obtain ⟨hX, hB⟩ := hB
    have hH := zMv ht9 hvm9 hB
    generalize H1 = H at hH hS hce ⊢
    have hEx : E = "java/lang/IndexOutOfBoundsException" ∨ E = "java/util/NoSuchElementException" := hX
    rcases hEx with rfl | rfl
    · skip
      refine vx_catch hown [] { startPc := 0, endPc := 10, handlerPc := 13, catchType := 20 } _ (by rw [htab]; rfl) (fun z h9 => absurd h9 List.not_mem_nil) (by decide) (by decide) hw0 (va_Nw.use rfl (hz.1.2.2.2.2.2.2.2.1 _ (List.mem_of_getElem? (i := 0) rfl))) hce hcv hcl ?_
      refine W.widen (k := 2) (n := 12) (by decide) (by decide) ?_
      refine lv_astore (lv' := [(4, .ref q9), (0, .ref (τ.1 0)), (1, .int x), (2, .int y), (3, .ref (τ.1 28))]) hx hb dL_order_13 hl (by decide) rfl (fun ls hl => ?_)
      refine lv_iconst (v := nI 1) hx hb dL_order_15 (by decide) ?_
      refine W.widen (k := 2) (n := 12) (by decide) (by decide) ?_
      refine vx_ret ?_
      exact W.iret (v := nI 1) hx hb hr (fun t9 ht9 hW9 => ⟨⟨nI 1, ol, rfl, Or.inr (Or.inl (⟨rfl, rfl, hX⟩)), zEnd1 hH ht9 hW9⟩, hS.F ht9⟩) hS.2.2 dL_order_16
    · skip
      refine vx_catch hown [{ startPc := 0, endPc := 10, handlerPc := 13, catchType := 20 }] { startPc := 0, endPc := 10, handlerPc := 17, catchType := 41 } _ (by rw [htab]; rfl) (List.forall_mem_cons.mpr ⟨Or.inr ⟨by decide, "java/lang/IndexOutOfBoundsException", hw0, hnp _ (by decide) _ (by decide) (by decide)⟩, fun z h9 => absurd h9 List.not_mem_nil⟩) (by decide) (by decide) hw1 (va_Nw.use rfl (hz.1.2.2.2.2.2.2.2.1 _ (List.mem_of_getElem? (i := 3) rfl))) hce hcv hcl ?_
      refine W.widen (k := 2) (n := 12) (by decide) (by decide) ?_
      refine lv_astore (lv' := [(4, .ref q9), (0, .ref (τ.1 0)), (1, .int x), (2, .int y), (3, .ref (τ.1 28))]) hx hb dL_order_17 hl (by decide) rfl (fun ls hl => ?_)
      refine lv_iconst (v := nI 2) hx hb dL_order_19 (by decide) ?_
      refine W.widen (k := 2) (n := 12) (by decide) (by decide) ?_
      refine vx_ret ?_
      exact W.iret (v := nI 2) hx hb hr (fun t9 ht9 hW9 => ⟨⟨nI 2, ol, rfl, Or.inr (Or.inr (⟨rfl, rfl, hX⟩)), zEnd1 hH ht9 hW9⟩, hS.F ht9⟩) hS.2.2 dL_order_20
  · skip
    have hH := zMv ht9 hvm9 hB
    generalize H1 = H at hH hS ⊢
    refine W.widen (k := 2) (n := 12) (by decide) (by decide) ?_
    have hcp := hw
    clear hw
    have hun := zFix.un hF h4
    refine lv_i2l hx hb dL_order_8 rfl ?_
    refine lv_topl (fun v102 ev102 => ?_)
    refine zLast (D := D) hx hb hH hS (zk_28 hF) (hun) (zn_28 hF) dL_order_9 (fun H locs hH hS => ?_)
    refine lv_goto (tgt := 21) hx hb dL_order_10 (by decide) ?_
    refine lv_iconst (v := nI 0) hx hb dL_order_21 (by decide) ?_
    refine W.widen (k := 2) (n := 12) (by decide) (by decide) ?_
    refine vx_ret ?_
    exact W.iret (v := nI 0) hx hb hr (fun t9 ht9 hW9 => ⟨⟨nI 0, v102, rfl, Or.inl (⟨r101, rfl, ev102, hcp⟩), zEnd1 hH ht9 hW9⟩, hS.F ht9⟩) hS.2.2 dL_order_22
set_option maxHeartbeats 4000000 in
set_option maxRecDepth 100000 in
/-- the law's want -/
theorem h_want (l : Launch) (hl0 : l.stackTraces = false) (D : va_G) (A : Nat → Prop) (sad : Nat → Nat) (τ : zTy) (fi : zFi) (fr : zFr) (ol : Int64) (x y z : Int32) (hF : zFix τ fr) (n o : Nat) (hO : zOr τ fi fr n o) (hT : zTh τ fi fr n) (h4 : ∀ i, 100 ≤ i → τ.2.2.1 i ≠ 4) : vx_Met l yL_want wsL_want ({ frames := 8, cells := 3, slots := 18, locals := 127 }) (va_Pc [.ref (τ.1 0), .int x, .int y, .int z, .ref (τ.1 28)] (zQn D A sad τ fi fr ol)) (va_Qi (fun (r : Int32) (u : Int64) => (∃ rv : Int32, r = nI 0 ∧ u = rv.toInt64 ∧ (True)) ∨ (r = nI 1 ∧ u = ol ∧ ("java/lang/IndexOutOfBoundsException" = "java/lang/IndexOutOfBoundsException" ∨ "java/lang/IndexOutOfBoundsException" = "java/util/NoSuchElementException")) ∨ (r = nI 2 ∧ u = ol ∧ ("java/util/NoSuchElementException" = "java/lang/IndexOutOfBoundsException" ∨ "java/util/NoSuchElementException" = "java/util/NoSuchElementException"))) (fun (u : Int64) (t : State) => zH D A τ fi fr u t t.heap) A) (vx_X (fun u : Unit => True) (fun (E : String) (u : Unit) (t : State) => (False) ∧ zH D A τ fi fr ol t t.heap) A) 3 18 A := by
  refine vx_ofWH (cc := cL_want) (maxL := 6) (ret := (some .int)) (hh := [(0, 12, 15, 20), (0, 12, 19, 41)]) (by decide) rfl ?_
  intro p9 e9 s m args below meth c9 s₁ B hml hv
  obtain ⟨rfl, ⟨hz, hH, hA⟩, hnp⟩ := hv
  have hx := B.exec
  have hb := B.bytes
  have hr := B.returns
  have hts := atoms_spec (ws := wsL_want) B.pre
  have hown : s.vm.findClass RL = some m.cls := findClass_of_methodNamed B.named
  have hlocks := B.notSynchronized
  have htab := vx_table (x := yL_want) B (hts (.codeWith yL_want cL_want 6 (some .int) [(0, 12, 15, 20), (0, 12, 19, 41)]) List.mem_cons_self)
  have hS : va_S A s.heap s.heap [] := va_S.rf
  have hl := lv_entry ([.ref (τ.1 0), .int x, .int y, .int z, .ref (τ.1 28)]) (n := 6) (Nat.le_of_ble_eq_true rfl)
  rw [lg_entry_eq]
  generalize (lg_sl ([.ref (τ.1 0), .int x, .int y, .int z, .ref (τ.1 28)]) ++ List.replicate (6 - (lg_sl ([.ref (τ.1 0), .int x, .int y, .int z, .ref (τ.1 28)])).length) Slot.unset).toArray = ls at hl ⊢
  have hl : lv_has ls 6 [(0, .ref (τ.1 0)), (1, .int x), (2, .int y), (3, .int z), (4, .ref (τ.1 28))] := hl
  have hw0 := hts (.classLink RL 20 "java/lang/IndexOutOfBoundsException") (by decide +kernel)
  have hw1 := hts (.classLink RL 41 "java/util/NoSuchElementException") (by decide +kernel)
  refine lv_aload hx hb dL_want_0 (lv_at hl 4 rfl) ?_
  refine lv_iconst (v := nI 0) hx hb dL_want_2 (by decide) ?_
  refine lv_aload_n hx hb dL_want_3 rfl (lv_at hl 0 rfl) ?_
  refine lv_iload_n hx hb dL_want_4 rfl (lv_at hl 1 rfl) ?_
  refine lv_iload_n hx hb dL_want_5 rfl (lv_at hl 2 rfl) ?_
  refine lv_iload_n hx hb dL_want_6 rfl (lv_at hl 3 rfl) ?_
  refine vx_calli (vx_runV (As := [.int x, .int y, .int z]) (rest := [.int (nI 0), .ref (τ.1 28)]) ⟨hx, hb, hml, hown, hts⟩ (c_want l hl0 D A sad τ fi fr ol x y z hF n o hO hT) (cwV 3 hts gL_want_X11_want rfl rfl rfl (by decide +kernel) ⟨Nat.le_of_ble_eq_true rfl, Nat.le_of_ble_eq_true rfl⟩) ⟨zQc_bl, zRecv hH (zk_0 hF) rfl, zQc_at hz hS hA hH⟩ rfl rfl hl.1 rfl (lv_room (Nat.le_of_ble_eq_true rfl)) dL_want_7 ⟨Nat.le_of_ble_eq_true rfl, Nat.le_of_ble_eq_true rfl⟩) hS (fun q _ h => h) (fun q h => h) (fun q _ h => h) (fun E ce q9 u9 t9 H1 locs ht9 hvm9 hw hB hz1 hk1 hS hce hcv hcl => ?_) (fun r101 u9 t9 H1 locs ht9 hvm9 hw hB hz1 hk1 hS => ?_)
  · obtain ⟨hX, hB⟩ := hB
    have hH := zMv ht9 hvm9 hB
    generalize H1 = H at hH hS hce ⊢
    have hEx : E = "java/lang/IndexOutOfBoundsException" ∨ E = "java/util/NoSuchElementException" := hX
    rcases hEx with rfl | rfl
    · skip
      refine vx_catch hown [] { startPc := 0, endPc := 12, handlerPc := 15, catchType := 20 } _ (by rw [htab]; rfl) (fun z h9 => absurd h9 List.not_mem_nil) (by decide) (by decide) hw0 (va_Nw.use rfl (hz.1.2.2.2.2.2.2.2.1 _ (List.mem_of_getElem? (i := 0) rfl))) hce hcv hcl ?_
      refine W.widen (k := 3) (n := 18) (by decide) (by decide) ?_
      refine lv_astore (lv' := [(5, .ref q9), (0, .ref (τ.1 0)), (1, .int x), (2, .int y), (3, .int z), (4, .ref (τ.1 28))]) hx hb dL_want_15 hl (by decide) rfl (fun ls hl => ?_)
      refine lv_iconst (v := nI 1) hx hb dL_want_17 (by decide) ?_
      refine W.widen (k := 3) (n := 18) (by decide) (by decide) ?_
      refine vx_ret ?_
      exact W.iret (v := nI 1) hx hb hr (fun t9 ht9 hW9 => ⟨⟨nI 1, ol, rfl, Or.inr (Or.inl (⟨rfl, rfl, hX⟩)), zEnd1 hH ht9 hW9⟩, hS.F ht9⟩) hS.2.2 dL_want_18
    · skip
      refine vx_catch hown [{ startPc := 0, endPc := 12, handlerPc := 15, catchType := 20 }] { startPc := 0, endPc := 12, handlerPc := 19, catchType := 41 } _ (by rw [htab]; rfl) (List.forall_mem_cons.mpr ⟨Or.inr ⟨by decide, "java/lang/IndexOutOfBoundsException", hw0, hnp _ (by decide) _ (by decide) (by decide)⟩, fun z h9 => absurd h9 List.not_mem_nil⟩) (by decide) (by decide) hw1 (va_Nw.use rfl (hz.1.2.2.2.2.2.2.2.1 _ (List.mem_of_getElem? (i := 3) rfl))) hce hcv hcl ?_
      refine W.widen (k := 3) (n := 18) (by decide) (by decide) ?_
      refine lv_astore (lv' := [(5, .ref q9), (0, .ref (τ.1 0)), (1, .int x), (2, .int y), (3, .int z), (4, .ref (τ.1 28))]) hx hb dL_want_19 hl (by decide) rfl (fun ls hl => ?_)
      refine lv_iconst (v := nI 2) hx hb dL_want_21 (by decide) ?_
      refine W.widen (k := 3) (n := 18) (by decide) (by decide) ?_
      refine vx_ret ?_
      exact W.iret (v := nI 2) hx hb hr (fun t9 ht9 hW9 => ⟨⟨nI 2, ol, rfl, Or.inr (Or.inr (⟨rfl, rfl, hX⟩)), zEnd1 hH ht9 hW9⟩, hS.F ht9⟩) hS.2.2 dL_want_22
  · skip
    have hH := zMv ht9 hvm9 hB
    generalize H1 = H at hH hS ⊢
    refine W.widen (k := 3) (n := 18) (by decide) (by decide) ?_
    have hcp := hw
    clear hw
    have hun := zFix.un hF h4
    refine lv_i2l hx hb dL_want_10 rfl ?_
    refine lv_topl (fun v102 ev102 => ?_)
    refine zLast (D := D) hx hb hH hS (zk_28 hF) (hun) (zn_28 hF) dL_want_11 (fun H locs hH hS => ?_)
    refine lv_goto (tgt := 23) hx hb dL_want_12 (by decide) ?_
    refine lv_iconst (v := nI 0) hx hb dL_want_23 (by decide) ?_
    refine W.widen (k := 3) (n := 18) (by decide) (by decide) ?_
    refine vx_ret ?_
    exact W.iret (v := nI 0) hx hb hr (fun t9 ht9 hW9 => ⟨⟨nI 0, v102, rfl, Or.inl (⟨r101, rfl, ev102, hcp⟩), zEnd1 hH ht9 hW9⟩, hS.F ht9⟩) hS.2.2 dL_want_24
set_option maxHeartbeats 4000000 in
set_option maxRecDepth 100000 in
/-- the law's back -/
theorem h_back (l : Launch) (hl0 : l.stackTraces = false) (D : va_G) (A : Nat → Prop) (sad : Nat → Nat) (τ : zTy) (fi : zFi) (fr : zFr) (ol : Int64) (x y z : Int32) (hF : zFix τ fr) (n o : Nat) (hO : zOr τ fi fr n o) (hT : zTh τ fi fr n) (h4 : ∀ i, 100 ≤ i → τ.2.2.1 i ≠ 4) : vx_Met l yL_back wsL_back ({ frames := 8, cells := 3, slots := 18, locals := 128 }) (va_Pc [.ref (τ.1 0), .int x, .int y, .int z, .ref (τ.1 28)] (zQn D A sad τ fi fr ol)) (va_Qi (fun (r : Int32) (u : zFi × Int64) => (∃ rv : Int32, r = nI 0 ∧ (∀ i k, ¬ ((1000 ≤ i ∧ i < 1480 ∧ 3 ≤ k) ∨ (300 ≤ i ∧ i < 330 ∧ k = 5) ∨ (500 ≤ i ∧ i < 560 ∧ k = 4)) → u.1 i k = fi i k)) ∨ (r = nI 1 ∧ u.1 = fi ∧ u.2 = ol ∧ ("java/lang/IndexOutOfBoundsException" = "java/lang/IndexOutOfBoundsException" ∨ "java/lang/IndexOutOfBoundsException" = "java/lang/IllegalArgumentException")) ∨ (r = nI 2 ∧ u.1 = fi ∧ u.2 = ol ∧ ("java/lang/IllegalArgumentException" = "java/lang/IndexOutOfBoundsException" ∨ "java/lang/IllegalArgumentException" = "java/lang/IllegalArgumentException"))) (fun (u : zFi × Int64) (t : State) => zH D A τ u.1 fr u.2 t t.heap) A) (vx_X (fun u : Unit => True) (fun (E : String) (u : Unit) (t : State) => (False) ∧ zH D A τ fi fr ol t t.heap) A) 3 18 A := by
  refine vx_ofWH (cc := cL_back) (maxL := 6) (ret := (some .int)) (hh := [(0, 19, 22, 20), (0, 19, 26, 13)]) (by decide) rfl ?_
  intro p9 e9 s m args below meth c9 s₁ B hml hv
  obtain ⟨rfl, ⟨hz, hH, hA⟩, hnp⟩ := hv
  have hx := B.exec
  have hb := B.bytes
  have hr := B.returns
  have hts := atoms_spec (ws := wsL_back) B.pre
  have hown : s.vm.findClass RL = some m.cls := findClass_of_methodNamed B.named
  have hlocks := B.notSynchronized
  have htab := vx_table (x := yL_back) B (hts (.codeWith yL_back cL_back 6 (some .int) [(0, 19, 22, 20), (0, 19, 26, 13)]) List.mem_cons_self)
  have hS : va_S A s.heap s.heap [] := va_S.rf
  have hl := lv_entry ([.ref (τ.1 0), .int x, .int y, .int z, .ref (τ.1 28)]) (n := 6) (Nat.le_of_ble_eq_true rfl)
  rw [lg_entry_eq]
  generalize (lg_sl ([.ref (τ.1 0), .int x, .int y, .int z, .ref (τ.1 28)]) ++ List.replicate (6 - (lg_sl ([.ref (τ.1 0), .int x, .int y, .int z, .ref (τ.1 28)])).length) Slot.unset).toArray = ls at hl ⊢
  have hl : lv_has ls 6 [(0, .ref (τ.1 0)), (1, .int x), (2, .int y), (3, .int z), (4, .ref (τ.1 28))] := hl
  have hw0 := hts (.classLink RL 20 "java/lang/IndexOutOfBoundsException") (by decide +kernel)
  have hw1 := hts (.classLink RL 13 "java/lang/IllegalArgumentException") (by decide +kernel)
  refine lv_aload hx hb dL_back_0 (lv_at hl 4 rfl) ?_
  refine lv_iconst (v := nI 0) hx hb dL_back_2 (by decide) ?_
  refine lv_aload_n hx hb dL_back_3 rfl (lv_at hl 0 rfl) ?_
  refine lv_iload_n hx hb dL_back_4 rfl (lv_at hl 1 rfl) ?_
  refine lv_iload_n hx hb dL_back_5 rfl (lv_at hl 2 rfl) ?_
  refine lv_iload_n hx hb dL_back_6 rfl (lv_at hl 3 rfl) ?_
  refine vx_calli (vx_runV (As := [.int x, .int y, .int z]) (rest := [.int (nI 0), .ref (τ.1 28)]) ⟨hx, hb, hml, hown, hts⟩ (c_back l hl0 D A sad τ fi fr ol x y z hF n o hO hT) (cwV 3 hts gL_back_X11_back rfl rfl rfl (by decide +kernel) ⟨Nat.le_of_ble_eq_true rfl, Nat.le_of_ble_eq_true rfl⟩) ⟨zQc_bl, zRecv hH (zk_0 hF) rfl, zQc_at hz hS hA hH⟩ rfl rfl hl.1 rfl (lv_room (Nat.le_of_ble_eq_true rfl)) dL_back_7 ⟨Nat.le_of_ble_eq_true rfl, Nat.le_of_ble_eq_true rfl⟩) hS (fun q _ h => h) (fun q h => h) (fun q _ h => h) (fun E ce q9 u9 t9 H1 locs ht9 hvm9 hw hB hz1 hk1 hS hce hcv hcl => ?_) (fun r101 u9 t9 H1 locs ht9 hvm9 hw hB hz1 hk1 hS => ?_)
  · obtain ⟨hX, hB⟩ := hB
    have hH := zMv ht9 hvm9 hB
    generalize H1 = H at hH hS hce ⊢
    have hEx : E = "java/lang/IndexOutOfBoundsException" ∨ E = "java/lang/IllegalArgumentException" := hX
    rcases hEx with rfl | rfl
    · skip
      refine vx_catch hown [] { startPc := 0, endPc := 19, handlerPc := 22, catchType := 20 } _ (by rw [htab]; rfl) (fun z h9 => absurd h9 List.not_mem_nil) (by decide) (by decide) hw0 (va_Nw.use rfl (hz.1.2.2.2.2.2.2.2.1 _ (List.mem_of_getElem? (i := 0) rfl))) hce hcv hcl ?_
      refine W.widen (k := 3) (n := 18) (by decide) (by decide) ?_
      refine lv_astore (lv' := [(5, .ref q9), (0, .ref (τ.1 0)), (1, .int x), (2, .int y), (3, .int z), (4, .ref (τ.1 28))]) hx hb dL_back_22 hl (by decide) rfl (fun ls hl => ?_)
      refine lv_iconst (v := nI 1) hx hb dL_back_24 (by decide) ?_
      refine W.widen (k := 3) (n := 18) (by decide) (by decide) ?_
      refine vx_ret ?_
      exact W.iret (v := nI 1) hx hb hr (fun t9 ht9 hW9 => ⟨⟨nI 1, (fi, ol), rfl, (show (∃ rv : Int32, (nI 1) = nI 0 ∧ (∀ i k, ¬ ((1000 ≤ i ∧ i < 1480 ∧ 3 ≤ k) ∨ (300 ≤ i ∧ i < 330 ∧ k = 5) ∨ (500 ≤ i ∧ i < 560 ∧ k = 4)) → fi i k = fi i k)) ∨ ((nI 1) = nI 1 ∧ fi = fi ∧ ol = ol ∧ ("java/lang/IndexOutOfBoundsException" = "java/lang/IndexOutOfBoundsException" ∨ "java/lang/IndexOutOfBoundsException" = "java/lang/IllegalArgumentException")) ∨ ((nI 1) = nI 2 ∧ fi = fi ∧ ol = ol ∧ ("java/lang/IllegalArgumentException" = "java/lang/IndexOutOfBoundsException" ∨ "java/lang/IllegalArgumentException" = "java/lang/IllegalArgumentException")) from Or.inr (Or.inl (⟨rfl, rfl, rfl, hX⟩))), zEnd1 hH ht9 hW9⟩, hS.F ht9⟩) hS.2.2 dL_back_25
    · skip
      refine vx_catch hown [{ startPc := 0, endPc := 19, handlerPc := 22, catchType := 20 }] { startPc := 0, endPc := 19, handlerPc := 26, catchType := 13 } _ (by rw [htab]; rfl) (List.forall_mem_cons.mpr ⟨Or.inr ⟨by decide, "java/lang/IndexOutOfBoundsException", hw0, hnp _ (by decide) _ (by decide) (by decide)⟩, fun z h9 => absurd h9 List.not_mem_nil⟩) (by decide) (by decide) hw1 (va_Nw.use rfl (hz.1.2.2.2.2.2.2.2.1 _ (List.mem_of_getElem? (i := 1) rfl))) hce hcv hcl ?_
      refine W.widen (k := 3) (n := 18) (by decide) (by decide) ?_
      refine lv_astore (lv' := [(5, .ref q9), (0, .ref (τ.1 0)), (1, .int x), (2, .int y), (3, .int z), (4, .ref (τ.1 28))]) hx hb dL_back_26 hl (by decide) rfl (fun ls hl => ?_)
      refine lv_iconst (v := nI 2) hx hb dL_back_28 (by decide) ?_
      refine W.widen (k := 3) (n := 18) (by decide) (by decide) ?_
      refine vx_ret ?_
      exact W.iret (v := nI 2) hx hb hr (fun t9 ht9 hW9 => ⟨⟨nI 2, (fi, ol), rfl, (show (∃ rv : Int32, (nI 2) = nI 0 ∧ (∀ i k, ¬ ((1000 ≤ i ∧ i < 1480 ∧ 3 ≤ k) ∨ (300 ≤ i ∧ i < 330 ∧ k = 5) ∨ (500 ≤ i ∧ i < 560 ∧ k = 4)) → fi i k = fi i k)) ∨ ((nI 2) = nI 1 ∧ fi = fi ∧ ol = ol ∧ ("java/lang/IndexOutOfBoundsException" = "java/lang/IndexOutOfBoundsException" ∨ "java/lang/IndexOutOfBoundsException" = "java/lang/IllegalArgumentException")) ∨ ((nI 2) = nI 2 ∧ fi = fi ∧ ol = ol ∧ ("java/lang/IllegalArgumentException" = "java/lang/IndexOutOfBoundsException" ∨ "java/lang/IllegalArgumentException" = "java/lang/IllegalArgumentException")) from Or.inr (Or.inr (⟨rfl, rfl, rfl, hX⟩))), zEnd1 hH ht9 hW9⟩, hS.F ht9⟩) hS.2.2 dL_back_29
  · skip
    have hH := zMv ht9 hvm9 hB
    clear hB
    generalize u9 = f102 at hw hH
    generalize H1 = H at hH hS ⊢
    refine W.widen (k := 3) (n := 18) (by decide) (by decide) ?_
    have hcp := hw
    clear hw
    have hun := zFix.un hF h4
    refine lv_if_eq (tgt := 17) hx hb dL_back_10 (by decide) (fun c103 => ?_) (fun c103 => ?_)
    · have zc103 := c103
      replace zc103 := zc_eq (rfl) ((by decide : (0 : Int32).toInt = 0)) zc103
      refine lv_lconst (v := 0) hx hb dL_back_17 (by decide) ?_
      refine zLast (D := D) hx hb hH hS (zk_28 hF) (hun) (zn_28 hF) dL_back_18 (fun H locs hH hS => ?_)
      refine lv_goto (tgt := 30) hx hb dL_back_19 (by decide) ?_
      refine lv_iconst (v := nI 0) hx hb dL_back_30 (by decide) ?_
      refine W.widen (k := 3) (n := 18) (by decide) (by decide) ?_
      refine vx_ret ?_
      exact W.iret (v := nI 0) hx hb hr (fun t9 ht9 hW9 => ⟨⟨nI 0, (f102, 0), rfl, (show (∃ rv : Int32, (nI 0) = nI 0 ∧ (∀ i k, ¬ ((1000 ≤ i ∧ i < 1480 ∧ 3 ≤ k) ∨ (300 ≤ i ∧ i < 330 ∧ k = 5) ∨ (500 ≤ i ∧ i < 560 ∧ k = 4)) → f102 i k = fi i k)) ∨ ((nI 0) = nI 1 ∧ f102 = fi ∧ 0 = ol ∧ ("java/lang/IndexOutOfBoundsException" = "java/lang/IndexOutOfBoundsException" ∨ "java/lang/IndexOutOfBoundsException" = "java/lang/IllegalArgumentException")) ∨ ((nI 0) = nI 2 ∧ f102 = fi ∧ 0 = ol ∧ ("java/lang/IllegalArgumentException" = "java/lang/IndexOutOfBoundsException" ∨ "java/lang/IllegalArgumentException" = "java/lang/IllegalArgumentException")) from Or.inl (⟨r101, rfl, hcp⟩)), zEnd1 hH ht9 hW9⟩, hS.F ht9⟩) hS.2.2 dL_back_31
    · have zc103 := c103
      replace zc103 := zc_neq (rfl) ((by decide : (0 : Int32).toInt = 0)) zc103
      refine lv_lconst (v := 1) hx hb dL_back_13 (by decide) ?_
      refine lv_goto (tgt := 18) hx hb dL_back_14 (by decide) ?_
      refine zLast (D := D) hx hb hH hS (zk_28 hF) (hun) (zn_28 hF) dL_back_18 (fun H locs hH hS => ?_)
      refine lv_goto (tgt := 30) hx hb dL_back_19 (by decide) ?_
      refine lv_iconst (v := nI 0) hx hb dL_back_30 (by decide) ?_
      refine W.widen (k := 3) (n := 18) (by decide) (by decide) ?_
      refine vx_ret ?_
      exact W.iret (v := nI 0) hx hb hr (fun t9 ht9 hW9 => ⟨⟨nI 0, (f102, 1), rfl, (show (∃ rv : Int32, (nI 0) = nI 0 ∧ (∀ i k, ¬ ((1000 ≤ i ∧ i < 1480 ∧ 3 ≤ k) ∨ (300 ≤ i ∧ i < 330 ∧ k = 5) ∨ (500 ≤ i ∧ i < 560 ∧ k = 4)) → f102 i k = fi i k)) ∨ ((nI 0) = nI 1 ∧ f102 = fi ∧ 1 = ol ∧ ("java/lang/IndexOutOfBoundsException" = "java/lang/IndexOutOfBoundsException" ∨ "java/lang/IndexOutOfBoundsException" = "java/lang/IllegalArgumentException")) ∨ ((nI 0) = nI 2 ∧ f102 = fi ∧ 1 = ol ∧ ("java/lang/IllegalArgumentException" = "java/lang/IndexOutOfBoundsException" ∨ "java/lang/IllegalArgumentException" = "java/lang/IllegalArgumentException")) from Or.inl (⟨r101, rfl, hcp⟩)), zEnd1 hH ht9 hW9⟩, hS.F ht9⟩) hS.2.2 dL_back_31
set_option maxHeartbeats 4000000 in
set_option maxRecDepth 100000 in
/-- the law's sending -/
theorem h_sending (l : Launch) (hl0 : l.stackTraces = false) (D : va_G) (A : Nat → Prop) (sad : Nat → Nat) (τ : zTy) (fi : zFi) (fr : zFr) (ol : Int64) (x y : Int32) (hF : zFix τ fr) (sn : Nat) (hSn : zSn τ fi fr sn) (h4 : ∀ i, 100 ≤ i → τ.2.2.1 i ≠ 4) : vx_Met l yL_sending wsL_sending ({ frames := 7, cells := 1, slots := 6, locals := 105 }) (va_Pc [.ref (τ.1 0), .int x, .int y, .ref (τ.1 28)] (zQn D A sad τ fi fr ol)) (va_Qi (fun (r : Int32) (u : Int64) => (∃ rv : Int32, r = nI 0 ∧ u = rv.toInt64 ∧ (True)) ∨ (r = nI 1 ∧ u = ol ∧ ("java/lang/IndexOutOfBoundsException" = "java/lang/IndexOutOfBoundsException" ∨ "java/lang/IndexOutOfBoundsException" = "java/util/NoSuchElementException")) ∨ (r = nI 2 ∧ u = ol ∧ ("java/util/NoSuchElementException" = "java/lang/IndexOutOfBoundsException" ∨ "java/util/NoSuchElementException" = "java/util/NoSuchElementException"))) (fun (u : Int64) (t : State) => zH D A τ fi fr u t t.heap) A) (vx_X (fun u : Unit => True) (fun (E : String) (u : Unit) (t : State) => (False) ∧ zH D A τ fi fr ol t t.heap) A) 1 6 A := by
  refine vx_ofWH (cc := cL_sending) (maxL := 5) (ret := (some .int)) (hh := [(0, 10, 13, 20), (0, 10, 17, 41)]) (by decide) rfl ?_
  intro p9 e9 s m args below meth c9 s₁ B hml hv
  obtain ⟨rfl, ⟨hz, hH, hA⟩, hnp⟩ := hv
  have hx := B.exec
  have hb := B.bytes
  have hr := B.returns
  have hts := atoms_spec (ws := wsL_sending) B.pre
  have hown : s.vm.findClass RL = some m.cls := findClass_of_methodNamed B.named
  have hlocks := B.notSynchronized
  have htab := vx_table (x := yL_sending) B (hts (.codeWith yL_sending cL_sending 5 (some .int) [(0, 10, 13, 20), (0, 10, 17, 41)]) List.mem_cons_self)
  have hS : va_S A s.heap s.heap [] := va_S.rf
  have hl := lv_entry ([.ref (τ.1 0), .int x, .int y, .ref (τ.1 28)]) (n := 5) (Nat.le_of_ble_eq_true rfl)
  rw [lg_entry_eq]
  generalize (lg_sl ([.ref (τ.1 0), .int x, .int y, .ref (τ.1 28)]) ++ List.replicate (5 - (lg_sl ([.ref (τ.1 0), .int x, .int y, .ref (τ.1 28)])).length) Slot.unset).toArray = ls at hl ⊢
  have hl : lv_has ls 5 [(0, .ref (τ.1 0)), (1, .int x), (2, .int y), (3, .ref (τ.1 28))] := hl
  have hw0 := hts (.classLink RL 20 "java/lang/IndexOutOfBoundsException") (by decide +kernel)
  have hw1 := hts (.classLink RL 41 "java/util/NoSuchElementException") (by decide +kernel)
  refine lv_aload_n hx hb dL_sending_0 rfl (lv_at hl 3 rfl) ?_
  refine lv_iconst (v := nI 0) hx hb dL_sending_1 (by decide) ?_
  refine lv_aload_n hx hb dL_sending_2 rfl (lv_at hl 0 rfl) ?_
  refine lv_iload_n hx hb dL_sending_3 rfl (lv_at hl 1 rfl) ?_
  refine lv_iload_n hx hb dL_sending_4 rfl (lv_at hl 2 rfl) ?_
  refine vx_calli (vx_runV (As := [.int x, .int y]) (rest := [.int (nI 0), .ref (τ.1 28)]) ⟨hx, hb, hml, hown, hts⟩ (c_sending l hl0 D A sad τ fi fr ol x y hF sn hSn) (cwV 2 hts gL_sending_X11_sending rfl rfl rfl (by decide +kernel) ⟨Nat.le_of_ble_eq_true rfl, Nat.le_of_ble_eq_true rfl⟩) ⟨zQc_bl, zRecv hH (zk_0 hF) rfl, zQc_at hz hS hA hH⟩ rfl rfl hl.1 rfl (lv_room (Nat.le_of_ble_eq_true rfl)) dL_sending_5 ⟨Nat.le_of_ble_eq_true rfl, Nat.le_of_ble_eq_true rfl⟩) hS (fun q _ h => h) (fun q h => h) (fun q _ h => h) (fun E ce q9 u9 t9 H1 locs ht9 hvm9 hw hB hz1 hk1 hS hce hcv hcl => ?_) (fun r101 u9 t9 H1 locs ht9 hvm9 hw hB hz1 hk1 hS => ?_)
  · obtain ⟨hX, hB⟩ := hB
    have hH := zMv ht9 hvm9 hB
    generalize H1 = H at hH hS hce ⊢
    have hEx : E = "java/lang/IndexOutOfBoundsException" ∨ E = "java/util/NoSuchElementException" := hX
    rcases hEx with rfl | rfl
    · skip
      refine vx_catch hown [] { startPc := 0, endPc := 10, handlerPc := 13, catchType := 20 } _ (by rw [htab]; rfl) (fun z h9 => absurd h9 List.not_mem_nil) (by decide) (by decide) hw0 (va_Nw.use rfl (hz.1.2.2.2.2.2.2.2.1 _ (List.mem_of_getElem? (i := 0) rfl))) hce hcv hcl ?_
      refine W.widen (k := 1) (n := 6) (by decide) (by decide) ?_
      refine lv_astore (lv' := [(4, .ref q9), (0, .ref (τ.1 0)), (1, .int x), (2, .int y), (3, .ref (τ.1 28))]) hx hb dL_sending_13 hl (by decide) rfl (fun ls hl => ?_)
      refine lv_iconst (v := nI 1) hx hb dL_sending_15 (by decide) ?_
      refine W.widen (k := 1) (n := 6) (by decide) (by decide) ?_
      refine vx_ret ?_
      exact W.iret (v := nI 1) hx hb hr (fun t9 ht9 hW9 => ⟨⟨nI 1, ol, rfl, Or.inr (Or.inl (⟨rfl, rfl, hX⟩)), zEnd1 hH ht9 hW9⟩, hS.F ht9⟩) hS.2.2 dL_sending_16
    · skip
      refine vx_catch hown [{ startPc := 0, endPc := 10, handlerPc := 13, catchType := 20 }] { startPc := 0, endPc := 10, handlerPc := 17, catchType := 41 } _ (by rw [htab]; rfl) (List.forall_mem_cons.mpr ⟨Or.inr ⟨by decide, "java/lang/IndexOutOfBoundsException", hw0, hnp _ (by decide) _ (by decide) (by decide)⟩, fun z h9 => absurd h9 List.not_mem_nil⟩) (by decide) (by decide) hw1 (va_Nw.use rfl (hz.1.2.2.2.2.2.2.2.1 _ (List.mem_of_getElem? (i := 3) rfl))) hce hcv hcl ?_
      refine W.widen (k := 1) (n := 6) (by decide) (by decide) ?_
      refine lv_astore (lv' := [(4, .ref q9), (0, .ref (τ.1 0)), (1, .int x), (2, .int y), (3, .ref (τ.1 28))]) hx hb dL_sending_17 hl (by decide) rfl (fun ls hl => ?_)
      refine lv_iconst (v := nI 2) hx hb dL_sending_19 (by decide) ?_
      refine W.widen (k := 1) (n := 6) (by decide) (by decide) ?_
      refine vx_ret ?_
      exact W.iret (v := nI 2) hx hb hr (fun t9 ht9 hW9 => ⟨⟨nI 2, ol, rfl, Or.inr (Or.inr (⟨rfl, rfl, hX⟩)), zEnd1 hH ht9 hW9⟩, hS.F ht9⟩) hS.2.2 dL_sending_20
  · skip
    have hH := zMv ht9 hvm9 hB
    generalize H1 = H at hH hS ⊢
    refine W.widen (k := 1) (n := 6) (by decide) (by decide) ?_
    have hcp := hw
    clear hw
    have hun := zFix.un hF h4
    refine lv_i2l hx hb dL_sending_8 rfl ?_
    refine lv_topl (fun v102 ev102 => ?_)
    refine zLast (D := D) hx hb hH hS (zk_28 hF) (hun) (zn_28 hF) dL_sending_9 (fun H locs hH hS => ?_)
    refine lv_goto (tgt := 21) hx hb dL_sending_10 (by decide) ?_
    refine lv_iconst (v := nI 0) hx hb dL_sending_21 (by decide) ?_
    refine W.widen (k := 1) (n := 6) (by decide) (by decide) ?_
    refine vx_ret ?_
    exact W.iret (v := nI 0) hx hb hr (fun t9 ht9 hW9 => ⟨⟨nI 0, v102, rfl, Or.inl (⟨r101, rfl, ev102, hcp⟩), zEnd1 hH ht9 hW9⟩, hS.F ht9⟩) hS.2.2 dL_sending_22
set_option maxHeartbeats 4000000 in
set_option maxRecDepth 100000 in
/-- the law's pick -/
theorem h_pick (l : Launch) (hl0 : l.stackTraces = false) (D : va_G) (A : Nat → Prop) (sad : Nat → Nat) (τ : zTy) (fi : zFi) (fr : zFr) (ol : Int64) (x : Int32) (hF : zFix τ fr) (n : Nat) (hT : zTh τ fi fr n) (p : Nat) (hP : zPk fi fr n p) (h4 : ∀ i, 100 ≤ i → τ.2.2.1 i ≠ 4) : vx_Met l yL_pick wsL_pick ({ frames := 8, cells := 1, slots := 6, locals := 125 }) (va_Pc [.ref (τ.1 0), .int x, .ref (τ.1 28)] (zQn D A sad τ fi fr ol)) (va_Qi (fun (r : Int32) (u : zFi × zFr × Int64) => (∃ rv : Int32, r = nI 0 ∧ u.2.2 = rv.toInt64 ∧ (∃ b, b < n ∧ x = nI b ∧ ((rv = -1 ∧ u.1 = fi ∧ u.2.1 = fr ∧ ((∃ j, j < p ∧ fr 23 j = some (300 + b)) ∨ p = 10)) ∨ (p < 10 ∧ (∀ j, j < p → ¬ fr 23 j = some (300 + b)) ∧ rv = nI (p + 1) ∧ u.1 = zu fi 22 1 (nI (p + 1)) ∧ u.2.1 = zur fr 23 p (some (300 + b)))))) ∨ (r = nI 1 ∧ u.1 = fi ∧ u.2.1 = fr ∧ u.2.2 = ol ∧ ("java/lang/IndexOutOfBoundsException" = "java/lang/IndexOutOfBoundsException" ∧ ¬ (0 ≤ x.toInt ∧ x.toInt < (n : Int))))) (fun (u : zFi × zFr × Int64) (t : State) => zH D A τ u.1 u.2.1 u.2.2 t t.heap) A) (vx_X (fun u : Unit => True) (fun (E : String) (u : Unit) (t : State) => (False) ∧ zH D A τ fi fr ol t t.heap) A) 1 6 A := by
  refine vx_ofWH (cc := cL_pick) (maxL := 4) (ret := (some .int)) (hh := [(0, 9, 12, 20)]) (by decide) rfl ?_
  intro p9 e9 s m args below meth c9 s₁ B hml hv
  obtain ⟨rfl, ⟨hz, hH, hA⟩, hnp⟩ := hv
  have hx := B.exec
  have hb := B.bytes
  have hr := B.returns
  have hts := atoms_spec (ws := wsL_pick) B.pre
  have hown : s.vm.findClass RL = some m.cls := findClass_of_methodNamed B.named
  have hlocks := B.notSynchronized
  have htab := vx_table (x := yL_pick) B (hts (.codeWith yL_pick cL_pick 4 (some .int) [(0, 9, 12, 20)]) List.mem_cons_self)
  have hS : va_S A s.heap s.heap [] := va_S.rf
  have hl := lv_entry ([.ref (τ.1 0), .int x, .ref (τ.1 28)]) (n := 4) (Nat.le_of_ble_eq_true rfl)
  rw [lg_entry_eq]
  generalize (lg_sl ([.ref (τ.1 0), .int x, .ref (τ.1 28)]) ++ List.replicate (4 - (lg_sl ([.ref (τ.1 0), .int x, .ref (τ.1 28)])).length) Slot.unset).toArray = ls at hl ⊢
  have hl : lv_has ls 4 [(0, .ref (τ.1 0)), (1, .int x), (2, .ref (τ.1 28))] := hl
  have hw0 := hts (.classLink RL 20 "java/lang/IndexOutOfBoundsException") (by decide +kernel)
  refine lv_aload_n hx hb dL_pick_0 rfl (lv_at hl 2 rfl) ?_
  refine lv_iconst (v := nI 0) hx hb dL_pick_1 (by decide) ?_
  refine lv_aload_n hx hb dL_pick_2 rfl (lv_at hl 0 rfl) ?_
  refine lv_iload_n hx hb dL_pick_3 rfl (lv_at hl 1 rfl) ?_
  refine vx_calli (vx_runV (As := [.int x]) (rest := [.int (nI 0), .ref (τ.1 28)]) ⟨hx, hb, hml, hown, hts⟩ (c_pick l hl0 D A sad τ fi fr ol x hF n hT p hP) (cwV 1 hts gL_pick_X11_pick rfl rfl rfl (by decide +kernel) ⟨Nat.le_of_ble_eq_true rfl, Nat.le_of_ble_eq_true rfl⟩) ⟨zQc_bl, zRecv hH (zk_0 hF) rfl, zQc_at hz hS hA hH⟩ rfl rfl hl.1 rfl (lv_room (Nat.le_of_ble_eq_true rfl)) dL_pick_4 ⟨Nat.le_of_ble_eq_true rfl, Nat.le_of_ble_eq_true rfl⟩) hS (fun q _ h => h) (fun q h => h) (fun q _ h => h) (fun E ce q9 u9 t9 H1 locs ht9 hvm9 hw hB hz1 hk1 hS hce hcv hcl => ?_) (fun r101 u9 t9 H1 locs ht9 hvm9 hw hB hz1 hk1 hS => ?_)
  · obtain ⟨hX, hB⟩ := hB
    have hH := zMv ht9 hvm9 hB
    generalize H1 = H at hH hS hce ⊢
    have hEx : E = "java/lang/IndexOutOfBoundsException" := hX.1
    rcases hEx with rfl
    · skip
      refine vx_catch hown [] { startPc := 0, endPc := 9, handlerPc := 12, catchType := 20 } _ (by rw [htab]; rfl) (fun z h9 => absurd h9 List.not_mem_nil) (by decide) (by decide) hw0 (va_Nw.use rfl (hz.1.2.2.2.2.2.2.2.1 _ (List.mem_of_getElem? (i := 0) rfl))) hce hcv hcl ?_
      refine W.widen (k := 1) (n := 6) (by decide) (by decide) ?_
      refine lv_astore_n (lv' := [(3, .ref q9), (0, .ref (τ.1 0)), (1, .int x), (2, .ref (τ.1 28))]) hx hb dL_pick_12 rfl hl (by decide) rfl (fun ls hl => ?_)
      refine lv_iconst (v := nI 1) hx hb dL_pick_13 (by decide) ?_
      refine W.widen (k := 1) (n := 6) (by decide) (by decide) ?_
      refine vx_ret ?_
      exact W.iret (v := nI 1) hx hb hr (fun t9 ht9 hW9 => ⟨⟨nI 1, (fi, fr, ol), rfl, (show (∃ rv : Int32, (nI 1) = nI 0 ∧ ol = rv.toInt64 ∧ (∃ b, b < n ∧ x = nI b ∧ ((rv = -1 ∧ fi = fi ∧ fr = fr ∧ ((∃ j, j < p ∧ fr 23 j = some (300 + b)) ∨ p = 10)) ∨ (p < 10 ∧ (∀ j, j < p → ¬ fr 23 j = some (300 + b)) ∧ rv = nI (p + 1) ∧ fi = zu fi 22 1 (nI (p + 1)) ∧ fr = zur fr 23 p (some (300 + b)))))) ∨ ((nI 1) = nI 1 ∧ fi = fi ∧ fr = fr ∧ ol = ol ∧ ("java/lang/IndexOutOfBoundsException" = "java/lang/IndexOutOfBoundsException" ∧ ¬ (0 ≤ x.toInt ∧ x.toInt < (n : Int)))) from Or.inr (⟨rfl, rfl, rfl, rfl, hX⟩)), zEnd1 hH ht9 hW9⟩, hS.F ht9⟩) hS.2.2 dL_pick_14
  · skip
    obtain ⟨f102, g103⟩ := u9
    have hH := zMv ht9 hvm9 hB
    clear hB
    simp only at hw hH
    generalize H1 = H at hH hS ⊢
    refine W.widen (k := 1) (n := 6) (by decide) (by decide) ?_
    have hcp := hw
    clear hw
    have hF5 : zFix τ g103 := by obtain ⟨b9, -, -, ⟨-, -, h9, -⟩ | ⟨-, -, -, -, h9⟩⟩ := hcp; (rw [h9]; exact hF); (rw [h9]; exact hF.ur (by omega))
    have hun := zFix.un hF5 h4
    refine lv_i2l hx hb dL_pick_7 rfl ?_
    refine lv_topl (fun v104 ev104 => ?_)
    refine zLast (D := D) hx hb hH hS (zk_28 hF5) (hun) (zn_28 hF5) dL_pick_8 (fun H locs hH hS => ?_)
    refine lv_goto (tgt := 15) hx hb dL_pick_9 (by decide) ?_
    refine lv_iconst (v := nI 0) hx hb dL_pick_15 (by decide) ?_
    refine W.widen (k := 1) (n := 6) (by decide) (by decide) ?_
    refine vx_ret ?_
    exact W.iret (v := nI 0) hx hb hr (fun t9 ht9 hW9 => ⟨⟨nI 0, (f102, g103, v104), rfl, (show (∃ rv : Int32, (nI 0) = nI 0 ∧ v104 = rv.toInt64 ∧ (∃ b, b < n ∧ x = nI b ∧ ((rv = -1 ∧ f102 = fi ∧ g103 = fr ∧ ((∃ j, j < p ∧ fr 23 j = some (300 + b)) ∨ p = 10)) ∨ (p < 10 ∧ (∀ j, j < p → ¬ fr 23 j = some (300 + b)) ∧ rv = nI (p + 1) ∧ f102 = zu fi 22 1 (nI (p + 1)) ∧ g103 = zur fr 23 p (some (300 + b)))))) ∨ ((nI 0) = nI 1 ∧ f102 = fi ∧ g103 = fr ∧ v104 = ol ∧ ("java/lang/IndexOutOfBoundsException" = "java/lang/IndexOutOfBoundsException" ∧ ¬ (0 ≤ x.toInt ∧ x.toInt < (n : Int)))) from Or.inl (⟨r101, rfl, ev104, hcp⟩)), zEnd1 hH ht9 hW9⟩, hS.F ht9⟩) hS.2.2 dL_pick_16
set_option maxHeartbeats 4000000 in
set_option maxRecDepth 100000 in
/-- the law's foretold -/
theorem h_foretold (l : Launch) (hl0 : l.stackTraces = false) (D : va_G) (A : Nat → Prop) (sad : Nat → Nat) (τ : zTy) (fi : zFi) (fr : zFr) (ol : Int64) (x y z w v : Int32) (hF : zFix τ fr) (n o : Nat) (hO : zOr τ fi fr n o) (hT : zTh τ fi fr n) (c : Nat) (hC : zCm fi fr n c) (h4 : ∀ i, 100 ≤ i → τ.2.2.1 i ≠ 4) : vx_Met l yL_foretold wsL_foretold ({ frames := 8, cells := 2, slots := 12, locals := 133 }) (va_Pc [.ref (τ.1 0), .int x, .int y, .int z, .int w, .int v, .ref (τ.1 28)] (zQn D A sad τ fi fr ol)) (va_Qi (fun (r : Int32) (u : Int64) => (∃ rv : Int32, r = nI 0 ∧ u = rv.toInt64 ∧ (True)) ∨ (r = nI 1 ∧ u = ol ∧ ("java/lang/IndexOutOfBoundsException" = "java/lang/IndexOutOfBoundsException" ∨ "java/lang/IndexOutOfBoundsException" = "java/lang/IllegalArgumentException" ∨ "java/lang/IndexOutOfBoundsException" = "java/util/NoSuchElementException")) ∨ (r = nI 2 ∧ u = ol ∧ ("java/lang/IllegalArgumentException" = "java/lang/IndexOutOfBoundsException" ∨ "java/lang/IllegalArgumentException" = "java/lang/IllegalArgumentException" ∨ "java/lang/IllegalArgumentException" = "java/util/NoSuchElementException")) ∨ (r = nI 3 ∧ u = ol ∧ ("java/util/NoSuchElementException" = "java/lang/IndexOutOfBoundsException" ∨ "java/util/NoSuchElementException" = "java/lang/IllegalArgumentException" ∨ "java/util/NoSuchElementException" = "java/util/NoSuchElementException"))) (fun (u : Int64) (t : State) => zH D A τ fi fr u t t.heap) A) (vx_X (fun u : Unit => True) (fun (E : String) (u : Unit) (t : State) => (False) ∧ zH D A τ fi fr ol t t.heap) A) 2 12 A := by
  refine vx_ofWH (cc := cL_foretold) (maxL := 8) (ret := (some .int)) (hh := [(0, 16, 19, 20), (0, 16, 23, 13), (0, 16, 27, 41)]) (by decide) rfl ?_
  intro p9 e9 s m args below meth c9 s₁ B hml hv
  obtain ⟨rfl, ⟨hz, hH, hA⟩, hnp⟩ := hv
  have hx := B.exec
  have hb := B.bytes
  have hr := B.returns
  have hts := atoms_spec (ws := wsL_foretold) B.pre
  have hown : s.vm.findClass RL = some m.cls := findClass_of_methodNamed B.named
  have hlocks := B.notSynchronized
  have htab := vx_table (x := yL_foretold) B (hts (.codeWith yL_foretold cL_foretold 8 (some .int) [(0, 16, 19, 20), (0, 16, 23, 13), (0, 16, 27, 41)]) List.mem_cons_self)
  have hS : va_S A s.heap s.heap [] := va_S.rf
  have hl := lv_entry ([.ref (τ.1 0), .int x, .int y, .int z, .int w, .int v, .ref (τ.1 28)]) (n := 8) (Nat.le_of_ble_eq_true rfl)
  rw [lg_entry_eq]
  generalize (lg_sl ([.ref (τ.1 0), .int x, .int y, .int z, .int w, .int v, .ref (τ.1 28)]) ++ List.replicate (8 - (lg_sl ([.ref (τ.1 0), .int x, .int y, .int z, .int w, .int v, .ref (τ.1 28)])).length) Slot.unset).toArray = ls at hl ⊢
  have hl : lv_has ls 8 [(0, .ref (τ.1 0)), (1, .int x), (2, .int y), (3, .int z), (4, .int w), (5, .int v), (6, .ref (τ.1 28))] := hl
  have hw0 := hts (.classLink RL 20 "java/lang/IndexOutOfBoundsException") (by decide +kernel)
  have hw1 := hts (.classLink RL 13 "java/lang/IllegalArgumentException") (by decide +kernel)
  have hw2 := hts (.classLink RL 41 "java/util/NoSuchElementException") (by decide +kernel)
  refine lv_aload hx hb dL_foretold_0 (lv_at hl 6 rfl) ?_
  refine lv_iconst (v := nI 0) hx hb dL_foretold_2 (by decide) ?_
  refine lv_aload_n hx hb dL_foretold_3 rfl (lv_at hl 0 rfl) ?_
  refine lv_iload_n hx hb dL_foretold_4 rfl (lv_at hl 1 rfl) ?_
  refine lv_iload_n hx hb dL_foretold_5 rfl (lv_at hl 2 rfl) ?_
  refine lv_iload_n hx hb dL_foretold_6 rfl (lv_at hl 3 rfl) ?_
  refine lv_iload hx hb dL_foretold_7 (lv_at hl 4 rfl) ?_
  refine lv_iload hx hb dL_foretold_9 (lv_at hl 5 rfl) ?_
  refine vx_calli (vx_runV (As := [.int x, .int y, .int z, .int w, .int v]) (rest := [.int (nI 0), .ref (τ.1 28)]) ⟨hx, hb, hml, hown, hts⟩ (c_foretold l hl0 D A sad τ fi fr ol x y z w v hF n o hO hT c hC) (cwV 5 hts gL_foretold_X11_foretold rfl rfl rfl (by decide +kernel) ⟨Nat.le_of_ble_eq_true rfl, Nat.le_of_ble_eq_true rfl⟩) ⟨zQc_bl, zRecv hH (zk_0 hF) rfl, zQc_at hz hS hA hH⟩ rfl rfl hl.1 rfl (lv_room (Nat.le_of_ble_eq_true rfl)) dL_foretold_11 ⟨Nat.le_of_ble_eq_true rfl, Nat.le_of_ble_eq_true rfl⟩) hS (fun q _ h => h) (fun q h => h) (fun q _ h => h) (fun E ce q9 u9 t9 H1 locs ht9 hvm9 hw hB hz1 hk1 hS hce hcv hcl => ?_) (fun r101 u9 t9 H1 locs ht9 hvm9 hw hB hz1 hk1 hS => ?_)
  · obtain ⟨hX, hB⟩ := hB
    have hH := zMv ht9 hvm9 hB
    generalize H1 = H at hH hS hce ⊢
    have hEx : E = "java/lang/IndexOutOfBoundsException" ∨ E = "java/lang/IllegalArgumentException" ∨ E = "java/util/NoSuchElementException" := hX
    rcases hEx with rfl | rfl | rfl
    · skip
      refine vx_catch hown [] { startPc := 0, endPc := 16, handlerPc := 19, catchType := 20 } _ (by rw [htab]; rfl) (fun z h9 => absurd h9 List.not_mem_nil) (by decide) (by decide) hw0 (va_Nw.use rfl (hz.1.2.2.2.2.2.2.2.1 _ (List.mem_of_getElem? (i := 0) rfl))) hce hcv hcl ?_
      refine W.widen (k := 2) (n := 12) (by decide) (by decide) ?_
      refine lv_astore (lv' := [(7, .ref q9), (0, .ref (τ.1 0)), (1, .int x), (2, .int y), (3, .int z), (4, .int w), (5, .int v), (6, .ref (τ.1 28))]) hx hb dL_foretold_19 hl (by decide) rfl (fun ls hl => ?_)
      refine lv_iconst (v := nI 1) hx hb dL_foretold_21 (by decide) ?_
      refine W.widen (k := 2) (n := 12) (by decide) (by decide) ?_
      refine vx_ret ?_
      exact W.iret (v := nI 1) hx hb hr (fun t9 ht9 hW9 => ⟨⟨nI 1, ol, rfl, Or.inr (Or.inl (⟨rfl, rfl, hX⟩)), zEnd1 hH ht9 hW9⟩, hS.F ht9⟩) hS.2.2 dL_foretold_22
    · skip
      refine vx_catch hown [{ startPc := 0, endPc := 16, handlerPc := 19, catchType := 20 }] { startPc := 0, endPc := 16, handlerPc := 23, catchType := 13 } _ (by rw [htab]; rfl) (List.forall_mem_cons.mpr ⟨Or.inr ⟨by decide, "java/lang/IndexOutOfBoundsException", hw0, hnp _ (by decide) _ (by decide) (by decide)⟩, fun z h9 => absurd h9 List.not_mem_nil⟩) (by decide) (by decide) hw1 (va_Nw.use rfl (hz.1.2.2.2.2.2.2.2.1 _ (List.mem_of_getElem? (i := 1) rfl))) hce hcv hcl ?_
      refine W.widen (k := 2) (n := 12) (by decide) (by decide) ?_
      refine lv_astore (lv' := [(7, .ref q9), (0, .ref (τ.1 0)), (1, .int x), (2, .int y), (3, .int z), (4, .int w), (5, .int v), (6, .ref (τ.1 28))]) hx hb dL_foretold_23 hl (by decide) rfl (fun ls hl => ?_)
      refine lv_iconst (v := nI 2) hx hb dL_foretold_25 (by decide) ?_
      refine W.widen (k := 2) (n := 12) (by decide) (by decide) ?_
      refine vx_ret ?_
      exact W.iret (v := nI 2) hx hb hr (fun t9 ht9 hW9 => ⟨⟨nI 2, ol, rfl, Or.inr (Or.inr (Or.inl (⟨rfl, rfl, hX⟩))), zEnd1 hH ht9 hW9⟩, hS.F ht9⟩) hS.2.2 dL_foretold_26
    · skip
      refine vx_catch hown [{ startPc := 0, endPc := 16, handlerPc := 19, catchType := 20 }, { startPc := 0, endPc := 16, handlerPc := 23, catchType := 13 }] { startPc := 0, endPc := 16, handlerPc := 27, catchType := 41 } _ (by rw [htab]; rfl) (List.forall_mem_cons.mpr ⟨Or.inr ⟨by decide, "java/lang/IndexOutOfBoundsException", hw0, hnp _ (by decide) _ (by decide) (by decide)⟩, List.forall_mem_cons.mpr ⟨Or.inr ⟨by decide, "java/lang/IllegalArgumentException", hw1, hnp _ (by decide) _ (by decide) (by decide)⟩, fun z h9 => absurd h9 List.not_mem_nil⟩⟩) (by decide) (by decide) hw2 (va_Nw.use rfl (hz.1.2.2.2.2.2.2.2.1 _ (List.mem_of_getElem? (i := 3) rfl))) hce hcv hcl ?_
      refine W.widen (k := 2) (n := 12) (by decide) (by decide) ?_
      refine lv_astore (lv' := [(7, .ref q9), (0, .ref (τ.1 0)), (1, .int x), (2, .int y), (3, .int z), (4, .int w), (5, .int v), (6, .ref (τ.1 28))]) hx hb dL_foretold_27 hl (by decide) rfl (fun ls hl => ?_)
      refine lv_iconst (v := nI 3) hx hb dL_foretold_29 (by decide) ?_
      refine W.widen (k := 2) (n := 12) (by decide) (by decide) ?_
      refine vx_ret ?_
      exact W.iret (v := nI 3) hx hb hr (fun t9 ht9 hW9 => ⟨⟨nI 3, ol, rfl, Or.inr (Or.inr (Or.inr (⟨rfl, rfl, hX⟩))), zEnd1 hH ht9 hW9⟩, hS.F ht9⟩) hS.2.2 dL_foretold_30
  · skip
    have hH := zMv ht9 hvm9 hB
    generalize H1 = H at hH hS ⊢
    refine W.widen (k := 2) (n := 12) (by decide) (by decide) ?_
    have hcp := hw
    clear hw
    have hun := zFix.un hF h4
    refine lv_i2l hx hb dL_foretold_14 rfl ?_
    refine lv_topl (fun v102 ev102 => ?_)
    refine zLast (D := D) hx hb hH hS (zk_28 hF) (hun) (zn_28 hF) dL_foretold_15 (fun H locs hH hS => ?_)
    refine lv_goto (tgt := 31) hx hb dL_foretold_16 (by decide) ?_
    refine lv_iconst (v := nI 0) hx hb dL_foretold_31 (by decide) ?_
    refine W.widen (k := 2) (n := 12) (by decide) (by decide) ?_
    refine vx_ret ?_
    exact W.iret (v := nI 0) hx hb hr (fun t9 ht9 hW9 => ⟨⟨nI 0, v102, rfl, Or.inl (⟨r101, rfl, ev102, hcp⟩), zEnd1 hH ht9 hW9⟩, hS.F ht9⟩) hS.2.2 dL_foretold_32
