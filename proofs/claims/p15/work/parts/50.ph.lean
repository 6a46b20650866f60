/-! ===== THE DAYS: how much the heap grew is told ===== -/
def zGrow (hp H : Heap) (k n : Nat) : Prop := H.size ≤ hp.size + k ∧ ((H.toList.drop hp.size).map (·.slots.size)).sum ≤ n ∧ hp.size ≤ H.size ∧ ∀ (a : Nat) (x : Cell), hp[a]? = some x → ∃ y : Cell, H[a]? = some y ∧ y.slots.size = x.slots.size
theorem zGrow.of {s : State} {H : Heap} {k n j m : Nat} (h : zRoom s H k n) (hs : ∀ (a : Nat) (x : Cell), s.heap[a]? = some x → ∃ y : Cell, H[a]? = some y ∧ y.slots.size = x.slots.size) (hk : k ≤ j) (hn : n ≤ m) : zGrow s.heap H j m := by
  refine ⟨Nat.le_trans h.1 (by omega), Nat.le_trans h.2 hn, ?_, hs⟩
  by_cases h0 : s.heap.size = 0
  · omega
  · obtain ⟨y, hy, -⟩ := hs (s.heap.size - 1) s.heap[s.heap.size - 1] (Array.getElem?_eq_getElem (by omega))
    have := (Array.getElem?_eq_some_iff.mp hy).1
    omega
theorem zGrow.rm {s : State} {H : Heap} {k n : Nat} (h : zGrow s.heap H k n) : zRoom s H k n := ⟨h.1, h.2.1⟩
theorem zGrow.tr {a b c : Heap} {k n j m : Nat} (h : zGrow a b k n) (h2 : zGrow b c j m) : zGrow a c (k + j) (n + m) := by
  obtain ⟨h1, h3, h4, h5⟩ := h
  obtain ⟨g1, g3, g4, g5⟩ := h2
  refine ⟨by omega, ?_, by omega, fun i x hx => ?_⟩
  · have e : (c.toList.take b.size).map (·.slots.size) = b.toList.map (·.slots.size) := by
      apply List.ext_getElem?
      intro i
      rw [List.getElem?_map, List.getElem?_map, show b.toList[i]? = b[i]? from by simp]
      cases hx : b[i]? with
      | none =>
        have h6 : b.size ≤ i := Array.getElem?_eq_none_iff.mp hx
        rw [List.getElem?_eq_none (show (c.toList.take b.size).length ≤ i by rw [List.length_take]; omega)]
      | some x =>
        obtain ⟨y, q1, q2⟩ := g5 i x hx
        have h6 : i < b.size := (Array.getElem?_eq_some_iff.mp hx).1
        rw [List.getElem?_take_of_lt h6, show c.toList[i]? = c[i]? from by simp, q1]
        simp [q2]
    have e2 : (c.toList.drop a.size).map (·.slots.size) = (b.toList.drop a.size).map (·.slots.size) ++ (c.toList.drop b.size).map (·.slots.size) := by
      have e3 : c.toList.map (·.slots.size) = b.toList.map (·.slots.size) ++ (c.toList.drop b.size).map (·.slots.size) := by
        rw [← e, ← List.map_append, List.take_append_drop]
      rw [List.map_drop, e3, List.drop_append_of_le_length (by simp; omega), ← List.map_drop]
    rw [e2, List.sum_append]
    omega
  · obtain ⟨y, q1, q2⟩ := h5 i x hx
    obtain ⟨z, q3, q4⟩ := g5 i y q1
    exact ⟨z, q3, by rw [q4, q2]⟩
def zQg (hp : Heap) (D : va_G) (A : Nat → Prop) (sad : Nat → Nat) (τ : zTy) (fi : zFi) (fr : zFr) (ol : Int64) (U : State) : Prop := zQc D A sad τ fi fr ol U ∧ U.heap = hp
theorem zQg_bl {hp : Heap} {D : va_G} {A : Nat → Prop} {sad : Nat → Nat} {τ : zTy} {fi : zFi} {fr : zFr} {ol : Int64} {av : List Value} : FrameBlind (va_Pc av (zQg hp D A sad τ fi fr ol)) := fun a U g mk q => by
  have h := zQc_bl (D := D) (A := A) (sad := sad) (τ := τ) (fi := fi) (fr := fr) (ol := ol) (av := av) a U g mk ⟨q.1, q.2.1⟩
  exact ⟨h.1, h.2, q.2.2⟩
theorem zQg_at {D : va_G} {A : Nat → Prop} {sad : Nat → Nat} {τ : zTy} {fi : zFi} {fr : zFr} {ol : Int64} {s : State} {H : Heap} {locs : List Loc} {av : List Value} (hz : zG2 A sad s s.heap) (hS : va_S A s.heap H locs) (hA : ∀ q, s.heap.size ≤ q → A q) (hH : zH D A τ fi fr ol s H) :
    ∀ U : State, U.heap = H → s.WarmedH U.vm → va_Pc av (zQg H D A sad τ fi fr ol) av.toArray U := fun U hU hW => by
  have h := zQc_at (av := av) hz hS hA hH U hU hW
  exact ⟨h.1, h.2, hU⟩
/-- what serving alters -/
def zSv (n : Nat) (fi : zFi) (fr : zFr) (fi' : zFi) (fr' : zFr) : Prop :=
  (∀ i k, ¬ ((300 ≤ i ∧ i < 330 ∧ k = 5) ∨ (1000 ≤ i ∧ i < 1480 ∧ 3 ≤ k) ∨ i = 19 ∨ i = 20 ∨ i = 21 ∨ (i = 18 ∧ 3 ≤ k) ∨ (500 ≤ i ∧ i < 560 ∧ k = 4)) → fi' i k = fi i k) ∧
  (∀ i k, ¬ (1000 ≤ i ∧ i < 1480 ∧ k = 9) → fr' i k = fr i k) ∧ ∀ i, 1000 ≤ i → i < 1480 → fr' i 9 = fr i 9 ∨ ∃ t, t < n ∧ fr' i 9 = some (300 + t)
theorem zSv.rf {n : Nat} {fi : zFi} {fr : zFr} : zSv n fi fr fi fr := ⟨fun _ _ _ => rfl, fun _ _ _ => rfl, fun _ _ _ => Or.inl rfl⟩
theorem zSv.tr {n : Nat} {a b c : zFi} {x y z : zFr} (h : zSv n a x b y) (g : zSv n b y c z) : zSv n a x c z := by
  refine ⟨fun i k q => by rw [g.1 i k q]; exact h.1 i k q, fun i k q => by rw [g.2.1 i k q]; exact h.2.1 i k q, fun i p q => ?_⟩
  rcases g.2.2 i p q with r | r
  · rw [r]; exact h.2.2 i p q
  · exact Or.inr r
theorem zTh.sv {τ : zTy} {fi fi' : zFi} {fr fr' : zFr} {n m : Nat} (h : zTh τ fi fr n) (g : zSv m fi fr fi' fr') : zTh τ fi' fr' n := h.cg (fun i k q => g.1 i k (by omega)) (fun i k q => g.2.1 i k (by omega)) (fun _ _ _ => ⟨rfl, rfl⟩)
theorem zOr.sv {τ : zTy} {fi fi' : zFi} {fr fr' : zFr} {n o : Nat} (h : zOr τ fi fr n o) (g : zSv n fi fr fi' fr') : zOr τ fi' fr' n o := by
  obtain ⟨h1, h2, h3, h4⟩ := h
  refine ⟨h1, by rw [g.1 0 11 (by omega)]; exact h2, fun k q => ?_, h4⟩
  obtain ⟨a, ⟨b1, b2⟩, w, c1, c2, c3⟩ := h3 k q
  refine ⟨a, ⟨by rw [g.2.1 _ _ (by omega)]; exact b1, by rw [g.2.1 _ _ (by omega)]; exact b2⟩, w, c1, by rw [g.1 _ _ (by omega)]; exact c2, fun j q2 => ?_⟩
  obtain ⟨d1, d2, ⟨t, d3, d4⟩, d5⟩ := c3 j q2
  refine ⟨d1, by rw [g.2.1 _ _ (by omega)]; exact d2, ⟨t, d3, by rw [g.2.1 _ _ (by omega)]; exact d4⟩, ?_⟩
  rcases g.2.2 (1000 + 8 * k + j) (by omega) (by omega) with r | r
  · rw [r]; exact d5
  · exact Or.inr r
theorem zFix.fr {τ : zTy} {fr fr' : zFr} (h : zFix τ fr) (g : ∀ i k, i < 100 → i ≠ 6 → i ≠ 17 → fr' i k = fr i k) : zFix τ fr' := by
  refine ⟨h.1, h.2.1, fun q hq => ?_⟩
  have := zFR_a q hq
  rw [g _ _ (by omega) (by omega) (by omega)]
  exact h.2.2 q hq
theorem zFix.sv {τ : zTy} {fi fi' : zFi} {fr fr' : zFr} {n : Nat} (h : zFix τ fr) (g : zSv n fi fr fi' fr') : zFix τ fr' := h.fr (fun i k q _ _ => g.2.1 i k (by omega))
set_option maxHeartbeats 4000000 in
set_option maxRecDepth 100000 in
/-- ship -/
theorem c_ship (l : Launch) (hl0 : l.stackTraces = false) (D : va_G) (A : Nat → Prop) (sad : Nat → Nat) (τ : zTy) (fi : zFi) (fr : zFr) (ol : Int64) (hF : zFix τ fr) (n : Nat) (hT : zTh τ fi fr n) (w t : Nat) (hwk : τ.2.2.1 w = 26) (hwb : 1000 ≤ w ∧ w < 1480) (ht : t < n) (kk : Nat) (hkk : kk ≤ 16) (hk3 : fi 18 3 = nI kk) (x : Int32) : Met l yX11_ship wsX11_ship ({ frames := 1, cells := 0, slots := 0, locals := 23 }) (va_Pc [.ref (τ.1 0), .ref (τ.1 w), .ref (τ.1 (300 + t)), .int x] (zQc D A sad τ fi fr ol)) (va_Qv (fun (u : zFi) => zSv n fi fr u fr ∧ ∃ k, k ≤ 16 ∧ u 18 3 = nI k) (fun (u : zFi) (t : State) => zH D A τ u fr ol t t.heap) A) 0 0 A := by
  refine Met.ofW (cc := cX11_ship) (maxL := 4) (ret := none) (by decide) rfl ?_
  intro p9 e9 s m args below meth c9 s₁ B hml hv
  obtain ⟨rfl, hz, hH, hA⟩ := hv
  have hx := B.exec
  have hb := B.bytes
  have hr := B.returns
  have hts := atoms_spec (ws := wsX11_ship) B.pre
  have hown : s.vm.findClass RX11 = some m.cls := findClass_of_methodNamed B.named
  have hlocks := B.notSynchronized
  have hS : va_S A s.heap s.heap [] := va_S.rf
  have hl := lv_entry ([.ref (τ.1 0), .ref (τ.1 w), .ref (τ.1 (300 + t)), .int x]) (n := 4) (Nat.le_of_ble_eq_true rfl)
  rw [lg_entry_eq]
  generalize (lg_sl ([.ref (τ.1 0), .ref (τ.1 w), .ref (τ.1 (300 + t)), .int x]) ++ List.replicate (4 - (lg_sl ([.ref (τ.1 0), .ref (τ.1 w), .ref (τ.1 (300 + t)), .int x])).length) Slot.unset).toArray = ls at hl ⊢
  have hl : lv_has ls 4 [(0, .ref (τ.1 0)), (1, .ref (τ.1 w)), (2, .ref (τ.1 (300 + t))), (3, .int x)] := hl
  have hn30 := hT.1
  have hiX8 : ∀ w ∈ u_ws RX8 TX8 10, w ∈ wsX11_ship := fun _ h => List.mem_cons_of_mem _ (List.mem_append_left _ (List.mem_append_left _ (List.mem_append_left _ (List.mem_append_right _ h))))
  have hw1 := hts (.fieldLink RX11 147 "PostHouse$Thing" "stock" "I") (by decide +kernel)
  have hiX11 : ∀ w ∈ u_ws RX11 TX11 16, w ∈ wsX11_ship := fun _ h => List.mem_cons_of_mem _ (List.mem_append_left _ (List.mem_append_left _ (List.mem_append_right _ h)))
  have hw3 := hts (.fieldLink RX11 136 "PostHouse" "today" "I") (by decide +kernel)
  have hw4 := hts (.fieldLink RX11 303 "PostHouse$Want" "cameLast" "I") (by decide +kernel)
  have hiX10 : ∀ w ∈ u_ws RX10 TX10 10, w ∈ wsX11_ship := fun _ h => List.mem_cons_of_mem _ (List.mem_append_left _ (List.mem_append_right _ h))
  have hw6 := hts (.fieldLink RX11 61 "PostHouse" "packing" "LPostHouse$Packing;") (by decide +kernel)
  have hw7 := hts (.fieldLink RX11 530 "PostHouse$Thing" "weight" "I") (by decide +kernel)
  refine lv_aload_n hx hb dX11_ship_0 rfl (lv_at hl 2 rfl) ?_
  refine lv_dup hx hb dX11_ship_1 rfl ?_
  refine zGetI (D := D) (ci := 8) (C := RX8) (T := TX8) (N := 10) hx hb hts hiX8 hown hH (hT.2.2.1 t (by omega)).1.1 rfl 5 (by decide) rfl hw1 (fun _ h9 => h9) dX11_ship_2 rfl ?_
  refine lv_iload_n hx hb dX11_ship_5 rfl (lv_at hl 3 rfl) ?_
  refine lv_isub hx hb dX11_ship_6 ?_
  refine lv_topi (fun v101 ev101 => ?_)
  refine zPutI (D := D) (ci := 8) (ty := .int) (C := RX8) (T := TX8) (N := 10) hx hb hts hiX8 tyX8 tyX8_ok nmX8 hown hH hS (hT.2.2.1 t (by omega)).1.1 rfl 5 (by decide) rfl hw1 (fun _ h9 => h9) rfl (by decide +kernel) rfl rfl dX11_ship_7 (fun H locs hH hS => ?_)
  obtain ⟨f102, ef102⟩ : ∃ f9 : zFi, f9 = zu fi (300 + t) 5 v101 := ⟨_, rfl⟩
  rw [← ef102] at hH
  have q103 : f102 18 3 = nI kk := by rw [ef102, zu_n (fun h9 => by omega)]; exact hk3
  have q104 : f102 (300 + t) 5 = v101 := by rw [ef102]; exact zu_s
  refine lv_aload_n hx hb dX11_ship_10 rfl (lv_at hl 1 rfl) ?_
  refine lv_aload_n hx hb dX11_ship_11 rfl (lv_at hl 0 rfl) ?_
  refine zGetI (D := D) (ci := 11) (C := RX11) (T := TX11) (N := 16) hx hb hts hiX11 hown hH (zk_0 hF) rfl 15 (by decide) rfl hw3 (fun _ h9 => h9) dX11_ship_12 rfl ?_
  refine zPutI (D := D) (ci := 10) (ty := .int) (C := RX10) (T := TX10) (N := 10) hx hb hts hiX10 tyX10 tyX10_ok nmX10 hown hH hS hwk rfl 8 (by decide) rfl hw4 (fun _ h9 => h9) rfl (by decide +kernel) rfl rfl dX11_ship_15 (fun H locs hH hS => ?_)
  obtain ⟨f105, ef105⟩ : ∃ f9 : zFi, f9 = zu f102 w 8 (f102 0 15) := ⟨_, rfl⟩
  rw [← ef105] at hH
  have q106 : f105 18 3 = nI kk := by rw [ef105, zu_n (fun h9 => by omega)]; exact q103
  have q107 : f105 (300 + t) 5 = v101 := by rw [ef105, zu_n (fun h9 => by omega)]; exact q104
  have q108 : f105 w 8 = f102 0 15 := by rw [ef105]; exact zu_s
  refine lv_aload_n hx hb dX11_ship_18 rfl (lv_at hl 0 rfl) ?_
  refine zGetR (D := D) (ci := 11) (C := RX11) (T := TX11) (N := 16) hx hb hts hiX11 hown hH (zk_0 hF) rfl 8 (by decide) rfl hw6 (fun _ h9 => h9) dX11_ship_19 (zr_0_8 hF) ?_
  refine lv_aload_n hx hb dX11_ship_22 rfl (lv_at hl 2 rfl) ?_
  refine zGetI (D := D) (ci := 8) (C := RX8) (T := TX8) (N := 10) hx hb hts hiX8 hown hH (hT.2.2.1 t (by omega)).1.1 rfl 2 (by decide) rfl hw7 (fun _ h9 => h9) dX11_ship_23 rfl ?_
  refine lv_iload_n hx hb dX11_ship_26 rfl (lv_at hl 3 rfl) ?_
  refine va_callv (va_runV (As := [.int (f105 (300 + t) 2), .int x]) (rest := []) ⟨hx, hb, hml, hown, hts⟩ (c_padd l hl0 D A sad τ f105 fr ol hF kk (by omega) q106 (f105 (300 + t) 2) x) (cwV 2 hts gX11_ship_X4_add rfl rfl rfl (by decide +kernel) ⟨Nat.le_of_ble_eq_true rfl, Nat.le_of_ble_eq_true rfl⟩) ⟨zQc_bl, zRecv hH (zk_18 hF) rfl, zQc_at hz hS hA hH⟩ rfl rfl hl.1 rfl (lv_room (Nat.le_of_ble_eq_true rfl)) dX11_ship_27 ⟨Nat.le_of_ble_eq_true rfl, Nat.le_of_ble_eq_true rfl⟩) hS (fun q _ h => h) (fun q h => h) (fun u9 t9 H1 locs ht9 hvm9 hw hB hz1 hk1 hS => ?_)
  have hH := zMv ht9 hvm9 hB
  clear hB
  generalize u9 = f110 at hw hH
  generalize H1 = H at hH hS ⊢
  obtain ⟨hf111, k112, hk113, q114⟩ := hw
  have q115 : f110 (300 + t) 5 = v101 := by rw [hf111 (300 + t) 5 (by omega)]; exact q107
  have q116 : f110 w 8 = f102 0 15 := by rw [hf111 w 8 (by omega)]; exact q108
  refine W.widen (k := 0) (n := 0) (by decide) (by decide) ?_
  exact W.vret hx hb hr (fun t9 ht9 hW9 => ⟨⟨f110, rfl, ⟨⟨fun a b h => by rw [hf111 a b (by omega), ef105, zu_n (by omega), ef102, zu_n (by omega)], fun _ _ _ => rfl, fun _ _ _ => Or.inl rfl⟩, ⟨k112, by omega, q114⟩⟩, zEnd1 hH ht9 hW9⟩, hS.F ht9⟩) hS.2.2 dX11_ship_30
set_option maxHeartbeats 4000000 in
set_option maxRecDepth 100000 in
/-- placeOrCancel -/
theorem c_placeOr (l : Launch) (hl0 : l.stackTraces = false) (D : va_G) (A : Nat → Prop) (sad : Nat → Nat) (τ : zTy) (fi : zFi) (fr : zFr) (ol : Int64) (hF : zFix τ fr) (n : Nat) (hT : zTh τ fi fr n) (q : Nat) (hqk : τ.2.2.1 (500 + q) = 19) (hq6 : q < 60) (w t : Nat) (hwk : τ.2.2.1 w = 26) (hwb : 1000 ≤ w ∧ w < 1480) (ht : t < n) (hw0 : fr w 0 = some (300 + t)) (kk : Nat) (hkk : kk ≤ 16) (hk3 : fi 18 3 = nI kk) : Met l yX11_placeOrCancel wsX11_placeOrCancel ({ frames := 2, cells := 0, slots := 0, locals := 46 }) (va_Pc [.ref (τ.1 0), .ref (τ.1 (500 + q)), .ref (τ.1 w)] (zQc D A sad τ fi fr ol)) (va_Qv (fun (u : zFi × zFr) => zSv n fi fr u.1 u.2 ∧ ∃ k, k ≤ 16 ∧ u.1 18 3 = nI k) (fun (u : zFi × zFr) (t : State) => zH D A τ u.1 u.2 ol t t.heap) A) 0 0 A := by
  refine Met.ofW (cc := cX11_placeOrCancel) (maxL := 5) (ret := none) (by decide) rfl ?_
  intro p9 e9 s m args below meth c9 s₁ B hml hv
  obtain ⟨rfl, hz, hH, hA⟩ := hv
  have hx := B.exec
  have hb := B.bytes
  have hr := B.returns
  have hts := atoms_spec (ws := wsX11_placeOrCancel) B.pre
  have hown : s.vm.findClass RX11 = some m.cls := findClass_of_methodNamed B.named
  have hlocks := B.notSynchronized
  have hS : va_S A s.heap s.heap [] := va_S.rf
  have hl := lv_entry ([.ref (τ.1 0), .ref (τ.1 (500 + q)), .ref (τ.1 w)]) (n := 5) (Nat.le_of_ble_eq_true rfl)
  rw [lg_entry_eq]
  generalize (lg_sl ([.ref (τ.1 0), .ref (τ.1 (500 + q)), .ref (τ.1 w)]) ++ List.replicate (5 - (lg_sl ([.ref (τ.1 0), .ref (τ.1 (500 + q)), .ref (τ.1 w)])).length) Slot.unset).toArray = ls at hl ⊢
  have hl : lv_has ls 5 [(0, .ref (τ.1 0)), (1, .ref (τ.1 (500 + q))), (2, .ref (τ.1 w))] := hl
  have hn30 := hT.1
  have hiX11 : ∀ w ∈ u_ws RX11 TX11 16, w ∈ wsX11_placeOrCancel := fun _ h => List.mem_cons_of_mem _ (List.mem_append_left _ (List.mem_append_left _ (List.mem_append_left _ (List.mem_append_left _ (List.mem_append_left _ (List.mem_append_left _ (List.mem_append_right _ h)))))))
  have hw1 := hts (.fieldLink RX11 19 "PostHouse" "book" "LPostHouse$Book;") (by decide +kernel)
  have hw2 := hts (.fieldLink RX11 33 "PostHouse" "rules" "LPostHouse$Rules;") (by decide +kernel)
  have hiX5 : ∀ w ∈ u_ws RX5 TX5 2, w ∈ wsX11_placeOrCancel := fun _ h => List.mem_cons_of_mem _ (List.mem_append_left _ (List.mem_append_left _ (List.mem_append_left _ (List.mem_append_left _ (List.mem_append_left _ (List.mem_append_right _ h))))))
  have hw4 := hts (.fieldLink RX11 178 "PostHouse$Rules" "places" "[I") (by decide +kernel)
  have hiX10 : ∀ w ∈ u_ws RX10 TX10 10, w ∈ wsX11_placeOrCancel := fun _ h => List.mem_cons_of_mem _ (List.mem_append_left _ (List.mem_append_left _ (List.mem_append_left _ (List.mem_append_left _ (List.mem_append_right _ h)))))
  have hw6 := hts (.fieldLink RX11 276 "PostHouse$Want" "thing" "LPostHouse$Thing;") (by decide +kernel)
  have hiX8 : ∀ w ∈ u_ws RX8 TX8 10, w ∈ wsX11_placeOrCancel := fun _ h => List.mem_cons_of_mem _ (List.mem_append_left _ (List.mem_append_left _ (List.mem_append_left _ (List.mem_append_right _ h))))
  have hw8 := hts (.fieldLink RX11 181 "PostHouse$Thing" "number" "I") (by decide +kernel)
  have hw9 := hts (.fieldLink RX11 147 "PostHouse$Thing" "stock" "I") (by decide +kernel)
  have hw10 := hts (.fieldLink RX11 294 "PostHouse$Want" "cancelled" "I") (by decide +kernel)
  have hiX3 : ∀ w ∈ u_ws RX3 TX3 6, w ∈ wsX11_placeOrCancel := fun _ h => List.mem_cons_of_mem _ (List.mem_append_left _ (List.mem_append_left _ (List.mem_append_right _ h)))
  have hw12 := hts (.fieldLink RX11 261 "PostHouse$Order" "credit" "I") (by decide +kernel)
  have hw13 := hts (.fieldLink RX11 285 "PostHouse$Want" "price" "I") (by decide +kernel)
  have hw14 := hts (.fieldLink RX11 291 "PostHouse$Want" "placed" "I") (by decide +kernel)
  have hw15 := hts (.fieldLink RX11 306 "PostHouse$Want" "other" "LPostHouse$Thing;") (by decide +kernel)
  refine lv_aload_n hx hb dX11_placeOrCancel_0 rfl (lv_at hl 2 rfl) ?_
  refine va_calli (va_runV (As := []) (rest := []) ⟨hx, hb, hml, hown, hts⟩ (c_left l hl0 D A sad τ fi fr ol w hwk) (cwV 0 hts gX11_placeOrCancel_X10_left rfl rfl rfl (by decide +kernel) ⟨Nat.le_of_ble_eq_true rfl, Nat.le_of_ble_eq_true rfl⟩) ⟨zQc_bl, zRecv hH hwk rfl, zQc_at hz hS hA hH⟩ rfl rfl hl.1 rfl (lv_room (Nat.le_of_ble_eq_true rfl)) dX11_placeOrCancel_1 ⟨Nat.le_of_ble_eq_true rfl, Nat.le_of_ble_eq_true rfl⟩) hS (fun q _ h => h) (fun q h => h) (fun r101 u9 t9 H1 locs ht9 hvm9 hw hB hz1 hk1 hS => ?_)
  have hH := zMv ht9 hvm9 hB
  generalize H1 = H at hH hS ⊢
  refine lv_istore_n (lv' := [(3, .int r101), (0, .ref (τ.1 0)), (1, .ref (τ.1 (500 + q))), (2, .ref (τ.1 w))]) hx hb dX11_placeOrCancel_4 rfl hl (by decide) rfl (fun ls hl => ?_)
  refine lv_aload_n hx hb dX11_placeOrCancel_5 rfl (lv_at hl 1 rfl) ?_
  refine zGetR (D := D) (ci := 11) (C := RX11) (T := TX11) (N := 16) hx hb hts hiX11 hown hH (zk_0 hF) rfl 1 (by decide) rfl hw1 (fun _ h9 => h9) dX11_placeOrCancel_6 (zr_0_1 hF) ?_
  refine lv_aload_n hx hb dX11_placeOrCancel_9 rfl (lv_at hl 1 rfl) ?_
  refine zGetR (D := D) (ci := 11) (C := RX11) (T := TX11) (N := 16) hx hb hts hiX11 hown hH (zk_0 hF) rfl 3 (by decide) rfl hw2 (fun _ h9 => h9) dX11_placeOrCancel_10 (zr_0_3 hF) ?_
  refine zGetR (D := D) (ci := 5) (C := RX5) (T := TX5) (N := 2) hx hb hts hiX5 hown hH (zk_9 hF) rfl 1 (by decide) rfl hw4 (fun _ h9 => h9) dX11_placeOrCancel_13 (zr_9_1 hF) ?_
  refine lv_aload_n hx hb dX11_placeOrCancel_16 rfl (lv_at hl 3 rfl) ?_
  refine zGetR (D := D) (ci := 10) (C := RX10) (T := TX10) (N := 10) hx hb hts hiX10 hown hH hwk rfl 0 (by decide) rfl hw6 (fun _ h9 => h9) dX11_placeOrCancel_17 hw0 ?_
  refine zGetI (D := D) (ci := 8) (C := RX8) (T := TX8) (N := 10) hx hb hts hiX8 hown hH (hT.2.2.1 t (by omega)).1.1 rfl 0 (by decide) rfl hw8 (fun _ h9 => h9) dX11_placeOrCancel_20 (hT.2.2.1 t (by omega)).2.2.2.1 ?_
  refine zIaldN (D := D) hx hb hH (zk_11 hF) (zn_11 hF) (by omega) (by omega) rfl dX11_placeOrCancel_23 ?_
  refine va_callq (va_runV (As := [.int (fi 11 t)]) (rest := []) ⟨hx, hb, hml, hown, hts⟩ (c_at l hl0 D A sad τ fi fr ol (fi 11 t) hF n hT) (cwV 1 hts gX11_placeOrCancel_X0_at rfl rfl rfl (by decide +kernel) ⟨Nat.le_of_ble_eq_true rfl, Nat.le_of_ble_eq_true rfl⟩) ⟨zQc_bl, zRecv hH (zk_3 hF) rfl, zQc_at hz hS hA hH⟩ rfl rfl hl.1 rfl (lv_room (Nat.le_of_ble_eq_true rfl)) dX11_placeOrCancel_24 ⟨Nat.le_of_ble_eq_true rfl, Nat.le_of_ble_eq_true rfl⟩) hS (fun q _ h => h) (fun q h => h) (fun r102 u9 t9 H1 locs ht9 hvm9 hw hB hz1 hk1 hS => ?_)
  have hH := zMv ht9 hvm9 hB
  generalize H1 = H at hH hS ⊢
  rcases hw with ⟨t3, ht3, -, rfl⟩ | ⟨-, rfl⟩
  · skip
    refine lv_astore (lv' := [(4, .ref (τ.1 (300 + t3))), (3, .int r101), (0, .ref (τ.1 0)), (1, .ref (τ.1 (500 + q))), (2, .ref (τ.1 w))]) hx hb dX11_placeOrCancel_27 hl (by decide) rfl (fun ls hl => ?_)
    refine lv_aload hx hb dX11_placeOrCancel_29 (lv_at hl 0 rfl) ?_
    refine lv_ifnull hx hb dX11_placeOrCancel_31 ?_
    refine lv_aload hx hb dX11_placeOrCancel_34 (lv_at hl 0 rfl) ?_
    refine zGetI (D := D) (ci := 8) (C := RX8) (T := TX8) (N := 10) hx hb hts hiX8 hown hH (hT.2.2.1 t3 (by omega)).1.1 rfl 5 (by decide) rfl hw9 (fun _ h9 => h9) dX11_placeOrCancel_36 rfl ?_
    refine lv_iload_n hx hb dX11_placeOrCancel_39 rfl (lv_at hl 1 rfl) ?_
    refine lv_icmp_lt (tgt := 70) hx hb dX11_placeOrCancel_40 (by decide) (fun c103 => ?_) (fun c103 => ?_)
    · have zc103 := c103
      replace zc103 := zc_lt (rfl) (rfl) zc103
      refine lv_aload_n hx hb dX11_placeOrCancel_70 rfl (lv_at hl 4 rfl) ?_
      refine lv_dup hx hb dX11_placeOrCancel_71 rfl ?_
      refine zGetI (D := D) (ci := 10) (C := RX10) (T := TX10) (N := 10) hx hb hts hiX10 hown hH hwk rfl 5 (by decide) rfl hw10 (fun _ h9 => h9) dX11_placeOrCancel_72 rfl ?_
      refine lv_iload_n hx hb dX11_placeOrCancel_75 rfl (lv_at hl 1 rfl) ?_
      refine lv_iadd hx hb dX11_placeOrCancel_76 ?_
      refine lv_topi (fun v104 ev104 => ?_)
      refine zPutI (D := D) (ci := 10) (ty := .int) (C := RX10) (T := TX10) (N := 10) hx hb hts hiX10 tyX10 tyX10_ok nmX10 hown hH hS hwk rfl 5 (by decide) rfl hw10 (fun _ h9 => h9) rfl (by decide +kernel) rfl rfl dX11_placeOrCancel_77 (fun H locs hH hS => ?_)
      obtain ⟨f105, ef105⟩ : ∃ f9 : zFi, f9 = zu fi w 5 v104 := ⟨_, rfl⟩
      rw [← ef105] at hH
      have q106 : f105 18 3 = nI kk := by rw [ef105, zu_n (fun h9 => by omega)]; exact hk3
      have q107 : f105 w 5 = v104 := by rw [ef105]; exact zu_s
      have hT := zTh.ci (fi' := f105) hT (fun i9 k9 h9 => by rw [ef105]; exact zu_n (by omega))
      refine lv_aload_n hx hb dX11_placeOrCancel_80 rfl (lv_at hl 3 rfl) ?_
      refine lv_dup hx hb dX11_placeOrCancel_81 rfl ?_
      refine zGetI (D := D) (ci := 3) (C := RX3) (T := TX3) (N := 6) hx hb hts hiX3 hown hH hqk rfl 4 (by decide) rfl hw12 (fun _ h9 => h9) dX11_placeOrCancel_82 rfl ?_
      refine lv_iload_n hx hb dX11_placeOrCancel_85 rfl (lv_at hl 1 rfl) ?_
      refine lv_aload_n hx hb dX11_placeOrCancel_86 rfl (lv_at hl 4 rfl) ?_
      refine zGetI (D := D) (ci := 10) (C := RX10) (T := TX10) (N := 10) hx hb hts hiX10 hown hH hwk rfl 2 (by decide) rfl hw13 (fun _ h9 => h9) dX11_placeOrCancel_87 rfl ?_
      refine lv_imul hx hb dX11_placeOrCancel_90 ?_
      refine lv_topi (fun v108 ev108 => ?_)
      refine lv_iadd hx hb dX11_placeOrCancel_91 ?_
      refine lv_topi (fun v109 ev109 => ?_)
      refine zPutI (D := D) (ci := 3) (ty := .int) (C := RX3) (T := TX3) (N := 6) hx hb hts hiX3 tyX3 tyX3_ok nmX3 hown hH hS hqk rfl 4 (by decide) rfl hw12 (fun _ h9 => h9) rfl (by decide +kernel) rfl rfl dX11_placeOrCancel_92 (fun H locs hH hS => ?_)
      obtain ⟨f110, ef110⟩ : ∃ f9 : zFi, f9 = zu f105 (500 + q) 4 v109 := ⟨_, rfl⟩
      rw [← ef110] at hH
      have q111 : f110 18 3 = nI kk := by rw [ef110, zu_n (fun h9 => by omega)]; exact q106
      have q112 : f110 w 5 = v104 := by rw [ef110, zu_n (fun h9 => by omega)]; exact q107
      have q113 : f110 (500 + q) 4 = v109 := by rw [ef110]; exact zu_s
      have hT := zTh.ci (fi' := f110) hT (fun i9 k9 h9 => by rw [ef110]; exact zu_n (by omega))
      refine W.widen (k := 0) (n := 0) (by decide) (by decide) ?_
      exact W.vret hx hb hr (fun t9 ht9 hW9 => ⟨⟨(f110, fr), rfl, (show zSv n fi fr f110 fr ∧ ∃ k, k ≤ 16 ∧ f110 18 3 = nI k from ⟨⟨fun a b h => by rw [ef110, zu_n (by omega), ef105, zu_n (by omega)], fun _ _ _ => rfl, fun _ _ _ => Or.inl rfl⟩, ⟨kk, by omega, q111⟩⟩), zEnd1 hH ht9 hW9⟩, hS.F ht9⟩) hS.2.2 dX11_placeOrCancel_95
    · have zc103 := c103
      replace zc103 := zc_nlt (rfl) (rfl) zc103
      refine lv_aload_n hx hb dX11_placeOrCancel_43 rfl (lv_at hl 4 rfl) ?_
      refine lv_dup hx hb dX11_placeOrCancel_44 rfl ?_
      refine zGetI (D := D) (ci := 10) (C := RX10) (T := TX10) (N := 10) hx hb hts hiX10 hown hH hwk rfl 4 (by decide) rfl hw14 (fun _ h9 => h9) dX11_placeOrCancel_45 rfl ?_
      refine lv_iload_n hx hb dX11_placeOrCancel_48 rfl (lv_at hl 1 rfl) ?_
      refine lv_iadd hx hb dX11_placeOrCancel_49 ?_
      refine lv_topi (fun v114 ev114 => ?_)
      refine zPutI (D := D) (ci := 10) (ty := .int) (C := RX10) (T := TX10) (N := 10) hx hb hts hiX10 tyX10 tyX10_ok nmX10 hown hH hS hwk rfl 4 (by decide) rfl hw14 (fun _ h9 => h9) rfl (by decide +kernel) rfl rfl dX11_placeOrCancel_50 (fun H locs hH hS => ?_)
      obtain ⟨f115, ef115⟩ : ∃ f9 : zFi, f9 = zu fi w 4 v114 := ⟨_, rfl⟩
      rw [← ef115] at hH
      have q116 : f115 18 3 = nI kk := by rw [ef115, zu_n (fun h9 => by omega)]; exact hk3
      have q117 : f115 w 4 = v114 := by rw [ef115]; exact zu_s
      have hT := zTh.ci (fi' := f115) hT (fun i9 k9 h9 => by rw [ef115]; exact zu_n (by omega))
      refine lv_aload_n hx hb dX11_placeOrCancel_53 rfl (lv_at hl 4 rfl) ?_
      refine lv_aload hx hb dX11_placeOrCancel_54 (lv_at hl 0 rfl) ?_
      refine zPutR (D := D) (ci := 10) (ty := .object "PostHouse$Thing") (C := RX10) (T := TX10) (N := 10) hx hb hts hiX10 tyX10 tyX10_ok nmX10 hown hH hS hwk rfl 9 (by decide) rfl hw15 (fun _ h9 => h9) rfl (by rw [(hT.2.2.1 t3 (by omega)).1.1]; decide)  (by decide +kernel) rfl rfl dX11_placeOrCancel_56 (fun H locs hH hS => ?_)
      obtain ⟨g118, eg118⟩ : ∃ f9 : zFr, f9 = zur fr w 9 (some (300 + t3)) := ⟨_, rfl⟩
      rw [← eg118] at hH
      have hF119 : zFix τ g118 := by rw [eg118]; exact hF.ur (by omega)
      have hT := zTh.cg (τ' := τ) (fi' := f115) (fr' := g118) hT (fun _ _ _ => rfl) (fun i9 k9 h9 => by rw [eg118, zur_n (by omega)]) (fun _ _ _ => ⟨rfl, rfl⟩)
      refine lv_aload_n hx hb dX11_placeOrCancel_59 rfl (lv_at hl 2 rfl) ?_
      refine lv_aload_n hx hb dX11_placeOrCancel_60 rfl (lv_at hl 4 rfl) ?_
      refine lv_aload hx hb dX11_placeOrCancel_61 (lv_at hl 0 rfl) ?_
      refine lv_iload_n hx hb dX11_placeOrCancel_63 rfl (lv_at hl 1 rfl) ?_
      refine va_callv (va_runV (As := [.ref (τ.1 w), .ref (τ.1 (300 + t3)), .int r101]) (rest := []) ⟨hx, hb, hml, hown, hts⟩ (c_ship l hl0 D A sad τ f115 g118 ol hF119 n hT w t3 hwk hwb (by omega) kk (by omega) q116 r101) (cwV 3 hts gX11_placeOrCancel_X11_ship rfl rfl rfl (by decide +kernel) ⟨Nat.le_of_ble_eq_true rfl, Nat.le_of_ble_eq_true rfl⟩) ⟨zQc_bl, zRecv hH (zk_0 hF119) rfl, zQc_at hz hS hA hH⟩ rfl rfl hl.1 rfl (lv_room (Nat.le_of_ble_eq_true rfl)) dX11_placeOrCancel_64 ⟨Nat.le_of_ble_eq_true rfl, Nat.le_of_ble_eq_true rfl⟩) hS (fun q _ h => h) (fun q h => h) (fun u9 t9 H1 locs ht9 hvm9 hw hB hz1 hk1 hS => ?_)
      have hH := zMv ht9 hvm9 hB
      clear hB
      generalize u9 = f121 at hw hH
      generalize H1 = H at hH hS ⊢
      obtain ⟨hsv122, k123, hk124, q125⟩ := hw
      have hsv122f := hsv122.1
      have hT := zTh.ci (fi' := f121) hT (fun i9 k9 h9 => hsv122f i9 k9 (by omega))
      refine lv_goto (tgt := 95) hx hb dX11_placeOrCancel_67 (by decide) ?_
      refine W.widen (k := 0) (n := 0) (by decide) (by decide) ?_
      exact W.vret hx hb hr (fun t9 ht9 hW9 => ⟨⟨(f121, g118), rfl, (show zSv n fi fr f121 g118 ∧ ∃ k, k ≤ 16 ∧ f121 18 3 = nI k from ⟨⟨fun a b h => by rw [hsv122f a b (by omega), ef115, zu_n (by omega)], fun a b h => by rw [eg118, zur_n (by omega)], fun i _ _ => by by_cases h7 : i = w; (subst h7; exact Or.inr ⟨t3, ht3, by rw [eg118]; exact zur_s⟩); exact Or.inl (by rw [eg118, zur_n (by omega)])⟩, ⟨k123, by omega, q125⟩⟩), zEnd1 hH ht9 hW9⟩, hS.F ht9⟩) hS.2.2 dX11_placeOrCancel_95
  · skip
    refine lv_astoreN (lv' := [(4, .null), (3, .int r101), (0, .ref (τ.1 0)), (1, .ref (τ.1 (500 + q))), (2, .ref (τ.1 w))]) hx hb dX11_placeOrCancel_27 hl (by decide) rfl (fun ls hl => ?_)
    refine lv_aloadN hx hb dX11_placeOrCancel_29 (lv_at hl 0 rfl) ?_
    refine lv_ifnullN (tgt := 70) hx hb dX11_placeOrCancel_31 (by decide) ?_
    refine lv_aload_n hx hb dX11_placeOrCancel_70 rfl (lv_at hl 4 rfl) ?_
    refine lv_dup hx hb dX11_placeOrCancel_71 rfl ?_
    refine zGetI (D := D) (ci := 10) (C := RX10) (T := TX10) (N := 10) hx hb hts hiX10 hown hH hwk rfl 5 (by decide) rfl hw10 (fun _ h9 => h9) dX11_placeOrCancel_72 rfl ?_
    refine lv_iload_n hx hb dX11_placeOrCancel_75 rfl (lv_at hl 1 rfl) ?_
    refine lv_iadd hx hb dX11_placeOrCancel_76 ?_
    refine lv_topi (fun v126 ev126 => ?_)
    refine zPutI (D := D) (ci := 10) (ty := .int) (C := RX10) (T := TX10) (N := 10) hx hb hts hiX10 tyX10 tyX10_ok nmX10 hown hH hS hwk rfl 5 (by decide) rfl hw10 (fun _ h9 => h9) rfl (by decide +kernel) rfl rfl dX11_placeOrCancel_77 (fun H locs hH hS => ?_)
    obtain ⟨f127, ef127⟩ : ∃ f9 : zFi, f9 = zu fi w 5 v126 := ⟨_, rfl⟩
    rw [← ef127] at hH
    have q128 : f127 18 3 = nI kk := by rw [ef127, zu_n (fun h9 => by omega)]; exact hk3
    have q129 : f127 w 5 = v126 := by rw [ef127]; exact zu_s
    have hT := zTh.ci (fi' := f127) hT (fun i9 k9 h9 => by rw [ef127]; exact zu_n (by omega))
    refine lv_aload_n hx hb dX11_placeOrCancel_80 rfl (lv_at hl 3 rfl) ?_
    refine lv_dup hx hb dX11_placeOrCancel_81 rfl ?_
    refine zGetI (D := D) (ci := 3) (C := RX3) (T := TX3) (N := 6) hx hb hts hiX3 hown hH hqk rfl 4 (by decide) rfl hw12 (fun _ h9 => h9) dX11_placeOrCancel_82 rfl ?_
    refine lv_iload_n hx hb dX11_placeOrCancel_85 rfl (lv_at hl 1 rfl) ?_
    refine lv_aload_n hx hb dX11_placeOrCancel_86 rfl (lv_at hl 4 rfl) ?_
    refine zGetI (D := D) (ci := 10) (C := RX10) (T := TX10) (N := 10) hx hb hts hiX10 hown hH hwk rfl 2 (by decide) rfl hw13 (fun _ h9 => h9) dX11_placeOrCancel_87 rfl ?_
    refine lv_imul hx hb dX11_placeOrCancel_90 ?_
    refine lv_topi (fun v130 ev130 => ?_)
    refine lv_iadd hx hb dX11_placeOrCancel_91 ?_
    refine lv_topi (fun v131 ev131 => ?_)
    refine zPutI (D := D) (ci := 3) (ty := .int) (C := RX3) (T := TX3) (N := 6) hx hb hts hiX3 tyX3 tyX3_ok nmX3 hown hH hS hqk rfl 4 (by decide) rfl hw12 (fun _ h9 => h9) rfl (by decide +kernel) rfl rfl dX11_placeOrCancel_92 (fun H locs hH hS => ?_)
    obtain ⟨f132, ef132⟩ : ∃ f9 : zFi, f9 = zu f127 (500 + q) 4 v131 := ⟨_, rfl⟩
    rw [← ef132] at hH
    have q133 : f132 18 3 = nI kk := by rw [ef132, zu_n (fun h9 => by omega)]; exact q128
    have q134 : f132 w 5 = v126 := by rw [ef132, zu_n (fun h9 => by omega)]; exact q129
    have q135 : f132 (500 + q) 4 = v131 := by rw [ef132]; exact zu_s
    have hT := zTh.ci (fi' := f132) hT (fun i9 k9 h9 => by rw [ef132]; exact zu_n (by omega))
    refine W.widen (k := 0) (n := 0) (by decide) (by decide) ?_
    exact W.vret hx hb hr (fun t9 ht9 hW9 => ⟨⟨(f132, fr), rfl, (show zSv n fi fr f132 fr ∧ ∃ k, k ≤ 16 ∧ f132 18 3 = nI k from ⟨⟨fun a b h => by rw [ef132, zu_n (by omega), ef127, zu_n (by omega)], fun _ _ _ => rfl, fun _ _ _ => Or.inl rfl⟩, ⟨kk, by omega, q133⟩⟩), zEnd1 hH ht9 hW9⟩, hS.F ht9⟩) hS.2.2 dX11_placeOrCancel_95
set_option maxHeartbeats 4000000 in
set_option maxRecDepth 100000 in
/-- serveWant -/
theorem c_serveWant (l : Launch) (hl0 : l.stackTraces = false) (D : va_G) (A : Nat → Prop) (sad : Nat → Nat) (τ : zTy) (fi : zFi) (fr : zFr) (ol : Int64) (hF : zFix τ fr) (n : Nat) (hT : zTh τ fi fr n) (q : Nat) (hqk : τ.2.2.1 (500 + q) = 19) (hq6 : q < 60) (w t : Nat) (hwk : τ.2.2.1 w = 26) (hwb : 1000 ≤ w ∧ w < 1480) (ht : t < n) (hw0 : fr w 0 = some (300 + t)) (kk : Nat) (hkk : kk ≤ 16) (hk3 : fi 18 3 = nI kk) : Met l yX11_serveWant wsX11_serveWant ({ frames := 3, cells := 0, slots := 0, locals := 70 }) (va_Pc [.ref (τ.1 0), .ref (τ.1 (500 + q)), .ref (τ.1 w)] (zQc D A sad τ fi fr ol)) (va_Qv (fun (u : zFi × zFr) => zSv n fi fr u.1 u.2 ∧ ∃ k, k ≤ 16 ∧ u.1 18 3 = nI k) (fun (u : zFi × zFr) (t : State) => zH D A τ u.1 u.2 ol t t.heap) A) 0 0 A := by
  refine Met.ofW (cc := cX11_serveWant) (maxL := 4) (ret := none) (by decide) rfl ?_
  intro p9 e9 s m args below meth c9 s₁ B hml hv
  obtain ⟨rfl, hz, hH, hA⟩ := hv
  have hx := B.exec
  have hb := B.bytes
  have hr := B.returns
  have hts := atoms_spec (ws := wsX11_serveWant) B.pre
  have hown : s.vm.findClass RX11 = some m.cls := findClass_of_methodNamed B.named
  have hlocks := B.notSynchronized
  have hS : va_S A s.heap s.heap [] := va_S.rf
  have hl := lv_entry ([.ref (τ.1 0), .ref (τ.1 (500 + q)), .ref (τ.1 w)]) (n := 4) (Nat.le_of_ble_eq_true rfl)
  rw [lg_entry_eq]
  generalize (lg_sl ([.ref (τ.1 0), .ref (τ.1 (500 + q)), .ref (τ.1 w)]) ++ List.replicate (4 - (lg_sl ([.ref (τ.1 0), .ref (τ.1 (500 + q)), .ref (τ.1 w)])).length) Slot.unset).toArray = ls at hl ⊢
  have hl : lv_has ls 4 [(0, .ref (τ.1 0)), (1, .ref (τ.1 (500 + q))), (2, .ref (τ.1 w))] := hl
  have hn30 := hT.1
  have hiX10 : ∀ w ∈ u_ws RX10 TX10 10, w ∈ wsX11_serveWant := fun _ h => List.mem_cons_of_mem _ (List.mem_append_left _ (List.mem_append_left _ (List.mem_append_left _ (List.mem_append_left _ (List.mem_append_left _ (List.mem_append_left _ (List.mem_append_right _ h)))))))
  have hw1 := hts (.fieldLink RX11 276 "PostHouse$Want" "thing" "LPostHouse$Thing;") (by decide +kernel)
  have hiX8 : ∀ w ∈ u_ws RX8 TX8 10, w ∈ wsX11_serveWant := fun _ h => List.mem_cons_of_mem _ (List.mem_append_left _ (List.mem_append_left _ (List.mem_append_left _ (List.mem_append_left _ (List.mem_append_left _ (List.mem_append_right _ h))))))
  have hw3 := hts (.fieldLink RX11 147 "PostHouse$Thing" "stock" "I") (by decide +kernel)
  have hw4 := hts (.methodLink RX11 520 Lib.Math.min.name) (by decide +kernel)
  have hw5 := hts (.static Lib.Math.min.name) (by decide +kernel)
  have hw6 := hts (.initialized "java/lang/Math") (by decide +kernel)
  have hw7 := hts (.code Lib.Math.min.name Lib.Math.min.code 2 (some .int)) (by decide +kernel)
  have hiX11 : ∀ w ∈ u_ws RX11 TX11 16, w ∈ wsX11_serveWant := fun _ h => List.mem_cons_of_mem _ (List.mem_append_left _ (List.mem_append_left _ (List.mem_append_left _ (List.mem_append_left _ (List.mem_append_right _ h)))))
  have hw9 := hts (.fieldLink RX11 136 "PostHouse" "today" "I") (by decide +kernel)
  have hiX3 : ∀ w ∈ u_ws RX3 TX3 6, w ∈ wsX11_serveWant := fun _ h => List.mem_cons_of_mem _ (List.mem_append_left _ (List.mem_append_left _ (List.mem_append_left _ (List.mem_append_right _ h))))
  have hw11 := hts (.fieldLink RX11 256 "PostHouse$Order" "day" "I") (by decide +kernel)
  have hw12 := hts (.fieldLink RX11 33 "PostHouse" "rules" "LPostHouse$Rules;") (by decide +kernel)
  have hiX5 : ∀ w ∈ u_ws RX5 TX5 2, w ∈ wsX11_serveWant := fun _ h => List.mem_cons_of_mem _ (List.mem_append_left _ (List.mem_append_left _ (List.mem_append_right _ h)))
  have hw14 := hts (.fieldLink RX11 174 "PostHouse$Rules" "numbers" "[I") (by decide +kernel)
  have hw15 := hts (.fieldLink RX11 288 "PostHouse$Want" "sent" "I") (by decide +kernel)
  refine lv_aload_n hx hb dX11_serveWant_0 rfl (lv_at hl 2 rfl) ?_
  refine va_calli (va_runV (As := []) (rest := []) ⟨hx, hb, hml, hown, hts⟩ (c_left l hl0 D A sad τ fi fr ol w hwk) (cwV 0 hts gX11_serveWant_X10_left rfl rfl rfl (by decide +kernel) ⟨Nat.le_of_ble_eq_true rfl, Nat.le_of_ble_eq_true rfl⟩) ⟨zQc_bl, zRecv hH hwk rfl, zQc_at hz hS hA hH⟩ rfl rfl hl.1 rfl (lv_room (Nat.le_of_ble_eq_true rfl)) dX11_serveWant_1 ⟨Nat.le_of_ble_eq_true rfl, Nat.le_of_ble_eq_true rfl⟩) hS (fun q _ h => h) (fun q h => h) (fun r101 u9 t9 H1 locs ht9 hvm9 hw hB hz1 hk1 hS => ?_)
  have hH := zMv ht9 hvm9 hB
  generalize H1 = H at hH hS ⊢
  refine lv_aload_n hx hb dX11_serveWant_4 rfl (lv_at hl 2 rfl) ?_
  refine zGetR (D := D) (ci := 10) (C := RX10) (T := TX10) (N := 10) hx hb hts hiX10 hown hH hwk rfl 0 (by decide) rfl hw1 (fun _ h9 => h9) dX11_serveWant_5 hw0 ?_
  refine zGetI (D := D) (ci := 8) (C := RX8) (T := TX8) (N := 10) hx hb hts hiX8 hown hH (hT.2.2.1 t (by omega)).1.1 rfl 5 (by decide) rfl hw3 (fun _ h9 => h9) dX11_serveWant_8 rfl ?_
  refine va_mmin hx hb (by rw [hml]; exact hl.1.symm) hown hw4 hw5 hw6 hw7 (Nat.le_of_ble_eq_true rfl) (Nat.le_of_ble_eq_true rfl) (Nat.le_of_ble_eq_true rfl) (Nat.le_of_ble_eq_true rfl) dX11_serveWant_11 ?_
  refine lv_topi (fun v102 ev102 => ?_)
  refine lv_istore_n (lv' := [(3, .int v102), (0, .ref (τ.1 0)), (1, .ref (τ.1 (500 + q))), (2, .ref (τ.1 w))]) hx hb dX11_serveWant_14 rfl hl (by decide) rfl (fun ls hl => ?_)
  refine lv_iload_n hx hb dX11_serveWant_15 rfl (lv_at hl 0 rfl) ?_
  refine lv_if_le (tgt := 39) hx hb dX11_serveWant_16 (by decide) (fun c103 => ?_) (fun c103 => ?_)
  · have zc103 := c103
    replace zc103 := zc_le (rfl) ((by decide : (0 : Int32).toInt = 0)) zc103
    refine lv_aload_n hx hb dX11_serveWant_39 rfl (lv_at hl 3 rfl) ?_
    refine va_calli (va_runV (As := []) (rest := []) ⟨hx, hb, hml, hown, hts⟩ (c_left l hl0 D A sad τ fi fr ol w hwk) (cwV 0 hts gX11_serveWant_X10_left rfl rfl rfl (by decide +kernel) ⟨Nat.le_of_ble_eq_true rfl, Nat.le_of_ble_eq_true rfl⟩) ⟨zQc_bl, zRecv hH hwk rfl, zQc_at hz hS hA hH⟩ rfl rfl hl.1 rfl (lv_room (Nat.le_of_ble_eq_true rfl)) dX11_serveWant_40 ⟨Nat.le_of_ble_eq_true rfl, Nat.le_of_ble_eq_true rfl⟩) hS (fun q _ h => h) (fun q h => h) (fun r104 u9 t9 H1 locs ht9 hvm9 hw hB hz1 hk1 hS => ?_)
    have hH := zMv ht9 hvm9 hB
    generalize H1 = H at hH hS ⊢
    refine lv_if_le (tgt := 73) hx hb dX11_serveWant_43 (by decide) (fun c105 => ?_) (fun c105 => ?_)
    · have zc105 := c105
      replace zc105 := zc_le (rfl) ((by decide : (0 : Int32).toInt = 0)) zc105
      refine W.widen (k := 0) (n := 0) (by decide) (by decide) ?_
      exact W.vret hx hb hr (fun t9 ht9 hW9 => ⟨⟨(fi, fr), rfl, (show zSv n fi fr fi fr ∧ ∃ k, k ≤ 16 ∧ fi 18 3 = nI k from ⟨⟨fun a b h => rfl, fun _ _ _ => rfl, fun _ _ _ => Or.inl rfl⟩, ⟨kk, by omega, hk3⟩⟩), zEnd1 hH ht9 hW9⟩, hS.F ht9⟩) hS.2.2 dX11_serveWant_73
    · have zc105 := c105
      replace zc105 := zc_nle (rfl) ((by decide : (0 : Int32).toInt = 0)) zc105
      refine lv_aload_n hx hb dX11_serveWant_46 rfl (lv_at hl 1 rfl) ?_
      refine zGetI (D := D) (ci := 11) (C := RX11) (T := TX11) (N := 16) hx hb hts hiX11 hown hH (zk_0 hF) rfl 15 (by decide) rfl hw9 (fun _ h9 => h9) dX11_serveWant_47 rfl ?_
      refine lv_aload_n hx hb dX11_serveWant_50 rfl (lv_at hl 2 rfl) ?_
      refine zGetI (D := D) (ci := 3) (C := RX3) (T := TX3) (N := 6) hx hb hts hiX3 hown hH hqk rfl 0 (by decide) rfl hw11 (fun _ h9 => h9) dX11_serveWant_51 rfl ?_
      refine lv_isub hx hb dX11_serveWant_54 ?_
      refine lv_topi (fun v106 ev106 => ?_)
      refine lv_aload_n hx hb dX11_serveWant_55 rfl (lv_at hl 1 rfl) ?_
      refine zGetR (D := D) (ci := 11) (C := RX11) (T := TX11) (N := 16) hx hb hts hiX11 hown hH (zk_0 hF) rfl 3 (by decide) rfl hw12 (fun _ h9 => h9) dX11_serveWant_56 (zr_0_3 hF) ?_
      refine zGetR (D := D) (ci := 5) (C := RX5) (T := TX5) (N := 2) hx hb hts hiX5 hown hH (zk_9 hF) rfl 0 (by decide) rfl hw14 (fun _ h9 => h9) dX11_serveWant_59 (zr_9_0 hF) ?_
      refine lv_iconst (v := nI 0) hx hb dX11_serveWant_62 (by decide) ?_
      refine zIaldN (D := D) hx hb hH (zk_10 hF) (zn_10 hF) (by omega) (by omega) rfl dX11_serveWant_63 ?_
      refine lv_icmp_le (tgt := 73) hx hb dX11_serveWant_64 (by decide) (fun c107 => ?_) (fun c107 => ?_)
      · have zc107 := c107
        replace zc107 := zc_le (rfl) (rfl) zc107
        refine W.widen (k := 0) (n := 0) (by decide) (by decide) ?_
        exact W.vret hx hb hr (fun t9 ht9 hW9 => ⟨⟨(fi, fr), rfl, (show zSv n fi fr fi fr ∧ ∃ k, k ≤ 16 ∧ fi 18 3 = nI k from ⟨⟨fun a b h => rfl, fun _ _ _ => rfl, fun _ _ _ => Or.inl rfl⟩, ⟨kk, by omega, hk3⟩⟩), zEnd1 hH ht9 hW9⟩, hS.F ht9⟩) hS.2.2 dX11_serveWant_73
      · have zc107 := c107
        replace zc107 := zc_nle (rfl) (rfl) zc107
        refine lv_aload_n hx hb dX11_serveWant_67 rfl (lv_at hl 1 rfl) ?_
        refine lv_aload_n hx hb dX11_serveWant_68 rfl (lv_at hl 2 rfl) ?_
        refine lv_aload_n hx hb dX11_serveWant_69 rfl (lv_at hl 3 rfl) ?_
        refine va_callv (va_runV (As := [.ref (τ.1 (500 + q)), .ref (τ.1 w)]) (rest := []) ⟨hx, hb, hml, hown, hts⟩ (c_placeOr l hl0 D A sad τ fi fr ol hF n hT q hqk hq6 w t hwk hwb ht hw0 kk (by omega) hk3) (cwV 2 hts gX11_serveWant_X11_placeOrCancel rfl rfl rfl (by decide +kernel) ⟨Nat.le_of_ble_eq_true rfl, Nat.le_of_ble_eq_true rfl⟩) ⟨zQc_bl, zRecv hH (zk_0 hF) rfl, zQc_at hz hS hA hH⟩ rfl rfl hl.1 rfl (lv_room (Nat.le_of_ble_eq_true rfl)) dX11_serveWant_70 ⟨Nat.le_of_ble_eq_true rfl, Nat.le_of_ble_eq_true rfl⟩) hS (fun q _ h => h) (fun q h => h) (fun u9 t9 H1 locs ht9 hvm9 hw hB hz1 hk1 hS => ?_)
        obtain ⟨f109, g110⟩ := u9
        have hH := zMv ht9 hvm9 hB
        clear hB
        simp only at hw hH
        generalize H1 = H at hH hS ⊢
        obtain ⟨hsvp, kp, hkp, qkp⟩ := hw
        refine W.widen (k := 0) (n := 0) (by decide) (by decide) ?_
        exact W.vret hx hb hr (fun t9 ht9 hW9 => ⟨⟨(f109, g110), rfl, (show zSv n fi fr f109 g110 ∧ ∃ k, k ≤ 16 ∧ f109 18 3 = nI k from ⟨zSv.tr ⟨fun a b h => rfl, fun _ _ _ => rfl, fun _ _ _ => Or.inl rfl⟩ hsvp, ⟨kp, by omega, qkp⟩⟩), zEnd1 hH ht9 hW9⟩, hS.F ht9⟩) hS.2.2 dX11_serveWant_73
  · have zc103 := c103
    replace zc103 := zc_nle (rfl) ((by decide : (0 : Int32).toInt = 0)) zc103
    refine lv_aload_n hx hb dX11_serveWant_19 rfl (lv_at hl 3 rfl) ?_
    refine lv_dup hx hb dX11_serveWant_20 rfl ?_
    refine zGetI (D := D) (ci := 10) (C := RX10) (T := TX10) (N := 10) hx hb hts hiX10 hown hH hwk rfl 3 (by decide) rfl hw15 (fun _ h9 => h9) dX11_serveWant_21 rfl ?_
    refine lv_iload_n hx hb dX11_serveWant_24 rfl (lv_at hl 0 rfl) ?_
    refine lv_iadd hx hb dX11_serveWant_25 ?_
    refine lv_topi (fun v111 ev111 => ?_)
    refine zPutI (D := D) (ci := 10) (ty := .int) (C := RX10) (T := TX10) (N := 10) hx hb hts hiX10 tyX10 tyX10_ok nmX10 hown hH hS hwk rfl 3 (by decide) rfl hw15 (fun _ h9 => h9) rfl (by decide +kernel) rfl rfl dX11_serveWant_26 (fun H locs hH hS => ?_)
    obtain ⟨f112, ef112⟩ : ∃ f9 : zFi, f9 = zu fi w 3 v111 := ⟨_, rfl⟩
    rw [← ef112] at hH
    have q113 : f112 18 3 = nI kk := by rw [ef112, zu_n (fun h9 => by omega)]; exact hk3
    have q114 : f112 w 3 = v111 := by rw [ef112]; exact zu_s
    have hT := zTh.ci (fi' := f112) hT (fun i9 k9 h9 => by rw [ef112]; exact zu_n (by omega))
    refine lv_aload_n hx hb dX11_serveWant_29 rfl (lv_at hl 1 rfl) ?_
    refine lv_aload_n hx hb dX11_serveWant_30 rfl (lv_at hl 3 rfl) ?_
    refine lv_aload_n hx hb dX11_serveWant_31 rfl (lv_at hl 3 rfl) ?_
    refine zGetR (D := D) (ci := 10) (C := RX10) (T := TX10) (N := 10) hx hb hts hiX10 hown hH hwk rfl 0 (by decide) rfl hw1 (fun _ h9 => h9) dX11_serveWant_32 hw0 ?_
    refine lv_iload_n hx hb dX11_serveWant_35 rfl (lv_at hl 0 rfl) ?_
    refine va_callv (va_runV (As := [.ref (τ.1 w), .ref (τ.1 (300 + t)), .int v102]) (rest := []) ⟨hx, hb, hml, hown, hts⟩ (c_ship l hl0 D A sad τ f112 fr ol hF n hT w t hwk hwb (by omega) kk (by omega) q113 v102) (cwV 3 hts gX11_serveWant_X11_ship rfl rfl rfl (by decide +kernel) ⟨Nat.le_of_ble_eq_true rfl, Nat.le_of_ble_eq_true rfl⟩) ⟨zQc_bl, zRecv hH (zk_0 hF) rfl, zQc_at hz hS hA hH⟩ rfl rfl hl.1 rfl (lv_room (Nat.le_of_ble_eq_true rfl)) dX11_serveWant_36 ⟨Nat.le_of_ble_eq_true rfl, Nat.le_of_ble_eq_true rfl⟩) hS (fun q _ h => h) (fun q h => h) (fun u9 t9 H1 locs ht9 hvm9 hw hB hz1 hk1 hS => ?_)
    have hH := zMv ht9 hvm9 hB
    clear hB
    generalize u9 = f116 at hw hH
    generalize H1 = H at hH hS ⊢
    obtain ⟨hsv117, k118, hk119, q120⟩ := hw
    have hsv117f := hsv117.1
    have hT := zTh.ci (fi' := f116) hT (fun i9 k9 h9 => hsv117f i9 k9 (by omega))
    refine lv_aload_n hx hb dX11_serveWant_39 rfl (lv_at hl 3 rfl) ?_
    refine va_calli (va_runV (As := []) (rest := []) ⟨hx, hb, hml, hown, hts⟩ (c_left l hl0 D A sad τ f116 fr ol w hwk) (cwV 0 hts gX11_serveWant_X10_left rfl rfl rfl (by decide +kernel) ⟨Nat.le_of_ble_eq_true rfl, Nat.le_of_ble_eq_true rfl⟩) ⟨zQc_bl, zRecv hH hwk rfl, zQc_at hz hS hA hH⟩ rfl rfl hl.1 rfl (lv_room (Nat.le_of_ble_eq_true rfl)) dX11_serveWant_40 ⟨Nat.le_of_ble_eq_true rfl, Nat.le_of_ble_eq_true rfl⟩) hS (fun q _ h => h) (fun q h => h) (fun r121 u9 t9 H1 locs ht9 hvm9 hw hB hz1 hk1 hS => ?_)
    have hH := zMv ht9 hvm9 hB
    generalize H1 = H at hH hS ⊢
    refine lv_if_le (tgt := 73) hx hb dX11_serveWant_43 (by decide) (fun c122 => ?_) (fun c122 => ?_)
    · have zc122 := c122
      replace zc122 := zc_le (rfl) ((by decide : (0 : Int32).toInt = 0)) zc122
      refine W.widen (k := 0) (n := 0) (by decide) (by decide) ?_
      exact W.vret hx hb hr (fun t9 ht9 hW9 => ⟨⟨(f116, fr), rfl, (show zSv n fi fr f116 fr ∧ ∃ k, k ≤ 16 ∧ f116 18 3 = nI k from ⟨⟨fun a b h => by rw [hsv117f a b (by omega), ef112, zu_n (by omega)], fun _ _ _ => rfl, fun _ _ _ => Or.inl rfl⟩, ⟨k118, by omega, q120⟩⟩), zEnd1 hH ht9 hW9⟩, hS.F ht9⟩) hS.2.2 dX11_serveWant_73
    · have zc122 := c122
      replace zc122 := zc_nle (rfl) ((by decide : (0 : Int32).toInt = 0)) zc122
      refine lv_aload_n hx hb dX11_serveWant_46 rfl (lv_at hl 1 rfl) ?_
      refine zGetI (D := D) (ci := 11) (C := RX11) (T := TX11) (N := 16) hx hb hts hiX11 hown hH (zk_0 hF) rfl 15 (by decide) rfl hw9 (fun _ h9 => h9) dX11_serveWant_47 rfl ?_
      refine lv_aload_n hx hb dX11_serveWant_50 rfl (lv_at hl 2 rfl) ?_
      refine zGetI (D := D) (ci := 3) (C := RX3) (T := TX3) (N := 6) hx hb hts hiX3 hown hH hqk rfl 0 (by decide) rfl hw11 (fun _ h9 => h9) dX11_serveWant_51 rfl ?_
      refine lv_isub hx hb dX11_serveWant_54 ?_
      refine lv_topi (fun v123 ev123 => ?_)
      refine lv_aload_n hx hb dX11_serveWant_55 rfl (lv_at hl 1 rfl) ?_
      refine zGetR (D := D) (ci := 11) (C := RX11) (T := TX11) (N := 16) hx hb hts hiX11 hown hH (zk_0 hF) rfl 3 (by decide) rfl hw12 (fun _ h9 => h9) dX11_serveWant_56 (zr_0_3 hF) ?_
      refine zGetR (D := D) (ci := 5) (C := RX5) (T := TX5) (N := 2) hx hb hts hiX5 hown hH (zk_9 hF) rfl 0 (by decide) rfl hw14 (fun _ h9 => h9) dX11_serveWant_59 (zr_9_0 hF) ?_
      refine lv_iconst (v := nI 0) hx hb dX11_serveWant_62 (by decide) ?_
      refine zIaldN (D := D) hx hb hH (zk_10 hF) (zn_10 hF) (by omega) (by omega) rfl dX11_serveWant_63 ?_
      refine lv_icmp_le (tgt := 73) hx hb dX11_serveWant_64 (by decide) (fun c124 => ?_) (fun c124 => ?_)
      · have zc124 := c124
        replace zc124 := zc_le (rfl) (rfl) zc124
        refine W.widen (k := 0) (n := 0) (by decide) (by decide) ?_
        exact W.vret hx hb hr (fun t9 ht9 hW9 => ⟨⟨(f116, fr), rfl, (show zSv n fi fr f116 fr ∧ ∃ k, k ≤ 16 ∧ f116 18 3 = nI k from ⟨⟨fun a b h => by rw [hsv117f a b (by omega), ef112, zu_n (by omega)], fun _ _ _ => rfl, fun _ _ _ => Or.inl rfl⟩, ⟨k118, by omega, q120⟩⟩), zEnd1 hH ht9 hW9⟩, hS.F ht9⟩) hS.2.2 dX11_serveWant_73
      · have zc124 := c124
        replace zc124 := zc_nle (rfl) (rfl) zc124
        refine lv_aload_n hx hb dX11_serveWant_67 rfl (lv_at hl 1 rfl) ?_
        refine lv_aload_n hx hb dX11_serveWant_68 rfl (lv_at hl 2 rfl) ?_
        refine lv_aload_n hx hb dX11_serveWant_69 rfl (lv_at hl 3 rfl) ?_
        refine va_callv (va_runV (As := [.ref (τ.1 (500 + q)), .ref (τ.1 w)]) (rest := []) ⟨hx, hb, hml, hown, hts⟩ (c_placeOr l hl0 D A sad τ f116 fr ol hF n hT q hqk hq6 w t hwk hwb ht hw0 k118 (by omega) q120) (cwV 2 hts gX11_serveWant_X11_placeOrCancel rfl rfl rfl (by decide +kernel) ⟨Nat.le_of_ble_eq_true rfl, Nat.le_of_ble_eq_true rfl⟩) ⟨zQc_bl, zRecv hH (zk_0 hF) rfl, zQc_at hz hS hA hH⟩ rfl rfl hl.1 rfl (lv_room (Nat.le_of_ble_eq_true rfl)) dX11_serveWant_70 ⟨Nat.le_of_ble_eq_true rfl, Nat.le_of_ble_eq_true rfl⟩) hS (fun q _ h => h) (fun q h => h) (fun u9 t9 H1 locs ht9 hvm9 hw hB hz1 hk1 hS => ?_)
        obtain ⟨f126, g127⟩ := u9
        have hH := zMv ht9 hvm9 hB
        clear hB
        simp only at hw hH
        generalize H1 = H at hH hS ⊢
        obtain ⟨hsvp, kp, hkp, qkp⟩ := hw
        refine W.widen (k := 0) (n := 0) (by decide) (by decide) ?_
        exact W.vret hx hb hr (fun t9 ht9 hW9 => ⟨⟨(f126, g127), rfl, (show zSv n fi fr f126 g127 ∧ ∃ k, k ≤ 16 ∧ f126 18 3 = nI k from ⟨zSv.tr ⟨fun a b h => by rw [hsv117f a b (by omega), ef112, zu_n (by omega)], fun _ _ _ => rfl, fun _ _ _ => Or.inl rfl⟩ hsvp, ⟨kp, by omega, qkp⟩⟩), zEnd1 hH ht9 hW9⟩, hS.F ht9⟩) hS.2.2 dX11_serveWant_73
