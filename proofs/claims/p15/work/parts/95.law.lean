set_option maxHeartbeats 40000000 in
set_option maxRecDepth 200000 in
/-- THE LAW, from its entry -/
theorem whole_start {p9 : Program} {e9 : Env} {s : State} {m : MethodId} {below : List Frame} {meth : Method} {c9 : Code} (l : Launch) (hl0 : l.stackTraces = false) {b L : Nat} {xs : Nat → Int32} (hL : L ≤ 3072) (C0 : lw_At p9 s m meth c9 b L xs) : W p9 l e9 room_1 s m #[Value.ref b] below meth c9 s.heap [] 0 0 (lw_Z below #[Value.ref b] s) (entryFrame m ([Value.ref b] : List Value).toArray 7) := by
  obtain ⟨hx, hb, hr, hml, hown, hts0, hX, hbl, hlocks, hgv⟩ := C0
  have hts : ∀ w ∈ wsL_law, w.before #[Value.ref b] s = true := fun w h => hts0 w (wsL_law_in w h)
  have hown : s.vm.findClass RL = some m.cls := hown
  have hb : c9.code = cL_law := hb
  obtain ⟨A, hAd⟩ : ∃ A : Nat → Prop, A = fun q => s.heap.size ≤ q := ⟨_, rfl⟩
  have hA : ∀ q : Nat, s.heap.size ≤ q → A q := fun q h => by rw [hAd]; exact h
  have hbA : ¬ A b := by rw [hAd]; exact Nat.not_le.mpr hbl
  obtain ⟨sad, hz⟩ := zG2_start (A := A) (fun a h => by rw [hAd]; exact Nat.not_le.mpr h) hts0 hgv
  obtain ⟨kc0, kI0, hKn0⟩ := u_known (C := RX0) (T := TX0) (N := 2) (n := 2) hts0 inX0 (hts0 (.instantiable RX0 2) (by decide +kernel))
  obtain ⟨kc1, kI1, hKn1⟩ := u_known (C := RX1) (T := TX1) (N := 4) (n := 4) hts0 inX1 (hts0 (.instantiable RX1 4) (by decide +kernel))
  obtain ⟨kc2, kI2, hKn2⟩ := u_known (C := RX2) (T := TX2) (N := 10) (n := 10) hts0 inX2 (hts0 (.instantiable RX2 10) (by decide +kernel))
  obtain ⟨kc3, kI3, hKn3⟩ := u_known (C := RX3) (T := TX3) (N := 6) (n := 6) hts0 inX3 (hts0 (.instantiable RX3 6) (by decide +kernel))
  obtain ⟨kc4, kI4, hKn4⟩ := u_known (C := RX4) (T := TX4) (N := 5) (n := 5) hts0 inX4 (hts0 (.instantiable RX4 5) (by decide +kernel))
  obtain ⟨kc5, kI5, hKn5⟩ := u_known (C := RX5) (T := TX5) (N := 2) (n := 2) hts0 inX5 (hts0 (.instantiable RX5 2) (by decide +kernel))
  obtain ⟨kc6, kI6, hKn6⟩ := u_known (C := RX6) (T := TX6) (N := 4) (n := 4) hts0 inX6 (hts0 (.instantiable RX6 4) (by decide +kernel))
  obtain ⟨kc7, kI7, hKn7⟩ := u_known (C := RX7) (T := TX7) (N := 4) (n := 4) hts0 inX7 (hts0 (.instantiable RX7 4) (by decide +kernel))
  obtain ⟨kc8, kI8, hKn8⟩ := u_known (C := RX8) (T := TX8) (N := 10) (n := 10) hts0 inX8 (hts0 (.instantiable RX8 10) (by decide +kernel))
  obtain ⟨kc9, kI9, hKn9⟩ := u_known (C := RX9) (T := TX9) (N := 6) (n := 6) hts0 inX9 (hts0 (.instantiable RX9 6) (by decide +kernel))
  obtain ⟨kc10, kI10, hKn10⟩ := u_known (C := RX10) (T := TX10) (N := 10) (n := 10) hts0 inX10 (hts0 (.instantiable RX10 10) (by decide +kernel))
  obtain ⟨kc11, kI11, hKn11⟩ := u_known (C := RX11) (T := TX11) (N := 16) (n := 16) hts0 inX11 (hts0 (.instantiable RX11 16) (by decide +kernel))
  obtain ⟨kc12, kI12, hKn12⟩ := u_known (C := RX12) (T := TX12) (N := 71) (n := 71) hts0 inX12 (hts0 (.instantiable RX12 71) (by decide +kernel))
  obtain ⟨dC, dI, hKc⟩ : ∃ (dC : Nat → ClassId) (dI : Nat → Nat → Nat), ∀ (k : Nat) (q : vw_C), vwCl[k]? = some q → u_Kn s q.1 q.2.1 q.2.2 (dC k) (dI k) := by
    refine ⟨fun k => if k = 0 then kc0 else if k = 1 then kc1 else if k = 2 then kc2 else if k = 3 then kc3 else if k = 4 then kc4 else if k = 5 then kc5 else if k = 6 then kc6 else if k = 7 then kc7 else if k = 8 then kc8 else if k = 9 then kc9 else if k = 10 then kc10 else if k = 11 then kc11 else kc12, fun k => if k = 0 then kI0 else if k = 1 then kI1 else if k = 2 then kI2 else if k = 3 then kI3 else if k = 4 then kI4 else if k = 5 then kI5 else if k = 6 then kI6 else if k = 7 then kI7 else if k = 8 then kI8 else if k = 9 then kI9 else if k = 10 then kI10 else if k = 11 then kI11 else kI12, ?_⟩
    intro k q hq
    match k, hq with
    | 0, hq => cases hq; exact hKn0
    | 1, hq => cases hq; exact hKn1
    | 2, hq => cases hq; exact hKn2
    | 3, hq => cases hq; exact hKn3
    | 4, hq => cases hq; exact hKn4
    | 5, hq => cases hq; exact hKn5
    | 6, hq => cases hq; exact hKn6
    | 7, hq => cases hq; exact hKn7
    | 8, hq => cases hq; exact hKn8
    | 9, hq => cases hq; exact hKn9
    | 10, hq => cases hq; exact hKn10
    | 11, hq => cases hq; exact hKn11
    | 12, hq => cases hq; exact hKn12
    | k + 13, hq => simp [vwCl] at hq
  have hS : va_S A s.heap s.heap [] := va_S.rf
  have hK : va_K (dC, dI) vwCl [] s := ⟨hKc, fun k q h => by simp at h⟩
  have hnp : zNp s := zNp_start (flat_of_before _ hgv)
  obtain ⟨τ0, hτ0⟩ : ∃ t : zTy, t = (fun _ => 0, fun _ => kc0, fun _ => 0, fun _ => 0) := ⟨_, rfl⟩
  obtain ⟨f0, hf0⟩ : ∃ t : zFi, t = (fun _ _ => 0) := ⟨_, rfl⟩
  obtain ⟨g0, hg0⟩ : ∃ t : zFr, t = (fun _ _ => none) := ⟨_, rfl⟩
  obtain ⟨D, hDe⟩ : ∃ t : va_G, t = (dC, dI) := ⟨_, rfl⟩
  have hH : zH D A τ0 f0 g0 0 s s.heap := by
    rw [hDe, hτ0]
    exact ⟨⟨[], fun i => ⟨fun h => absurd h List.not_mem_nil, fun h => absurd rfl h⟩, zP0, zD0⟩, hK, fun i h => absurd rfl h, fun i j r h => absurd rfl h⟩
  have hB : zBI τ0 f0 g0 0 200 0 0 0 := by
    rw [hτ0, hf0]
    exact ⟨fun i h => absurd h (by omega), fun i h => ⟨rfl, rfl⟩, fun q hq h => absurd h (by omega), fun i k h => rfl⟩
  have hl := lv_entry ([.ref b]) (n := 7) (Nat.le_of_ble_eq_true rfl)
  rw [lg_entry_eq]
  generalize (lg_sl ([.ref b]) ++ List.replicate (7 - (lg_sl ([.ref b])).length) Slot.unset).toArray = ls at hl ⊢
  have hl : lv_has ls 7 [(0, .ref b)] := hl
  have hw0 := hts (.classLink RL 8 RX11) (by decide +kernel)
  have hw1 := hts (.instantiable RX11 16) (by decide +kernel)
  have hw2 := hts (.initialized RX11) (by decide +kernel)
  have hw3 := hts (.methodLink RL 81 yX11_init) (by decide +kernel)
  have hw4 := hts (.instanceMethod yX11_init) (by decide +kernel)
  have hw5 := hts (.classLink RL 82 RX12) (by decide +kernel)
  have hw6 := hts (.instantiable RX12 71) (by decide +kernel)
  have hw7 := hts (.initialized RX12) (by decide +kernel)
  have hw8 := hts (.methodLink RL 84 yX12_init) (by decide +kernel)
  have hw9 := hts (.instanceMethod yX12_init) (by decide +kernel)
  have hw10 := hts (.arrayClass .long) (by decide +kernel)
  refine zNew (D := D) (fs := [.null, .null, .null, .null, .null, .null, .null, .null, .null, .null, .int 0, .int 0, .int 0, .int 0, .int 0, .int 0]) (ci := 11) (C := RX11) (T := TX11) (N := 16) hx hb hts inlX11 tyX11 tyX11_ok hown hw0 hw1 hw2 hH hS hA rfl 0 (hB.2.1 0 (by omega)).1 (fun _ => rfl) (by decide) (Nat.le_of_ble_eq_true rfl) (Nat.le_of_ble_eq_true rfl) dL_law_0 (fun q9 c9 H hH8 hS => ?_)
  obtain ⟨τ101, eτ101⟩ : ∃ t9 : zTy, t9 = (va_up τ0.1 0 q9, va_up τ0.2.1 0 c9, va_up τ0.2.2.1 0 27, va_up τ0.2.2.2 0 0) := ⟨_, rfl⟩
  obtain ⟨f102, ef102⟩ : ∃ f9 : zFi, f9 = va_up f0 0 (fun _ => 0) := ⟨_, rfl⟩
  obtain ⟨g103, eg103⟩ : ∃ f9 : zFr, f9 = va_up g0 0 (fun _ => none) := ⟨_, rfl⟩
  have hH : zH D A τ101 f102 g103 0 s H := by rw [eτ101, ef102, eg103]; exact hH8
  clear hH8
  have hqτ101 : τ101.1 0 = q9 := by rw [eτ101]; exact va_up_self τ0.1 0 q9
  have haτ101 : ∀ i, i ≠ 0 → τ101.1 i = τ0.1 i := fun i h => by rw [eτ101]; exact va_up_ne _ _ h
  have hkτ101 : τ101.2.2.1 0 = 27 := by rw [eτ101]; exact va_up_self τ0.2.2.1 0 27
  have hnτ101 : τ101.2.2.2 0 = 0 := by rw [eτ101]; exact va_up_self τ0.2.2.2 0 0
  have hbτ101 : ∀ i, i ≠ 0 → τ101.2.2.1 i = τ0.2.2.1 i ∧ τ101.2.2.2 i = τ0.2.2.2 i := fun i h => by rw [eτ101]; exact ⟨va_up_ne _ _ h, va_up_ne _ _ h⟩
  clear eτ101
  subst hqτ101
  have hB := zBI.born (i := 0) (a' := 1) (b' := 200) hB (by omega) (by omega) hkτ101 hnτ101 hbτ101 ef102 eg103 (by decide) (by decide) (by decide)
  refine W.widen (k := 1) (n := 16) (by decide) (by decide) ?_
  refine lv_dup hx hb dL_law_3 rfl ?_
  refine va_callv (va_runI (As := []) (rest := [.ref (τ101.1 0)]) ⟨hx, hb, hml, hown, hts⟩ (i_PH l hl0 D A sad τ101 f102 g103 0 hB) (cwI 0 hts gL_law_X11_init rfl rfl rfl hw2 hw3 hw4 rfl (by decide +kernel) ⟨Nat.le_of_ble_eq_true rfl, Nat.le_of_ble_eq_true rfl⟩) ⟨zQc_bl, zQc_at hz hS hA hH⟩ rfl rfl hl.1 rfl (lv_room (Nat.le_of_ble_eq_true rfl)) dL_law_4 ⟨Nat.le_of_ble_eq_true rfl, Nat.le_of_ble_eq_true rfl⟩) hS (fun q _ h => h) (fun q h => h) (fun u9 t9 H1 locs ht9 hvm9 hw hB hz1 hk1 hS => ?_)
  obtain ⟨τ105, f106, g107⟩ := u9
  have hH := zMv ht9 hvm9 hB
  clear hB
  simp only at hw hH
  generalize H1 = H at hH hS ⊢
  refine W.widen (k := 28) (n := 2464) (by decide) (by decide) ?_
  obtain ⟨hB, ha8, hV8, hRv, hf14⟩ := hw
  refine W.eq (g2 := F0 m 7 ls [.ref (τ105.1 0)]) (by rw [ha8 0 (by omega)]) ?_
  refine lv_astore_n (lv' := [(1, .ref (τ105.1 0)), (0, .ref b)]) hx hb dL_law_7 rfl hl (by decide) rfl (fun ls hl => ?_)
  refine zNew (D := D) (fs := [.int 0, .int 0, .int 0, .null, .null, .null, .null, .null, .null, .null, .null, .null, .null, .int 0, .null, .null, .null, .null, .null, .null, .null, .int 0, .int 0, .int 0, .int 0, .int 0, .int 0, .null, .null, .int 0, .int 0, .int 0, .int 0, .int 0, .int 0, .int 0, .int 0, .null, .null, .null, .null, .null, .null, .null, .null, .int 0, .null, .null, .null, .null, .null, .null, .null, .null, .null, .null, .null, .null, .null, .null, .null, .int 0, .null, .null, .null, .null, .null, .null, .int 0, .null, .null]) (ci := 12) (C := RX12) (T := TX12) (N := 71) hx hb hts inlX12 tyX12 tyX12_ok hown hw5 hw6 hw7 hH hS hA rfl 30 (hB.2.1 30 (by omega)).1 (fun _ => rfl) (by decide) (Nat.le_of_ble_eq_true rfl) (Nat.le_of_ble_eq_true rfl) dL_law_8 (fun q9 c9 H hH8 hS => ?_)
  obtain ⟨τ108, eτ108⟩ : ∃ t9 : zTy, t9 = (va_up τ105.1 30 q9, va_up τ105.2.1 30 c9, va_up τ105.2.2.1 30 28, va_up τ105.2.2.2 30 0) := ⟨_, rfl⟩
  obtain ⟨f109, ef109⟩ : ∃ f9 : zFi, f9 = va_up f106 30 (fun _ => 0) := ⟨_, rfl⟩
  obtain ⟨g110, eg110⟩ : ∃ f9 : zFr, f9 = va_up g107 30 (fun _ => none) := ⟨_, rfl⟩
  have hH : zH D A τ108 f109 g110 0 s H := by rw [eτ108, ef109, eg110]; exact hH8
  clear hH8
  have hqτ108 : τ108.1 30 = q9 := by rw [eτ108]; exact va_up_self τ105.1 30 q9
  have haτ108 : ∀ i, i ≠ 30 → τ108.1 i = τ105.1 i := fun i h => by rw [eτ108]; exact va_up_ne _ _ h
  have hkτ108 : τ108.2.2.1 30 = 28 := by rw [eτ108]; exact va_up_self τ105.2.2.1 30 28
  have hnτ108 : τ108.2.2.2 30 = 0 := by rw [eτ108]; exact va_up_self τ105.2.2.2 30 0
  have hbτ108 : ∀ i, i ≠ 30 → τ108.2.2.1 i = τ105.2.2.1 i ∧ τ108.2.2.2 i = τ105.2.2.2 i := fun i h => by rw [eτ108]; exact ⟨va_up_ne _ _ h, va_up_ne _ _ h⟩
  clear eτ108
  subst hqτ108
  rw [show τ105.1 0 = τ108.1 0 from (haτ108 0 (by omega)).symm] at hl
  have hB := zBI.born (i := 30) (a' := 31) (b' := 200) hB (by omega) (by omega) hkτ108 hnτ108 hbτ108 ef109 eg110 (by decide) (by decide) (by decide)
  have hRv := hRv.cg (f' := f109) (fun i k h => by rw [ef109, va_up_ne _ _ (by omega)])
  have hf14 : f109 0 14 = -1 := by rw [ef109, va_up_ne _ _ (by omega)]; exact hf14
  have hB := zBI.sw 30 hB (by decide +kernel)
  refine W.widen (k := 29) (n := 2535) (by decide) (by decide) ?_
  refine lv_dup hx hb dL_law_11 rfl ?_
  refine va_callv (va_runI (As := []) (rest := [.ref (τ108.1 30)]) ⟨hx, hb, hml, hown, hts⟩ (i_M l hl0 D A sad τ108 f109 g110 0 hB) (cwI 0 hts gL_law_X12_init rfl rfl rfl hw7 hw8 hw9 rfl (by decide +kernel) ⟨Nat.le_of_ble_eq_true rfl, Nat.le_of_ble_eq_true rfl⟩) ⟨zQc_bl, zQc_at hz hS hA hH⟩ rfl rfl hl.1 rfl (lv_room (Nat.le_of_ble_eq_true rfl)) dL_law_12 ⟨Nat.le_of_ble_eq_true rfl, Nat.le_of_ble_eq_true rfl⟩) hS (fun q _ h => h) (fun q h => h) (fun u9 t9 H1 locs ht9 hvm9 hw hB hz1 hk1 hS => ?_)
  obtain ⟨τ112, f113, g114⟩ := u9
  have hH := zMv ht9 hvm9 hB
  clear hB
  simp only at hw hH
  generalize H1 = H at hH hS ⊢
  refine W.widen (k := 79) (n := 22527) (by decide) (by decide) ?_
  obtain ⟨hB, ha8, hV8, hOt, hRvM, hM24⟩ := hw
  rw [show τ108.1 0 = τ112.1 0 from (ha8 0 (by omega)).symm] at hl
  refine W.eq (g2 := F0 m 15 ls [.ref (τ112.1 30)]) (by rw [ha8 30 (by omega)]) ?_
  refine lv_astore_n (lv' := [(2, .ref (τ112.1 30)), (1, .ref (τ112.1 0)), (0, .ref b)]) hx hb dL_law_15 rfl hl (by decide) rfl (fun ls hl => ?_)
  refine lv_iconst (v := nI 1) hx hb dL_law_16 (by decide) ?_
  refine zNewl (D := D) hx hb hw10 hH hS hA 28 (hB.2.1 28 (by omega)).1 hB.no4 (Nat.le_of_ble_eq_true rfl) (Nat.le_of_ble_eq_true rfl) dL_law_17 (fun q9 c9 H hH8 hS => ?_)
  obtain ⟨τ115, eτ115⟩ : ∃ t9 : zTy, t9 = (va_up τ112.1 28 q9, va_up τ112.2.1 28 c9, va_up τ112.2.2.1 28 4, va_up τ112.2.2.2 28 1) := ⟨_, rfl⟩
  obtain ⟨f116, ef116⟩ : ∃ f9 : zFi, f9 = va_up f113 28 (fun _ => 0) := ⟨_, rfl⟩
  obtain ⟨g117, eg117⟩ : ∃ f9 : zFr, f9 = va_up g114 28 (fun _ => none) := ⟨_, rfl⟩
  have hH : zH D A τ115 f116 g117 0 s H := by rw [eτ115, ef116, eg117]; exact hH8
  clear hH8
  have hqτ115 : τ115.1 28 = q9 := by rw [eτ115]; exact va_up_self τ112.1 28 q9
  have haτ115 : ∀ i, i ≠ 28 → τ115.1 i = τ112.1 i := fun i h => by rw [eτ115]; exact va_up_ne _ _ h
  have hkτ115 : τ115.2.2.1 28 = 4 := by rw [eτ115]; exact va_up_self τ112.2.2.1 28 4
  have hnτ115 : τ115.2.2.2 28 = 1 := by rw [eτ115]; exact va_up_self τ112.2.2.2 28 1
  have hbτ115 : ∀ i, i ≠ 28 → τ115.2.2.1 i = τ112.2.2.1 i ∧ τ115.2.2.2 i = τ112.2.2.2 i := fun i h => by rw [eτ115]; exact ⟨va_up_ne _ _ h, va_up_ne _ _ h⟩
  clear eτ115
  subst hqτ115
  rw [show τ112.1 30 = τ115.1 30 from (haτ115 30 (by omega)).symm] at hl
  rw [show τ112.1 0 = τ115.1 0 from (haτ115 0 (by omega)).symm] at hl
  have hI := zBI.start hB hkτ115 hnτ115 hbτ115 ef116 eg117 hOt
  have hR : zRl f116 g117 := zBI.rl hB ef116
  have hRv := hRv.cg (fun i k h => hV8 i k (by omega))
  have hTx : zRt f116 := zBI.rt hB ef116 hRv hRvM
  have hGo : zGo f116 := zBI.go hB ef116
  have hDw : zRw f116 g117 := zBI.rw hB ef116 (by rw [eg117, va_up_ne _ _ (by omega)]; exact hB.2.2.1 (30, 37, 200) (by decide) (Or.inr (Or.inr ⟨rfl, by decide, by decide⟩)))
  refine W.widen (k := 80) (n := 22528) (by decide) (by decide) ?_
  refine lv_astore_n (lv' := [(3, .ref (τ115.1 28)), (2, .ref (τ115.1 30)), (1, .ref (τ115.1 0)), (0, .ref b)]) hx hb dL_law_19 rfl hl (by decide) rfl (fun ls hl => ?_)
  refine lv_iconst (v := nI 0) hx hb dL_law_20 (by decide) ?_
  refine lv_istore (lv' := [(4, .int (nI 0)), (3, .ref (τ115.1 28)), (2, .ref (τ115.1 30)), (1, .ref (τ115.1 0)), (0, .ref b)]) hx hb dL_law_21 hl (by decide) rfl (fun ls hl => ?_)
  refine zLpC (σ := Nat × Nat × zTy × zFi × zFr × Int64) (fun x9 => (fun (j : Nat) (Lt : Nat) (T : zTy) (f : zFi) (G : zFr) (oL : Int64) => 100 + 400 * j) x9.1 x9.2.1 x9.2.2.1 x9.2.2.2.1 x9.2.2.2.2.1 x9.2.2.2.2.2) (fun x9 => (fun (j : Nat) (Lt : Nat) (T : zTy) (f : zFi) (G : zFr) (oL : Int64) => 30000 + 12000 * j) x9.1 x9.2.1 x9.2.2.1 x9.2.2.2.1 x9.2.2.2.2.1 x9.2.2.2.2.2) (fun x9 k9 H locs ls => (fun (j : Nat) (Lt : Nat) (T : zTy) (f : zFi) (G : zFr) (oL : Int64) => k9 = L - 6 * j ∧ (6 * j ≤ L ∧ zA T f G Lt Lt j ∧ zRl f G ∧ zRt f ∧ zGo f ∧ zRw f G) ∧ zH D A T f G oL s H ∧ va_S A s.heap H locs ∧ lv_has ls 7 [(0, .ref b), (1, .ref (T.1 0)), (2, .ref (T.1 30)), (3, .ref (T.1 28)), (4, .int (nI (6 * j)))]) x9.1 x9.2.1 x9.2.2.1 x9.2.2.2.1 x9.2.2.2.2.1 x9.2.2.2.2.2) (0, 0, τ115, f116, g117, 0) (L - 6 * 0) (by show 80 ≤ 100 + 400 * 0; decide) (by show 22528 ≤ 30000 + 12000 * 0; decide) (show L - 6 * 0 = L - 6 * 0 ∧ (6 * 0 ≤ L ∧ zA τ115 f116 g117 0 0 0 ∧ zRl f116 g117 ∧ zRt f116 ∧ zGo f116 ∧ zRw f116 g117) ∧ zH D A τ115 f116 g117 0 s _ ∧ va_S A s.heap _ _ ∧ lv_has _ 7 [(0, .ref b), (1, .ref (τ115.1 0)), (2, .ref (τ115.1 30)), (3, .ref (τ115.1 28)), (4, .int (nI (6 * 0)))] from ⟨rfl, ⟨by omega, hI, hR, hTx, hGo, hDw⟩, hH, hS, lv_sub hl [4, 3, 2, 1, 0] rfl⟩) (fun k9 ih x9 H locs ls hv9 => ?_)
  obtain ⟨j, Lt, T, f, G, oL⟩ := x9
  have hv9 : k9 = L - 6 * j ∧ (6 * j ≤ L ∧ zA T f G Lt Lt j ∧ zRl f G ∧ zRt f ∧ zGo f ∧ zRw f G) ∧ zH D A T f G oL s H ∧ va_S A s.heap H locs ∧ lv_has ls 7 [(0, .ref b), (1, .ref (T.1 0)), (2, .ref (T.1 30)), (3, .ref (T.1 28)), (4, .int (nI (6 * j)))] := hv9
  obtain ⟨hkih118, hv9, hH, hS, hl⟩ := hv9
  show W _ _ _ _ _ _ _ _ _ _ _ _ (100 + 400 * j) (30000 + 12000 * j) _ _
  obtain ⟨h6, hI, hR, hTx, hGo, hDw⟩ := hv9
  have ih118 := ih
  clear ih
  have hj5 : j ≤ 512 := by omega
  refine lv_iload hx hb dL_law_23 (lv_at hl 4 rfl) ?_
  refine lv_aload_n hx hb dL_law_25 rfl (lv_at hl 0 rfl) ?_
  refine va_slen hx hb hX hbl hbA hS dL_law_26 ?_
  refine lv_bipush (v := nI 6) hx hb dL_law_27 (by decide) ?_
  refine lv_isub hx hb dL_law_29 ?_
  refine lv_topi (fun v119 ev119 => ?_)
  have iv119 : v119.toInt = ((L : Nat) : Int) - ((6 : Nat) : Int) := by rw [ev119]; exact pk_sub_toInt (by omega) (by omega)
  refine lv_icmp_gt (tgt := 1079) hx hb dL_law_30 (by decide) (fun c120 => ?_) (fun c120 => ?_)
  · have zc120 := c120
    replace zc120 := zc_lt (iv119) (nI_toInt (by omega)) zc120
    refine lv_iconst (v := 1) hx hb dL_law_1079 (by decide) ?_
    refine va_forget (fun q hq => by have h9 := hS.2.2 q hq; rw [hAd] at h9; exact h9) ?_
    refine W.widen (k := 601024) (n := 7293034) (by omega) (by omega) ?_
    exact lw_ret hx hb hr hlocks dL_law_1080
  · have zc120 := c120
    replace zc120 := zc_nlt (iv119) (nI_toInt (by omega)) zc120
    refine zCutC (c2 := (100 + 400 * (j + 1))) (s2 := (30000 + 12000 * (j + 1))) (σ := Nat × zTy × zFi × zFr × Int64) 1073 (fun x9 => (fun (L2 : Nat) (T2 : zTy) (f2 : zFi) (G2 : zFr) (oL2 : Int64) => []) x9.1 x9.2.1 x9.2.2.1 x9.2.2.2.1 x9.2.2.2.2) (fun x9 H locs ls => (fun (L2 : Nat) (T2 : zTy) (f2 : zFi) (G2 : zFr) (oL2 : Int64) => (zA T2 f2 G2 L2 L2 (j + 1) ∧ zRl f2 G2 ∧ zRt f2 ∧ zGo f2 ∧ zRw f2 G2) ∧ zH D A T2 f2 G2 oL2 s H ∧ va_S A s.heap H locs ∧ lv_has ls 7 [(0, .ref b), (1, .ref (T2.1 0)), (2, .ref (T2.1 30)), (3, .ref (T2.1 28)), (4, .int (nI (6 * j)))]) x9.1 x9.2.1 x9.2.2.1 x9.2.2.2.1 x9.2.2.2.2) (fun x9 H locs ls hv9 => ?_) (fun hJ121 => ?_)
    · skip
      obtain ⟨L2, T2, f2, G2, oL2⟩ := x9
      have hv9 : (zA T2 f2 G2 L2 L2 (j + 1) ∧ zRl f2 G2 ∧ zRt f2 ∧ zGo f2 ∧ zRw f2 G2) ∧ zH D A T2 f2 G2 oL2 s H ∧ va_S A s.heap H locs ∧ lv_has ls 7 [(0, .ref b), (1, .ref (T2.1 0)), (2, .ref (T2.1 30)), (3, .ref (T2.1 28)), (4, .int (nI (6 * j)))] := hv9
      obtain ⟨hv9, hH, hS, hl⟩ := hv9
      show W _ _ _ _ _ _ _ _ _ _ _ _ _ _ _ (F0 m 1073 ls [])
      obtain ⟨hI, hR, hTx, hGo, hDw⟩ := hv9
      refine lv_iinc (v := nI (6 * (j + 1))) (lv' := [(4, .int (nI (6 * (j + 1)))), (0, .ref b), (1, .ref (T2.1 0)), (2, .ref (T2.1 30)), (3, .ref (T2.1 28))]) hx hb dL_law_1073 hl (k := 4) rfl (by rw [show (Int32.ofInt 6 : Int32) = nI 6 from by decide, nI_add]; congr 1) (by decide) rfl (fun ls hl => ?_)
      refine lv_goto (tgt := 23) hx hb dL_law_1076 (by decide) ?_
      refine W.widen (k := (100 + 400 * (j + 1))) (n := (30000 + 12000 * (j + 1))) (by omega) (by omega) (ih118 (L - 6 * (j + 1)) (by omega) (j + 1, L2, T2, f2, G2, oL2) _ _ _ (show L - 6 * (j + 1) = L - 6 * (j + 1) ∧ (6 * (j + 1) ≤ L ∧ zA T2 f2 G2 L2 L2 (j + 1) ∧ zRl f2 G2 ∧ zRt f2 ∧ zGo f2 ∧ zRw f2 G2) ∧ zH D A T2 f2 G2 oL2 s _ ∧ va_S A s.heap _ _ ∧ lv_has _ 7 [(0, .ref b), (1, .ref (T2.1 0)), (2, .ref (T2.1 30)), (3, .ref (T2.1 28)), (4, .int (nI (6 * (j + 1))))] from ⟨rfl, ⟨by omega, hI, hR, hTx, hGo, hDw⟩, hH, hS, lv_sub hl [1, 2, 3, 4, 0] rfl⟩))
    · skip
      refine lv_aload_n hx hb dL_law_33 rfl (lv_at hl 0 rfl) ?_
      refine lv_iload hx hb dL_law_34 (lv_at hl 4 rfl) ?_
      refine va_sld hx hb hX hbl hbA hS (vp_in_nI (by omega) (by omega)) dL_law_36 ?_
      rw [nI_clamp (by omega)]
      refine lv_bipush (v := nI 31) hx hb dL_law_37 (by decide) ?_
      refine lv_iand hx hb dL_law_39 ?_
      refine lv_topi (fun v122 ev122 => ?_)
      rcases zCase22 v122 with c123 | c123 | c123 | c123 | c123 | c123 | c123 | c123 | c123 | c123 | c123 | c123 | c123 | c123 | c123 | c123 | c123 | c123 | c123 | c123 | c123 | c123 | c123 | c123
      · subst c123
        refine lv_tableIn (tgt := 148) (off := 108) hx hb dL_law_40 (by decide) (by decide) rfl (by decide) ?_
        refine lv_aload_n hx hb dL_law_148 rfl (lv_at hl 1 rfl) ?_
        refine lv_aload_n hx hb dL_law_149 rfl (lv_at hl 0 rfl) ?_
        refine lv_iload hx hb dL_law_150 (lv_at hl 4 rfl) ?_
        refine lv_iconst (v := nI 1) hx hb dL_law_152 (by decide) ?_
        refine lv_iadd hx hb dL_law_153 ?_
        refine lv_topi (fun v124 ev124 => ?_)
        obtain rfl : v124 = nI (6 * j + 1) := ev124.trans (nI_add _ _)
        refine va_sld hx hb hX hbl hbA hS (vp_in_nI (by omega) (by omega)) dL_law_154 ?_
        rw [nI_clamp (by omega)]
        refine lv_aload_n hx hb dL_law_155 rfl (lv_at hl 0 rfl) ?_
        refine lv_iload hx hb dL_law_156 (lv_at hl 4 rfl) ?_
        refine lv_iconst (v := nI 2) hx hb dL_law_158 (by decide) ?_
        refine lv_iadd hx hb dL_law_159 ?_
        refine lv_topi (fun v125 ev125 => ?_)
        obtain rfl : v125 = nI (6 * j + 2) := ev125.trans (nI_add _ _)
        refine va_sld hx hb hX hbl hbA hS (vp_in_nI (by omega) (by omega)) dL_law_160 ?_
        rw [nI_clamp (by omega)]
        refine lv_aload_n hx hb dL_law_161 rfl (lv_at hl 0 rfl) ?_
        refine lv_iload hx hb dL_law_162 (lv_at hl 4 rfl) ?_
        refine lv_iconst (v := nI 3) hx hb dL_law_164 (by decide) ?_
        refine lv_iadd hx hb dL_law_165 ?_
        refine lv_topi (fun v126 ev126 => ?_)
        obtain rfl : v126 = nI (6 * j + 3) := ev126.trans (nI_add _ _)
        refine va_sld hx hb hX hbl hbA hS (vp_in_nI (by omega) (by omega)) dL_law_166 ?_
        rw [nI_clamp (by omega)]
        refine lv_aload_n hx hb dL_law_167 rfl (lv_at hl 0 rfl) ?_
        refine lv_iload hx hb dL_law_168 (lv_at hl 4 rfl) ?_
        refine lv_iconst (v := nI 4) hx hb dL_law_170 (by decide) ?_
        refine lv_iadd hx hb dL_law_171 ?_
        refine lv_topi (fun v127 ev127 => ?_)
        obtain rfl : v127 = nI (6 * j + 4) := ev127.trans (nI_add _ _)
        refine va_sld hx hb hX hbl hbA hS (vp_in_nI (by omega) (by omega)) dL_law_172 ?_
        rw [nI_clamp (by omega)]
        refine lv_aload_n hx hb dL_law_173 rfl (lv_at hl 0 rfl) ?_
        refine lv_iload hx hb dL_law_174 (lv_at hl 4 rfl) ?_
        refine lv_iconst (v := nI 5) hx hb dL_law_176 (by decide) ?_
        refine lv_iadd hx hb dL_law_177 ?_
        refine lv_topi (fun v128 ev128 => ?_)
        obtain rfl : v128 = nI (6 * j + 5) := ev128.trans (nI_add _ _)
        refine va_sld hx hb hX hbl hbA hS (vp_in_nI (by omega) (by omega)) dL_law_178 ?_
        rw [nI_clamp (by omega)]
        obtain ⟨⟨n, c, o, d, sn, p, hCI⟩, td, htd9, htd⟩ := hI.2.2.1
        obtain ⟨hT, hC, hO, hDo, hSn, hPk, hkx⟩ := id hCI
        refine va_calli (va_runV (As := [.int (xs (6 * j + 1)), .int (xs (6 * j + 2)), .int (xs (6 * j + 3)), .int (xs (6 * j + 4)), .int (xs (6 * j + 5))]) (rest := []) ⟨hx, hb, hml, hown, hts⟩ (c_feed l hl0 D A sad T f G oL Lt hI.1 hI.2.2.2.1.2 hI.2.2.2.1.1 (xs (6 * j + 1)) (xs (6 * j + 2)) (xs (6 * j + 3)) (xs (6 * j + 4)) (xs (6 * j + 5))) (cwV 5 hts gL_law_X11_feed rfl rfl rfl (by decide +kernel) ⟨Nat.le_of_ble_eq_true rfl, Nat.le_of_ble_eq_true rfl⟩) ⟨zQc_bl, zRecv hH (zk_0 hI.1) rfl, zQc_at hz hS hA hH⟩ rfl rfl hl.1 rfl (lv_room (Nat.le_of_ble_eq_true rfl)) dL_law_179 ⟨by show _ ≤ 601024; omega, by show _ ≤ 7293034; omega⟩) hS (fun q _ h => h) (fun q h => h) (fun r129 u9 t9 H1 locs ht9 hvm9 hw hB hz1 hk1 hS => ?_)
        have hH := zMv ht9 hvm9 hB
        clear hB
        generalize u9 = f130 at hw hH
        generalize H1 = H at hH hS ⊢
        have hcw := cw_feed hw
        have hGo := hGo.cg (fun i k q => hcw i k (zDd.g q))
        have hDw := hDw.cg (fun i k q => hcw i k (zDd.w q)) rfl
        have hwx := hw
        have hL0 := hI.2.2.2.1
        have hR := hR.k0 (cr_feed hw)
        obtain ⟨L1, hI, hq1⟩ := ca_feed hI hw
        clear hw
        refine lv_pop hx hb dL_law_182 rfl ?_
        refine lv_aload_n hx hb dL_law_183 rfl (lv_at hl 2 rfl) ?_
        refine lv_aload_n hx hb dL_law_184 rfl (lv_at hl 0 rfl) ?_
        refine lv_iload hx hb dL_law_185 (lv_at hl 4 rfl) ?_
        refine lv_iconst (v := nI 1) hx hb dL_law_187 (by decide) ?_
        refine lv_iadd hx hb dL_law_188 ?_
        refine lv_topi (fun v131 ev131 => ?_)
        obtain rfl : v131 = nI (6 * j + 1) := ev131.trans (nI_add _ _)
        refine va_sld hx hb hX hbl hbA hS (vp_in_nI (by omega) (by omega)) dL_law_189 ?_
        rw [nI_clamp (by omega)]
        refine lv_aload_n hx hb dL_law_190 rfl (lv_at hl 0 rfl) ?_
        refine lv_iload hx hb dL_law_191 (lv_at hl 4 rfl) ?_
        refine lv_iconst (v := nI 2) hx hb dL_law_193 (by decide) ?_
        refine lv_iadd hx hb dL_law_194 ?_
        refine lv_topi (fun v132 ev132 => ?_)
        obtain rfl : v132 = nI (6 * j + 2) := ev132.trans (nI_add _ _)
        refine va_sld hx hb hX hbl hbA hS (vp_in_nI (by omega) (by omega)) dL_law_195 ?_
        rw [nI_clamp (by omega)]
        refine lv_aload_n hx hb dL_law_196 rfl (lv_at hl 0 rfl) ?_
        refine lv_iload hx hb dL_law_197 (lv_at hl 4 rfl) ?_
        refine lv_iconst (v := nI 3) hx hb dL_law_199 (by decide) ?_
        refine lv_iadd hx hb dL_law_200 ?_
        refine lv_topi (fun v133 ev133 => ?_)
        obtain rfl : v133 = nI (6 * j + 3) := ev133.trans (nI_add _ _)
        refine va_sld hx hb hX hbl hbA hS (vp_in_nI (by omega) (by omega)) dL_law_201 ?_
        rw [nI_clamp (by omega)]
        refine lv_aload_n hx hb dL_law_202 rfl (lv_at hl 0 rfl) ?_
        refine lv_iload hx hb dL_law_203 (lv_at hl 4 rfl) ?_
        refine lv_iconst (v := nI 4) hx hb dL_law_205 (by decide) ?_
        refine lv_iadd hx hb dL_law_206 ?_
        refine lv_topi (fun v134 ev134 => ?_)
        obtain rfl : v134 = nI (6 * j + 4) := ev134.trans (nI_add _ _)
        refine va_sld hx hb hX hbl hbA hS (vp_in_nI (by omega) (by omega)) dL_law_207 ?_
        rw [nI_clamp (by omega)]
        refine lv_aload_n hx hb dL_law_208 rfl (lv_at hl 0 rfl) ?_
        refine lv_iload hx hb dL_law_209 (lv_at hl 4 rfl) ?_
        refine lv_iconst (v := nI 5) hx hb dL_law_211 (by decide) ?_
        refine lv_iadd hx hb dL_law_212 ?_
        refine lv_topi (fun v135 ev135 => ?_)
        obtain rfl : v135 = nI (6 * j + 5) := ev135.trans (nI_add _ _)
        refine va_sld hx hb hX hbl hbA hS (vp_in_nI (by omega) (by omega)) dL_law_213 ?_
        rw [nI_clamp (by omega)]
        obtain ⟨nM, cM, oM, gM, LnM, dM, pM, sM, tM, BM, hMall⟩ := hI.2.2.2.2.2
        obtain ⟨hMt, hMc, hMx, hMo, hMq, hdK, hMp, ⟨hs3M, hsM⟩, ⟨ht9M, htM⟩, hMs, hBM⟩ := id hMall
        refine va_calli (va_runV (As := [.int (xs (6 * j + 1)), .int (xs (6 * j + 2)), .int (xs (6 * j + 3)), .int (xs (6 * j + 4)), .int (xs (6 * j + 5))]) (rest := []) ⟨hx, hb, hml, hown, hts⟩ (m_feedX l hl0 D A sad T f130 G oL Lt hI.1 hI.2.2.2.2.1.2 hI.2.2.2.2.1.1 (xs (6 * j + 1)) (xs (6 * j + 2)) (xs (6 * j + 3)) (xs (6 * j + 4)) (xs (6 * j + 5))) (cwV 5 hts gL_law_X12_feed rfl rfl rfl (by decide +kernel) ⟨Nat.le_of_ble_eq_true rfl, Nat.le_of_ble_eq_true rfl⟩) ⟨zQc_bl, zRecv hH (zk_30 hI.1) rfl, zQc_at hz hS hA hH⟩ rfl rfl hl.1 rfl (lv_room (Nat.le_of_ble_eq_true rfl)) dL_law_214 ⟨by show _ ≤ 601024; omega, by show _ ≤ 7293034; omega⟩) hS (fun q _ h => h) (fun q h => h) (fun r136 u9 t9 H1 locs ht9 hvm9 hw hB hz1 hk1 hS => ?_)
        have hH := zMv ht9 hvm9 hB
        clear hB
        generalize u9 = f137 at hw hH
        generalize H1 = H at hH hS ⊢
        have hTx := rt_feed hTx hL0.2 hL0.1 hwx hw
        have hw := hw.1
        clear hwx
        have hR := hR.kM (fun i k q => hw.2 i k (by unfold zRc at q; omega))
        have hGo := hGo.cg (fun i k q => hw.2 i k (by unfold zGw at q; omega))
        have hDw := hDw.cg (fun i k q => hw.2 i k (by unfold zDw at q; omega)) rfl
        obtain ⟨hI, hreq⟩ := ma_feed hI hq1 hw
        clear hw
        refine lv_pop hx hb dL_law_217 rfl ?_
        refine lv_goto (tgt := 1073) hx hb dL_law_218 (by decide) ?_
        refine W.widen (k := (100 + 400 * (j + 1))) (n := (30000 + 12000 * (j + 1))) (by omega) (by omega) ?_
        exact hJ121 (L1, T, f137, G, oL) _ _ _ (show (zA T f137 G L1 L1 (j + 1) ∧ zRl f137 G ∧ zRt f137 ∧ zGo f137 ∧ zRw f137 G) ∧ zH D A T f137 G oL s _ ∧ va_S A s.heap _ _ ∧ lv_has _ 7 [(0, .ref b), (1, .ref (T.1 0)), (2, .ref (T.1 30)), (3, .ref (T.1 28)), (4, .int (nI (6 * j)))] from ⟨⟨hI.mono (by omega), hR, hTx, hGo, hDw⟩, hH, hS, lv_sub hl [0, 1, 2, 3, 4] rfl⟩)
      · subst c123
        refine lv_tableIn (tgt := 221) (off := 181) hx hb dL_law_40 (by decide) (by decide) rfl (by decide) ?_
        refine lv_aload_n hx hb dL_law_221 rfl (lv_at hl 1 rfl) ?_
        refine lv_aload_n hx hb dL_law_222 rfl (lv_at hl 0 rfl) ?_
        refine lv_iload hx hb dL_law_223 (lv_at hl 4 rfl) ?_
        refine lv_iconst (v := nI 1) hx hb dL_law_225 (by decide) ?_
        refine lv_iadd hx hb dL_law_226 ?_
        refine lv_topi (fun v138 ev138 => ?_)
        obtain rfl : v138 = nI (6 * j + 1) := ev138.trans (nI_add _ _)
        refine va_sld hx hb hX hbl hbA hS (vp_in_nI (by omega) (by omega)) dL_law_227 ?_
        rw [nI_clamp (by omega)]
        obtain ⟨⟨n, c, o, d, sn, p, hCI⟩, td, htd9, htd⟩ := hI.2.2.1
        obtain ⟨hT, hC, hO, hDo, hSn, hPk, hkx⟩ := id hCI
        refine va_calli (va_runV (As := [.int (xs (6 * j + 1))]) (rest := []) ⟨hx, hb, hml, hown, hts⟩ (c_end l hl0 D A sad T f G oL Lt hI.1 hI.2.2.2.1.2 hI.2.2.2.1.1 (xs (6 * j + 1))) (cwV 1 hts gL_law_X11_end rfl rfl rfl (by decide +kernel) ⟨Nat.le_of_ble_eq_true rfl, Nat.le_of_ble_eq_true rfl⟩) ⟨zQc_bl, zRecv hH (zk_0 hI.1) rfl, zQc_at hz hS hA hH⟩ rfl rfl hl.1 rfl (lv_room (Nat.le_of_ble_eq_true rfl)) dL_law_228 ⟨by show _ ≤ 601024; omega, by show _ ≤ 7293034; omega⟩) hS (fun q _ h => h) (fun q h => h) (fun r139 u9 t9 H1 locs ht9 hvm9 hw hB hz1 hk1 hS => ?_)
        have hH := zMv ht9 hvm9 hB
        clear hB
        generalize u9 = f140 at hw hH
        generalize H1 = H at hH hS ⊢
        have hcw := cw_end hw
        have hGo := hGo.cg (fun i k q => hcw i k (zDd.g q))
        have hDw := hDw.cg (fun i k q => hcw i k (zDd.w q)) rfl
        have hTx := rt_end hTx hI.2.2.2.1.2 hI.2.2.2.1.1 hw
        have hR := hR.k0 (cr_end hw)
        have hwc := hw
        obtain ⟨L1, hI, hq1⟩ := ca_end hI hw
        clear hw
        refine lv_pop hx hb dL_law_231 rfl ?_
        refine lv_aload_n hx hb dL_law_232 rfl (lv_at hl 2 rfl) ?_
        refine lv_aload_n hx hb dL_law_233 rfl (lv_at hl 0 rfl) ?_
        refine lv_iload hx hb dL_law_234 (lv_at hl 4 rfl) ?_
        refine lv_iconst (v := nI 1) hx hb dL_law_236 (by decide) ?_
        refine lv_iadd hx hb dL_law_237 ?_
        refine lv_topi (fun v141 ev141 => ?_)
        obtain rfl : v141 = nI (6 * j + 1) := ev141.trans (nI_add _ _)
        refine va_sld hx hb hX hbl hbA hS (vp_in_nI (by omega) (by omega)) dL_law_238 ?_
        rw [nI_clamp (by omega)]
        obtain ⟨nM, cM, oM, gM, LnM, dM, pM, sM, tM, BM, hMall⟩ := hI.2.2.2.2.2
        obtain ⟨hMt, hMc, hMx, hMo, hMq, hdK, hMp, ⟨hs3M, hsM⟩, ⟨ht9M, htM⟩, hMs, hBM⟩ := id hMall
        refine va_calli (va_runV (As := [.int (xs (6 * j + 1))]) (rest := []) ⟨hx, hb, hml, hown, hts⟩ (m_end l hl0 D A sad T f140 G oL Lt hI.1 hI.2.2.2.2.1.2 hI.2.2.2.2.1.1 (xs (6 * j + 1))) (cwV 1 hts gL_law_X12_end rfl rfl rfl (by decide +kernel) ⟨Nat.le_of_ble_eq_true rfl, Nat.le_of_ble_eq_true rfl⟩) ⟨zQc_bl, zRecv hH (zk_30 hI.1) rfl, zQc_at hz hS hA hH⟩ rfl rfl hl.1 rfl (lv_room (Nat.le_of_ble_eq_true rfl)) dL_law_239 ⟨by show _ ≤ 601024; omega, by show _ ≤ 7293034; omega⟩) hS (fun q _ h => h) (fun q h => h) (fun r142 u9 t9 H1 locs ht9 hvm9 hw hB hz1 hk1 hS => ?_)
        have hH := zMv ht9 hvm9 hB
        clear hB
        generalize u9 = f143 at hw hH
        generalize H1 = H at hH hS ⊢
        have hR := hR.kM (fun i k q => hw.2 i k (by unfold zRc at q; omega))
        have hTx := hTx.cg0 (fun i k q => hw.2 i k (by unfold zTd0 at q; omega))
        have hGo := hGo.cg (fun i k q => hw.2 i k (by unfold zGw at q; omega))
        have hDw := hDw.cg (fun i k q => hw.2 i k (by unfold zDw at q; omega)) rfl
        have hreq : r139.toInt = r142.toInt := by
          rcases hwc with ⟨a, a1, a2, -⟩ | ⟨a, a1, -⟩ <;> rcases hw.1 with ⟨b9, b1, b2, -⟩ | ⟨b9, b1, -⟩
          · rw [a, b9]
          · exact absurd ⟨a1, a2⟩ b1
          · exact absurd ⟨b1, b2⟩ a1
          · rw [a, b9]
        clear hwc
        have hI := ma_end hI hq1 hw
        clear hw
        refine lv_pop hx hb dL_law_242 rfl ?_
        refine lv_goto (tgt := 1073) hx hb dL_law_243 (by decide) ?_
        refine W.widen (k := (100 + 400 * (j + 1))) (n := (30000 + 12000 * (j + 1))) (by omega) (by omega) ?_
        exact hJ121 (L1, T, f143, G, oL) _ _ _ (show (zA T f143 G L1 L1 (j + 1) ∧ zRl f143 G ∧ zRt f143 ∧ zGo f143 ∧ zRw f143 G) ∧ zH D A T f143 G oL s _ ∧ va_S A s.heap _ _ ∧ lv_has _ 7 [(0, .ref b), (1, .ref (T.1 0)), (2, .ref (T.1 30)), (3, .ref (T.1 28)), (4, .int (nI (6 * j)))] from ⟨⟨hI.mono (by omega), hR, hTx, hGo, hDw⟩, hH, hS, lv_sub hl [0, 1, 2, 3, 4] rfl⟩)
      · subst c123
        refine lv_tableIn (tgt := 246) (off := 206) hx hb dL_law_40 (by decide) (by decide) rfl (by decide) ?_
        refine lv_aload_n hx hb dL_law_246 rfl (lv_at hl 1 rfl) ?_
        refine lv_aload_n hx hb dL_law_247 rfl (lv_at hl 0 rfl) ?_
        refine lv_iload hx hb dL_law_248 (lv_at hl 4 rfl) ?_
        refine lv_iconst (v := nI 1) hx hb dL_law_250 (by decide) ?_
        refine lv_iadd hx hb dL_law_251 ?_
        refine lv_topi (fun v144 ev144 => ?_)
        obtain rfl : v144 = nI (6 * j + 1) := ev144.trans (nI_add _ _)
        refine va_sld hx hb hX hbl hbA hS (vp_in_nI (by omega) (by omega)) dL_law_252 ?_
        rw [nI_clamp (by omega)]
        refine lv_aload_n hx hb dL_law_253 rfl (lv_at hl 0 rfl) ?_
        refine lv_iload hx hb dL_law_254 (lv_at hl 4 rfl) ?_
        refine lv_iconst (v := nI 2) hx hb dL_law_256 (by decide) ?_
        refine lv_iadd hx hb dL_law_257 ?_
        refine lv_topi (fun v145 ev145 => ?_)
        obtain rfl : v145 = nI (6 * j + 2) := ev145.trans (nI_add _ _)
        refine va_sld hx hb hX hbl hbA hS (vp_in_nI (by omega) (by omega)) dL_law_258 ?_
        rw [nI_clamp (by omega)]
        refine lv_aload_n hx hb dL_law_259 rfl (lv_at hl 0 rfl) ?_
        refine lv_iload hx hb dL_law_260 (lv_at hl 4 rfl) ?_
        refine lv_iconst (v := nI 3) hx hb dL_law_262 (by decide) ?_
        refine lv_iadd hx hb dL_law_263 ?_
        refine lv_topi (fun v146 ev146 => ?_)
        obtain rfl : v146 = nI (6 * j + 3) := ev146.trans (nI_add _ _)
        refine va_sld hx hb hX hbl hbA hS (vp_in_nI (by omega) (by omega)) dL_law_264 ?_
        rw [nI_clamp (by omega)]
        refine lv_aload_n hx hb dL_law_265 rfl (lv_at hl 0 rfl) ?_
        refine lv_iload hx hb dL_law_266 (lv_at hl 4 rfl) ?_
        refine lv_iconst (v := nI 4) hx hb dL_law_268 (by decide) ?_
        refine lv_iadd hx hb dL_law_269 ?_
        refine lv_topi (fun v147 ev147 => ?_)
        obtain rfl : v147 = nI (6 * j + 4) := ev147.trans (nI_add _ _)
        refine va_sld hx hb hX hbl hbA hS (vp_in_nI (by omega) (by omega)) dL_law_270 ?_
        rw [nI_clamp (by omega)]
        refine lv_aload_n hx hb dL_law_271 rfl (lv_at hl 3 rfl) ?_
        obtain ⟨⟨n, c, o, d, sn, p, hCI⟩, td, htd9, htd⟩ := hI.2.2.1
        obtain ⟨hT, hC, hO, hDo, hSn, hPk, hkx⟩ := id hCI
        refine vx_calli (vx_runSX (As := [.ref (T.1 0), .int (xs (6 * j + 1)), .int (xs (6 * j + 2)), .int (xs (6 * j + 3)), .int (xs (6 * j + 4)), .ref (T.1 28)]) (rest := []) ⟨hx, hb, hml, hown, hts⟩ (h_thing l hl0 D A sad T f G oL hI.1 n hT (xs (6 * j + 1)) (xs (6 * j + 2)) (xs (6 * j + 3)) (xs (6 * j + 4)) hI.2.1) (vx_cwSW 6 hts gL_law_L_thing rfl rfl rfl (by decide +kernel) ⟨Nat.le_of_ble_eq_true rfl, Nat.le_of_ble_eq_true rfl⟩) ⟨zQn_bl, zQn_at hz hS hA hH hnp⟩ rfl rfl hl.1 rfl (lv_room (Nat.le_of_ble_eq_true rfl)) dL_law_272 ⟨by show _ ≤ 601024; omega, by show _ ≤ 7293034; omega⟩) hS (fun q _ h => h) (fun q h => h) (fun q _ h => h) (fun E ce q9 u9 t9 H1 locs ht9 hvm9 hw hB hz1 hk1 hS hce hcv hcl => ?_) (fun r148 u9 t9 H1 locs ht9 hvm9 hw hB hz1 hk1 hS => ?_)
        · obtain ⟨hX, hB⟩ := hB
          have hH := zMv ht9 hvm9 hB
          generalize H1 = H at hH hS hce ⊢
          exact hX.elim
        · skip
          obtain ⟨τ149, f150, g151, o152⟩ := u9
          have hH := zMv ht9 hvm9 hB
          clear hB
          simp only at hw hH
          generalize H1 = H at hH hS ⊢
          have hcw := cw_thing hw
          have hGo := hGo.cg (fun i k q => hcw i k (zDd.g q))
          have hDw := hDw.cg (fun i k q => hcw i k (zDd.w q)) (cv_thing hw)
          have hTx := hTx.cg (ct_thing hw)
          have hwc := hw
          have ha6 : ∀ i, i < 100 → τ149.1 i = T.1 i := fun i h => by rcases hw with ⟨rv, -, -, -, -, -, e⟩ | ⟨-, e, -⟩ | ⟨-, e, -⟩; (exact (e.2.2.1 i (by omega)).1); (rw [e]); (rw [e])
          rw [show T.1 0 = τ149.1 0 from (ha6 0 (by omega)).symm] at hl
          rw [show T.1 30 = τ149.1 30 from (ha6 30 (by omega)).symm] at hl
          rw [show T.1 28 = τ149.1 28 from (ha6 28 (by omega)).symm] at hl
          have hI := ca_thing hI hCI ⟨td, htd9, htd⟩ hw
          clear hw
          refine lv_istore (lv' := [(5, .int r148), (0, .ref b), (1, .ref (τ149.1 0)), (2, .ref (τ149.1 30)), (3, .ref (τ149.1 28)), (4, .int (nI (6 * j)))]) hx hb dL_law_275 hl (by decide) rfl (fun ls hl => ?_)
          refine lv_aload_n hx hb dL_law_277 rfl (lv_at hl 3 rfl) ?_
          refine lv_aload_n hx hb dL_law_278 rfl (lv_at hl 1 rfl) ?_
          refine lv_iload hx hb dL_law_279 (lv_at hl 5 rfl) ?_
          refine lv_iconst (v := nI 1) hx hb dL_law_281 (by decide) ?_
          refine lv_iadd hx hb dL_law_282 ?_
          refine lv_topi (fun v153 ev153 => ?_)
          obtain rfl : v153 = nI (6 * j + 1) := ev153.trans (nI_add _ _)
          refine va_sld hx hb hX hbl hbA hS (vp_in_nI (by omega) (by omega)) dL_law_283 ?_
          rw [nI_clamp (by omega)]
          refine lv_aload_n hx hb dL_law_284 rfl (lv_at hl 1 rfl) ?_
          refine lv_iload hx hb dL_law_285 (lv_at hl 5 rfl) ?_
          refine lv_iconst (v := nI 2) hx hb dL_law_287 (by decide) ?_
          refine lv_iadd hx hb dL_law_288 ?_
          refine lv_topi (fun v154 ev154 => ?_)
          obtain rfl : v154 = nI (6 * j + 2) := ev154.trans (nI_add _ _)
          refine va_sld hx hb hX hbl hbA hS (vp_in_nI (by omega) (by omega)) dL_law_289 ?_
          rw [nI_clamp (by omega)]
          refine lv_aload_n hx hb dL_law_290 rfl (lv_at hl 1 rfl) ?_
          refine lv_iload hx hb dL_law_291 (lv_at hl 5 rfl) ?_
          refine lv_iconst (v := nI 3) hx hb dL_law_293 (by decide) ?_
          refine lv_iadd hx hb dL_law_294 ?_
          refine lv_topi (fun v155 ev155 => ?_)
          obtain rfl : v155 = nI (6 * j + 3) := ev155.trans (nI_add _ _)
          refine va_sld hx hb hX hbl hbA hS (vp_in_nI (by omega) (by omega)) dL_law_295 ?_
          rw [nI_clamp (by omega)]
          refine lv_aload_n hx hb dL_law_296 rfl (lv_at hl 1 rfl) ?_
          refine lv_iload hx hb dL_law_297 (lv_at hl 5 rfl) ?_
          refine lv_iconst (v := nI 4) hx hb dL_law_299 (by decide) ?_
          refine lv_iadd hx hb dL_law_300 ?_
          refine lv_topi (fun v156 ev156 => ?_)
          obtain rfl : v156 = nI (6 * j + 4) := ev156.trans (nI_add _ _)
          refine va_sld hx hb hX hbl hbA hS (vp_in_nI (by omega) (by omega)) dL_law_301 ?_
          rw [nI_clamp (by omega)]
          obtain ⟨nM, cM, oM, gM, LnM, dM, pM, sM, tM, BM, hMall⟩ := hI.2.2.2.2.2
          obtain ⟨hMt, hMc, hMx, hMo, hMq, hdK, hMp, ⟨hs3M, hsM⟩, ⟨ht9M, htM⟩, hMs, hBM⟩ := id hMall
          refine va_calli (va_runV (As := [.int (xs (6 * j + 1)), .int (xs (6 * j + 2)), .int (xs (6 * j + 3)), .int (xs (6 * j + 4))]) (rest := []) ⟨hx, hb, hml, hown, hts⟩ (m_thing l hl0 D A sad τ149 f150 g151 o152 hI.1 nM hMt (xs (6 * j + 1)) (xs (6 * j + 2)) (xs (6 * j + 3)) (xs (6 * j + 4))) (cwV 4 hts gL_law_X12_thing rfl rfl rfl (by decide +kernel) ⟨Nat.le_of_ble_eq_true rfl, Nat.le_of_ble_eq_true rfl⟩) ⟨zQc_bl, zRecv hH (zk_30 hI.1) rfl, zQc_at hz hS hA hH⟩ rfl rfl hl.1 rfl (lv_room (Nat.le_of_ble_eq_true rfl)) dL_law_302 ⟨by show _ ≤ 601024; omega, by show _ ≤ 7293034; omega⟩) hS (fun q _ h => h) (fun q h => h) (fun r157 u9 t9 H1 locs ht9 hvm9 hw hB hz1 hk1 hS => ?_)
          have hH := zMv ht9 hvm9 hB
          clear hB
          generalize u9 = f158 at hw hH
          generalize H1 = H at hH hS ⊢
          have hGo := hGo.thing hMt.2.1 hMt.1 hw
          have hDw := hDw.cg (mw_thing hw) rfl
          have hTx := hTx.cg (mt_thing hw)
          obtain ⟨hR, hEq⟩ := rl_thing hR hT.2.1 hT.1 hMt.2.1 hMt.1 hwc (fun q => by simpa using q.2) (fun q => by simpa using q.2) hw
          clear hwc
          have hI := ma_thing hI hMall hw
          clear hw
          refine lv_istore (lv' := [(6, .int r157), (5, .int r148), (0, .ref b), (1, .ref (τ149.1 0)), (2, .ref (τ149.1 30)), (3, .ref (τ149.1 28)), (4, .int (nI (6 * j)))]) hx hb dL_law_305 hl (by decide) rfl (fun ls hl => ?_)
          refine lv_goto (tgt := 1073) hx hb dL_law_307 (by decide) ?_
          refine W.widen (k := (100 + 400 * (j + 1))) (n := (30000 + 12000 * (j + 1))) (by omega) (by omega) ?_
          exact hJ121 (Lt, τ149, f158, g151, o152) _ _ _ (show (zA τ149 f158 g151 Lt Lt (j + 1) ∧ zRl f158 g151 ∧ zRt f158 ∧ zGo f158 ∧ zRw f158 g151) ∧ zH D A τ149 f158 g151 o152 s _ ∧ va_S A s.heap _ _ ∧ lv_has _ 7 [(0, .ref b), (1, .ref (τ149.1 0)), (2, .ref (τ149.1 30)), (3, .ref (τ149.1 28)), (4, .int (nI (6 * j)))] from ⟨⟨hI.mono (by omega), hR, hTx, hGo, hDw⟩, hH, hS, lv_sub hl [2, 3, 4, 5, 6] rfl⟩)
      · subst c123
        refine lv_tableIn (tgt := 310) (off := 270) hx hb dL_law_40 (by decide) (by decide) rfl (by decide) ?_
        refine lv_aload_n hx hb dL_law_310 rfl (lv_at hl 1 rfl) ?_
        refine lv_aload_n hx hb dL_law_311 rfl (lv_at hl 0 rfl) ?_
        refine lv_iload hx hb dL_law_312 (lv_at hl 4 rfl) ?_
        refine lv_iconst (v := nI 1) hx hb dL_law_314 (by decide) ?_
        refine lv_iadd hx hb dL_law_315 ?_
        refine lv_topi (fun v159 ev159 => ?_)
        obtain rfl : v159 = nI (6 * j + 1) := ev159.trans (nI_add _ _)
        refine va_sld hx hb hX hbl hbA hS (vp_in_nI (by omega) (by omega)) dL_law_316 ?_
        rw [nI_clamp (by omega)]
        refine lv_aload_n hx hb dL_law_317 rfl (lv_at hl 0 rfl) ?_
        refine lv_iload hx hb dL_law_318 (lv_at hl 4 rfl) ?_
        refine lv_iconst (v := nI 2) hx hb dL_law_320 (by decide) ?_
        refine lv_iadd hx hb dL_law_321 ?_
        refine lv_topi (fun v160 ev160 => ?_)
        obtain rfl : v160 = nI (6 * j + 2) := ev160.trans (nI_add _ _)
        refine va_sld hx hb hX hbl hbA hS (vp_in_nI (by omega) (by omega)) dL_law_322 ?_
        rw [nI_clamp (by omega)]
        refine lv_aload_n hx hb dL_law_323 rfl (lv_at hl 0 rfl) ?_
        refine lv_iload hx hb dL_law_324 (lv_at hl 4 rfl) ?_
        refine lv_iconst (v := nI 3) hx hb dL_law_326 (by decide) ?_
        refine lv_iadd hx hb dL_law_327 ?_
        refine lv_topi (fun v161 ev161 => ?_)
        obtain rfl : v161 = nI (6 * j + 3) := ev161.trans (nI_add _ _)
        refine va_sld hx hb hX hbl hbA hS (vp_in_nI (by omega) (by omega)) dL_law_328 ?_
        rw [nI_clamp (by omega)]
        refine lv_aload_n hx hb dL_law_329 rfl (lv_at hl 0 rfl) ?_
        refine lv_iload hx hb dL_law_330 (lv_at hl 4 rfl) ?_
        refine lv_iconst (v := nI 4) hx hb dL_law_332 (by decide) ?_
        refine lv_iadd hx hb dL_law_333 ?_
        refine lv_topi (fun v162 ev162 => ?_)
        obtain rfl : v162 = nI (6 * j + 4) := ev162.trans (nI_add _ _)
        refine va_sld hx hb hX hbl hbA hS (vp_in_nI (by omega) (by omega)) dL_law_334 ?_
        rw [nI_clamp (by omega)]
        refine lv_aload_n hx hb dL_law_335 rfl (lv_at hl 3 rfl) ?_
        obtain ⟨⟨n, c, o, d, sn, p, hCI⟩, td, htd9, htd⟩ := hI.2.2.1
        obtain ⟨hT, hC, hO, hDo, hSn, hPk, hkx⟩ := id hCI
        refine vx_calli (vx_runSX (As := [.ref (T.1 0), .int (xs (6 * j + 1)), .int (xs (6 * j + 2)), .int (xs (6 * j + 3)), .int (xs (6 * j + 4)), .ref (T.1 28)]) (rest := []) ⟨hx, hb, hml, hown, hts⟩ (h_price l hl0 D A sad T f G oL (xs (6 * j + 1)) (xs (6 * j + 2)) (xs (6 * j + 3)) (xs (6 * j + 4)) hI.1 n hT hI.2.1) (vx_cwSW 6 hts gL_law_L_price rfl rfl rfl (by decide +kernel) ⟨Nat.le_of_ble_eq_true rfl, Nat.le_of_ble_eq_true rfl⟩) ⟨zQn_bl, zQn_at hz hS hA hH hnp⟩ rfl rfl hl.1 rfl (lv_room (Nat.le_of_ble_eq_true rfl)) dL_law_336 ⟨by show _ ≤ 601024; omega, by show _ ≤ 7293034; omega⟩) hS (fun q _ h => h) (fun q h => h) (fun q _ h => h) (fun E ce q9 u9 t9 H1 locs ht9 hvm9 hw hB hz1 hk1 hS hce hcv hcl => ?_) (fun r163 u9 t9 H1 locs ht9 hvm9 hw hB hz1 hk1 hS => ?_)
        · obtain ⟨hX, hB⟩ := hB
          have hH := zMv ht9 hvm9 hB
          generalize H1 = H at hH hS hce ⊢
          exact hX.elim
        · skip
          obtain ⟨f164, o165⟩ := u9
          have hH := zMv ht9 hvm9 hB
          clear hB
          simp only at hw hH
          generalize H1 = H at hH hS ⊢
          have hcw := cw_price hT.1 hw
          have hGo := hGo.cg (fun i k q => hcw i k (zDd.g q))
          have hDw := hDw.cg (fun i k q => hcw i k (zDd.w q)) rfl
          have hTx := hTx.cg (ct_price hw)
          have hwc := hw
          have hI := ca_price hI hCI ⟨td, htd9, htd⟩ hw
          clear hw
          refine lv_istore (lv' := [(5, .int r163), (0, .ref b), (1, .ref (T.1 0)), (2, .ref (T.1 30)), (3, .ref (T.1 28)), (4, .int (nI (6 * j)))]) hx hb dL_law_339 hl (by decide) rfl (fun ls hl => ?_)
          refine lv_aload_n hx hb dL_law_341 rfl (lv_at hl 3 rfl) ?_
          refine lv_aload_n hx hb dL_law_342 rfl (lv_at hl 1 rfl) ?_
          refine lv_iload hx hb dL_law_343 (lv_at hl 5 rfl) ?_
          refine lv_iconst (v := nI 1) hx hb dL_law_345 (by decide) ?_
          refine lv_iadd hx hb dL_law_346 ?_
          refine lv_topi (fun v166 ev166 => ?_)
          obtain rfl : v166 = nI (6 * j + 1) := ev166.trans (nI_add _ _)
          refine va_sld hx hb hX hbl hbA hS (vp_in_nI (by omega) (by omega)) dL_law_347 ?_
          rw [nI_clamp (by omega)]
          refine lv_aload_n hx hb dL_law_348 rfl (lv_at hl 1 rfl) ?_
          refine lv_iload hx hb dL_law_349 (lv_at hl 5 rfl) ?_
          refine lv_iconst (v := nI 2) hx hb dL_law_351 (by decide) ?_
          refine lv_iadd hx hb dL_law_352 ?_
          refine lv_topi (fun v167 ev167 => ?_)
          obtain rfl : v167 = nI (6 * j + 2) := ev167.trans (nI_add _ _)
          refine va_sld hx hb hX hbl hbA hS (vp_in_nI (by omega) (by omega)) dL_law_353 ?_
          rw [nI_clamp (by omega)]
          refine lv_aload_n hx hb dL_law_354 rfl (lv_at hl 1 rfl) ?_
          refine lv_iload hx hb dL_law_355 (lv_at hl 5 rfl) ?_
          refine lv_iconst (v := nI 3) hx hb dL_law_357 (by decide) ?_
          refine lv_iadd hx hb dL_law_358 ?_
          refine lv_topi (fun v168 ev168 => ?_)
          obtain rfl : v168 = nI (6 * j + 3) := ev168.trans (nI_add _ _)
          refine va_sld hx hb hX hbl hbA hS (vp_in_nI (by omega) (by omega)) dL_law_359 ?_
          rw [nI_clamp (by omega)]
          refine lv_aload_n hx hb dL_law_360 rfl (lv_at hl 1 rfl) ?_
          refine lv_iload hx hb dL_law_361 (lv_at hl 5 rfl) ?_
          refine lv_iconst (v := nI 4) hx hb dL_law_363 (by decide) ?_
          refine lv_iadd hx hb dL_law_364 ?_
          refine lv_topi (fun v169 ev169 => ?_)
          obtain rfl : v169 = nI (6 * j + 4) := ev169.trans (nI_add _ _)
          refine va_sld hx hb hX hbl hbA hS (vp_in_nI (by omega) (by omega)) dL_law_365 ?_
          rw [nI_clamp (by omega)]
          obtain ⟨nM, cM, oM, gM, LnM, dM, pM, sM, tM, BM, hMall⟩ := hI.2.2.2.2.2
          obtain ⟨hMt, hMc, hMx, hMo, hMq, hdK, hMp, ⟨hs3M, hsM⟩, ⟨ht9M, htM⟩, hMs, hBM⟩ := id hMall
          refine va_calli (va_runV (As := [.int (xs (6 * j + 1)), .int (xs (6 * j + 2)), .int (xs (6 * j + 3)), .int (xs (6 * j + 4))]) (rest := []) ⟨hx, hb, hml, hown, hts⟩ (m_priceX l hl0 D A sad T f164 G o165 (xs (6 * j + 1)) (xs (6 * j + 2)) (xs (6 * j + 3)) (xs (6 * j + 4)) hI.1 nM hMt) (cwV 4 hts gL_law_X12_price rfl rfl rfl (by decide +kernel) ⟨Nat.le_of_ble_eq_true rfl, Nat.le_of_ble_eq_true rfl⟩) ⟨zQc_bl, zRecv hH (zk_30 hI.1) rfl, zQc_at hz hS hA hH⟩ rfl rfl hl.1 rfl (lv_room (Nat.le_of_ble_eq_true rfl)) dL_law_366 ⟨by show _ ≤ 601024; omega, by show _ ≤ 7293034; omega⟩) hS (fun q _ h => h) (fun q h => h) (fun r170 u9 t9 H1 locs ht9 hvm9 hw hB hz1 hk1 hS => ?_)
          have hH := zMv ht9 hvm9 hB
          clear hB
          generalize u9 = f171 at hw hH
          generalize H1 = H at hH hS ⊢
          have hGo := hGo.price hMt.2.1 hMt.1 hw
          obtain ⟨hR, hEq⟩ := rl_price hR hT.2.1 hT.1 hMt.2.1 hMt.1 hwc (fun q => by simpa using q.2) (fun q => by simpa using q.2) (fun q => by simpa using q.2) hw
          clear hwc
          have hw := mx_price hMt hw
          have hTx := hTx.cg0 (fun i k q => hw.2 i k (by unfold zTd0 at q; omega))
          have hDw := hDw.cg (fun i k q => hw.2 i k (by unfold zDw at q; omega)) rfl
          have hI := ma_price hI hMall hw
          clear hw
          refine lv_istore (lv' := [(6, .int r170), (5, .int r163), (0, .ref b), (1, .ref (T.1 0)), (2, .ref (T.1 30)), (3, .ref (T.1 28)), (4, .int (nI (6 * j)))]) hx hb dL_law_369 hl (by decide) rfl (fun ls hl => ?_)
          refine lv_goto (tgt := 1073) hx hb dL_law_371 (by decide) ?_
          refine W.widen (k := (100 + 400 * (j + 1))) (n := (30000 + 12000 * (j + 1))) (by omega) (by omega) ?_
          exact hJ121 (Lt, T, f171, G, o165) _ _ _ (show (zA T f171 G Lt Lt (j + 1) ∧ zRl f171 G ∧ zRt f171 ∧ zGo f171 ∧ zRw f171 G) ∧ zH D A T f171 G o165 s _ ∧ va_S A s.heap _ _ ∧ lv_has _ 7 [(0, .ref b), (1, .ref (T.1 0)), (2, .ref (T.1 30)), (3, .ref (T.1 28)), (4, .int (nI (6 * j)))] from ⟨⟨hI.mono (by omega), hR, hTx, hGo, hDw⟩, hH, hS, lv_sub hl [2, 3, 4, 5, 6] rfl⟩)
      · subst c123
        refine lv_tableIn (tgt := 374) (off := 334) hx hb dL_law_40 (by decide) (by decide) rfl (by decide) ?_
        refine lv_aload_n hx hb dL_law_374 rfl (lv_at hl 1 rfl) ?_
        refine lv_aload_n hx hb dL_law_375 rfl (lv_at hl 0 rfl) ?_
        refine lv_iload hx hb dL_law_376 (lv_at hl 4 rfl) ?_
        refine lv_iconst (v := nI 1) hx hb dL_law_378 (by decide) ?_
        refine lv_iadd hx hb dL_law_379 ?_
        refine lv_topi (fun v172 ev172 => ?_)
        obtain rfl : v172 = nI (6 * j + 1) := ev172.trans (nI_add _ _)
        refine va_sld hx hb hX hbl hbA hS (vp_in_nI (by omega) (by omega)) dL_law_380 ?_
        rw [nI_clamp (by omega)]
        refine lv_aload_n hx hb dL_law_381 rfl (lv_at hl 0 rfl) ?_
        refine lv_iload hx hb dL_law_382 (lv_at hl 4 rfl) ?_
        refine lv_iconst (v := nI 2) hx hb dL_law_384 (by decide) ?_
        refine lv_iadd hx hb dL_law_385 ?_
        refine lv_topi (fun v173 ev173 => ?_)
        obtain rfl : v173 = nI (6 * j + 2) := ev173.trans (nI_add _ _)
        refine va_sld hx hb hX hbl hbA hS (vp_in_nI (by omega) (by omega)) dL_law_386 ?_
        rw [nI_clamp (by omega)]
        refine lv_aload_n hx hb dL_law_387 rfl (lv_at hl 3 rfl) ?_
        obtain ⟨⟨n, c, o, d, sn, p, hCI⟩, td, htd9, htd⟩ := hI.2.2.1
        obtain ⟨hT, hC, hO, hDo, hSn, hPk, hkx⟩ := id hCI
        refine vx_calli (vx_runSX (As := [.ref (T.1 0), .int (xs (6 * j + 1)), .int (xs (6 * j + 2)), .ref (T.1 28)]) (rest := []) ⟨hx, hb, hml, hown, hts⟩ (h_costs l hl0 D A sad T f G oL (xs (6 * j + 1)) (xs (6 * j + 2)) hI.1 n hT hI.2.1) (vx_cwSW 4 hts gL_law_L_costs rfl rfl rfl (by decide +kernel) ⟨Nat.le_of_ble_eq_true rfl, Nat.le_of_ble_eq_true rfl⟩) ⟨zQn_bl, zQn_at hz hS hA hH hnp⟩ rfl rfl hl.1 rfl (lv_room (Nat.le_of_ble_eq_true rfl)) dL_law_388 ⟨by show _ ≤ 601024; omega, by show _ ≤ 7293034; omega⟩) hS (fun q _ h => h) (fun q h => h) (fun q _ h => h) (fun E ce q9 u9 t9 H1 locs ht9 hvm9 hw hB hz1 hk1 hS hce hcv hcl => ?_) (fun r174 u9 t9 H1 locs ht9 hvm9 hw hB hz1 hk1 hS => ?_)
        · obtain ⟨hX, hB⟩ := hB
          have hH := zMv ht9 hvm9 hB
          generalize H1 = H at hH hS hce ⊢
          exact hX.elim
        · skip
          have hH := zMv ht9 hvm9 hB
          clear hB
          generalize u9 = o175 at hw hH
          generalize H1 = H at hH hS ⊢
          have hwc := hw
          clear hw
          refine lv_istore (lv' := [(5, .int r174), (0, .ref b), (1, .ref (T.1 0)), (2, .ref (T.1 30)), (3, .ref (T.1 28)), (4, .int (nI (6 * j)))]) hx hb dL_law_391 hl (by decide) rfl (fun ls hl => ?_)
          refine lv_aload_n hx hb dL_law_393 rfl (lv_at hl 3 rfl) ?_
          refine lv_aload_n hx hb dL_law_394 rfl (lv_at hl 1 rfl) ?_
          refine lv_iload hx hb dL_law_395 (lv_at hl 5 rfl) ?_
          refine lv_iconst (v := nI 1) hx hb dL_law_397 (by decide) ?_
          refine lv_iadd hx hb dL_law_398 ?_
          refine lv_topi (fun v176 ev176 => ?_)
          obtain rfl : v176 = nI (6 * j + 1) := ev176.trans (nI_add _ _)
          refine va_sld hx hb hX hbl hbA hS (vp_in_nI (by omega) (by omega)) dL_law_399 ?_
          rw [nI_clamp (by omega)]
          refine lv_aload_n hx hb dL_law_400 rfl (lv_at hl 1 rfl) ?_
          refine lv_iload hx hb dL_law_401 (lv_at hl 5 rfl) ?_
          refine lv_iconst (v := nI 2) hx hb dL_law_403 (by decide) ?_
          refine lv_iadd hx hb dL_law_404 ?_
          refine lv_topi (fun v177 ev177 => ?_)
          obtain rfl : v177 = nI (6 * j + 2) := ev177.trans (nI_add _ _)
          refine va_sld hx hb hX hbl hbA hS (vp_in_nI (by omega) (by omega)) dL_law_405 ?_
          rw [nI_clamp (by omega)]
          obtain ⟨nM, cM, oM, gM, LnM, dM, pM, sM, tM, BM, hMall⟩ := hI.2.2.2.2.2
          obtain ⟨hMt, hMc, hMx, hMo, hMq, hdK, hMp, ⟨hs3M, hsM⟩, ⟨ht9M, htM⟩, hMs, hBM⟩ := id hMall
          refine va_calli (va_runV (As := [.int (xs (6 * j + 1)), .int (xs (6 * j + 2))]) (rest := []) ⟨hx, hb, hml, hown, hts⟩ (m_costsX l hl0 D A sad T f G o175 (xs (6 * j + 1)) (xs (6 * j + 2)) hI.1 nM hMt) (cwV 2 hts gL_law_X12_costs rfl rfl rfl (by decide +kernel) ⟨Nat.le_of_ble_eq_true rfl, Nat.le_of_ble_eq_true rfl⟩) ⟨zQc_bl, zRecv hH (zk_30 hI.1) rfl, zQc_at hz hS hA hH⟩ rfl rfl hl.1 rfl (lv_room (Nat.le_of_ble_eq_true rfl)) dL_law_406 ⟨by show _ ≤ 601024; omega, by show _ ≤ 7293034; omega⟩) hS (fun q _ h => h) (fun q h => h) (fun r178 u9 t9 H1 locs ht9 hvm9 hw hB hz1 hk1 hS => ?_)
          have hH := zMv ht9 hvm9 hB
          clear hB
          generalize u9 = f179 at hw hH
          generalize H1 = H at hH hS ⊢
          obtain ⟨hR, hEq⟩ := rl_costs hR hT.2.1 hT.1 hMt.2.1 hMt.1 hwc (fun q => by simpa using q.2) hw
          clear hwc
          have hw := mx_costs hw
          have hTx := hTx.cg0 (fun i k q => hw i k (by unfold zTd0 at q; omega))
          have hGo := hGo.cg (fun i k q => hw i k (by unfold zGw at q; omega))
          have hDw := hDw.cg (fun i k q => hw i k (by unfold zDw at q; omega)) rfl
          have hI := ma_q hI hw
          clear hw
          refine lv_istore (lv' := [(6, .int r178), (5, .int r174), (0, .ref b), (1, .ref (T.1 0)), (2, .ref (T.1 30)), (3, .ref (T.1 28)), (4, .int (nI (6 * j)))]) hx hb dL_law_409 hl (by decide) rfl (fun ls hl => ?_)
          refine lv_goto (tgt := 1073) hx hb dL_law_411 (by decide) ?_
          refine W.widen (k := (100 + 400 * (j + 1))) (n := (30000 + 12000 * (j + 1))) (by omega) (by omega) ?_
          exact hJ121 (Lt, T, f179, G, o175) _ _ _ (show (zA T f179 G Lt Lt (j + 1) ∧ zRl f179 G ∧ zRt f179 ∧ zGo f179 ∧ zRw f179 G) ∧ zH D A T f179 G o175 s _ ∧ va_S A s.heap _ _ ∧ lv_has _ 7 [(0, .ref b), (1, .ref (T.1 0)), (2, .ref (T.1 30)), (3, .ref (T.1 28)), (4, .int (nI (6 * j)))] from ⟨⟨hI.mono (by omega), hR, hTx, hGo, hDw⟩, hH, hS, lv_sub hl [2, 3, 4, 5, 6] rfl⟩)
      · subst c123
        refine lv_tableIn (tgt := 414) (off := 374) hx hb dL_law_40 (by decide) (by decide) rfl (by decide) ?_
        refine lv_aload_n hx hb dL_law_414 rfl (lv_at hl 1 rfl) ?_
        refine lv_aload_n hx hb dL_law_415 rfl (lv_at hl 0 rfl) ?_
        refine lv_iload hx hb dL_law_416 (lv_at hl 4 rfl) ?_
        refine lv_iconst (v := nI 1) hx hb dL_law_418 (by decide) ?_
        refine lv_iadd hx hb dL_law_419 ?_
        refine lv_topi (fun v180 ev180 => ?_)
        obtain rfl : v180 = nI (6 * j + 1) := ev180.trans (nI_add _ _)
        refine va_sld hx hb hX hbl hbA hS (vp_in_nI (by omega) (by omega)) dL_law_420 ?_
        rw [nI_clamp (by omega)]
        refine lv_aload_n hx hb dL_law_421 rfl (lv_at hl 0 rfl) ?_
        refine lv_iload hx hb dL_law_422 (lv_at hl 4 rfl) ?_
        refine lv_iconst (v := nI 2) hx hb dL_law_424 (by decide) ?_
        refine lv_iadd hx hb dL_law_425 ?_
        refine lv_topi (fun v181 ev181 => ?_)
        obtain rfl : v181 = nI (6 * j + 2) := ev181.trans (nI_add _ _)
        refine va_sld hx hb hX hbl hbA hS (vp_in_nI (by omega) (by omega)) dL_law_426 ?_
        rw [nI_clamp (by omega)]
        refine lv_aload_n hx hb dL_law_427 rfl (lv_at hl 0 rfl) ?_
        refine lv_iload hx hb dL_law_428 (lv_at hl 4 rfl) ?_
        refine lv_iconst (v := nI 3) hx hb dL_law_430 (by decide) ?_
        refine lv_iadd hx hb dL_law_431 ?_
        refine lv_topi (fun v182 ev182 => ?_)
        obtain rfl : v182 = nI (6 * j + 3) := ev182.trans (nI_add _ _)
        refine va_sld hx hb hX hbl hbA hS (vp_in_nI (by omega) (by omega)) dL_law_432 ?_
        rw [nI_clamp (by omega)]
        refine lv_aload_n hx hb dL_law_433 rfl (lv_at hl 3 rfl) ?_
        obtain ⟨⟨n, c, o, d, sn, p, hCI⟩, td, htd9, htd⟩ := hI.2.2.1
        obtain ⟨hT, hC, hO, hDo, hSn, hPk, hkx⟩ := id hCI
        refine vx_calli (vx_runSX (As := [.ref (T.1 0), .int (xs (6 * j + 1)), .int (xs (6 * j + 2)), .int (xs (6 * j + 3)), .ref (T.1 28)]) (rest := []) ⟨hx, hb, hml, hown, hts⟩ (h_coming l hl0 D A sad T f G oL (xs (6 * j + 1)) (xs (6 * j + 2)) (xs (6 * j + 3)) td htd htd9 hI.1 n hT c hC hI.2.1) (vx_cwSW 5 hts gL_law_L_coming rfl rfl rfl (by decide +kernel) ⟨Nat.le_of_ble_eq_true rfl, Nat.le_of_ble_eq_true rfl⟩) ⟨zQn_bl, zQn_at hz hS hA hH hnp⟩ rfl rfl hl.1 rfl (lv_room (Nat.le_of_ble_eq_true rfl)) dL_law_434 ⟨by show _ ≤ 601024; omega, by show _ ≤ 7293034; omega⟩) hS (fun q _ h => h) (fun q h => h) (fun q _ h => h) (fun E ce q9 u9 t9 H1 locs ht9 hvm9 hw hB hz1 hk1 hS hce hcv hcl => ?_) (fun r183 u9 t9 H1 locs ht9 hvm9 hw hB hz1 hk1 hS => ?_)
        · obtain ⟨hX, hB⟩ := hB
          have hH := zMv ht9 hvm9 hB
          generalize H1 = H at hH hS hce ⊢
          exact hX.elim
        · skip
          obtain ⟨f184, g185, o186⟩ := u9
          have hH := zMv ht9 hvm9 hB
          clear hB
          simp only at hw hH
          generalize H1 = H at hH hS ⊢
          have hcw := cw_coming hw
          have hGo := hGo.cg (fun i k q => hcw i k (zDd.g q))
          have hDw := hDw.cg (fun i k q => hcw i k (zDd.w q)) (cv_coming hw)
          have hTx := hTx.cg (ct_coming hw)
          have hR := hR.k1 (cr_coming hw)
          have hI := ca_coming hI hCI ⟨td, htd9, htd⟩ hw
          clear hw
          refine lv_istore (lv' := [(5, .int r183), (0, .ref b), (1, .ref (T.1 0)), (2, .ref (T.1 30)), (3, .ref (T.1 28)), (4, .int (nI (6 * j)))]) hx hb dL_law_437 hl (by decide) rfl (fun ls hl => ?_)
          refine lv_aload_n hx hb dL_law_439 rfl (lv_at hl 3 rfl) ?_
          refine lv_aload_n hx hb dL_law_440 rfl (lv_at hl 1 rfl) ?_
          refine lv_iload hx hb dL_law_441 (lv_at hl 5 rfl) ?_
          refine lv_iconst (v := nI 1) hx hb dL_law_443 (by decide) ?_
          refine lv_iadd hx hb dL_law_444 ?_
          refine lv_topi (fun v187 ev187 => ?_)
          obtain rfl : v187 = nI (6 * j + 1) := ev187.trans (nI_add _ _)
          refine va_sld hx hb hX hbl hbA hS (vp_in_nI (by omega) (by omega)) dL_law_445 ?_
          rw [nI_clamp (by omega)]
          refine lv_aload_n hx hb dL_law_446 rfl (lv_at hl 1 rfl) ?_
          refine lv_iload hx hb dL_law_447 (lv_at hl 5 rfl) ?_
          refine lv_iconst (v := nI 2) hx hb dL_law_449 (by decide) ?_
          refine lv_iadd hx hb dL_law_450 ?_
          refine lv_topi (fun v188 ev188 => ?_)
          obtain rfl : v188 = nI (6 * j + 2) := ev188.trans (nI_add _ _)
          refine va_sld hx hb hX hbl hbA hS (vp_in_nI (by omega) (by omega)) dL_law_451 ?_
          rw [nI_clamp (by omega)]
          refine lv_aload_n hx hb dL_law_452 rfl (lv_at hl 1 rfl) ?_
          refine lv_iload hx hb dL_law_453 (lv_at hl 5 rfl) ?_
          refine lv_iconst (v := nI 3) hx hb dL_law_455 (by decide) ?_
          refine lv_iadd hx hb dL_law_456 ?_
          refine lv_topi (fun v189 ev189 => ?_)
          obtain rfl : v189 = nI (6 * j + 3) := ev189.trans (nI_add _ _)
          refine va_sld hx hb hX hbl hbA hS (vp_in_nI (by omega) (by omega)) dL_law_457 ?_
          rw [nI_clamp (by omega)]
          obtain ⟨nM, cM, oM, gM, LnM, dM, pM, sM, tM, BM, hMall⟩ := hI.2.2.2.2.2
          obtain ⟨hMt, hMc, hMx, hMo, hMq, hdK, hMp, ⟨hs3M, hsM⟩, ⟨ht9M, htM⟩, hMs, hBM⟩ := id hMall
          refine va_calli (va_runV (As := [.int (xs (6 * j + 1)), .int (xs (6 * j + 2)), .int (xs (6 * j + 3))]) (rest := []) ⟨hx, hb, hml, hown, hts⟩ (m_coming l hl0 D A sad T f184 g185 o186 (xs (6 * j + 1)) (xs (6 * j + 2)) (xs (6 * j + 3)) tM htM ht9M hI.1 nM hMt cM hMc) (cwV 3 hts gL_law_X12_coming rfl rfl rfl (by decide +kernel) ⟨Nat.le_of_ble_eq_true rfl, Nat.le_of_ble_eq_true rfl⟩) ⟨zQc_bl, zRecv hH (zk_30 hI.1) rfl, zQc_at hz hS hA hH⟩ rfl rfl hl.1 rfl (lv_room (Nat.le_of_ble_eq_true rfl)) dL_law_458 ⟨by show _ ≤ 601024; omega, by show _ ≤ 7293034; omega⟩) hS (fun q _ h => h) (fun q h => h) (fun r190 u9 t9 H1 locs ht9 hvm9 hw hB hz1 hk1 hS => ?_)
          have hH := zMv ht9 hvm9 hB
          clear hB
          generalize u9 = f191 at hw hH
          generalize H1 = H at hH hS ⊢
          have hR := hR.kM (fun i k q => hw.2 i k (by unfold zRc at q; omega))
          have hTx := hTx.cg0 (fun i k q => hw.2 i k (by unfold zTd0 at q; omega))
          have hGo := hGo.cg (fun i k q => hw.2 i k (by unfold zGw at q; omega))
          have hDw := hDw.cg (fun i k q => hw.2 i k (by unfold zDw at q; omega)) rfl
          have hI := ma_coming hI hMall hw
          clear hw
          refine lv_istore (lv' := [(6, .int r190), (5, .int r183), (0, .ref b), (1, .ref (T.1 0)), (2, .ref (T.1 30)), (3, .ref (T.1 28)), (4, .int (nI (6 * j)))]) hx hb dL_law_461 hl (by decide) rfl (fun ls hl => ?_)
          refine lv_goto (tgt := 1073) hx hb dL_law_463 (by decide) ?_
          refine W.widen (k := (100 + 400 * (j + 1))) (n := (30000 + 12000 * (j + 1))) (by omega) (by omega) ?_
          exact hJ121 (Lt, T, f191, g185, o186) _ _ _ (show (zA T f191 g185 Lt Lt (j + 1) ∧ zRl f191 g185 ∧ zRt f191 ∧ zGo f191 ∧ zRw f191 g185) ∧ zH D A T f191 g185 o186 s _ ∧ va_S A s.heap _ _ ∧ lv_has _ 7 [(0, .ref b), (1, .ref (T.1 0)), (2, .ref (T.1 30)), (3, .ref (T.1 28)), (4, .int (nI (6 * j)))] from ⟨⟨hI.mono (by omega), hR, hTx, hGo, hDw⟩, hH, hS, lv_sub hl [2, 3, 4, 5, 6] rfl⟩)
      · subst c123
        refine lv_tableIn (tgt := 466) (off := 426) hx hb dL_law_40 (by decide) (by decide) rfl (by decide) ?_
        refine lv_aload_n hx hb dL_law_466 rfl (lv_at hl 1 rfl) ?_
        refine lv_aload_n hx hb dL_law_467 rfl (lv_at hl 0 rfl) ?_
        refine lv_iload hx hb dL_law_468 (lv_at hl 4 rfl) ?_
        refine lv_iconst (v := nI 1) hx hb dL_law_470 (by decide) ?_
        refine lv_iadd hx hb dL_law_471 ?_
        refine lv_topi (fun v192 ev192 => ?_)
        obtain rfl : v192 = nI (6 * j + 1) := ev192.trans (nI_add _ _)
        refine va_sld hx hb hX hbl hbA hS (vp_in_nI (by omega) (by omega)) dL_law_472 ?_
        rw [nI_clamp (by omega)]
        refine lv_aload_n hx hb dL_law_473 rfl (lv_at hl 3 rfl) ?_
        obtain ⟨⟨n, c, o, d, sn, p, hCI⟩, td, htd9, htd⟩ := hI.2.2.1
        obtain ⟨hT, hC, hO, hDo, hSn, hPk, hkx⟩ := id hCI
        refine vx_calli (vx_runSX (As := [.ref (T.1 0), .int (xs (6 * j + 1)), .ref (T.1 28)]) (rest := []) ⟨hx, hb, hml, hown, hts⟩ (h_stock l hl0 D A sad T f G oL (xs (6 * j + 1)) hI.1 n hT hI.2.1) (vx_cwSW 3 hts gL_law_L_stock rfl rfl rfl (by decide +kernel) ⟨Nat.le_of_ble_eq_true rfl, Nat.le_of_ble_eq_true rfl⟩) ⟨zQn_bl, zQn_at hz hS hA hH hnp⟩ rfl rfl hl.1 rfl (lv_room (Nat.le_of_ble_eq_true rfl)) dL_law_474 ⟨by show _ ≤ 601024; omega, by show _ ≤ 7293034; omega⟩) hS (fun q _ h => h) (fun q h => h) (fun q _ h => h) (fun E ce q9 u9 t9 H1 locs ht9 hvm9 hw hB hz1 hk1 hS hce hcv hcl => ?_) (fun r193 u9 t9 H1 locs ht9 hvm9 hw hB hz1 hk1 hS => ?_)
        · obtain ⟨hX, hB⟩ := hB
          have hH := zMv ht9 hvm9 hB
          generalize H1 = H at hH hS hce ⊢
          exact hX.elim
        · skip
          have hH := zMv ht9 hvm9 hB
          clear hB
          generalize u9 = o194 at hw hH
          generalize H1 = H at hH hS ⊢
          clear hw
          refine lv_istore (lv' := [(5, .int r193), (0, .ref b), (1, .ref (T.1 0)), (2, .ref (T.1 30)), (3, .ref (T.1 28)), (4, .int (nI (6 * j)))]) hx hb dL_law_477 hl (by decide) rfl (fun ls hl => ?_)
          refine lv_aload_n hx hb dL_law_479 rfl (lv_at hl 3 rfl) ?_
          refine lv_aload_n hx hb dL_law_480 rfl (lv_at hl 1 rfl) ?_
          refine lv_iload hx hb dL_law_481 (lv_at hl 5 rfl) ?_
          refine lv_iconst (v := nI 1) hx hb dL_law_483 (by decide) ?_
          refine lv_iadd hx hb dL_law_484 ?_
          refine lv_topi (fun v195 ev195 => ?_)
          obtain rfl : v195 = nI (6 * j + 1) := ev195.trans (nI_add _ _)
          refine va_sld hx hb hX hbl hbA hS (vp_in_nI (by omega) (by omega)) dL_law_485 ?_
          rw [nI_clamp (by omega)]
          obtain ⟨nM, cM, oM, gM, LnM, dM, pM, sM, tM, BM, hMall⟩ := hI.2.2.2.2.2
          obtain ⟨hMt, hMc, hMx, hMo, hMq, hdK, hMp, ⟨hs3M, hsM⟩, ⟨ht9M, htM⟩, hMs, hBM⟩ := id hMall
          refine va_calli (va_runV (As := [.int (xs (6 * j + 1))]) (rest := []) ⟨hx, hb, hml, hown, hts⟩ (m_stock l hl0 D A sad T f G o194 (xs (6 * j + 1)) hI.1 nM hMt) (cwV 1 hts gL_law_X12_stock rfl rfl rfl (by decide +kernel) ⟨Nat.le_of_ble_eq_true rfl, Nat.le_of_ble_eq_true rfl⟩) ⟨zQc_bl, zRecv hH (zk_30 hI.1) rfl, zQc_at hz hS hA hH⟩ rfl rfl hl.1 rfl (lv_room (Nat.le_of_ble_eq_true rfl)) dL_law_486 ⟨by show _ ≤ 601024; omega, by show _ ≤ 7293034; omega⟩) hS (fun q _ h => h) (fun q h => h) (fun r196 u9 t9 H1 locs ht9 hvm9 hw hB hz1 hk1 hS => ?_)
          have hH := zMv ht9 hvm9 hB
          clear hB
          generalize u9 = f197 at hw hH
          generalize H1 = H at hH hS ⊢
          have hR := hR.kM (fun i k q => hw i k (by unfold zRc at q; omega))
          have hTx := hTx.cg0 (fun i k q => hw i k (by unfold zTd0 at q; omega))
          have hGo := hGo.cg (fun i k q => hw i k (by unfold zGw at q; omega))
          have hDw := hDw.cg (fun i k q => hw i k (by unfold zDw at q; omega)) rfl
          have hI := ma_q hI hw
          clear hw
          refine lv_istore (lv' := [(6, .int r196), (5, .int r193), (0, .ref b), (1, .ref (T.1 0)), (2, .ref (T.1 30)), (3, .ref (T.1 28)), (4, .int (nI (6 * j)))]) hx hb dL_law_489 hl (by decide) rfl (fun ls hl => ?_)
          refine lv_goto (tgt := 1073) hx hb dL_law_491 (by decide) ?_
          refine W.widen (k := (100 + 400 * (j + 1))) (n := (30000 + 12000 * (j + 1))) (by omega) (by omega) ?_
          exact hJ121 (Lt, T, f197, G, o194) _ _ _ (show (zA T f197 G Lt Lt (j + 1) ∧ zRl f197 G ∧ zRt f197 ∧ zGo f197 ∧ zRw f197 G) ∧ zH D A T f197 G o194 s _ ∧ va_S A s.heap _ _ ∧ lv_has _ 7 [(0, .ref b), (1, .ref (T.1 0)), (2, .ref (T.1 30)), (3, .ref (T.1 28)), (4, .int (nI (6 * j)))] from ⟨⟨hI.mono (by omega), hR, hTx, hGo, hDw⟩, hH, hS, lv_sub hl [2, 3, 4, 5, 6] rfl⟩)
      · subst c123
        refine lv_tableIn (tgt := 494) (off := 454) hx hb dL_law_40 (by decide) (by decide) rfl (by decide) ?_
        refine lv_aload_n hx hb dL_law_494 rfl (lv_at hl 1 rfl) ?_
        refine lv_aload_n hx hb dL_law_495 rfl (lv_at hl 3 rfl) ?_
        obtain ⟨⟨n, c, o, d, sn, p, hCI⟩, td, htd9, htd⟩ := hI.2.2.1
        obtain ⟨hT, hC, hO, hDo, hSn, hPk, hkx⟩ := id hCI
        refine vx_calli (vx_runSX (As := [.ref (T.1 0), .ref (T.1 28)]) (rest := []) ⟨hx, hb, hml, hown, hts⟩ (h_rulesX l hl0 D A sad T f G oL Lt hI.1 hI.2.2.2.1.2 hI.2.2.2.1.1 n hT hI.2.1) (vx_cwSW 2 hts gL_law_L_rules rfl rfl rfl (by decide +kernel) ⟨Nat.le_of_ble_eq_true rfl, Nat.le_of_ble_eq_true rfl⟩) ⟨zQn_bl, zQn_at hz hS hA hH hnp⟩ rfl rfl hl.1 rfl (lv_room (Nat.le_of_ble_eq_true rfl)) dL_law_496 ⟨by show _ ≤ 601024; omega, by show _ ≤ 7293034; omega⟩) hS (fun q _ h => h) (fun q h => h) (fun q _ h => h) (fun E ce q9 u9 t9 H1 locs ht9 hvm9 hw hB hz1 hk1 hS hce hcv hcl => ?_) (fun r198 u9 t9 H1 locs ht9 hvm9 hw hB hz1 hk1 hS => ?_)
        · obtain ⟨hX, hB⟩ := hB
          have hH := zMv ht9 hvm9 hB
          generalize H1 = H at hH hS hce ⊢
          exact hX.elim
        · skip
          obtain ⟨f199, o200⟩ := u9
          have hH := zMv ht9 hvm9 hB
          clear hB
          simp only at hw hH
          generalize H1 = H at hH hS ⊢
          have hcw := cw_rules (rx_old hw)
          have hGo := hGo.cg (fun i k q => hcw i k (zDd.g q))
          have hDw := hDw.cg (fun i k q => hcw i k (zDd.w q)) rfl
          have hwx := hw
          have hL0 := hI.2.2.2.1
          have hRo := hR
          have hw := rx_old hw
          have hB0 := rt_b0 (f1 := f199) hTx hL0.2 hL0.1 (fun j => by rcases hw with ⟨rv, -, -, -, F⟩ | ⟨-, -, -, -, F⟩ <;> exact F 47 j (by omega))
          have hR := hR.k0 (cr_rules hw)
          have hI := ca_rules hI hw
          clear hw
          refine lv_istore (lv' := [(5, .int r198), (0, .ref b), (1, .ref (T.1 0)), (2, .ref (T.1 30)), (3, .ref (T.1 28)), (4, .int (nI (6 * j)))]) hx hb dL_law_499 hl (by decide) rfl (fun ls hl => ?_)
          refine lv_aload_n hx hb dL_law_501 rfl (lv_at hl 3 rfl) ?_
          obtain ⟨nM, cM, oM, gM, LnM, dM, pM, sM, tM, BM, hMall⟩ := hI.2.2.2.2.2
          obtain ⟨hMt, hMc, hMx, hMo, hMq, hdK, hMp, ⟨hs3M, hsM⟩, ⟨ht9M, htM⟩, hMs, hBM⟩ := id hMall
          refine va_calli (va_runV (As := []) (rest := []) ⟨hx, hb, hml, hown, hts⟩ (m_rulesX l hl0 D A sad T f199 G o200 Lt hI.1 hI.2.2.2.2.1.2 hI.2.2.2.2.1.1 nM hMt hMx hB0) (cwV 0 hts gL_law_X12_rules rfl rfl rfl (by decide +kernel) ⟨Nat.le_of_ble_eq_true rfl, Nat.le_of_ble_eq_true rfl⟩) ⟨zQc_bl, zRecv hH (zk_30 hI.1) rfl, zQc_at hz hS hA hH⟩ rfl rfl hl.1 rfl (lv_room (Nat.le_of_ble_eq_true rfl)) dL_law_502 ⟨by show _ ≤ 601024; omega, by show _ ≤ 7293034; omega⟩) hS (fun q _ h => h) (fun q h => h) (fun r201 u9 t9 H1 locs ht9 hvm9 hw hB hz1 hk1 hS => ?_)
          have hH := zMv ht9 hvm9 hB
          clear hB
          generalize u9 = f202 at hw hH
          generalize H1 = H at hH hS ⊢
          obtain ⟨⟨hTx, hFt⟩, hEq⟩ := rt_rules hRo hTx hT.2.1 hT.1 hMt.2.1 hMt.1 hL0.2 hL0.1 hwx hw
          have hw := hw.2
          clear hwx hRo hB0
          have hR := hR.kM (fun i k q => hw.2.2 i k (by unfold zRc at q; omega))
          have hGo := hGo.cg (fun i k q => hw.2.2 i k (by unfold zGw at q; omega))
          have hDw := hDw.cg (fun i k q => hw.2.2 i k (by unfold zDw at q; omega)) rfl
          have hI := ma_rules hI hMall hw
          clear hw
          refine lv_istore (lv' := [(6, .int r201), (5, .int r198), (0, .ref b), (1, .ref (T.1 0)), (2, .ref (T.1 30)), (3, .ref (T.1 28)), (4, .int (nI (6 * j)))]) hx hb dL_law_505 hl (by decide) rfl (fun ls hl => ?_)
          refine lv_goto (tgt := 1073) hx hb dL_law_507 (by decide) ?_
          refine W.widen (k := (100 + 400 * (j + 1))) (n := (30000 + 12000 * (j + 1))) (by omega) (by omega) ?_
          exact hJ121 (0, T, f202, G, o200) _ _ _ (show (zA T f202 G 0 0 (j + 1) ∧ zRl f202 G ∧ zRt f202 ∧ zGo f202 ∧ zRw f202 G) ∧ zH D A T f202 G o200 s _ ∧ va_S A s.heap _ _ ∧ lv_has _ 7 [(0, .ref b), (1, .ref (T.1 0)), (2, .ref (T.1 30)), (3, .ref (T.1 28)), (4, .int (nI (6 * j)))] from ⟨⟨hI.mono (by omega), hR, hTx, hGo, hDw⟩, hH, hS, lv_sub hl [2, 3, 4, 5, 6] rfl⟩)
      · subst c123
        refine lv_tableIn (tgt := 510) (off := 470) hx hb dL_law_40 (by decide) (by decide) rfl (by decide) ?_
        refine lv_aload_n hx hb dL_law_510 rfl (lv_at hl 1 rfl) ?_
        refine lv_aload_n hx hb dL_law_511 rfl (lv_at hl 0 rfl) ?_
        refine lv_iload hx hb dL_law_512 (lv_at hl 4 rfl) ?_
        refine lv_iconst (v := nI 1) hx hb dL_law_514 (by decide) ?_
        refine lv_iadd hx hb dL_law_515 ?_
        refine lv_topi (fun v203 ev203 => ?_)
        obtain rfl : v203 = nI (6 * j + 1) := ev203.trans (nI_add _ _)
        refine va_sld hx hb hX hbl hbA hS (vp_in_nI (by omega) (by omega)) dL_law_516 ?_
        rw [nI_clamp (by omega)]
        refine lv_aload_n hx hb dL_law_517 rfl (lv_at hl 3 rfl) ?_
        obtain ⟨⟨n, c, o, d, sn, p, hCI⟩, td, htd9, htd⟩ := hI.2.2.1
        obtain ⟨hT, hC, hO, hDo, hSn, hPk, hkx⟩ := id hCI
        refine vx_calli (vx_runSX (As := [.ref (T.1 0), .int (xs (6 * j + 1)), .ref (T.1 28)]) (rest := []) ⟨hx, hb, hml, hown, hts⟩ (h_says l hl0 D A sad T f G oL (xs (6 * j + 1)) hI.1 hI.2.1) (vx_cwSW 3 hts gL_law_L_says rfl rfl rfl (by decide +kernel) ⟨Nat.le_of_ble_eq_true rfl, Nat.le_of_ble_eq_true rfl⟩) ⟨zQn_bl, zQn_at hz hS hA hH hnp⟩ rfl rfl hl.1 rfl (lv_room (Nat.le_of_ble_eq_true rfl)) dL_law_518 ⟨by show _ ≤ 601024; omega, by show _ ≤ 7293034; omega⟩) hS (fun q _ h => h) (fun q h => h) (fun q _ h => h) (fun E ce q9 u9 t9 H1 locs ht9 hvm9 hw hB hz1 hk1 hS hce hcv hcl => ?_) (fun r204 u9 t9 H1 locs ht9 hvm9 hw hB hz1 hk1 hS => ?_)
        · obtain ⟨hX, hB⟩ := hB
          have hH := zMv ht9 hvm9 hB
          generalize H1 = H at hH hS hce ⊢
          exact hX.elim
        · skip
          have hH := zMv ht9 hvm9 hB
          clear hB
          generalize u9 = o205 at hw hH
          generalize H1 = H at hH hS ⊢
          have hwc := hw
          clear hw
          refine lv_istore (lv' := [(5, .int r204), (0, .ref b), (1, .ref (T.1 0)), (2, .ref (T.1 30)), (3, .ref (T.1 28)), (4, .int (nI (6 * j)))]) hx hb dL_law_521 hl (by decide) rfl (fun ls hl => ?_)
          refine lv_aload_n hx hb dL_law_523 rfl (lv_at hl 3 rfl) ?_
          refine lv_aload_n hx hb dL_law_524 rfl (lv_at hl 1 rfl) ?_
          refine lv_iload hx hb dL_law_525 (lv_at hl 5 rfl) ?_
          refine lv_iconst (v := nI 1) hx hb dL_law_527 (by decide) ?_
          refine lv_iadd hx hb dL_law_528 ?_
          refine lv_topi (fun v206 ev206 => ?_)
          obtain rfl : v206 = nI (6 * j + 1) := ev206.trans (nI_add _ _)
          refine va_sld hx hb hX hbl hbA hS (vp_in_nI (by omega) (by omega)) dL_law_529 ?_
          rw [nI_clamp (by omega)]
          obtain ⟨nM, cM, oM, gM, LnM, dM, pM, sM, tM, BM, hMall⟩ := hI.2.2.2.2.2
          obtain ⟨hMt, hMc, hMx, hMo, hMq, hdK, hMp, ⟨hs3M, hsM⟩, ⟨ht9M, htM⟩, hMs, hBM⟩ := id hMall
          refine va_calli (va_runV (As := [.int (xs (6 * j + 1))]) (rest := []) ⟨hx, hb, hml, hown, hts⟩ (m_saysX l hl0 D A sad T f G o205 (xs (6 * j + 1)) hI.1) (cwV 1 hts gL_law_X12_says rfl rfl rfl (by decide +kernel) ⟨Nat.le_of_ble_eq_true rfl, Nat.le_of_ble_eq_true rfl⟩) ⟨zQc_bl, zRecv hH (zk_30 hI.1) rfl, zQc_at hz hS hA hH⟩ rfl rfl hl.1 rfl (lv_room (Nat.le_of_ble_eq_true rfl)) dL_law_530 ⟨by show _ ≤ 601024; omega, by show _ ≤ 7293034; omega⟩) hS (fun q _ h => h) (fun q h => h) (fun r207 u9 t9 H1 locs ht9 hvm9 hw hB hz1 hk1 hS => ?_)
          have hH := zMv ht9 hvm9 hB
          clear hB
          generalize u9 = f208 at hw hH
          generalize H1 = H at hH hS ⊢
          obtain ⟨hEq, hw⟩ := rt_says hTx hwc (fun q => by simpa using q.2) hw
          clear hwc
          have hR := hR.kM (fun i k q => hw i k (by unfold zRc at q; omega))
          have hTx := hTx.cg0 (fun i k q => hw i k (by unfold zTd0 at q; omega))
          have hGo := hGo.cg (fun i k q => hw i k (by unfold zGw at q; omega))
          have hDw := hDw.cg (fun i k q => hw i k (by unfold zDw at q; omega)) rfl
          have hI := ma_q hI hw
          clear hw
          refine lv_istore (lv' := [(6, .int r207), (5, .int r204), (0, .ref b), (1, .ref (T.1 0)), (2, .ref (T.1 30)), (3, .ref (T.1 28)), (4, .int (nI (6 * j)))]) hx hb dL_law_533 hl (by decide) rfl (fun ls hl => ?_)
          refine lv_goto (tgt := 1073) hx hb dL_law_535 (by decide) ?_
          refine W.widen (k := (100 + 400 * (j + 1))) (n := (30000 + 12000 * (j + 1))) (by omega) (by omega) ?_
          exact hJ121 (Lt, T, f208, G, o205) _ _ _ (show (zA T f208 G Lt Lt (j + 1) ∧ zRl f208 G ∧ zRt f208 ∧ zGo f208 ∧ zRw f208 G) ∧ zH D A T f208 G o205 s _ ∧ va_S A s.heap _ _ ∧ lv_has _ 7 [(0, .ref b), (1, .ref (T.1 0)), (2, .ref (T.1 30)), (3, .ref (T.1 28)), (4, .int (nI (6 * j)))] from ⟨⟨hI.mono (by omega), hR, hTx, hGo, hDw⟩, hH, hS, lv_sub hl [2, 3, 4, 5, 6] rfl⟩)
      · subst c123
        refine lv_tableIn (tgt := 538) (off := 498) hx hb dL_law_40 (by decide) (by decide) rfl (by decide) ?_
        refine lv_aload_n hx hb dL_law_538 rfl (lv_at hl 1 rfl) ?_
        refine lv_aload_n hx hb dL_law_539 rfl (lv_at hl 0 rfl) ?_
        refine lv_iload hx hb dL_law_540 (lv_at hl 4 rfl) ?_
        refine lv_iconst (v := nI 1) hx hb dL_law_542 (by decide) ?_
        refine lv_iadd hx hb dL_law_543 ?_
        refine lv_topi (fun v209 ev209 => ?_)
        obtain rfl : v209 = nI (6 * j + 1) := ev209.trans (nI_add _ _)
        refine va_sld hx hb hX hbl hbA hS (vp_in_nI (by omega) (by omega)) dL_law_544 ?_
        rw [nI_clamp (by omega)]
        refine lv_aload_n hx hb dL_law_545 rfl (lv_at hl 3 rfl) ?_
        obtain ⟨⟨n, c, o, d, sn, p, hCI⟩, td, htd9, htd⟩ := hI.2.2.1
        obtain ⟨hT, hC, hO, hDo, hSn, hPk, hkx⟩ := id hCI
        refine vx_calli (vx_runSX (As := [.ref (T.1 0), .int (xs (6 * j + 1)), .ref (T.1 28)]) (rest := []) ⟨hx, hb, hml, hown, hts⟩ (h_instead l hl0 D A sad T f G oL (xs (6 * j + 1)) hI.1 n hT hI.2.1) (vx_cwSW 3 hts gL_law_L_instead rfl rfl rfl (by decide +kernel) ⟨Nat.le_of_ble_eq_true rfl, Nat.le_of_ble_eq_true rfl⟩) ⟨zQn_bl, zQn_at hz hS hA hH hnp⟩ rfl rfl hl.1 rfl (lv_room (Nat.le_of_ble_eq_true rfl)) dL_law_546 ⟨by show _ ≤ 601024; omega, by show _ ≤ 7293034; omega⟩) hS (fun q _ h => h) (fun q h => h) (fun q _ h => h) (fun E ce q9 u9 t9 H1 locs ht9 hvm9 hw hB hz1 hk1 hS hce hcv hcl => ?_) (fun r210 u9 t9 H1 locs ht9 hvm9 hw hB hz1 hk1 hS => ?_)
        · obtain ⟨hX, hB⟩ := hB
          have hH := zMv ht9 hvm9 hB
          generalize H1 = H at hH hS hce ⊢
          exact hX.elim
        · skip
          have hH := zMv ht9 hvm9 hB
          clear hB
          generalize u9 = o211 at hw hH
          generalize H1 = H at hH hS ⊢
          have hwc := hw
          clear hw
          refine lv_istore (lv' := [(5, .int r210), (0, .ref b), (1, .ref (T.1 0)), (2, .ref (T.1 30)), (3, .ref (T.1 28)), (4, .int (nI (6 * j)))]) hx hb dL_law_549 hl (by decide) rfl (fun ls hl => ?_)
          refine lv_aload_n hx hb dL_law_551 rfl (lv_at hl 3 rfl) ?_
          refine lv_aload_n hx hb dL_law_552 rfl (lv_at hl 1 rfl) ?_
          refine lv_iload hx hb dL_law_553 (lv_at hl 5 rfl) ?_
          refine lv_iconst (v := nI 1) hx hb dL_law_555 (by decide) ?_
          refine lv_iadd hx hb dL_law_556 ?_
          refine lv_topi (fun v212 ev212 => ?_)
          obtain rfl : v212 = nI (6 * j + 1) := ev212.trans (nI_add _ _)
          refine va_sld hx hb hX hbl hbA hS (vp_in_nI (by omega) (by omega)) dL_law_557 ?_
          rw [nI_clamp (by omega)]
          obtain ⟨nM, cM, oM, gM, LnM, dM, pM, sM, tM, BM, hMall⟩ := hI.2.2.2.2.2
          obtain ⟨hMt, hMc, hMx, hMo, hMq, hdK, hMp, ⟨hs3M, hsM⟩, ⟨ht9M, htM⟩, hMs, hBM⟩ := id hMall
          refine va_calli (va_runV (As := [.int (xs (6 * j + 1))]) (rest := []) ⟨hx, hb, hml, hown, hts⟩ (m_insteadX l hl0 D A sad T f G o211 (xs (6 * j + 1)) hI.1 nM hMt) (cwV 1 hts gL_law_X12_instead rfl rfl rfl (by decide +kernel) ⟨Nat.le_of_ble_eq_true rfl, Nat.le_of_ble_eq_true rfl⟩) ⟨zQc_bl, zRecv hH (zk_30 hI.1) rfl, zQc_at hz hS hA hH⟩ rfl rfl hl.1 rfl (lv_room (Nat.le_of_ble_eq_true rfl)) dL_law_558 ⟨by show _ ≤ 601024; omega, by show _ ≤ 7293034; omega⟩) hS (fun q _ h => h) (fun q h => h) (fun r213 u9 t9 H1 locs ht9 hvm9 hw hB hz1 hk1 hS => ?_)
          have hH := zMv ht9 hvm9 hB
          clear hB
          generalize u9 = f214 at hw hH
          generalize H1 = H at hH hS ⊢
          obtain ⟨hEq, hw⟩ := rt_instead hTx hR hT.2.1 hT.1 hMt.2.1 hMt.1 hwc (fun q => by simpa using q.2) hw
          clear hwc
          have hR := hR.kM (fun i k q => hw i k (by unfold zRc at q; omega))
          have hTx := hTx.cg0 (fun i k q => hw i k (by unfold zTd0 at q; omega))
          have hGo := hGo.cg (fun i k q => hw i k (by unfold zGw at q; omega))
          have hDw := hDw.cg (fun i k q => hw i k (by unfold zDw at q; omega)) rfl
          have hI := ma_q hI hw
          clear hw
          refine lv_istore (lv' := [(6, .int r213), (5, .int r210), (0, .ref b), (1, .ref (T.1 0)), (2, .ref (T.1 30)), (3, .ref (T.1 28)), (4, .int (nI (6 * j)))]) hx hb dL_law_561 hl (by decide) rfl (fun ls hl => ?_)
          refine lv_goto (tgt := 1073) hx hb dL_law_563 (by decide) ?_
          refine W.widen (k := (100 + 400 * (j + 1))) (n := (30000 + 12000 * (j + 1))) (by omega) (by omega) ?_
          exact hJ121 (Lt, T, f214, G, o211) _ _ _ (show (zA T f214 G Lt Lt (j + 1) ∧ zRl f214 G ∧ zRt f214 ∧ zGo f214 ∧ zRw f214 G) ∧ zH D A T f214 G o211 s _ ∧ va_S A s.heap _ _ ∧ lv_has _ 7 [(0, .ref b), (1, .ref (T.1 0)), (2, .ref (T.1 30)), (3, .ref (T.1 28)), (4, .int (nI (6 * j)))] from ⟨⟨hI.mono (by omega), hR, hTx, hGo, hDw⟩, hH, hS, lv_sub hl [2, 3, 4, 5, 6] rfl⟩)
      · subst c123
        refine lv_tableIn (tgt := 566) (off := 526) hx hb dL_law_40 (by decide) (by decide) rfl (by decide) ?_
        refine lv_aload_n hx hb dL_law_566 rfl (lv_at hl 1 rfl) ?_
        refine lv_aload_n hx hb dL_law_567 rfl (lv_at hl 3 rfl) ?_
        obtain ⟨⟨n, c, o, d, sn, p, hCI⟩, td, htd9, htd⟩ := hI.2.2.1
        obtain ⟨hT, hC, hO, hDo, hSn, hPk, hkx⟩ := id hCI
        obtain ⟨cd, pN, hPq, hPm⟩ := zRl.pr hR hGo hT.2.1 hT.1 htd htd9
        have hn2 := hR.nn hT.2.1 hT.1
        obtain ⟨wq, hw9, hwq⟩ := rw_wq hDw
        have hTo := hTx
        have hL0 := hI.2.2.2.1
        have hd1 : d < 512 := rw_lt hDw hDo.2.1 hDo.1 hI.2.2.2.2.2 (by omega)
        refine vx_calli (vx_runSX (As := [.ref (T.1 0), .ref (T.1 28)]) (rest := []) ⟨hx, hb, hml, hown, hts⟩ (h_letterN l hl0 D A sad T f G oL Lt hI.1 hI.2.2.2.1.2 hI.2.2.2.1.1 n hT o hO d hDo td cd pN hPq hd1 hI.2.1) (vx_cwSW 2 hts gL_law_L_letter rfl rfl rfl (by decide +kernel) ⟨Nat.le_of_ble_eq_true rfl, Nat.le_of_ble_eq_true rfl⟩) ⟨zQn_bl, zQn_at hz hS hA hH hnp⟩ rfl rfl hl.1 rfl (lv_room (Nat.le_of_ble_eq_true rfl)) dL_law_568 ⟨by show _ ≤ 601024; omega, by show _ ≤ 7293034; omega⟩) hS (fun q _ h => h) (fun q h => h) (fun q _ h => h) (fun E ce q9 u9 t9 H1 locs ht9 hvm9 hw hB hz1 hk1 hS hce hcv hcl => ?_) (fun r215 u9 t9 H1 locs ht9 hvm9 hw hB hz1 hk1 hS => ?_)
        · obtain ⟨hX, hB⟩ := hB
          have hH := zMv ht9 hvm9 hB
          generalize H1 = H at hH hS hce ⊢
          exact hX.elim
        · skip
          obtain ⟨τ216, f217, g218, o219⟩ := u9
          have hH := zMv ht9 hvm9 hB
          clear hB
          simp only at hw hH
          generalize H1 = H at hH hS ⊢
          have hwx := fun (_ : Unit) => hw
          clear hw
          obtain ⟨hGo, hPm, hB0, hlf, hlg⟩ := lx_nxt hO.1 hTx hGo hPm hL0.2 hL0.1 (hwx ())
          have hw := lx_oldN (hwx ())
          have hcl := ct_letter hO.1 hDo.1 hw
          have hTx := rt_len0 hTx hcl.1 hcl.2
          have hR := hR.k1 (cr_letter hO.1 hDo.1 hw)
          have ha6 : ∀ i, i < 100 → τ216.1 i = T.1 i := fun i h => by rcases hw with ⟨rv, -, -, ⟨-, -, e⟩ | ⟨-, e⟩⟩ | ⟨-, -, -, e⟩ | ⟨-, -, -, e⟩; (exact (e.2.2.2.2.1 i (by omega)).1); (exact (e.2.2.2.1 i (by omega)).1); (exact (e.2.2.2.1 i (by omega)).1); (exact (e.2.2.2.1 i (by omega)).1)
          rw [show T.1 0 = τ216.1 0 from (ha6 0 (by omega)).symm] at hl
          rw [show T.1 30 = τ216.1 30 from (ha6 30 (by omega)).symm] at hl
          rw [show T.1 28 = τ216.1 28 from (ha6 28 (by omega)).symm] at hl
          have hI := ca_letter hI hCI ⟨td, htd9, htd⟩ hw
          clear hw
          refine lv_istore (lv' := [(5, .int r215), (0, .ref b), (1, .ref (τ216.1 0)), (2, .ref (τ216.1 30)), (3, .ref (τ216.1 28)), (4, .int (nI (6 * j)))]) hx hb dL_law_571 hl (by decide) rfl (fun ls hl => ?_)
          refine lv_aload_n hx hb dL_law_573 rfl (lv_at hl 3 rfl) ?_
          obtain ⟨nM, cM, oM, gM, LnM, dM, pM, sM, tM, BM, hMall⟩ := hI.2.2.2.2.2
          obtain ⟨hMt, hMc, hMx, hMo, hMq, hdK, hMp, ⟨hs3M, hsM⟩, ⟨ht9M, htM⟩, hMs, hBM⟩ := id hMall
          obtain ⟨⟨enM, hPbM, hwq1⟩, hbl1, hwp1, hgq, hdq⟩ := rw_pre hDw hlf hlg hMt hMq htM ht9M hPm hn2 hT.1 hwq hw9
          refine va_calli (va_runV (As := []) (rest := []) ⟨hx, hb, hml, hown, hts⟩ (m_letterN l hl0 D A sad τ216 f217 g218 o219 Lt hI.1 hI.2.2.2.2.1.2 hI.2.2.2.2.1.1 nM hMt oM hMo gM LnM dM hMq (by omega) hB0 tM cd pN hPbM wq hwq1 hw9 hbl1) (cwV 0 hts gL_law_X12_letter rfl rfl rfl (by decide +kernel) ⟨Nat.le_of_ble_eq_true rfl, Nat.le_of_ble_eq_true rfl⟩) ⟨zQc_bl, zRecv hH (zk_30 hI.1) rfl, zQc_at hz hS hA hH⟩ rfl rfl hl.1 rfl (lv_room (Nat.le_of_ble_eq_true rfl)) dL_law_574 ⟨by show _ ≤ 601024; omega, by show _ ≤ 7293034; omega⟩) hS (fun q _ h => h) (fun q h => h) (fun r220 u9 t9 H1 locs ht9 hvm9 hw hB hz1 hk1 hS => ?_)
          obtain ⟨τ221, f222, g223⟩ := u9
          have hH := zMv ht9 hvm9 hB
          clear hB
          simp only at hw hH
          generalize H1 = H at hH hS ⊢
          obtain ⟨hDw, hEq⟩ := rw_letter hTo hDw enM hL0.2 hL0.1 hDo.2.1 hDo.1 hO.2.1 hO.1 hPq hMq.2.2.1 hdq hMo.2.1 hMo.1 hgq hMq.2.2.2.2.1.1 hwq1 hw9 (hwx ()) hw
          have hw := hw.1
          have hGo := hGo.ml hw.2.2.2.2
          clear hwx hTo hB0 hbl1 hwp1
          have hR := hR.kMr (fun i k q => hw.2.2.2.2 i k (by unfold zRc at q; omega)) (fun k => hw.2.2.2.1.2.1.1 23 k (by omega) (by omega))
          have hTx := hTx.cg0 (fun i k q => hw.2.2.2.2 i k (by unfold zTd0 at q; omega))
          have ha7 : ∀ i, ¬ (200 ≤ i ∧ i < 240) → τ221.1 i = τ216.1 i := fun i h => (hw.2.2.2.1.1 i h).1
          rw [show τ216.1 0 = τ221.1 0 from (ha7 0 (by omega)).symm] at hl
          rw [show τ216.1 30 = τ221.1 30 from (ha7 30 (by omega)).symm] at hl
          rw [show τ216.1 28 = τ221.1 28 from (ha7 28 (by omega)).symm] at hl
          have hI := ma_letter hI hMall hw
          clear hw
          refine lv_istore (lv' := [(6, .int r220), (5, .int r215), (0, .ref b), (1, .ref (τ221.1 0)), (2, .ref (τ221.1 30)), (3, .ref (τ221.1 28)), (4, .int (nI (6 * j)))]) hx hb dL_law_577 hl (by decide) rfl (fun ls hl => ?_)
          refine lv_goto (tgt := 1073) hx hb dL_law_579 (by decide) ?_
          refine W.widen (k := (100 + 400 * (j + 1))) (n := (30000 + 12000 * (j + 1))) (by omega) (by omega) ?_
          exact hJ121 (0, τ221, f222, g223, o219) _ _ _ (show (zA τ221 f222 g223 0 0 (j + 1) ∧ zRl f222 g223 ∧ zRt f222 ∧ zGo f222 ∧ zRw f222 g223) ∧ zH D A τ221 f222 g223 o219 s _ ∧ va_S A s.heap _ _ ∧ lv_has _ 7 [(0, .ref b), (1, .ref (τ221.1 0)), (2, .ref (τ221.1 30)), (3, .ref (τ221.1 28)), (4, .int (nI (6 * j)))] from ⟨⟨hI, hR, hTx, hGo, hDw⟩, hH, hS, lv_sub hl [2, 3, 4, 5, 6] rfl⟩)
      · subst c123
        refine lv_tableIn (tgt := 582) (off := 542) hx hb dL_law_40 (by decide) (by decide) rfl (by decide) ?_
        refine lv_aload_n hx hb dL_law_582 rfl (lv_at hl 1 rfl) ?_
        obtain ⟨⟨n, c, o, d, sn, p, hCI⟩, td, htd9, htd⟩ := hI.2.2.1
        obtain ⟨hT, hC, hO, hDo, hSn, hPk, hkx⟩ := id hCI
        refine va_calli (va_runV (As := []) (rest := []) ⟨hx, hb, hml, hown, hts⟩ (c_fault l hl0 D A sad T f G oL hI.1) (cwV 0 hts gL_law_X11_fault rfl rfl rfl (by decide +kernel) ⟨Nat.le_of_ble_eq_true rfl, Nat.le_of_ble_eq_true rfl⟩) ⟨zQc_bl, zRecv hH (zk_0 hI.1) rfl, zQc_at hz hS hA hH⟩ rfl rfl hl.1 rfl (lv_room (Nat.le_of_ble_eq_true rfl)) dL_law_583 ⟨by show _ ≤ 601024; omega, by show _ ≤ 7293034; omega⟩) hS (fun q _ h => h) (fun q h => h) (fun r224 u9 t9 H1 locs ht9 hvm9 hw hB hz1 hk1 hS => ?_)
        have hH := zMv ht9 hvm9 hB
        generalize H1 = H at hH hS ⊢
        clear hw
        refine lv_pop hx hb dL_law_586 rfl ?_
        refine lv_aload_n hx hb dL_law_587 rfl (lv_at hl 2 rfl) ?_
        obtain ⟨nM, cM, oM, gM, LnM, dM, pM, sM, tM, BM, hMall⟩ := hI.2.2.2.2.2
        obtain ⟨hMt, hMc, hMx, hMo, hMq, hdK, hMp, ⟨hs3M, hsM⟩, ⟨ht9M, htM⟩, hMs, hBM⟩ := id hMall
        refine va_calli (va_runV (As := []) (rest := []) ⟨hx, hb, hml, hown, hts⟩ (m_fault l hl0 D A sad T f G oL hI.1) (cwV 0 hts gL_law_X12_fault rfl rfl rfl (by decide +kernel) ⟨Nat.le_of_ble_eq_true rfl, Nat.le_of_ble_eq_true rfl⟩) ⟨zQc_bl, zRecv hH (zk_30 hI.1) rfl, zQc_at hz hS hA hH⟩ rfl rfl hl.1 rfl (lv_room (Nat.le_of_ble_eq_true rfl)) dL_law_588 ⟨by show _ ≤ 601024; omega, by show _ ≤ 7293034; omega⟩) hS (fun q _ h => h) (fun q h => h) (fun r225 u9 t9 H1 locs ht9 hvm9 hw hB hz1 hk1 hS => ?_)
        have hH := zMv ht9 hvm9 hB
        clear hB
        generalize u9 = f226 at hw hH
        generalize H1 = H at hH hS ⊢
        have hR := hR.kM (fun i k q => hw i k (by unfold zRc at q; omega))
        have hTx := hTx.cg0 (fun i k q => hw i k (by unfold zTd0 at q; omega))
        have hGo := hGo.cg (fun i k q => hw i k (by unfold zGw at q; omega))
        have hDw := hDw.cg (fun i k q => hw i k (by unfold zDw at q; omega)) rfl
        have hI := ma_q hI hw
        clear hw
        refine lv_pop hx hb dL_law_591 rfl ?_
        refine lv_goto (tgt := 1073) hx hb dL_law_592 (by decide) ?_
        refine W.widen (k := (100 + 400 * (j + 1))) (n := (30000 + 12000 * (j + 1))) (by omega) (by omega) ?_
        exact hJ121 (Lt, T, f226, G, oL) _ _ _ (show (zA T f226 G Lt Lt (j + 1) ∧ zRl f226 G ∧ zRt f226 ∧ zGo f226 ∧ zRw f226 G) ∧ zH D A T f226 G oL s _ ∧ va_S A s.heap _ _ ∧ lv_has _ 7 [(0, .ref b), (1, .ref (T.1 0)), (2, .ref (T.1 30)), (3, .ref (T.1 28)), (4, .int (nI (6 * j)))] from ⟨⟨hI.mono (by omega), hR, hTx, hGo, hDw⟩, hH, hS, lv_sub hl [0, 1, 2, 3, 4] rfl⟩)
      · subst c123
        refine lv_tableIn (tgt := 595) (off := 555) hx hb dL_law_40 (by decide) (by decide) rfl (by decide) ?_
        refine lv_aload_n hx hb dL_law_595 rfl (lv_at hl 1 rfl) ?_
        refine lv_aload_n hx hb dL_law_596 rfl (lv_at hl 0 rfl) ?_
        refine lv_iload hx hb dL_law_597 (lv_at hl 4 rfl) ?_
        refine lv_iconst (v := nI 1) hx hb dL_law_599 (by decide) ?_
        refine lv_iadd hx hb dL_law_600 ?_
        refine lv_topi (fun v227 ev227 => ?_)
        obtain rfl : v227 = nI (6 * j + 1) := ev227.trans (nI_add _ _)
        refine va_sld hx hb hX hbl hbA hS (vp_in_nI (by omega) (by omega)) dL_law_601 ?_
        rw [nI_clamp (by omega)]
        refine lv_aload_n hx hb dL_law_602 rfl (lv_at hl 0 rfl) ?_
        refine lv_iload hx hb dL_law_603 (lv_at hl 4 rfl) ?_
        refine lv_iconst (v := nI 2) hx hb dL_law_605 (by decide) ?_
        refine lv_iadd hx hb dL_law_606 ?_
        refine lv_topi (fun v228 ev228 => ?_)
        obtain rfl : v228 = nI (6 * j + 2) := ev228.trans (nI_add _ _)
        refine va_sld hx hb hX hbl hbA hS (vp_in_nI (by omega) (by omega)) dL_law_607 ?_
        rw [nI_clamp (by omega)]
        refine lv_aload_n hx hb dL_law_608 rfl (lv_at hl 3 rfl) ?_
        obtain ⟨⟨n, c, o, d, sn, p, hCI⟩, td, htd9, htd⟩ := hI.2.2.1
        obtain ⟨hT, hC, hO, hDo, hSn, hPk, hkx⟩ := id hCI
        refine vx_calli (vx_runSX (As := [.ref (T.1 0), .int (xs (6 * j + 1)), .int (xs (6 * j + 2)), .ref (T.1 28)]) (rest := []) ⟨hx, hb, hml, hown, hts⟩ (h_doubt l hl0 D A sad T f G oL (xs (6 * j + 1)) (xs (6 * j + 2)) hI.1 d hDo hI.2.1) (vx_cwSW 4 hts gL_law_L_doubt rfl rfl rfl (by decide +kernel) ⟨Nat.le_of_ble_eq_true rfl, Nat.le_of_ble_eq_true rfl⟩) ⟨zQn_bl, zQn_at hz hS hA hH hnp⟩ rfl rfl hl.1 rfl (lv_room (Nat.le_of_ble_eq_true rfl)) dL_law_609 ⟨by show _ ≤ 601024; omega, by show _ ≤ 7293034; omega⟩) hS (fun q _ h => h) (fun q h => h) (fun q _ h => h) (fun E ce q9 u9 t9 H1 locs ht9 hvm9 hw hB hz1 hk1 hS hce hcv hcl => ?_) (fun r229 u9 t9 H1 locs ht9 hvm9 hw hB hz1 hk1 hS => ?_)
        · obtain ⟨hX, hB⟩ := hB
          have hH := zMv ht9 hvm9 hB
          generalize H1 = H at hH hS hce ⊢
          exact hX.elim
        · skip
          have hH := zMv ht9 hvm9 hB
          clear hB
          generalize u9 = o230 at hw hH
          generalize H1 = H at hH hS ⊢
          have hwc := fun (_ : Unit) => hw
          clear hw
          refine lv_istore (lv' := [(5, .int r229), (0, .ref b), (1, .ref (T.1 0)), (2, .ref (T.1 30)), (3, .ref (T.1 28)), (4, .int (nI (6 * j)))]) hx hb dL_law_612 hl (by decide) rfl (fun ls hl => ?_)
          refine lv_aload_n hx hb dL_law_614 rfl (lv_at hl 3 rfl) ?_
          refine lv_aload_n hx hb dL_law_615 rfl (lv_at hl 1 rfl) ?_
          refine lv_iload hx hb dL_law_616 (lv_at hl 5 rfl) ?_
          refine lv_iconst (v := nI 1) hx hb dL_law_618 (by decide) ?_
          refine lv_iadd hx hb dL_law_619 ?_
          refine lv_topi (fun v231 ev231 => ?_)
          obtain rfl : v231 = nI (6 * j + 1) := ev231.trans (nI_add _ _)
          refine va_sld hx hb hX hbl hbA hS (vp_in_nI (by omega) (by omega)) dL_law_620 ?_
          rw [nI_clamp (by omega)]
          refine lv_aload_n hx hb dL_law_621 rfl (lv_at hl 1 rfl) ?_
          refine lv_iload hx hb dL_law_622 (lv_at hl 5 rfl) ?_
          refine lv_iconst (v := nI 2) hx hb dL_law_624 (by decide) ?_
          refine lv_iadd hx hb dL_law_625 ?_
          refine lv_topi (fun v232 ev232 => ?_)
          obtain rfl : v232 = nI (6 * j + 2) := ev232.trans (nI_add _ _)
          refine va_sld hx hb hX hbl hbA hS (vp_in_nI (by omega) (by omega)) dL_law_626 ?_
          rw [nI_clamp (by omega)]
          obtain ⟨nM, cM, oM, gM, LnM, dM, pM, sM, tM, BM, hMall⟩ := hI.2.2.2.2.2
          obtain ⟨hMt, hMc, hMx, hMo, hMq, hdK, hMp, ⟨hs3M, hsM⟩, ⟨ht9M, htM⟩, hMs, hBM⟩ := id hMall
          refine va_calli (va_runV (As := [.int (xs (6 * j + 1)), .int (xs (6 * j + 2))]) (rest := []) ⟨hx, hb, hml, hown, hts⟩ (m_doubtN l hl0 D A sad T f G o230 (xs (6 * j + 1)) (xs (6 * j + 2)) hI.1 gM LnM dM hMq) (cwV 2 hts gL_law_X12_doubt rfl rfl rfl (by decide +kernel) ⟨Nat.le_of_ble_eq_true rfl, Nat.le_of_ble_eq_true rfl⟩) ⟨zQc_bl, zRecv hH (zk_30 hI.1) rfl, zQc_at hz hS hA hH⟩ rfl rfl hl.1 rfl (lv_room (Nat.le_of_ble_eq_true rfl)) dL_law_627 ⟨by show _ ≤ 601024; omega, by show _ ≤ 7293034; omega⟩) hS (fun q _ h => h) (fun q h => h) (fun r233 u9 t9 H1 locs ht9 hvm9 hw hB hz1 hk1 hS => ?_)
          have hH := zMv ht9 hvm9 hB
          clear hB
          generalize u9 = f234 at hw hH
          generalize H1 = H at hH hS ⊢
          obtain ⟨hEq, hw⟩ := rw_doubt hDw hDo.2.1 hDo.1 hMq.2.2.1 hMq.gd.1 hMq.gd.2 hMq.2.2.2.2.1.1 (hwc ()) hw
          clear hwc
          have hR := hR.kM (fun i k q => hw i k (by unfold zRc at q; omega))
          have hTx := hTx.cg0 (fun i k q => hw i k (by unfold zTd0 at q; omega))
          have hGo := hGo.cg (fun i k q => hw i k (by unfold zGw at q; omega))
          have hDw := hDw.cg (fun i k q => hw i k (by unfold zDw at q; omega)) rfl
          have hI := ma_q hI hw
          clear hw
          refine lv_istore (lv' := [(6, .int r233), (5, .int r229), (0, .ref b), (1, .ref (T.1 0)), (2, .ref (T.1 30)), (3, .ref (T.1 28)), (4, .int (nI (6 * j)))]) hx hb dL_law_630 hl (by decide) rfl (fun ls hl => ?_)
          refine lv_goto (tgt := 1073) hx hb dL_law_632 (by decide) ?_
          refine W.widen (k := (100 + 400 * (j + 1))) (n := (30000 + 12000 * (j + 1))) (by omega) (by omega) ?_
          exact hJ121 (Lt, T, f234, G, o230) _ _ _ (show (zA T f234 G Lt Lt (j + 1) ∧ zRl f234 G ∧ zRt f234 ∧ zGo f234 ∧ zRw f234 G) ∧ zH D A T f234 G o230 s _ ∧ va_S A s.heap _ _ ∧ lv_has _ 7 [(0, .ref b), (1, .ref (T.1 0)), (2, .ref (T.1 30)), (3, .ref (T.1 28)), (4, .int (nI (6 * j)))] from ⟨⟨hI.mono (by omega), hR, hTx, hGo, hDw⟩, hH, hS, lv_sub hl [2, 3, 4, 5, 6] rfl⟩)
      · subst c123
        refine lv_tableIn (tgt := 635) (off := 595) hx hb dL_law_40 (by decide) (by decide) rfl (by decide) ?_
        refine lv_aload_n hx hb dL_law_635 rfl (lv_at hl 1 rfl) ?_
        refine lv_aload_n hx hb dL_law_636 rfl (lv_at hl 0 rfl) ?_
        refine lv_iload hx hb dL_law_637 (lv_at hl 4 rfl) ?_
        refine lv_iconst (v := nI 1) hx hb dL_law_639 (by decide) ?_
        refine lv_iadd hx hb dL_law_640 ?_
        refine lv_topi (fun v235 ev235 => ?_)
        obtain rfl : v235 = nI (6 * j + 1) := ev235.trans (nI_add _ _)
        refine va_sld hx hb hX hbl hbA hS (vp_in_nI (by omega) (by omega)) dL_law_641 ?_
        rw [nI_clamp (by omega)]
        refine lv_aload_n hx hb dL_law_642 rfl (lv_at hl 0 rfl) ?_
        refine lv_iload hx hb dL_law_643 (lv_at hl 4 rfl) ?_
        refine lv_iconst (v := nI 2) hx hb dL_law_645 (by decide) ?_
        refine lv_iadd hx hb dL_law_646 ?_
        refine lv_topi (fun v236 ev236 => ?_)
        obtain rfl : v236 = nI (6 * j + 2) := ev236.trans (nI_add _ _)
        refine va_sld hx hb hX hbl hbA hS (vp_in_nI (by omega) (by omega)) dL_law_647 ?_
        rw [nI_clamp (by omega)]
        refine lv_if_eq (tgt := 655) hx hb dL_law_648 (by decide) (fun c237 => ?_) (fun c237 => ?_)
        · have zc237 := c237
          replace zc237 := zc_eq (rfl) ((by decide : (0 : Int32).toInt = 0)) zc237
          refine lv_iconst (v := nI 0) hx hb dL_law_655 (by decide) ?_
          refine lv_aload_n hx hb dL_law_656 rfl (lv_at hl 3 rfl) ?_
          obtain ⟨⟨n, c, o, d, sn, p, hCI⟩, td, htd9, htd⟩ := hI.2.2.1
          obtain ⟨hT, hC, hO, hDo, hSn, hPk, hkx⟩ := id hCI
          obtain ⟨cd, pN, hPq, hPm⟩ := zRl.pr hR hGo hT.2.1 hT.1 htd htd9
          have hn2 := hR.nn hT.2.1 hT.1
          obtain ⟨wq, hw9, hwq⟩ := rw_wq hDw
          have hTo := hTx
          have hL0 := hI.2.2.2.1
          obtain ⟨LL, LC, MN, hDl, hDm0⟩ := rw_fn hDw hDo.2.1 hDo.1
          refine vx_calli (vx_runSX (As := [.ref (T.1 0), .int (xs (6 * j + 1)), .int (nI 0), .ref (T.1 28)]) (rest := []) ⟨hx, hb, hml, hown, hts⟩ (h_settleN l hl0 D A sad T f G oL (xs (6 * j + 1)) (nI 0) hI.1 n hT o hO d hDo td cd pN hPq LL LC MN hDl hI.2.1) (vx_cwSW 4 hts gL_law_L_settle rfl rfl rfl (by decide +kernel) ⟨Nat.le_of_ble_eq_true rfl, Nat.le_of_ble_eq_true rfl⟩) ⟨zQn_bl, zQn_at hz hS hA hH hnp⟩ rfl rfl hl.1 rfl (lv_room (Nat.le_of_ble_eq_true rfl)) dL_law_657 ⟨by show _ ≤ 601024; omega, by show _ ≤ 7293034; omega⟩) hS (fun q _ h => h) (fun q h => h) (fun q _ h => h) (fun E ce q9 u9 t9 H1 locs ht9 hvm9 hw hB hz1 hk1 hS hce hcv hcl => ?_) (fun r238 u9 t9 H1 locs ht9 hvm9 hw hB hz1 hk1 hS => ?_)
          · obtain ⟨hX, hB⟩ := hB
            have hH := zMv ht9 hvm9 hB
            generalize H1 = H at hH hS hce ⊢
            exact hX.elim
          · skip
            obtain ⟨τ239, f240, g241, o242⟩ := u9
            have hH := zMv ht9 hvm9 hB
            clear hB
            simp only at hw hH
            generalize H1 = H at hH hS ⊢
            have hwx := fun (_ : Unit) => hw
            clear hw
            obtain ⟨hGo, hPm, hlf, hlg⟩ := se_nxt hDo.1 hGo hPm (hwx ())
            have hw := se_old (hwx ())
            have hTx := hTx.cg (ct_settle hO.1 hw)
            have hR := hR.k1 (cr_settle hO.1 hw)
            have ha6 : ∀ i, i < 100 → τ239.1 i = T.1 i := fun i h => by rcases hw with ⟨rv, -, -, ⟨e, -⟩ | ⟨b, -, -, -, e⟩⟩ | ⟨-, e, -⟩ | ⟨-, e, -⟩ | ⟨-, e, -⟩; (rw [e]); (exact (e.2.2.1 i (by omega)).1); (rw [e]); (rw [e]); (rw [e])
            rw [show T.1 0 = τ239.1 0 from (ha6 0 (by omega)).symm] at hl
            rw [show T.1 30 = τ239.1 30 from (ha6 30 (by omega)).symm] at hl
            rw [show T.1 28 = τ239.1 28 from (ha6 28 (by omega)).symm] at hl
            have hI := ca_settle hI hCI ⟨td, htd9, htd⟩ hw
            clear hw
            refine lv_istore (lv' := [(5, .int r238), (0, .ref b), (1, .ref (τ239.1 0)), (2, .ref (τ239.1 30)), (3, .ref (τ239.1 28)), (4, .int (nI (6 * j)))]) hx hb dL_law_660 hl (by decide) rfl (fun ls hl => ?_)
            refine lv_aload_n hx hb dL_law_662 rfl (lv_at hl 3 rfl) ?_
            refine lv_aload_n hx hb dL_law_663 rfl (lv_at hl 1 rfl) ?_
            refine lv_iload hx hb dL_law_664 (lv_at hl 5 rfl) ?_
            refine lv_iconst (v := nI 1) hx hb dL_law_666 (by decide) ?_
            refine lv_iadd hx hb dL_law_667 ?_
            refine lv_topi (fun v243 ev243 => ?_)
            obtain rfl : v243 = nI (6 * j + 1) := ev243.trans (nI_add _ _)
            refine va_sld hx hb hX hbl hbA hS (vp_in_nI (by omega) (by omega)) dL_law_668 ?_
            rw [nI_clamp (by omega)]
            refine lv_aload_n hx hb dL_law_669 rfl (lv_at hl 1 rfl) ?_
            refine lv_iload hx hb dL_law_670 (lv_at hl 5 rfl) ?_
            refine lv_iconst (v := nI 2) hx hb dL_law_672 (by decide) ?_
            refine lv_iadd hx hb dL_law_673 ?_
            refine lv_topi (fun v244 ev244 => ?_)
            obtain rfl : v244 = nI (6 * j + 2) := ev244.trans (nI_add _ _)
            refine va_sld hx hb hX hbl hbA hS (vp_in_nI (by omega) (by omega)) dL_law_674 ?_
            rw [nI_clamp (by omega)]
            refine lv_if_eq (tgt := 682) hx hb dL_law_675 (by decide) (fun c245 => ?_) (fun c245 => False.elim (by have zc245 := zc_neq (rfl) ((by decide : (0 : Int32).toInt = 0)) c245; omega))
            refine lv_iconst (v := nI 0) hx hb dL_law_682 (by decide) ?_
            obtain ⟨nM, cM, oM, gM, LnM, dM, pM, sM, tM, BM, hMall⟩ := hI.2.2.2.2.2
            obtain ⟨hMt, hMc, hMx, hMo, hMq, hdK, hMp, ⟨hs3M, hsM⟩, ⟨ht9M, htM⟩, hMs, hBM⟩ := id hMall
            obtain ⟨⟨enM, hPbM, hwq1⟩, hbl1, hwp1, hgq, hdq⟩ := rw_pre hDw hlf hlg hMt hMq htM ht9M hPm hn2 hT.1 hwq hw9
            have hDm1 := rw_dm hDm0 hlf hlg hMq
            refine va_calli (va_runV (As := [.int (xs (6 * j + 1)), .int (nI 0)]) (rest := []) ⟨hx, hb, hml, hown, hts⟩ (m_settleN l hl0 D A sad τ239 f240 g241 o242 (xs (6 * j + 1)) (nI 0) hI.1 nM hMt oM hMo gM LnM dM hMq tM cd pN hPbM LL LC MN hDm1 wq hwq1 hw9 hwp1) (cwV 2 hts gL_law_X12_settle rfl rfl rfl (by decide +kernel) ⟨Nat.le_of_ble_eq_true rfl, Nat.le_of_ble_eq_true rfl⟩) ⟨zQc_bl, zRecv hH (zk_30 hI.1) rfl, zQc_at hz hS hA hH⟩ rfl rfl hl.1 rfl (lv_room (Nat.le_of_ble_eq_true rfl)) dL_law_683 ⟨by show _ ≤ 601024; omega, by show _ ≤ 7293034; omega⟩) hS (fun q _ h => h) (fun q h => h) (fun r246 u9 t9 H1 locs ht9 hvm9 hw hB hz1 hk1 hS => ?_)
            have hH := zMv ht9 hvm9 hB
            clear hB
            generalize u9 = f247 at hw hH
            generalize H1 = H at hH hS ⊢
            obtain ⟨hDw, hEq⟩ := rw_settle hTo hDw enM hDo.2.1 hDo.1 hO.2.1 hO.1 hDl hMq.2.2.1 hdq hMo.2.1 hMo.1 hgq hMq.2.2.2.2.1.1 hwq1 hw9 (hwx ()) hw
            have hw := hw.1
            have hGo := hGo.ms hw.2.2
            clear hwx hTo hbl1 hwp1 hDm0 hDm1 hDl
            have hR := hR.kM (fun i k q => hw.2.2 i k (by unfold zRc at q; omega))
            have hTx := hTx.cg0 (fun i k q => hw.2.2 i k (by unfold zTd0 at q; omega))
            have hI := ma_settle hI hMall hw
            clear hw
            refine lv_istore (lv' := [(6, .int r246), (5, .int r238), (0, .ref b), (1, .ref (τ239.1 0)), (2, .ref (τ239.1 30)), (3, .ref (τ239.1 28)), (4, .int (nI (6 * j)))]) hx hb dL_law_686 hl (by decide) rfl (fun ls hl => ?_)
            refine lv_aload_n hx hb dL_law_688 rfl (lv_at hl 4 rfl) ?_
            refine va_calli (va_runV (As := []) (rest := []) ⟨hx, hb, hml, hown, hts⟩ (m_thrown l hl0 D A sad τ239 f247 g241 o242 hI.1) (cwV 0 hts gL_law_X12_thrown rfl rfl rfl (by decide +kernel) ⟨Nat.le_of_ble_eq_true rfl, Nat.le_of_ble_eq_true rfl⟩) ⟨zQc_bl, zRecv hH (zk_30 hI.1) rfl, zQc_at hz hS hA hH⟩ rfl rfl hl.1 rfl (lv_room (Nat.le_of_ble_eq_true rfl)) dL_law_689 ⟨by show _ ≤ 601024; omega, by show _ ≤ 7293034; omega⟩) hS (fun q _ h => h) (fun q h => h) (fun r248 u9 t9 H1 locs ht9 hvm9 hw hB hz1 hk1 hS => ?_)
            have hH := zMv ht9 hvm9 hB
            generalize H1 = H at hH hS ⊢
            obtain rfl := hw
            have hq9 := hEq.1
            refine lv_iload hx hb dL_law_692 (lv_at hl 1 rfl) ?_
            refine lv_icmp_eq (tgt := 699) hx hb dL_law_694 (by decide) (fun c249 => ?_) (fun c249 => False.elim (by have zc249 := zc_neq (rfl) (rfl) c249; omega))
            refine lv_iload hx hb dL_law_699 (lv_at hl 1 rfl) ?_
            refine lv_if_ne (tgt := 716) hx hb dL_law_701 (by decide) (fun c250 => ?_) (fun c250 => ?_)
            · have zc250 := c250
              replace zc250 := zc_neq (rfl) ((by decide : (0 : Int32).toInt = 0)) zc250
              refine lv_goto (tgt := 1073) hx hb dL_law_716 (by decide) ?_
              refine W.widen (k := (100 + 400 * (j + 1))) (n := (30000 + 12000 * (j + 1))) (by omega) (by omega) ?_
              exact hJ121 (Lt, τ239, f247, g241, o242) _ _ _ (show (zA τ239 f247 g241 Lt Lt (j + 1) ∧ zRl f247 g241 ∧ zRt f247 ∧ zGo f247 ∧ zRw f247 g241) ∧ zH D A τ239 f247 g241 o242 s _ ∧ va_S A s.heap _ _ ∧ lv_has _ 7 [(0, .ref b), (1, .ref (τ239.1 0)), (2, .ref (τ239.1 30)), (3, .ref (τ239.1 28)), (4, .int (nI (6 * j)))] from ⟨⟨hI.mono (by omega), hR, hTx, hGo, hDw⟩, hH, hS, lv_sub hl [2, 3, 4, 5, 6] rfl⟩)
            · have zc250 := c250
              replace zc250 := zc_eq (rfl) ((by decide : (0 : Int32).toInt = 0)) zc250
              have hol := hEq.2 zc250
              refine lv_aload_n hx hb dL_law_704 rfl (lv_at hl 5 rfl) ?_
              refine lv_iconst (v := nI 0) hx hb dL_law_705 (by decide) ?_
              refine zLald (D := D) hx hb hH (zk_28 hI.1) (zn_28 hI.1) (vp_in_nI (by decide) (by decide)) dL_law_706 ?_
              refine lv_iload hx hb dL_law_707 (lv_at hl 0 rfl) ?_
              refine lv_i2l hx hb dL_law_709 rfl ?_
              refine lv_topl (fun v251 ev251 => ?_)
              refine W.lcmp hx hb dL_law_710 ?_
              refine lv_topi (fun v252 ev252 => ?_)
              have hv0 : v252.toInt = 0 := by rw [ev252, ev251, hol]; simp [lg_cmp]
              refine lv_if_eq (tgt := 716) hx hb dL_law_711 (by decide) (fun c253 => ?_) (fun c253 => False.elim (by have zc253 := zc_neq (rfl) ((by decide : (0 : Int32).toInt = 0)) c253; omega))
              refine lv_goto (tgt := 1073) hx hb dL_law_716 (by decide) ?_
              refine W.widen (k := (100 + 400 * (j + 1))) (n := (30000 + 12000 * (j + 1))) (by omega) (by omega) ?_
              exact hJ121 (Lt, τ239, f247, g241, o242) _ _ _ (show (zA τ239 f247 g241 Lt Lt (j + 1) ∧ zRl f247 g241 ∧ zRt f247 ∧ zGo f247 ∧ zRw f247 g241) ∧ zH D A τ239 f247 g241 o242 s _ ∧ va_S A s.heap _ _ ∧ lv_has _ 7 [(0, .ref b), (1, .ref (τ239.1 0)), (2, .ref (τ239.1 30)), (3, .ref (τ239.1 28)), (4, .int (nI (6 * j)))] from ⟨⟨hI.mono (by omega), hR, hTx, hGo, hDw⟩, hH, hS, lv_sub hl [2, 3, 4, 5, 6] rfl⟩)
        · have zc237 := c237
          replace zc237 := zc_neq (rfl) ((by decide : (0 : Int32).toInt = 0)) zc237
          refine lv_iconst (v := nI 1) hx hb dL_law_651 (by decide) ?_
          refine lv_goto (tgt := 656) hx hb dL_law_652 (by decide) ?_
          refine lv_aload_n hx hb dL_law_656 rfl (lv_at hl 3 rfl) ?_
          obtain ⟨⟨n, c, o, d, sn, p, hCI⟩, td, htd9, htd⟩ := hI.2.2.1
          obtain ⟨hT, hC, hO, hDo, hSn, hPk, hkx⟩ := id hCI
          obtain ⟨cd, pN, hPq, hPm⟩ := zRl.pr hR hGo hT.2.1 hT.1 htd htd9
          have hn2 := hR.nn hT.2.1 hT.1
          obtain ⟨wq, hw9, hwq⟩ := rw_wq hDw
          have hTo := hTx
          have hL0 := hI.2.2.2.1
          obtain ⟨LL, LC, MN, hDl, hDm0⟩ := rw_fn hDw hDo.2.1 hDo.1
          refine vx_calli (vx_runSX (As := [.ref (T.1 0), .int (xs (6 * j + 1)), .int (nI 1), .ref (T.1 28)]) (rest := []) ⟨hx, hb, hml, hown, hts⟩ (h_settleN l hl0 D A sad T f G oL (xs (6 * j + 1)) (nI 1) hI.1 n hT o hO d hDo td cd pN hPq LL LC MN hDl hI.2.1) (vx_cwSW 4 hts gL_law_L_settle rfl rfl rfl (by decide +kernel) ⟨Nat.le_of_ble_eq_true rfl, Nat.le_of_ble_eq_true rfl⟩) ⟨zQn_bl, zQn_at hz hS hA hH hnp⟩ rfl rfl hl.1 rfl (lv_room (Nat.le_of_ble_eq_true rfl)) dL_law_657 ⟨by show _ ≤ 601024; omega, by show _ ≤ 7293034; omega⟩) hS (fun q _ h => h) (fun q h => h) (fun q _ h => h) (fun E ce q9 u9 t9 H1 locs ht9 hvm9 hw hB hz1 hk1 hS hce hcv hcl => ?_) (fun r254 u9 t9 H1 locs ht9 hvm9 hw hB hz1 hk1 hS => ?_)
          · obtain ⟨hX, hB⟩ := hB
            have hH := zMv ht9 hvm9 hB
            generalize H1 = H at hH hS hce ⊢
            exact hX.elim
          · skip
            obtain ⟨τ255, f256, g257, o258⟩ := u9
            have hH := zMv ht9 hvm9 hB
            clear hB
            simp only at hw hH
            generalize H1 = H at hH hS ⊢
            have hwx := fun (_ : Unit) => hw
            clear hw
            obtain ⟨hGo, hPm, hlf, hlg⟩ := se_nxt hDo.1 hGo hPm (hwx ())
            have hw := se_old (hwx ())
            have hTx := hTx.cg (ct_settle hO.1 hw)
            have hR := hR.k1 (cr_settle hO.1 hw)
            have ha6 : ∀ i, i < 100 → τ255.1 i = T.1 i := fun i h => by rcases hw with ⟨rv, -, -, ⟨e, -⟩ | ⟨b, -, -, -, e⟩⟩ | ⟨-, e, -⟩ | ⟨-, e, -⟩ | ⟨-, e, -⟩; (rw [e]); (exact (e.2.2.1 i (by omega)).1); (rw [e]); (rw [e]); (rw [e])
            rw [show T.1 0 = τ255.1 0 from (ha6 0 (by omega)).symm] at hl
            rw [show T.1 30 = τ255.1 30 from (ha6 30 (by omega)).symm] at hl
            rw [show T.1 28 = τ255.1 28 from (ha6 28 (by omega)).symm] at hl
            have hI := ca_settle hI hCI ⟨td, htd9, htd⟩ hw
            clear hw
            refine lv_istore (lv' := [(5, .int r254), (0, .ref b), (1, .ref (τ255.1 0)), (2, .ref (τ255.1 30)), (3, .ref (τ255.1 28)), (4, .int (nI (6 * j)))]) hx hb dL_law_660 hl (by decide) rfl (fun ls hl => ?_)
            refine lv_aload_n hx hb dL_law_662 rfl (lv_at hl 3 rfl) ?_
            refine lv_aload_n hx hb dL_law_663 rfl (lv_at hl 1 rfl) ?_
            refine lv_iload hx hb dL_law_664 (lv_at hl 5 rfl) ?_
            refine lv_iconst (v := nI 1) hx hb dL_law_666 (by decide) ?_
            refine lv_iadd hx hb dL_law_667 ?_
            refine lv_topi (fun v259 ev259 => ?_)
            obtain rfl : v259 = nI (6 * j + 1) := ev259.trans (nI_add _ _)
            refine va_sld hx hb hX hbl hbA hS (vp_in_nI (by omega) (by omega)) dL_law_668 ?_
            rw [nI_clamp (by omega)]
            refine lv_aload_n hx hb dL_law_669 rfl (lv_at hl 1 rfl) ?_
            refine lv_iload hx hb dL_law_670 (lv_at hl 5 rfl) ?_
            refine lv_iconst (v := nI 2) hx hb dL_law_672 (by decide) ?_
            refine lv_iadd hx hb dL_law_673 ?_
            refine lv_topi (fun v260 ev260 => ?_)
            obtain rfl : v260 = nI (6 * j + 2) := ev260.trans (nI_add _ _)
            refine va_sld hx hb hX hbl hbA hS (vp_in_nI (by omega) (by omega)) dL_law_674 ?_
            rw [nI_clamp (by omega)]
            refine lv_if_eq (tgt := 682) hx hb dL_law_675 (by decide) (fun c261 => False.elim (by have zc261 := zc_eq (rfl) ((by decide : (0 : Int32).toInt = 0)) c261; omega)) (fun c261 => ?_)
            refine lv_iconst (v := nI 1) hx hb dL_law_678 (by decide) ?_
            refine lv_goto (tgt := 683) hx hb dL_law_679 (by decide) ?_
            obtain ⟨nM, cM, oM, gM, LnM, dM, pM, sM, tM, BM, hMall⟩ := hI.2.2.2.2.2
            obtain ⟨hMt, hMc, hMx, hMo, hMq, hdK, hMp, ⟨hs3M, hsM⟩, ⟨ht9M, htM⟩, hMs, hBM⟩ := id hMall
            obtain ⟨⟨enM, hPbM, hwq1⟩, hbl1, hwp1, hgq, hdq⟩ := rw_pre hDw hlf hlg hMt hMq htM ht9M hPm hn2 hT.1 hwq hw9
            have hDm1 := rw_dm hDm0 hlf hlg hMq
            refine va_calli (va_runV (As := [.int (xs (6 * j + 1)), .int (nI 1)]) (rest := []) ⟨hx, hb, hml, hown, hts⟩ (m_settleN l hl0 D A sad τ255 f256 g257 o258 (xs (6 * j + 1)) (nI 1) hI.1 nM hMt oM hMo gM LnM dM hMq tM cd pN hPbM LL LC MN hDm1 wq hwq1 hw9 hwp1) (cwV 2 hts gL_law_X12_settle rfl rfl rfl (by decide +kernel) ⟨Nat.le_of_ble_eq_true rfl, Nat.le_of_ble_eq_true rfl⟩) ⟨zQc_bl, zRecv hH (zk_30 hI.1) rfl, zQc_at hz hS hA hH⟩ rfl rfl hl.1 rfl (lv_room (Nat.le_of_ble_eq_true rfl)) dL_law_683 ⟨by show _ ≤ 601024; omega, by show _ ≤ 7293034; omega⟩) hS (fun q _ h => h) (fun q h => h) (fun r262 u9 t9 H1 locs ht9 hvm9 hw hB hz1 hk1 hS => ?_)
            have hH := zMv ht9 hvm9 hB
            clear hB
            generalize u9 = f263 at hw hH
            generalize H1 = H at hH hS ⊢
            obtain ⟨hDw, hEq⟩ := rw_settle hTo hDw enM hDo.2.1 hDo.1 hO.2.1 hO.1 hDl hMq.2.2.1 hdq hMo.2.1 hMo.1 hgq hMq.2.2.2.2.1.1 hwq1 hw9 (hwx ()) hw
            have hw := hw.1
            have hGo := hGo.ms hw.2.2
            clear hwx hTo hbl1 hwp1 hDm0 hDm1 hDl
            have hR := hR.kM (fun i k q => hw.2.2 i k (by unfold zRc at q; omega))
            have hTx := hTx.cg0 (fun i k q => hw.2.2 i k (by unfold zTd0 at q; omega))
            have hI := ma_settle hI hMall hw
            clear hw
            refine lv_istore (lv' := [(6, .int r262), (5, .int r254), (0, .ref b), (1, .ref (τ255.1 0)), (2, .ref (τ255.1 30)), (3, .ref (τ255.1 28)), (4, .int (nI (6 * j)))]) hx hb dL_law_686 hl (by decide) rfl (fun ls hl => ?_)
            refine lv_aload_n hx hb dL_law_688 rfl (lv_at hl 4 rfl) ?_
            refine va_calli (va_runV (As := []) (rest := []) ⟨hx, hb, hml, hown, hts⟩ (m_thrown l hl0 D A sad τ255 f263 g257 o258 hI.1) (cwV 0 hts gL_law_X12_thrown rfl rfl rfl (by decide +kernel) ⟨Nat.le_of_ble_eq_true rfl, Nat.le_of_ble_eq_true rfl⟩) ⟨zQc_bl, zRecv hH (zk_30 hI.1) rfl, zQc_at hz hS hA hH⟩ rfl rfl hl.1 rfl (lv_room (Nat.le_of_ble_eq_true rfl)) dL_law_689 ⟨by show _ ≤ 601024; omega, by show _ ≤ 7293034; omega⟩) hS (fun q _ h => h) (fun q h => h) (fun r264 u9 t9 H1 locs ht9 hvm9 hw hB hz1 hk1 hS => ?_)
            have hH := zMv ht9 hvm9 hB
            generalize H1 = H at hH hS ⊢
            obtain rfl := hw
            have hq9 := hEq.1
            refine lv_iload hx hb dL_law_692 (lv_at hl 1 rfl) ?_
            refine lv_icmp_eq (tgt := 699) hx hb dL_law_694 (by decide) (fun c265 => ?_) (fun c265 => False.elim (by have zc265 := zc_neq (rfl) (rfl) c265; omega))
            refine lv_iload hx hb dL_law_699 (lv_at hl 1 rfl) ?_
            refine lv_if_ne (tgt := 716) hx hb dL_law_701 (by decide) (fun c266 => ?_) (fun c266 => ?_)
            · have zc266 := c266
              replace zc266 := zc_neq (rfl) ((by decide : (0 : Int32).toInt = 0)) zc266
              refine lv_goto (tgt := 1073) hx hb dL_law_716 (by decide) ?_
              refine W.widen (k := (100 + 400 * (j + 1))) (n := (30000 + 12000 * (j + 1))) (by omega) (by omega) ?_
              exact hJ121 (Lt, τ255, f263, g257, o258) _ _ _ (show (zA τ255 f263 g257 Lt Lt (j + 1) ∧ zRl f263 g257 ∧ zRt f263 ∧ zGo f263 ∧ zRw f263 g257) ∧ zH D A τ255 f263 g257 o258 s _ ∧ va_S A s.heap _ _ ∧ lv_has _ 7 [(0, .ref b), (1, .ref (τ255.1 0)), (2, .ref (τ255.1 30)), (3, .ref (τ255.1 28)), (4, .int (nI (6 * j)))] from ⟨⟨hI.mono (by omega), hR, hTx, hGo, hDw⟩, hH, hS, lv_sub hl [2, 3, 4, 5, 6] rfl⟩)
            · have zc266 := c266
              replace zc266 := zc_eq (rfl) ((by decide : (0 : Int32).toInt = 0)) zc266
              have hol := hEq.2 zc266
              refine lv_aload_n hx hb dL_law_704 rfl (lv_at hl 5 rfl) ?_
              refine lv_iconst (v := nI 0) hx hb dL_law_705 (by decide) ?_
              refine zLald (D := D) hx hb hH (zk_28 hI.1) (zn_28 hI.1) (vp_in_nI (by decide) (by decide)) dL_law_706 ?_
              refine lv_iload hx hb dL_law_707 (lv_at hl 0 rfl) ?_
              refine lv_i2l hx hb dL_law_709 rfl ?_
              refine lv_topl (fun v267 ev267 => ?_)
              refine W.lcmp hx hb dL_law_710 ?_
              refine lv_topi (fun v268 ev268 => ?_)
              have hv0 : v268.toInt = 0 := by rw [ev268, ev267, hol]; simp [lg_cmp]
              refine lv_if_eq (tgt := 716) hx hb dL_law_711 (by decide) (fun c269 => ?_) (fun c269 => False.elim (by have zc269 := zc_neq (rfl) ((by decide : (0 : Int32).toInt = 0)) c269; omega))
              refine lv_goto (tgt := 1073) hx hb dL_law_716 (by decide) ?_
              refine W.widen (k := (100 + 400 * (j + 1))) (n := (30000 + 12000 * (j + 1))) (by omega) (by omega) ?_
              exact hJ121 (Lt, τ255, f263, g257, o258) _ _ _ (show (zA τ255 f263 g257 Lt Lt (j + 1) ∧ zRl f263 g257 ∧ zRt f263 ∧ zGo f263 ∧ zRw f263 g257) ∧ zH D A τ255 f263 g257 o258 s _ ∧ va_S A s.heap _ _ ∧ lv_has _ 7 [(0, .ref b), (1, .ref (τ255.1 0)), (2, .ref (τ255.1 30)), (3, .ref (τ255.1 28)), (4, .int (nI (6 * j)))] from ⟨⟨hI.mono (by omega), hR, hTx, hGo, hDw⟩, hH, hS, lv_sub hl [2, 3, 4, 5, 6] rfl⟩)
      · subst c123
        refine lv_tableIn (tgt := 719) (off := 679) hx hb dL_law_40 (by decide) (by decide) rfl (by decide) ?_
        refine lv_aload_n hx hb dL_law_719 rfl (lv_at hl 1 rfl) ?_
        refine lv_aload_n hx hb dL_law_720 rfl (lv_at hl 0 rfl) ?_
        refine lv_iload hx hb dL_law_721 (lv_at hl 4 rfl) ?_
        refine lv_iconst (v := nI 1) hx hb dL_law_723 (by decide) ?_
        refine lv_iadd hx hb dL_law_724 ?_
        refine lv_topi (fun v270 ev270 => ?_)
        obtain rfl : v270 = nI (6 * j + 1) := ev270.trans (nI_add _ _)
        refine va_sld hx hb hX hbl hbA hS (vp_in_nI (by omega) (by omega)) dL_law_725 ?_
        rw [nI_clamp (by omega)]
        refine lv_aload_n hx hb dL_law_726 rfl (lv_at hl 3 rfl) ?_
        obtain ⟨⟨n, c, o, d, sn, p, hCI⟩, td, htd9, htd⟩ := hI.2.2.1
        obtain ⟨hT, hC, hO, hDo, hSn, hPk, hkx⟩ := id hCI
        refine vx_calli (vx_runSX (As := [.ref (T.1 0), .int (xs (6 * j + 1)), .ref (T.1 28)]) (rest := []) ⟨hx, hb, hml, hown, hts⟩ (h_days l hl0 D A sad T f G oL (xs (6 * j + 1)) td htd htd9 hI.1 n hT c hC o hO sn hSn hkx hI.2.1) (vx_cwSW 3 hts gL_law_L_days rfl rfl rfl (by decide +kernel) ⟨Nat.le_of_ble_eq_true rfl, Nat.le_of_ble_eq_true rfl⟩) ⟨zQn_bl, zQn_at hz hS hA hH hnp⟩ rfl rfl hl.1 rfl (lv_room (Nat.le_of_ble_eq_true rfl)) dL_law_727 ⟨by show _ ≤ 601024; omega, by show _ ≤ 7293034; omega⟩) hS (fun q _ h => h) (fun q h => h) (fun q _ h => h) (fun E ce q9 u9 t9 H1 locs ht9 hvm9 hw hB hz1 hk1 hS hce hcv hcl => ?_) (fun r271 u9 t9 H1 locs ht9 hvm9 hw hB hz1 hk1 hS => ?_)
        · obtain ⟨hX, hB⟩ := hB
          have hH := zMv ht9 hvm9 hB
          generalize H1 = H at hH hS hce ⊢
          exact hX.elim
        · skip
          obtain ⟨τ272, f273, g274, o275⟩ := u9
          have hH := zMv ht9 hvm9 hB
          clear hB
          simp only at hw hH
          generalize H1 = H at hH hS ⊢
          have hcw := cw_days hw
          have hGo := hGo.cg (fun i k q => hcw i k (zDd.g q))
          have hDw := hDw.cg (fun i k q => hcw i k (zDd.w q)) (cv_days hw)
          have hTx := hTx.cg (ct_days hw)
          have hwc := hw
          have ha6 : ∀ i, i < 100 → τ272.1 i = T.1 i := fun i h => by rcases hw with ⟨rv, -, -, b, -, -, -, e, -⟩ | ⟨-, e, -⟩; (exact (e.1 i (by omega)).1); (rw [e])
          rw [show T.1 0 = τ272.1 0 from (ha6 0 (by omega)).symm] at hl
          rw [show T.1 30 = τ272.1 30 from (ha6 30 (by omega)).symm] at hl
          rw [show T.1 28 = τ272.1 28 from (ha6 28 (by omega)).symm] at hl
          have hI := ca_days hI hCI hw
          clear hw
          refine lv_istore (lv' := [(5, .int r271), (0, .ref b), (1, .ref (τ272.1 0)), (2, .ref (τ272.1 30)), (3, .ref (τ272.1 28)), (4, .int (nI (6 * j)))]) hx hb dL_law_730 hl (by decide) rfl (fun ls hl => ?_)
          refine lv_aload_n hx hb dL_law_732 rfl (lv_at hl 3 rfl) ?_
          refine lv_aload_n hx hb dL_law_733 rfl (lv_at hl 1 rfl) ?_
          refine lv_iload hx hb dL_law_734 (lv_at hl 5 rfl) ?_
          refine lv_iconst (v := nI 1) hx hb dL_law_736 (by decide) ?_
          refine lv_iadd hx hb dL_law_737 ?_
          refine lv_topi (fun v276 ev276 => ?_)
          obtain rfl : v276 = nI (6 * j + 1) := ev276.trans (nI_add _ _)
          refine va_sld hx hb hX hbl hbA hS (vp_in_nI (by omega) (by omega)) dL_law_738 ?_
          rw [nI_clamp (by omega)]
          obtain ⟨nM, cM, oM, gM, LnM, dM, pM, sM, tM, BM, hMall⟩ := hI.2.2.2.2.2
          obtain ⟨hMt, hMc, hMx, hMo, hMq, hdK, hMp, ⟨hs3M, hsM⟩, ⟨ht9M, htM⟩, hMs, hBM⟩ := id hMall
          refine va_calli (va_runV (As := [.int (xs (6 * j + 1))]) (rest := []) ⟨hx, hb, hml, hown, hts⟩ (m_days l hl0 D A sad τ272 f273 g274 o275 (xs (6 * j + 1)) hI.1 nM hMt oM hMo hMx cM hMc BM hMs sM hsM hs3M tM htM ht9M (by omega)) (cwV 1 hts gL_law_X12_days rfl rfl rfl (by decide +kernel) ⟨Nat.le_of_ble_eq_true rfl, Nat.le_of_ble_eq_true rfl⟩) ⟨zQc_bl, zRecv hH (zk_30 hI.1) rfl, zQc_at hz hS hA hH⟩ rfl rfl hl.1 rfl (lv_room (Nat.le_of_ble_eq_true rfl)) dL_law_739 ⟨by show _ ≤ 601024; omega, by show _ ≤ 7293034; omega⟩) hS (fun q _ h => h) (fun q h => h) (fun r277 u9 t9 H1 locs ht9 hvm9 hw hB hz1 hk1 hS => ?_)
          have hH := zMv ht9 hvm9 hB
          clear hB
          generalize u9 = f278 at hw hH
          generalize H1 = H at hH hS ⊢
          have hTx := hTx.cg (fun i k q => by obtain ⟨t2, -, -, -, -, -, -, -, -, -, F⟩ := hw; exact F i k (by unfold zTd at q; omega))
          obtain ⟨hR, hEq⟩ := rl_days (b := r277) hR htd htd9 htM ht9M hwc (fun q => by simpa using q.2) (by obtain ⟨t2, -, -, q1, q2, -, -, -, -, -, F⟩ := hw; exact ⟨t2, q1, q2, fun a b q => F a b (by unfold zRc at q; omega)⟩)
          clear hwc
          have hGo := hGo.cg (fun i k q => by obtain ⟨t2, -, -, -, -, -, -, -, -, -, F⟩ := hw; exact F i k (by unfold zGw at q; omega))
          have hDw := hDw.cg (fun i k q => by obtain ⟨t2, -, -, -, -, -, -, -, -, -, F⟩ := hw; exact F i k (by unfold zDw at q; omega)) rfl
          have hI := ma_days hI hMall hw
          clear hw
          refine lv_istore (lv' := [(6, .int r277), (5, .int r271), (0, .ref b), (1, .ref (τ272.1 0)), (2, .ref (τ272.1 30)), (3, .ref (τ272.1 28)), (4, .int (nI (6 * j)))]) hx hb dL_law_742 hl (by decide) rfl (fun ls hl => ?_)
          refine lv_goto (tgt := 1073) hx hb dL_law_744 (by decide) ?_
          refine W.widen (k := (100 + 400 * (j + 1))) (n := (30000 + 12000 * (j + 1))) (by omega) (by omega) ?_
          exact hJ121 (Lt, τ272, f278, g274, o275) _ _ _ (show (zA τ272 f278 g274 Lt Lt (j + 1) ∧ zRl f278 g274 ∧ zRt f278 ∧ zGo f278 ∧ zRw f278 g274) ∧ zH D A τ272 f278 g274 o275 s _ ∧ va_S A s.heap _ _ ∧ lv_has _ 7 [(0, .ref b), (1, .ref (τ272.1 0)), (2, .ref (τ272.1 30)), (3, .ref (τ272.1 28)), (4, .int (nI (6 * j)))] from ⟨⟨hI.mono (by omega), hR, hTx, hGo, hDw⟩, hH, hS, lv_sub hl [2, 3, 4, 5, 6] rfl⟩)
      · subst c123
        refine lv_tableIn (tgt := 747) (off := 707) hx hb dL_law_40 (by decide) (by decide) rfl (by decide) ?_
        refine lv_aload_n hx hb dL_law_747 rfl (lv_at hl 1 rfl) ?_
        refine lv_aload_n hx hb dL_law_748 rfl (lv_at hl 0 rfl) ?_
        refine lv_iload hx hb dL_law_749 (lv_at hl 4 rfl) ?_
        refine lv_iconst (v := nI 1) hx hb dL_law_751 (by decide) ?_
        refine lv_iadd hx hb dL_law_752 ?_
        refine lv_topi (fun v279 ev279 => ?_)
        obtain rfl : v279 = nI (6 * j + 1) := ev279.trans (nI_add _ _)
        refine va_sld hx hb hX hbl hbA hS (vp_in_nI (by omega) (by omega)) dL_law_753 ?_
        rw [nI_clamp (by omega)]
        refine lv_aload_n hx hb dL_law_754 rfl (lv_at hl 0 rfl) ?_
        refine lv_iload hx hb dL_law_755 (lv_at hl 4 rfl) ?_
        refine lv_iconst (v := nI 2) hx hb dL_law_757 (by decide) ?_
        refine lv_iadd hx hb dL_law_758 ?_
        refine lv_topi (fun v280 ev280 => ?_)
        obtain rfl : v280 = nI (6 * j + 2) := ev280.trans (nI_add _ _)
        refine va_sld hx hb hX hbl hbA hS (vp_in_nI (by omega) (by omega)) dL_law_759 ?_
        rw [nI_clamp (by omega)]
        refine lv_aload_n hx hb dL_law_760 rfl (lv_at hl 3 rfl) ?_
        obtain ⟨⟨n, c, o, d, sn, p, hCI⟩, td, htd9, htd⟩ := hI.2.2.1
        obtain ⟨hT, hC, hO, hDo, hSn, hPk, hkx⟩ := id hCI
        refine vx_calli (vx_runSX (As := [.ref (T.1 0), .int (xs (6 * j + 1)), .int (xs (6 * j + 2)), .ref (T.1 28)]) (rest := []) ⟨hx, hb, hml, hown, hts⟩ (h_order l hl0 D A sad T f G oL (xs (6 * j + 1)) (xs (6 * j + 2)) hI.1 n o hO hI.2.1) (vx_cwSW 4 hts gL_law_L_order rfl rfl rfl (by decide +kernel) ⟨Nat.le_of_ble_eq_true rfl, Nat.le_of_ble_eq_true rfl⟩) ⟨zQn_bl, zQn_at hz hS hA hH hnp⟩ rfl rfl hl.1 rfl (lv_room (Nat.le_of_ble_eq_true rfl)) dL_law_761 ⟨by show _ ≤ 601024; omega, by show _ ≤ 7293034; omega⟩) hS (fun q _ h => h) (fun q h => h) (fun q _ h => h) (fun E ce q9 u9 t9 H1 locs ht9 hvm9 hw hB hz1 hk1 hS hce hcv hcl => ?_) (fun r281 u9 t9 H1 locs ht9 hvm9 hw hB hz1 hk1 hS => ?_)
        · obtain ⟨hX, hB⟩ := hB
          have hH := zMv ht9 hvm9 hB
          generalize H1 = H at hH hS hce ⊢
          exact hX.elim
        · skip
          have hH := zMv ht9 hvm9 hB
          clear hB
          generalize u9 = o282 at hw hH
          generalize H1 = H at hH hS ⊢
          clear hw
          refine lv_istore (lv' := [(5, .int r281), (0, .ref b), (1, .ref (T.1 0)), (2, .ref (T.1 30)), (3, .ref (T.1 28)), (4, .int (nI (6 * j)))]) hx hb dL_law_764 hl (by decide) rfl (fun ls hl => ?_)
          refine lv_aload_n hx hb dL_law_766 rfl (lv_at hl 3 rfl) ?_
          refine lv_aload_n hx hb dL_law_767 rfl (lv_at hl 1 rfl) ?_
          refine lv_iload hx hb dL_law_768 (lv_at hl 5 rfl) ?_
          refine lv_iconst (v := nI 1) hx hb dL_law_770 (by decide) ?_
          refine lv_iadd hx hb dL_law_771 ?_
          refine lv_topi (fun v283 ev283 => ?_)
          obtain rfl : v283 = nI (6 * j + 1) := ev283.trans (nI_add _ _)
          refine va_sld hx hb hX hbl hbA hS (vp_in_nI (by omega) (by omega)) dL_law_772 ?_
          rw [nI_clamp (by omega)]
          refine lv_aload_n hx hb dL_law_773 rfl (lv_at hl 1 rfl) ?_
          refine lv_iload hx hb dL_law_774 (lv_at hl 5 rfl) ?_
          refine lv_iconst (v := nI 2) hx hb dL_law_776 (by decide) ?_
          refine lv_iadd hx hb dL_law_777 ?_
          refine lv_topi (fun v284 ev284 => ?_)
          obtain rfl : v284 = nI (6 * j + 2) := ev284.trans (nI_add _ _)
          refine va_sld hx hb hX hbl hbA hS (vp_in_nI (by omega) (by omega)) dL_law_778 ?_
          rw [nI_clamp (by omega)]
          obtain ⟨nM, cM, oM, gM, LnM, dM, pM, sM, tM, BM, hMall⟩ := hI.2.2.2.2.2
          obtain ⟨hMt, hMc, hMx, hMo, hMq, hdK, hMp, ⟨hs3M, hsM⟩, ⟨ht9M, htM⟩, hMs, hBM⟩ := id hMall
          refine va_calli (va_runV (As := [.int (xs (6 * j + 1)), .int (xs (6 * j + 2))]) (rest := []) ⟨hx, hb, hml, hown, hts⟩ (m_order l hl0 D A sad T f G o282 (xs (6 * j + 1)) (xs (6 * j + 2)) hI.1 nM oM hMo) (cwV 2 hts gL_law_X12_order rfl rfl rfl (by decide +kernel) ⟨Nat.le_of_ble_eq_true rfl, Nat.le_of_ble_eq_true rfl⟩) ⟨zQc_bl, zRecv hH (zk_30 hI.1) rfl, zQc_at hz hS hA hH⟩ rfl rfl hl.1 rfl (lv_room (Nat.le_of_ble_eq_true rfl)) dL_law_779 ⟨by show _ ≤ 601024; omega, by show _ ≤ 7293034; omega⟩) hS (fun q _ h => h) (fun q h => h) (fun r285 u9 t9 H1 locs ht9 hvm9 hw hB hz1 hk1 hS => ?_)
          have hH := zMv ht9 hvm9 hB
          clear hB
          generalize u9 = f286 at hw hH
          generalize H1 = H at hH hS ⊢
          have hR := hR.kM (fun i k q => hw i k (by unfold zRc at q; omega))
          have hTx := hTx.cg0 (fun i k q => hw i k (by unfold zTd0 at q; omega))
          have hGo := hGo.cg (fun i k q => hw i k (by unfold zGw at q; omega))
          have hDw := hDw.cg (fun i k q => hw i k (by unfold zDw at q; omega)) rfl
          have hI := ma_q hI hw
          clear hw
          refine lv_istore (lv' := [(6, .int r285), (5, .int r281), (0, .ref b), (1, .ref (T.1 0)), (2, .ref (T.1 30)), (3, .ref (T.1 28)), (4, .int (nI (6 * j)))]) hx hb dL_law_782 hl (by decide) rfl (fun ls hl => ?_)
          refine lv_goto (tgt := 1073) hx hb dL_law_784 (by decide) ?_
          refine W.widen (k := (100 + 400 * (j + 1))) (n := (30000 + 12000 * (j + 1))) (by omega) (by omega) ?_
          exact hJ121 (Lt, T, f286, G, o282) _ _ _ (show (zA T f286 G Lt Lt (j + 1) ∧ zRl f286 G ∧ zRt f286 ∧ zGo f286 ∧ zRw f286 G) ∧ zH D A T f286 G o282 s _ ∧ va_S A s.heap _ _ ∧ lv_has _ 7 [(0, .ref b), (1, .ref (T.1 0)), (2, .ref (T.1 30)), (3, .ref (T.1 28)), (4, .int (nI (6 * j)))] from ⟨⟨hI.mono (by omega), hR, hTx, hGo, hDw⟩, hH, hS, lv_sub hl [2, 3, 4, 5, 6] rfl⟩)
      · subst c123
        refine lv_tableIn (tgt := 787) (off := 747) hx hb dL_law_40 (by decide) (by decide) rfl (by decide) ?_
        refine lv_aload_n hx hb dL_law_787 rfl (lv_at hl 1 rfl) ?_
        refine lv_aload_n hx hb dL_law_788 rfl (lv_at hl 0 rfl) ?_
        refine lv_iload hx hb dL_law_789 (lv_at hl 4 rfl) ?_
        refine lv_iconst (v := nI 1) hx hb dL_law_791 (by decide) ?_
        refine lv_iadd hx hb dL_law_792 ?_
        refine lv_topi (fun v287 ev287 => ?_)
        obtain rfl : v287 = nI (6 * j + 1) := ev287.trans (nI_add _ _)
        refine va_sld hx hb hX hbl hbA hS (vp_in_nI (by omega) (by omega)) dL_law_793 ?_
        rw [nI_clamp (by omega)]
        refine lv_aload_n hx hb dL_law_794 rfl (lv_at hl 0 rfl) ?_
        refine lv_iload hx hb dL_law_795 (lv_at hl 4 rfl) ?_
        refine lv_iconst (v := nI 2) hx hb dL_law_797 (by decide) ?_
        refine lv_iadd hx hb dL_law_798 ?_
        refine lv_topi (fun v288 ev288 => ?_)
        obtain rfl : v288 = nI (6 * j + 2) := ev288.trans (nI_add _ _)
        refine va_sld hx hb hX hbl hbA hS (vp_in_nI (by omega) (by omega)) dL_law_799 ?_
        rw [nI_clamp (by omega)]
        refine lv_aload_n hx hb dL_law_800 rfl (lv_at hl 0 rfl) ?_
        refine lv_iload hx hb dL_law_801 (lv_at hl 4 rfl) ?_
        refine lv_iconst (v := nI 3) hx hb dL_law_803 (by decide) ?_
        refine lv_iadd hx hb dL_law_804 ?_
        refine lv_topi (fun v289 ev289 => ?_)
        obtain rfl : v289 = nI (6 * j + 3) := ev289.trans (nI_add _ _)
        refine va_sld hx hb hX hbl hbA hS (vp_in_nI (by omega) (by omega)) dL_law_805 ?_
        rw [nI_clamp (by omega)]
        refine lv_aload_n hx hb dL_law_806 rfl (lv_at hl 3 rfl) ?_
        obtain ⟨⟨n, c, o, d, sn, p, hCI⟩, td, htd9, htd⟩ := hI.2.2.1
        obtain ⟨hT, hC, hO, hDo, hSn, hPk, hkx⟩ := id hCI
        refine vx_calli (vx_runSX (As := [.ref (T.1 0), .int (xs (6 * j + 1)), .int (xs (6 * j + 2)), .int (xs (6 * j + 3)), .ref (T.1 28)]) (rest := []) ⟨hx, hb, hml, hown, hts⟩ (h_want l hl0 D A sad T f G oL (xs (6 * j + 1)) (xs (6 * j + 2)) (xs (6 * j + 3)) hI.1 n o hO hT hI.2.1) (vx_cwSW 5 hts gL_law_L_want rfl rfl rfl (by decide +kernel) ⟨Nat.le_of_ble_eq_true rfl, Nat.le_of_ble_eq_true rfl⟩) ⟨zQn_bl, zQn_at hz hS hA hH hnp⟩ rfl rfl hl.1 rfl (lv_room (Nat.le_of_ble_eq_true rfl)) dL_law_807 ⟨by show _ ≤ 601024; omega, by show _ ≤ 7293034; omega⟩) hS (fun q _ h => h) (fun q h => h) (fun q _ h => h) (fun E ce q9 u9 t9 H1 locs ht9 hvm9 hw hB hz1 hk1 hS hce hcv hcl => ?_) (fun r290 u9 t9 H1 locs ht9 hvm9 hw hB hz1 hk1 hS => ?_)
        · obtain ⟨hX, hB⟩ := hB
          have hH := zMv ht9 hvm9 hB
          generalize H1 = H at hH hS hce ⊢
          exact hX.elim
        · skip
          have hH := zMv ht9 hvm9 hB
          clear hB
          generalize u9 = o291 at hw hH
          generalize H1 = H at hH hS ⊢
          clear hw
          refine lv_istore (lv' := [(5, .int r290), (0, .ref b), (1, .ref (T.1 0)), (2, .ref (T.1 30)), (3, .ref (T.1 28)), (4, .int (nI (6 * j)))]) hx hb dL_law_810 hl (by decide) rfl (fun ls hl => ?_)
          refine lv_aload_n hx hb dL_law_812 rfl (lv_at hl 3 rfl) ?_
          refine lv_aload_n hx hb dL_law_813 rfl (lv_at hl 1 rfl) ?_
          refine lv_iload hx hb dL_law_814 (lv_at hl 5 rfl) ?_
          refine lv_iconst (v := nI 1) hx hb dL_law_816 (by decide) ?_
          refine lv_iadd hx hb dL_law_817 ?_
          refine lv_topi (fun v292 ev292 => ?_)
          obtain rfl : v292 = nI (6 * j + 1) := ev292.trans (nI_add _ _)
          refine va_sld hx hb hX hbl hbA hS (vp_in_nI (by omega) (by omega)) dL_law_818 ?_
          rw [nI_clamp (by omega)]
          refine lv_aload_n hx hb dL_law_819 rfl (lv_at hl 1 rfl) ?_
          refine lv_iload hx hb dL_law_820 (lv_at hl 5 rfl) ?_
          refine lv_iconst (v := nI 2) hx hb dL_law_822 (by decide) ?_
          refine lv_iadd hx hb dL_law_823 ?_
          refine lv_topi (fun v293 ev293 => ?_)
          obtain rfl : v293 = nI (6 * j + 2) := ev293.trans (nI_add _ _)
          refine va_sld hx hb hX hbl hbA hS (vp_in_nI (by omega) (by omega)) dL_law_824 ?_
          rw [nI_clamp (by omega)]
          refine lv_aload_n hx hb dL_law_825 rfl (lv_at hl 1 rfl) ?_
          refine lv_iload hx hb dL_law_826 (lv_at hl 5 rfl) ?_
          refine lv_iconst (v := nI 3) hx hb dL_law_828 (by decide) ?_
          refine lv_iadd hx hb dL_law_829 ?_
          refine lv_topi (fun v294 ev294 => ?_)
          obtain rfl : v294 = nI (6 * j + 3) := ev294.trans (nI_add _ _)
          refine va_sld hx hb hX hbl hbA hS (vp_in_nI (by omega) (by omega)) dL_law_830 ?_
          rw [nI_clamp (by omega)]
          obtain ⟨nM, cM, oM, gM, LnM, dM, pM, sM, tM, BM, hMall⟩ := hI.2.2.2.2.2
          obtain ⟨hMt, hMc, hMx, hMo, hMq, hdK, hMp, ⟨hs3M, hsM⟩, ⟨ht9M, htM⟩, hMs, hBM⟩ := id hMall
          refine va_calli (va_runV (As := [.int (xs (6 * j + 1)), .int (xs (6 * j + 2)), .int (xs (6 * j + 3))]) (rest := []) ⟨hx, hb, hml, hown, hts⟩ (m_want l hl0 D A sad T f G o291 (xs (6 * j + 1)) (xs (6 * j + 2)) (xs (6 * j + 3)) hI.1 nM oM hMo) (cwV 3 hts gL_law_X12_want rfl rfl rfl (by decide +kernel) ⟨Nat.le_of_ble_eq_true rfl, Nat.le_of_ble_eq_true rfl⟩) ⟨zQc_bl, zRecv hH (zk_30 hI.1) rfl, zQc_at hz hS hA hH⟩ rfl rfl hl.1 rfl (lv_room (Nat.le_of_ble_eq_true rfl)) dL_law_831 ⟨by show _ ≤ 601024; omega, by show _ ≤ 7293034; omega⟩) hS (fun q _ h => h) (fun q h => h) (fun r295 u9 t9 H1 locs ht9 hvm9 hw hB hz1 hk1 hS => ?_)
          have hH := zMv ht9 hvm9 hB
          clear hB
          generalize u9 = f296 at hw hH
          generalize H1 = H at hH hS ⊢
          have hR := hR.kM (fun i k q => hw i k (by unfold zRc at q; omega))
          have hTx := hTx.cg0 (fun i k q => hw i k (by unfold zTd0 at q; omega))
          have hGo := hGo.cg (fun i k q => hw i k (by unfold zGw at q; omega))
          have hDw := hDw.cg (fun i k q => hw i k (by unfold zDw at q; omega)) rfl
          have hI := ma_q hI hw
          clear hw
          refine lv_istore (lv' := [(6, .int r295), (5, .int r290), (0, .ref b), (1, .ref (T.1 0)), (2, .ref (T.1 30)), (3, .ref (T.1 28)), (4, .int (nI (6 * j)))]) hx hb dL_law_834 hl (by decide) rfl (fun ls hl => ?_)
          refine lv_goto (tgt := 1073) hx hb dL_law_836 (by decide) ?_
          refine W.widen (k := (100 + 400 * (j + 1))) (n := (30000 + 12000 * (j + 1))) (by omega) (by omega) ?_
          exact hJ121 (Lt, T, f296, G, o291) _ _ _ (show (zA T f296 G Lt Lt (j + 1) ∧ zRl f296 G ∧ zRt f296 ∧ zGo f296 ∧ zRw f296 G) ∧ zH D A T f296 G o291 s _ ∧ va_S A s.heap _ _ ∧ lv_has _ 7 [(0, .ref b), (1, .ref (T.1 0)), (2, .ref (T.1 30)), (3, .ref (T.1 28)), (4, .int (nI (6 * j)))] from ⟨⟨hI.mono (by omega), hR, hTx, hGo, hDw⟩, hH, hS, lv_sub hl [2, 3, 4, 5, 6] rfl⟩)
      · subst c123
        refine lv_tableIn (tgt := 839) (off := 799) hx hb dL_law_40 (by decide) (by decide) rfl (by decide) ?_
        refine lv_aload_n hx hb dL_law_839 rfl (lv_at hl 1 rfl) ?_
        refine lv_aload_n hx hb dL_law_840 rfl (lv_at hl 0 rfl) ?_
        refine lv_iload hx hb dL_law_841 (lv_at hl 4 rfl) ?_
        refine lv_iconst (v := nI 1) hx hb dL_law_843 (by decide) ?_
        refine lv_iadd hx hb dL_law_844 ?_
        refine lv_topi (fun v297 ev297 => ?_)
        obtain rfl : v297 = nI (6 * j + 1) := ev297.trans (nI_add _ _)
        refine va_sld hx hb hX hbl hbA hS (vp_in_nI (by omega) (by omega)) dL_law_845 ?_
        rw [nI_clamp (by omega)]
        refine lv_aload_n hx hb dL_law_846 rfl (lv_at hl 0 rfl) ?_
        refine lv_iload hx hb dL_law_847 (lv_at hl 4 rfl) ?_
        refine lv_iconst (v := nI 2) hx hb dL_law_849 (by decide) ?_
        refine lv_iadd hx hb dL_law_850 ?_
        refine lv_topi (fun v298 ev298 => ?_)
        obtain rfl : v298 = nI (6 * j + 2) := ev298.trans (nI_add _ _)
        refine va_sld hx hb hX hbl hbA hS (vp_in_nI (by omega) (by omega)) dL_law_851 ?_
        rw [nI_clamp (by omega)]
        refine lv_aload_n hx hb dL_law_852 rfl (lv_at hl 0 rfl) ?_
        refine lv_iload hx hb dL_law_853 (lv_at hl 4 rfl) ?_
        refine lv_iconst (v := nI 3) hx hb dL_law_855 (by decide) ?_
        refine lv_iadd hx hb dL_law_856 ?_
        refine lv_topi (fun v299 ev299 => ?_)
        obtain rfl : v299 = nI (6 * j + 3) := ev299.trans (nI_add _ _)
        refine va_sld hx hb hX hbl hbA hS (vp_in_nI (by omega) (by omega)) dL_law_857 ?_
        rw [nI_clamp (by omega)]
        refine lv_aload_n hx hb dL_law_858 rfl (lv_at hl 3 rfl) ?_
        obtain ⟨⟨n, c, o, d, sn, p, hCI⟩, td, htd9, htd⟩ := hI.2.2.1
        obtain ⟨hT, hC, hO, hDo, hSn, hPk, hkx⟩ := id hCI
        refine vx_calli (vx_runSX (As := [.ref (T.1 0), .int (xs (6 * j + 1)), .int (xs (6 * j + 2)), .int (xs (6 * j + 3)), .ref (T.1 28)]) (rest := []) ⟨hx, hb, hml, hown, hts⟩ (h_back l hl0 D A sad T f G oL (xs (6 * j + 1)) (xs (6 * j + 2)) (xs (6 * j + 3)) hI.1 n o hO hT hI.2.1) (vx_cwSW 5 hts gL_law_L_back rfl rfl rfl (by decide +kernel) ⟨Nat.le_of_ble_eq_true rfl, Nat.le_of_ble_eq_true rfl⟩) ⟨zQn_bl, zQn_at hz hS hA hH hnp⟩ rfl rfl hl.1 rfl (lv_room (Nat.le_of_ble_eq_true rfl)) dL_law_859 ⟨by show _ ≤ 601024; omega, by show _ ≤ 7293034; omega⟩) hS (fun q _ h => h) (fun q h => h) (fun q _ h => h) (fun E ce q9 u9 t9 H1 locs ht9 hvm9 hw hB hz1 hk1 hS hce hcv hcl => ?_) (fun r300 u9 t9 H1 locs ht9 hvm9 hw hB hz1 hk1 hS => ?_)
        · obtain ⟨hX, hB⟩ := hB
          have hH := zMv ht9 hvm9 hB
          generalize H1 = H at hH hS hce ⊢
          exact hX.elim
        · skip
          obtain ⟨f301, o302⟩ := u9
          have hH := zMv ht9 hvm9 hB
          clear hB
          simp only at hw hH
          generalize H1 = H at hH hS ⊢
          have hcw := cw_back hw
          have hGo := hGo.cg (fun i k q => hcw i k (zDd.g q))
          have hDw := hDw.cg (fun i k q => hcw i k (zDd.w q)) rfl
          have hTx := hTx.cg (ct_back hw)
          have hR := hR.k0 (cr_back hw)
          have hI := ca_back (P1 := fun _ => True) hI hw
          clear hw
          refine lv_istore (lv' := [(5, .int r300), (0, .ref b), (1, .ref (T.1 0)), (2, .ref (T.1 30)), (3, .ref (T.1 28)), (4, .int (nI (6 * j)))]) hx hb dL_law_862 hl (by decide) rfl (fun ls hl => ?_)
          refine lv_aload_n hx hb dL_law_864 rfl (lv_at hl 3 rfl) ?_
          refine lv_aload_n hx hb dL_law_865 rfl (lv_at hl 1 rfl) ?_
          refine lv_iload hx hb dL_law_866 (lv_at hl 5 rfl) ?_
          refine lv_iconst (v := nI 1) hx hb dL_law_868 (by decide) ?_
          refine lv_iadd hx hb dL_law_869 ?_
          refine lv_topi (fun v303 ev303 => ?_)
          obtain rfl : v303 = nI (6 * j + 1) := ev303.trans (nI_add _ _)
          refine va_sld hx hb hX hbl hbA hS (vp_in_nI (by omega) (by omega)) dL_law_870 ?_
          rw [nI_clamp (by omega)]
          refine lv_aload_n hx hb dL_law_871 rfl (lv_at hl 1 rfl) ?_
          refine lv_iload hx hb dL_law_872 (lv_at hl 5 rfl) ?_
          refine lv_iconst (v := nI 2) hx hb dL_law_874 (by decide) ?_
          refine lv_iadd hx hb dL_law_875 ?_
          refine lv_topi (fun v304 ev304 => ?_)
          obtain rfl : v304 = nI (6 * j + 2) := ev304.trans (nI_add _ _)
          refine va_sld hx hb hX hbl hbA hS (vp_in_nI (by omega) (by omega)) dL_law_876 ?_
          rw [nI_clamp (by omega)]
          refine lv_aload_n hx hb dL_law_877 rfl (lv_at hl 1 rfl) ?_
          refine lv_iload hx hb dL_law_878 (lv_at hl 5 rfl) ?_
          refine lv_iconst (v := nI 3) hx hb dL_law_880 (by decide) ?_
          refine lv_iadd hx hb dL_law_881 ?_
          refine lv_topi (fun v305 ev305 => ?_)
          obtain rfl : v305 = nI (6 * j + 3) := ev305.trans (nI_add _ _)
          refine va_sld hx hb hX hbl hbA hS (vp_in_nI (by omega) (by omega)) dL_law_882 ?_
          rw [nI_clamp (by omega)]
          obtain ⟨nM, cM, oM, gM, LnM, dM, pM, sM, tM, BM, hMall⟩ := hI.2.2.2.2.2
          obtain ⟨hMt, hMc, hMx, hMo, hMq, hdK, hMp, ⟨hs3M, hsM⟩, ⟨ht9M, htM⟩, hMs, hBM⟩ := id hMall
          refine va_calli (va_runV (As := [.int (xs (6 * j + 1)), .int (xs (6 * j + 2)), .int (xs (6 * j + 3))]) (rest := []) ⟨hx, hb, hml, hown, hts⟩ (m_back l hl0 D A sad T f301 G o302 (xs (6 * j + 1)) (xs (6 * j + 2)) (xs (6 * j + 3)) hI.1 nM hMt oM hMo BM hMs (by omega)) (cwV 3 hts gL_law_X12_back rfl rfl rfl (by decide +kernel) ⟨Nat.le_of_ble_eq_true rfl, Nat.le_of_ble_eq_true rfl⟩) ⟨zQc_bl, zRecv hH (zk_30 hI.1) rfl, zQc_at hz hS hA hH⟩ rfl rfl hl.1 rfl (lv_room (Nat.le_of_ble_eq_true rfl)) dL_law_883 ⟨by show _ ≤ 601024; omega, by show _ ≤ 7293034; omega⟩) hS (fun q _ h => h) (fun q h => h) (fun r306 u9 t9 H1 locs ht9 hvm9 hw hB hz1 hk1 hS => ?_)
          have hH := zMv ht9 hvm9 hB
          clear hB
          generalize u9 = f307 at hw hH
          generalize H1 = H at hH hS ⊢
          have hR := hR.kM (fun i k q => hw.2.2 i k (by unfold zRc at q; omega))
          have hTx := hTx.cg0 (fun i k q => hw.2.2 i k (by unfold zTd0 at q; omega))
          have hGo := hGo.cg (fun i k q => hw.2.2 i k (by unfold zGw at q; omega))
          have hDw := hDw.cg (fun i k q => hw.2.2 i k (by unfold zDw at q; omega)) rfl
          have hI := ma_back hI hMall hw
          clear hw
          refine lv_istore (lv' := [(6, .int r306), (5, .int r300), (0, .ref b), (1, .ref (T.1 0)), (2, .ref (T.1 30)), (3, .ref (T.1 28)), (4, .int (nI (6 * j)))]) hx hb dL_law_886 hl (by decide) rfl (fun ls hl => ?_)
          refine lv_goto (tgt := 1073) hx hb dL_law_888 (by decide) ?_
          refine W.widen (k := (100 + 400 * (j + 1))) (n := (30000 + 12000 * (j + 1))) (by omega) (by omega) ?_
          exact hJ121 (Lt, T, f307, G, o302) _ _ _ (show (zA T f307 G Lt Lt (j + 1) ∧ zRl f307 G ∧ zRt f307 ∧ zGo f307 ∧ zRw f307 G) ∧ zH D A T f307 G o302 s _ ∧ va_S A s.heap _ _ ∧ lv_has _ 7 [(0, .ref b), (1, .ref (T.1 0)), (2, .ref (T.1 30)), (3, .ref (T.1 28)), (4, .int (nI (6 * j)))] from ⟨⟨hI, hR, hTx, hGo, hDw⟩, hH, hS, lv_sub hl [2, 3, 4, 5, 6] rfl⟩)
      · subst c123
        refine lv_tableIn (tgt := 891) (off := 851) hx hb dL_law_40 (by decide) (by decide) rfl (by decide) ?_
        refine lv_aload_n hx hb dL_law_891 rfl (lv_at hl 1 rfl) ?_
        refine lv_aload_n hx hb dL_law_892 rfl (lv_at hl 0 rfl) ?_
        refine lv_iload hx hb dL_law_893 (lv_at hl 4 rfl) ?_
        refine lv_iconst (v := nI 1) hx hb dL_law_895 (by decide) ?_
        refine lv_iadd hx hb dL_law_896 ?_
        refine lv_topi (fun v308 ev308 => ?_)
        obtain rfl : v308 = nI (6 * j + 1) := ev308.trans (nI_add _ _)
        refine va_sld hx hb hX hbl hbA hS (vp_in_nI (by omega) (by omega)) dL_law_897 ?_
        rw [nI_clamp (by omega)]
        refine lv_aload_n hx hb dL_law_898 rfl (lv_at hl 0 rfl) ?_
        refine lv_iload hx hb dL_law_899 (lv_at hl 4 rfl) ?_
        refine lv_iconst (v := nI 2) hx hb dL_law_901 (by decide) ?_
        refine lv_iadd hx hb dL_law_902 ?_
        refine lv_topi (fun v309 ev309 => ?_)
        obtain rfl : v309 = nI (6 * j + 2) := ev309.trans (nI_add _ _)
        refine va_sld hx hb hX hbl hbA hS (vp_in_nI (by omega) (by omega)) dL_law_903 ?_
        rw [nI_clamp (by omega)]
        refine lv_aload_n hx hb dL_law_904 rfl (lv_at hl 3 rfl) ?_
        obtain ⟨⟨n, c, o, d, sn, p, hCI⟩, td, htd9, htd⟩ := hI.2.2.1
        obtain ⟨hT, hC, hO, hDo, hSn, hPk, hkx⟩ := id hCI
        refine vx_calli (vx_runSX (As := [.ref (T.1 0), .int (xs (6 * j + 1)), .int (xs (6 * j + 2)), .ref (T.1 28)]) (rest := []) ⟨hx, hb, hml, hown, hts⟩ (h_sending l hl0 D A sad T f G oL (xs (6 * j + 1)) (xs (6 * j + 2)) hI.1 sn hSn hI.2.1) (vx_cwSW 4 hts gL_law_L_sending rfl rfl rfl (by decide +kernel) ⟨Nat.le_of_ble_eq_true rfl, Nat.le_of_ble_eq_true rfl⟩) ⟨zQn_bl, zQn_at hz hS hA hH hnp⟩ rfl rfl hl.1 rfl (lv_room (Nat.le_of_ble_eq_true rfl)) dL_law_905 ⟨by show _ ≤ 601024; omega, by show _ ≤ 7293034; omega⟩) hS (fun q _ h => h) (fun q h => h) (fun q _ h => h) (fun E ce q9 u9 t9 H1 locs ht9 hvm9 hw hB hz1 hk1 hS hce hcv hcl => ?_) (fun r310 u9 t9 H1 locs ht9 hvm9 hw hB hz1 hk1 hS => ?_)
        · obtain ⟨hX, hB⟩ := hB
          have hH := zMv ht9 hvm9 hB
          generalize H1 = H at hH hS hce ⊢
          exact hX.elim
        · skip
          have hH := zMv ht9 hvm9 hB
          clear hB
          generalize u9 = o311 at hw hH
          generalize H1 = H at hH hS ⊢
          clear hw
          refine lv_istore (lv' := [(5, .int r310), (0, .ref b), (1, .ref (T.1 0)), (2, .ref (T.1 30)), (3, .ref (T.1 28)), (4, .int (nI (6 * j)))]) hx hb dL_law_908 hl (by decide) rfl (fun ls hl => ?_)
          refine lv_aload_n hx hb dL_law_910 rfl (lv_at hl 3 rfl) ?_
          refine lv_aload_n hx hb dL_law_911 rfl (lv_at hl 1 rfl) ?_
          refine lv_iload hx hb dL_law_912 (lv_at hl 5 rfl) ?_
          refine lv_iconst (v := nI 1) hx hb dL_law_914 (by decide) ?_
          refine lv_iadd hx hb dL_law_915 ?_
          refine lv_topi (fun v312 ev312 => ?_)
          obtain rfl : v312 = nI (6 * j + 1) := ev312.trans (nI_add _ _)
          refine va_sld hx hb hX hbl hbA hS (vp_in_nI (by omega) (by omega)) dL_law_916 ?_
          rw [nI_clamp (by omega)]
          refine lv_aload_n hx hb dL_law_917 rfl (lv_at hl 1 rfl) ?_
          refine lv_iload hx hb dL_law_918 (lv_at hl 5 rfl) ?_
          refine lv_iconst (v := nI 2) hx hb dL_law_920 (by decide) ?_
          refine lv_iadd hx hb dL_law_921 ?_
          refine lv_topi (fun v313 ev313 => ?_)
          obtain rfl : v313 = nI (6 * j + 2) := ev313.trans (nI_add _ _)
          refine va_sld hx hb hX hbl hbA hS (vp_in_nI (by omega) (by omega)) dL_law_922 ?_
          rw [nI_clamp (by omega)]
          obtain ⟨nM, cM, oM, gM, LnM, dM, pM, sM, tM, BM, hMall⟩ := hI.2.2.2.2.2
          obtain ⟨hMt, hMc, hMx, hMo, hMq, hdK, hMp, ⟨hs3M, hsM⟩, ⟨ht9M, htM⟩, hMs, hBM⟩ := id hMall
          refine va_calli (va_runV (As := [.int (xs (6 * j + 1)), .int (xs (6 * j + 2))]) (rest := []) ⟨hx, hb, hml, hown, hts⟩ (m_sending l hl0 D A sad T f G o311 (xs (6 * j + 1)) (xs (6 * j + 2)) hI.1 sM hsM hs3M) (cwV 2 hts gL_law_X12_sending rfl rfl rfl (by decide +kernel) ⟨Nat.le_of_ble_eq_true rfl, Nat.le_of_ble_eq_true rfl⟩) ⟨zQc_bl, zRecv hH (zk_30 hI.1) rfl, zQc_at hz hS hA hH⟩ rfl rfl hl.1 rfl (lv_room (Nat.le_of_ble_eq_true rfl)) dL_law_923 ⟨by show _ ≤ 601024; omega, by show _ ≤ 7293034; omega⟩) hS (fun q _ h => h) (fun q h => h) (fun r314 u9 t9 H1 locs ht9 hvm9 hw hB hz1 hk1 hS => ?_)
          have hH := zMv ht9 hvm9 hB
          clear hB
          generalize u9 = f315 at hw hH
          generalize H1 = H at hH hS ⊢
          have hR := hR.kM (fun i k q => hw i k (by unfold zRc at q; omega))
          have hTx := hTx.cg0 (fun i k q => hw i k (by unfold zTd0 at q; omega))
          have hGo := hGo.cg (fun i k q => hw i k (by unfold zGw at q; omega))
          have hDw := hDw.cg (fun i k q => hw i k (by unfold zDw at q; omega)) rfl
          have hI := ma_q hI hw
          clear hw
          refine lv_istore (lv' := [(6, .int r314), (5, .int r310), (0, .ref b), (1, .ref (T.1 0)), (2, .ref (T.1 30)), (3, .ref (T.1 28)), (4, .int (nI (6 * j)))]) hx hb dL_law_926 hl (by decide) rfl (fun ls hl => ?_)
          refine lv_goto (tgt := 1073) hx hb dL_law_928 (by decide) ?_
          refine W.widen (k := (100 + 400 * (j + 1))) (n := (30000 + 12000 * (j + 1))) (by omega) (by omega) ?_
          exact hJ121 (Lt, T, f315, G, o311) _ _ _ (show (zA T f315 G Lt Lt (j + 1) ∧ zRl f315 G ∧ zRt f315 ∧ zGo f315 ∧ zRw f315 G) ∧ zH D A T f315 G o311 s _ ∧ va_S A s.heap _ _ ∧ lv_has _ 7 [(0, .ref b), (1, .ref (T.1 0)), (2, .ref (T.1 30)), (3, .ref (T.1 28)), (4, .int (nI (6 * j)))] from ⟨⟨hI.mono (by omega), hR, hTx, hGo, hDw⟩, hH, hS, lv_sub hl [2, 3, 4, 5, 6] rfl⟩)
      · subst c123
        refine lv_tableIn (tgt := 931) (off := 891) hx hb dL_law_40 (by decide) (by decide) rfl (by decide) ?_
        refine lv_aload_n hx hb dL_law_931 rfl (lv_at hl 1 rfl) ?_
        refine lv_aload_n hx hb dL_law_932 rfl (lv_at hl 0 rfl) ?_
        refine lv_iload hx hb dL_law_933 (lv_at hl 4 rfl) ?_
        refine lv_iconst (v := nI 1) hx hb dL_law_935 (by decide) ?_
        refine lv_iadd hx hb dL_law_936 ?_
        refine lv_topi (fun v316 ev316 => ?_)
        obtain rfl : v316 = nI (6 * j + 1) := ev316.trans (nI_add _ _)
        refine va_sld hx hb hX hbl hbA hS (vp_in_nI (by omega) (by omega)) dL_law_937 ?_
        rw [nI_clamp (by omega)]
        refine lv_aload_n hx hb dL_law_938 rfl (lv_at hl 3 rfl) ?_
        obtain ⟨⟨n, c, o, d, sn, p, hCI⟩, td, htd9, htd⟩ := hI.2.2.1
        obtain ⟨hT, hC, hO, hDo, hSn, hPk, hkx⟩ := id hCI
        refine vx_calli (vx_runSX (As := [.ref (T.1 0), .int (xs (6 * j + 1)), .ref (T.1 28)]) (rest := []) ⟨hx, hb, hml, hown, hts⟩ (h_pick l hl0 D A sad T f G oL (xs (6 * j + 1)) hI.1 n hT p hPk hI.2.1) (vx_cwSW 3 hts gL_law_L_pick rfl rfl rfl (by decide +kernel) ⟨Nat.le_of_ble_eq_true rfl, Nat.le_of_ble_eq_true rfl⟩) ⟨zQn_bl, zQn_at hz hS hA hH hnp⟩ rfl rfl hl.1 rfl (lv_room (Nat.le_of_ble_eq_true rfl)) dL_law_939 ⟨by show _ ≤ 601024; omega, by show _ ≤ 7293034; omega⟩) hS (fun q _ h => h) (fun q h => h) (fun q _ h => h) (fun E ce q9 u9 t9 H1 locs ht9 hvm9 hw hB hz1 hk1 hS hce hcv hcl => ?_) (fun r317 u9 t9 H1 locs ht9 hvm9 hw hB hz1 hk1 hS => ?_)
        · obtain ⟨hX, hB⟩ := hB
          have hH := zMv ht9 hvm9 hB
          generalize H1 = H at hH hS hce ⊢
          exact hX.elim
        · skip
          obtain ⟨f318, g319, o320⟩ := u9
          have hH := zMv ht9 hvm9 hB
          clear hB
          simp only at hw hH
          generalize H1 = H at hH hS ⊢
          have hcw := cw_pick hw
          have hGo := hGo.cg (fun i k q => hcw i k (zDd.g q))
          have hDw := hDw.cg (fun i k q => hcw i k (zDd.w q)) (cv_pick hw)
          have hTx := hTx.cg (ct_pick hw)
          have hwc := hw
          have hI := ca_pick (P4 := fun _ => True) hI hCI ⟨td, htd9, htd⟩ hw
          clear hw
          refine lv_istore (lv' := [(5, .int r317), (0, .ref b), (1, .ref (T.1 0)), (2, .ref (T.1 30)), (3, .ref (T.1 28)), (4, .int (nI (6 * j)))]) hx hb dL_law_942 hl (by decide) rfl (fun ls hl => ?_)
          refine lv_aload_n hx hb dL_law_944 rfl (lv_at hl 3 rfl) ?_
          refine lv_aload_n hx hb dL_law_945 rfl (lv_at hl 1 rfl) ?_
          refine lv_iload hx hb dL_law_946 (lv_at hl 5 rfl) ?_
          refine lv_iconst (v := nI 1) hx hb dL_law_948 (by decide) ?_
          refine lv_iadd hx hb dL_law_949 ?_
          refine lv_topi (fun v321 ev321 => ?_)
          obtain rfl : v321 = nI (6 * j + 1) := ev321.trans (nI_add _ _)
          refine va_sld hx hb hX hbl hbA hS (vp_in_nI (by omega) (by omega)) dL_law_950 ?_
          rw [nI_clamp (by omega)]
          obtain ⟨nM, cM, oM, gM, LnM, dM, pM, sM, tM, BM, hMall⟩ := hI.2.2.2.2.2
          obtain ⟨hMt, hMc, hMx, hMo, hMq, hdK, hMp, ⟨hs3M, hsM⟩, ⟨ht9M, htM⟩, hMs, hBM⟩ := id hMall
          refine va_calli (va_runV (As := [.int (xs (6 * j + 1))]) (rest := []) ⟨hx, hb, hml, hown, hts⟩ (m_pickX l hl0 D A sad T f318 g319 o320 (xs (6 * j + 1)) hI.1 nM hMt pM hMp) (cwV 1 hts gL_law_X12_pick rfl rfl rfl (by decide +kernel) ⟨Nat.le_of_ble_eq_true rfl, Nat.le_of_ble_eq_true rfl⟩) ⟨zQc_bl, zRecv hH (zk_30 hI.1) rfl, zQc_at hz hS hA hH⟩ rfl rfl hl.1 rfl (lv_room (Nat.le_of_ble_eq_true rfl)) dL_law_951 ⟨by show _ ≤ 601024; omega, by show _ ≤ 7293034; omega⟩) hS (fun q _ h => h) (fun q h => h) (fun r322 u9 t9 H1 locs ht9 hvm9 hw hB hz1 hk1 hS => ?_)
          have hH := zMv ht9 hvm9 hB
          clear hB
          generalize u9 = f323 at hw hH
          generalize H1 = H at hH hS ⊢
          obtain ⟨hR, hEq⟩ := rl_pick hR hT.2.1 hT.1 hMt.2.1 hMt.1 hPk.2.1 hPk.1 hMp.2.1 hMp.1 hwc (fun q => by simpa using q.2) hw
          clear hwc
          have hw := mx_pick hMp hw
          have hTx := hTx.cg0 (fun i k q => hw.2 i k (by unfold zTd0 at q; omega))
          have hGo := hGo.cg (fun i k q => hw.2 i k (by unfold zGw at q; omega))
          have hDw := hDw.cg (fun i k q => hw.2 i k (by unfold zDw at q; omega)) rfl
          have hI := ma_pick hI hMall hw
          clear hw
          refine lv_istore (lv' := [(6, .int r322), (5, .int r317), (0, .ref b), (1, .ref (T.1 0)), (2, .ref (T.1 30)), (3, .ref (T.1 28)), (4, .int (nI (6 * j)))]) hx hb dL_law_954 hl (by decide) rfl (fun ls hl => ?_)
          refine lv_goto (tgt := 1073) hx hb dL_law_956 (by decide) ?_
          refine W.widen (k := (100 + 400 * (j + 1))) (n := (30000 + 12000 * (j + 1))) (by omega) (by omega) ?_
          exact hJ121 (Lt, T, f323, g319, o320) _ _ _ (show (zA T f323 g319 Lt Lt (j + 1) ∧ zRl f323 g319 ∧ zRt f323 ∧ zGo f323 ∧ zRw f323 g319) ∧ zH D A T f323 g319 o320 s _ ∧ va_S A s.heap _ _ ∧ lv_has _ 7 [(0, .ref b), (1, .ref (T.1 0)), (2, .ref (T.1 30)), (3, .ref (T.1 28)), (4, .int (nI (6 * j)))] from ⟨⟨hI.mono (by omega), hR, hTx, hGo, hDw⟩, hH, hS, lv_sub hl [2, 3, 4, 5, 6] rfl⟩)
      · subst c123
        refine lv_tableIn (tgt := 959) (off := 919) hx hb dL_law_40 (by decide) (by decide) rfl (by decide) ?_
        refine lv_aload_n hx hb dL_law_959 rfl (lv_at hl 1 rfl) ?_
        obtain ⟨⟨n, c, o, d, sn, p, hCI⟩, td, htd9, htd⟩ := hI.2.2.1
        obtain ⟨hT, hC, hO, hDo, hSn, hPk, hkx⟩ := id hCI
        refine va_calli (va_runV (As := []) (rest := []) ⟨hx, hb, hml, hown, hts⟩ (c_walk l hl0 D A sad T f G oL hI.1 n hT p hPk) (cwV 0 hts gL_law_X11_walk rfl rfl rfl (by decide +kernel) ⟨Nat.le_of_ble_eq_true rfl, Nat.le_of_ble_eq_true rfl⟩) ⟨zQc_bl, zRecv hH (zk_0 hI.1) rfl, zQc_at hz hS hA hH⟩ rfl rfl hl.1 rfl (lv_room (Nat.le_of_ble_eq_true rfl)) dL_law_960 ⟨by show _ ≤ 601024; omega, by show _ ≤ 7293034; omega⟩) hS (fun q _ h => h) (fun q h => h) (fun r324 u9 t9 H1 locs ht9 hvm9 hw hB hz1 hk1 hS => ?_)
        have hH := zMv ht9 hvm9 hB
        clear hB
        generalize u9 = f325 at hw hH
        generalize H1 = H at hH hS ⊢
        have hGo := hGo.cg (fun i k q => hw.2 i k (by unfold zGw at q; omega))
        have hDw := hDw.cg (fun i k q => hw.2 i k (by unfold zDw at q; omega)) rfl
        have hTx := hTx.cg (fun i k q => hw.2 i k (by unfold zTd at q; omega))
        have hwc := hw
        have hI := ca_walk hI hCI ⟨td, htd9, htd⟩ hw
        clear hw
        refine lv_pop hx hb dL_law_963 rfl ?_
        refine lv_aload_n hx hb dL_law_964 rfl (lv_at hl 2 rfl) ?_
        obtain ⟨nM, cM, oM, gM, LnM, dM, pM, sM, tM, BM, hMall⟩ := hI.2.2.2.2.2
        obtain ⟨hMt, hMc, hMx, hMo, hMq, hdK, hMp, ⟨hs3M, hsM⟩, ⟨ht9M, htM⟩, hMs, hBM⟩ := id hMall
        refine va_calli (va_runV (As := []) (rest := []) ⟨hx, hb, hml, hown, hts⟩ (m_walk l hl0 D A sad T f325 G oL hI.1 nM hMt pM hMp) (cwV 0 hts gL_law_X12_walk rfl rfl rfl (by decide +kernel) ⟨Nat.le_of_ble_eq_true rfl, Nat.le_of_ble_eq_true rfl⟩) ⟨zQc_bl, zRecv hH (zk_30 hI.1) rfl, zQc_at hz hS hA hH⟩ rfl rfl hl.1 rfl (lv_room (Nat.le_of_ble_eq_true rfl)) dL_law_965 ⟨by show _ ≤ 601024; omega, by show _ ≤ 7293034; omega⟩) hS (fun q _ h => h) (fun q h => h) (fun r326 u9 t9 H1 locs ht9 hvm9 hw hB hz1 hk1 hS => ?_)
        have hH := zMv ht9 hvm9 hB
        clear hB
        generalize u9 = f327 at hw hH
        generalize H1 = H at hH hS ⊢
        have hR := rl_walk hR hwc hw
        clear hwc
        have hTx := hTx.cg0 (fun i k q => hw.2 i k (by unfold zTd0 at q; omega))
        have hGo := hGo.cg (fun i k q => hw.2 i k (by unfold zGw at q; omega))
        have hDw := hDw.cg (fun i k q => hw.2 i k (by unfold zDw at q; omega)) rfl
        have hI := ma_walk hI hMall hw
        clear hw
        refine lv_pop hx hb dL_law_968 rfl ?_
        refine lv_goto (tgt := 1073) hx hb dL_law_969 (by decide) ?_
        refine W.widen (k := (100 + 400 * (j + 1))) (n := (30000 + 12000 * (j + 1))) (by omega) (by omega) ?_
        exact hJ121 (Lt, T, f327, G, oL) _ _ _ (show (zA T f327 G Lt Lt (j + 1) ∧ zRl f327 G ∧ zRt f327 ∧ zGo f327 ∧ zRw f327 G) ∧ zH D A T f327 G oL s _ ∧ va_S A s.heap _ _ ∧ lv_has _ 7 [(0, .ref b), (1, .ref (T.1 0)), (2, .ref (T.1 30)), (3, .ref (T.1 28)), (4, .int (nI (6 * j)))] from ⟨⟨hI.mono (by omega), hR, hTx, hGo, hDw⟩, hH, hS, lv_sub hl [0, 1, 2, 3, 4] rfl⟩)
      · subst c123
        refine lv_tableIn (tgt := 972) (off := 932) hx hb dL_law_40 (by decide) (by decide) rfl (by decide) ?_
        refine lv_aload_n hx hb dL_law_972 rfl (lv_at hl 1 rfl) ?_
        refine lv_aload_n hx hb dL_law_973 rfl (lv_at hl 0 rfl) ?_
        refine lv_iload hx hb dL_law_974 (lv_at hl 4 rfl) ?_
        refine lv_iconst (v := nI 1) hx hb dL_law_976 (by decide) ?_
        refine lv_iadd hx hb dL_law_977 ?_
        refine lv_topi (fun v328 ev328 => ?_)
        obtain rfl : v328 = nI (6 * j + 1) := ev328.trans (nI_add _ _)
        refine va_sld hx hb hX hbl hbA hS (vp_in_nI (by omega) (by omega)) dL_law_978 ?_
        rw [nI_clamp (by omega)]
        refine lv_aload_n hx hb dL_law_979 rfl (lv_at hl 0 rfl) ?_
        refine lv_iload hx hb dL_law_980 (lv_at hl 4 rfl) ?_
        refine lv_iconst (v := nI 2) hx hb dL_law_982 (by decide) ?_
        refine lv_iadd hx hb dL_law_983 ?_
        refine lv_topi (fun v329 ev329 => ?_)
        obtain rfl : v329 = nI (6 * j + 2) := ev329.trans (nI_add _ _)
        refine va_sld hx hb hX hbl hbA hS (vp_in_nI (by omega) (by omega)) dL_law_984 ?_
        rw [nI_clamp (by omega)]
        refine lv_aload_n hx hb dL_law_985 rfl (lv_at hl 0 rfl) ?_
        refine lv_iload hx hb dL_law_986 (lv_at hl 4 rfl) ?_
        refine lv_iconst (v := nI 3) hx hb dL_law_988 (by decide) ?_
        refine lv_iadd hx hb dL_law_989 ?_
        refine lv_topi (fun v330 ev330 => ?_)
        obtain rfl : v330 = nI (6 * j + 3) := ev330.trans (nI_add _ _)
        refine va_sld hx hb hX hbl hbA hS (vp_in_nI (by omega) (by omega)) dL_law_990 ?_
        rw [nI_clamp (by omega)]
        refine lv_aload_n hx hb dL_law_991 rfl (lv_at hl 0 rfl) ?_
        refine lv_iload hx hb dL_law_992 (lv_at hl 4 rfl) ?_
        refine lv_iconst (v := nI 4) hx hb dL_law_994 (by decide) ?_
        refine lv_iadd hx hb dL_law_995 ?_
        refine lv_topi (fun v331 ev331 => ?_)
        obtain rfl : v331 = nI (6 * j + 4) := ev331.trans (nI_add _ _)
        refine va_sld hx hb hX hbl hbA hS (vp_in_nI (by omega) (by omega)) dL_law_996 ?_
        rw [nI_clamp (by omega)]
        refine lv_aload_n hx hb dL_law_997 rfl (lv_at hl 0 rfl) ?_
        refine lv_iload hx hb dL_law_998 (lv_at hl 4 rfl) ?_
        refine lv_iconst (v := nI 5) hx hb dL_law_1000 (by decide) ?_
        refine lv_iadd hx hb dL_law_1001 ?_
        refine lv_topi (fun v332 ev332 => ?_)
        obtain rfl : v332 = nI (6 * j + 5) := ev332.trans (nI_add _ _)
        refine va_sld hx hb hX hbl hbA hS (vp_in_nI (by omega) (by omega)) dL_law_1002 ?_
        rw [nI_clamp (by omega)]
        refine lv_aload_n hx hb dL_law_1003 rfl (lv_at hl 3 rfl) ?_
        obtain ⟨⟨n, c, o, d, sn, p, hCI⟩, td, htd9, htd⟩ := hI.2.2.1
        obtain ⟨hT, hC, hO, hDo, hSn, hPk, hkx⟩ := id hCI
        refine vx_calli (vx_runSX (As := [.ref (T.1 0), .int (xs (6 * j + 1)), .int (xs (6 * j + 2)), .int (xs (6 * j + 3)), .int (xs (6 * j + 4)), .int (xs (6 * j + 5)), .ref (T.1 28)]) (rest := []) ⟨hx, hb, hml, hown, hts⟩ (h_foretold l hl0 D A sad T f G oL (xs (6 * j + 1)) (xs (6 * j + 2)) (xs (6 * j + 3)) (xs (6 * j + 4)) (xs (6 * j + 5)) hI.1 n o hO hT c hC hI.2.1) (vx_cwSW 7 hts gL_law_L_foretold rfl rfl rfl (by decide +kernel) ⟨Nat.le_of_ble_eq_true rfl, Nat.le_of_ble_eq_true rfl⟩) ⟨zQn_bl, zQn_at hz hS hA hH hnp⟩ rfl rfl hl.1 rfl (lv_room (Nat.le_of_ble_eq_true rfl)) dL_law_1004 ⟨by show _ ≤ 601024; omega, by show _ ≤ 7293034; omega⟩) hS (fun q _ h => h) (fun q h => h) (fun q _ h => h) (fun E ce q9 u9 t9 H1 locs ht9 hvm9 hw hB hz1 hk1 hS hce hcv hcl => ?_) (fun r333 u9 t9 H1 locs ht9 hvm9 hw hB hz1 hk1 hS => ?_)
        · obtain ⟨hX, hB⟩ := hB
          have hH := zMv ht9 hvm9 hB
          generalize H1 = H at hH hS hce ⊢
          exact hX.elim
        · skip
          have hH := zMv ht9 hvm9 hB
          clear hB
          generalize u9 = o334 at hw hH
          generalize H1 = H at hH hS ⊢
          clear hw
          refine lv_istore (lv' := [(5, .int r333), (0, .ref b), (1, .ref (T.1 0)), (2, .ref (T.1 30)), (3, .ref (T.1 28)), (4, .int (nI (6 * j)))]) hx hb dL_law_1007 hl (by decide) rfl (fun ls hl => ?_)
          refine lv_aload_n hx hb dL_law_1009 rfl (lv_at hl 3 rfl) ?_
          refine lv_aload_n hx hb dL_law_1010 rfl (lv_at hl 1 rfl) ?_
          refine lv_iload hx hb dL_law_1011 (lv_at hl 5 rfl) ?_
          refine lv_iconst (v := nI 1) hx hb dL_law_1013 (by decide) ?_
          refine lv_iadd hx hb dL_law_1014 ?_
          refine lv_topi (fun v335 ev335 => ?_)
          obtain rfl : v335 = nI (6 * j + 1) := ev335.trans (nI_add _ _)
          refine va_sld hx hb hX hbl hbA hS (vp_in_nI (by omega) (by omega)) dL_law_1015 ?_
          rw [nI_clamp (by omega)]
          refine lv_aload_n hx hb dL_law_1016 rfl (lv_at hl 1 rfl) ?_
          refine lv_iload hx hb dL_law_1017 (lv_at hl 5 rfl) ?_
          refine lv_iconst (v := nI 2) hx hb dL_law_1019 (by decide) ?_
          refine lv_iadd hx hb dL_law_1020 ?_
          refine lv_topi (fun v336 ev336 => ?_)
          obtain rfl : v336 = nI (6 * j + 2) := ev336.trans (nI_add _ _)
          refine va_sld hx hb hX hbl hbA hS (vp_in_nI (by omega) (by omega)) dL_law_1021 ?_
          rw [nI_clamp (by omega)]
          refine lv_aload_n hx hb dL_law_1022 rfl (lv_at hl 1 rfl) ?_
          refine lv_iload hx hb dL_law_1023 (lv_at hl 5 rfl) ?_
          refine lv_iconst (v := nI 3) hx hb dL_law_1025 (by decide) ?_
          refine lv_iadd hx hb dL_law_1026 ?_
          refine lv_topi (fun v337 ev337 => ?_)
          obtain rfl : v337 = nI (6 * j + 3) := ev337.trans (nI_add _ _)
          refine va_sld hx hb hX hbl hbA hS (vp_in_nI (by omega) (by omega)) dL_law_1027 ?_
          rw [nI_clamp (by omega)]
          refine lv_aload_n hx hb dL_law_1028 rfl (lv_at hl 1 rfl) ?_
          refine lv_iload hx hb dL_law_1029 (lv_at hl 5 rfl) ?_
          refine lv_iconst (v := nI 4) hx hb dL_law_1031 (by decide) ?_
          refine lv_iadd hx hb dL_law_1032 ?_
          refine lv_topi (fun v338 ev338 => ?_)
          obtain rfl : v338 = nI (6 * j + 4) := ev338.trans (nI_add _ _)
          refine va_sld hx hb hX hbl hbA hS (vp_in_nI (by omega) (by omega)) dL_law_1033 ?_
          rw [nI_clamp (by omega)]
          refine lv_aload_n hx hb dL_law_1034 rfl (lv_at hl 1 rfl) ?_
          refine lv_iload hx hb dL_law_1035 (lv_at hl 5 rfl) ?_
          refine lv_iconst (v := nI 5) hx hb dL_law_1037 (by decide) ?_
          refine lv_iadd hx hb dL_law_1038 ?_
          refine lv_topi (fun v339 ev339 => ?_)
          obtain rfl : v339 = nI (6 * j + 5) := ev339.trans (nI_add _ _)
          refine va_sld hx hb hX hbl hbA hS (vp_in_nI (by omega) (by omega)) dL_law_1039 ?_
          rw [nI_clamp (by omega)]
          obtain ⟨nM, cM, oM, gM, LnM, dM, pM, sM, tM, BM, hMall⟩ := hI.2.2.2.2.2
          obtain ⟨hMt, hMc, hMx, hMo, hMq, hdK, hMp, ⟨hs3M, hsM⟩, ⟨ht9M, htM⟩, hMs, hBM⟩ := id hMall
          refine va_calli (va_runV (As := [.int (xs (6 * j + 1)), .int (xs (6 * j + 2)), .int (xs (6 * j + 3)), .int (xs (6 * j + 4)), .int (xs (6 * j + 5))]) (rest := []) ⟨hx, hb, hml, hown, hts⟩ (m_foretold l hl0 D A sad T f G o334 (xs (6 * j + 1)) (xs (6 * j + 2)) (xs (6 * j + 3)) (xs (6 * j + 4)) (xs (6 * j + 5)) hI.1 nM hMt oM hMo cM hMc) (cwV 5 hts gL_law_X12_foretold rfl rfl rfl (by decide +kernel) ⟨Nat.le_of_ble_eq_true rfl, Nat.le_of_ble_eq_true rfl⟩) ⟨zQc_bl, zRecv hH (zk_30 hI.1) rfl, zQc_at hz hS hA hH⟩ rfl rfl hl.1 rfl (lv_room (Nat.le_of_ble_eq_true rfl)) dL_law_1040 ⟨by show _ ≤ 601024; omega, by show _ ≤ 7293034; omega⟩) hS (fun q _ h => h) (fun q h => h) (fun r340 u9 t9 H1 locs ht9 hvm9 hw hB hz1 hk1 hS => ?_)
          have hH := zMv ht9 hvm9 hB
          clear hB
          generalize u9 = f341 at hw hH
          generalize H1 = H at hH hS ⊢
          have hR := hR.kM (fun i k q => hw i k (by unfold zRc at q; omega))
          have hTx := hTx.cg0 (fun i k q => hw i k (by unfold zTd0 at q; omega))
          have hGo := hGo.cg (fun i k q => hw i k (by unfold zGw at q; omega))
          have hDw := hDw.cg (fun i k q => hw i k (by unfold zDw at q; omega)) rfl
          have hI := ma_q hI hw
          clear hw
          refine lv_istore (lv' := [(6, .int r340), (5, .int r333), (0, .ref b), (1, .ref (T.1 0)), (2, .ref (T.1 30)), (3, .ref (T.1 28)), (4, .int (nI (6 * j)))]) hx hb dL_law_1043 hl (by decide) rfl (fun ls hl => ?_)
          refine lv_goto (tgt := 1073) hx hb dL_law_1045 (by decide) ?_
          refine W.widen (k := (100 + 400 * (j + 1))) (n := (30000 + 12000 * (j + 1))) (by omega) (by omega) ?_
          exact hJ121 (Lt, T, f341, G, o334) _ _ _ (show (zA T f341 G Lt Lt (j + 1) ∧ zRl f341 G ∧ zRt f341 ∧ zGo f341 ∧ zRw f341 G) ∧ zH D A T f341 G o334 s _ ∧ va_S A s.heap _ _ ∧ lv_has _ 7 [(0, .ref b), (1, .ref (T.1 0)), (2, .ref (T.1 30)), (3, .ref (T.1 28)), (4, .int (nI (6 * j)))] from ⟨⟨hI.mono (by omega), hR, hTx, hGo, hDw⟩, hH, hS, lv_sub hl [2, 3, 4, 5, 6] rfl⟩)
      · subst c123
        refine lv_tableIn (tgt := 1048) (off := 1008) hx hb dL_law_40 (by decide) (by decide) rfl (by decide) ?_
        refine lv_aload_n hx hb dL_law_1048 rfl (lv_at hl 1 rfl) ?_
        refine lv_aload_n hx hb dL_law_1049 rfl (lv_at hl 0 rfl) ?_
        refine lv_iload hx hb dL_law_1050 (lv_at hl 4 rfl) ?_
        refine lv_iconst (v := nI 1) hx hb dL_law_1052 (by decide) ?_
        refine lv_iadd hx hb dL_law_1053 ?_
        refine lv_topi (fun v342 ev342 => ?_)
        obtain rfl : v342 = nI (6 * j + 1) := ev342.trans (nI_add _ _)
        refine va_sld hx hb hX hbl hbA hS (vp_in_nI (by omega) (by omega)) dL_law_1054 ?_
        rw [nI_clamp (by omega)]
        obtain ⟨⟨n, c, o, d, sn, p, hCI⟩, td, htd9, htd⟩ := hI.2.2.1
        obtain ⟨hT, hC, hO, hDo, hSn, hPk, hkx⟩ := id hCI
        refine va_calli (va_runV (As := [.int (xs (6 * j + 1))]) (rest := []) ⟨hx, hb, hml, hown, hts⟩ (c_count l hl0 D A sad T f G oL (xs (6 * j + 1)) hI.1 n o hO c hC d hDo) (cwV 1 hts gL_law_X11_count rfl rfl rfl (by decide +kernel) ⟨Nat.le_of_ble_eq_true rfl, Nat.le_of_ble_eq_true rfl⟩) ⟨zQc_bl, zRecv hH (zk_0 hI.1) rfl, zQc_at hz hS hA hH⟩ rfl rfl hl.1 rfl (lv_room (Nat.le_of_ble_eq_true rfl)) dL_law_1055 ⟨by show _ ≤ 601024; omega, by show _ ≤ 7293034; omega⟩) hS (fun q _ h => h) (fun q h => h) (fun r343 u9 t9 H1 locs ht9 hvm9 hw hB hz1 hk1 hS => ?_)
        have hH := zMv ht9 hvm9 hB
        generalize H1 = H at hH hS ⊢
        clear hw
        refine lv_pop hx hb dL_law_1058 rfl ?_
        refine lv_aload_n hx hb dL_law_1059 rfl (lv_at hl 2 rfl) ?_
        refine lv_aload_n hx hb dL_law_1060 rfl (lv_at hl 0 rfl) ?_
        refine lv_iload hx hb dL_law_1061 (lv_at hl 4 rfl) ?_
        refine lv_iconst (v := nI 1) hx hb dL_law_1063 (by decide) ?_
        refine lv_iadd hx hb dL_law_1064 ?_
        refine lv_topi (fun v344 ev344 => ?_)
        obtain rfl : v344 = nI (6 * j + 1) := ev344.trans (nI_add _ _)
        refine va_sld hx hb hX hbl hbA hS (vp_in_nI (by omega) (by omega)) dL_law_1065 ?_
        rw [nI_clamp (by omega)]
        obtain ⟨nM, cM, oM, gM, LnM, dM, pM, sM, tM, BM, hMall⟩ := hI.2.2.2.2.2
        obtain ⟨hMt, hMc, hMx, hMo, hMq, hdK, hMp, ⟨hs3M, hsM⟩, ⟨ht9M, htM⟩, hMs, hBM⟩ := id hMall
        refine va_calli (va_runV (As := [.int (xs (6 * j + 1))]) (rest := []) ⟨hx, hb, hml, hown, hts⟩ (m_count l hl0 D A sad T f G oL (xs (6 * j + 1)) hI.1 nM oM hMo cM hMc) (cwV 1 hts gL_law_X12_count rfl rfl rfl (by decide +kernel) ⟨Nat.le_of_ble_eq_true rfl, Nat.le_of_ble_eq_true rfl⟩) ⟨zQc_bl, zRecv hH (zk_30 hI.1) rfl, zQc_at hz hS hA hH⟩ rfl rfl hl.1 rfl (lv_room (Nat.le_of_ble_eq_true rfl)) dL_law_1066 ⟨by show _ ≤ 601024; omega, by show _ ≤ 7293034; omega⟩) hS (fun q _ h => h) (fun q h => h) (fun r345 u9 t9 H1 locs ht9 hvm9 hw hB hz1 hk1 hS => ?_)
        have hH := zMv ht9 hvm9 hB
        clear hB
        generalize u9 = f346 at hw hH
        generalize H1 = H at hH hS ⊢
        have hR := hR.kM (fun i k q => hw i k (by unfold zRc at q; omega))
        have hTx := hTx.cg0 (fun i k q => hw i k (by unfold zTd0 at q; omega))
        have hGo := hGo.cg (fun i k q => hw i k (by unfold zGw at q; omega))
        have hDw := hDw.cg (fun i k q => hw i k (by unfold zDw at q; omega)) rfl
        have hI := ma_q hI hw
        clear hw
        refine lv_pop hx hb dL_law_1069 rfl ?_
        refine lv_goto (tgt := 1073) hx hb dL_law_1070 (by decide) ?_
        refine W.widen (k := (100 + 400 * (j + 1))) (n := (30000 + 12000 * (j + 1))) (by omega) (by omega) ?_
        exact hJ121 (Lt, T, f346, G, oL) _ _ _ (show (zA T f346 G Lt Lt (j + 1) ∧ zRl f346 G ∧ zRt f346 ∧ zGo f346 ∧ zRw f346 G) ∧ zH D A T f346 G oL s _ ∧ va_S A s.heap _ _ ∧ lv_has _ 7 [(0, .ref b), (1, .ref (T.1 0)), (2, .ref (T.1 30)), (3, .ref (T.1 28)), (4, .int (nI (6 * j)))] from ⟨⟨hI.mono (by omega), hR, hTx, hGo, hDw⟩, hH, hS, lv_sub hl [0, 1, 2, 3, 4] rfl⟩)
      · refine lv_tableOut (tgt := 1073) hx hb dL_law_40 c123 (by decide) ?_
        refine W.widen (k := (100 + 400 * (j + 1))) (n := (30000 + 12000 * (j + 1))) (by omega) (by omega) ?_
        exact hJ121 (Lt, T, f, G, oL) _ _ _ (show (zA T f G Lt Lt (j + 1) ∧ zRl f G ∧ zRt f ∧ zGo f ∧ zRw f G) ∧ zH D A T f G oL s _ ∧ va_S A s.heap _ _ ∧ lv_has _ 7 [(0, .ref b), (1, .ref (T.1 0)), (2, .ref (T.1 30)), (3, .ref (T.1 28)), (4, .int (nI (6 * j)))] from ⟨⟨hI.mono (by omega), hR, hTx, hGo, hDw⟩, hH, hS, lv_sub hl [0, 1, 2, 3, 4] rfl⟩)
