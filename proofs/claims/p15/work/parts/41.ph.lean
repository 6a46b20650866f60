theorem zCase2 (x : Int32) : x = nI 0 ∨ x = nI 1 ∨ x = nI 2 ∨ (x.toInt < 0 ∨ 2 < x.toInt) := by
  by_cases h : x.toInt < 0 ∨ 2 < x.toInt
  · simp [h]
  · have a : x.toInt = 0 ∨ x.toInt = 1 ∨ x.toInt = 2 := by omega
    have e : ∀ k : Int32, x.toInt = k.toInt → x = k := fun k q => Int32.toInt_inj.mp q
    rcases a with a | a | a
    · exact Or.inl (e (nI 0) a)
    · exact Or.inr (Or.inl (e (nI 1) a))
    · exact Or.inr (Or.inr (Or.inl (e (nI 2) a)))
theorem zCase3 (x : Int32) : x = nI 0 ∨ x = nI 1 ∨ x = nI 2 ∨ x = nI 3 ∨ (x.toInt < 0 ∨ 3 < x.toInt) := by
  by_cases h : x.toInt < 0 ∨ 3 < x.toInt
  · simp [h]
  · have a : x.toInt = 0 ∨ x.toInt = 1 ∨ x.toInt = 2 ∨ x.toInt = 3 := by omega
    have e : ∀ k : Int32, x.toInt = k.toInt → x = k := fun k q => Int32.toInt_inj.mp q
    rcases a with a | a | a | a
    · exact Or.inl (e (nI 0) a)
    · exact Or.inr (Or.inl (e (nI 1) a))
    · exact Or.inr (Or.inr (Or.inl (e (nI 2) a)))
    · exact Or.inr (Or.inr (Or.inr (Or.inl (e (nI 3) a))))
theorem zCase5 (x : Int32) : x = nI 0 ∨ x = nI 1 ∨ x = nI 2 ∨ x = nI 3 ∨ x = nI 4 ∨ x = nI 5 ∨ (x.toInt < 0 ∨ 5 < x.toInt) := by
  by_cases h : x.toInt < 0 ∨ 5 < x.toInt
  · simp [h]
  · have a : x.toInt = 0 ∨ x.toInt = 1 ∨ x.toInt = 2 ∨ x.toInt = 3 ∨ x.toInt = 4 ∨ x.toInt = 5 := by omega
    have e : ∀ k : Int32, x.toInt = k.toInt → x = k := fun k q => Int32.toInt_inj.mp q
    rcases a with a | a | a | a | a | a
    · exact Or.inl (e (nI 0) a)
    · exact Or.inr (Or.inl (e (nI 1) a))
    · exact Or.inr (Or.inr (Or.inl (e (nI 2) a)))
    · exact Or.inr (Or.inr (Or.inr (Or.inl (e (nI 3) a))))
    · exact Or.inr (Or.inr (Or.inr (Or.inr (Or.inl (e (nI 4) a)))))
    · exact Or.inr (Or.inr (Or.inr (Or.inr (Or.inr (Or.inl (e (nI 5) a))))))
theorem zCase8 (x : Int32) : x = nI 0 ∨ x = nI 1 ∨ x = nI 2 ∨ x = nI 3 ∨ x = nI 4 ∨ x = nI 5 ∨ x = nI 6 ∨ x = nI 7 ∨ x = nI 8 ∨ (x.toInt < 0 ∨ 8 < x.toInt) := by
  by_cases h : x.toInt < 0 ∨ 8 < x.toInt
  · simp [h]
  · have a : x.toInt = 0 ∨ x.toInt = 1 ∨ x.toInt = 2 ∨ x.toInt = 3 ∨ x.toInt = 4 ∨ x.toInt = 5 ∨ x.toInt = 6 ∨ x.toInt = 7 ∨ x.toInt = 8 := by omega
    have e : ∀ k : Int32, x.toInt = k.toInt → x = k := fun k q => Int32.toInt_inj.mp q
    rcases a with a | a | a | a | a | a | a | a | a
    · exact Or.inl (e (nI 0) a)
    · exact Or.inr (Or.inl (e (nI 1) a))
    · exact Or.inr (Or.inr (Or.inl (e (nI 2) a)))
    · exact Or.inr (Or.inr (Or.inr (Or.inl (e (nI 3) a))))
    · exact Or.inr (Or.inr (Or.inr (Or.inr (Or.inl (e (nI 4) a)))))
    · exact Or.inr (Or.inr (Or.inr (Or.inr (Or.inr (Or.inl (e (nI 5) a))))))
    · exact Or.inr (Or.inr (Or.inr (Or.inr (Or.inr (Or.inr (Or.inl (e (nI 6) a)))))))
    · exact Or.inr (Or.inr (Or.inr (Or.inr (Or.inr (Or.inr (Or.inr (Or.inl (e (nI 7) a))))))))
    · exact Or.inr (Or.inr (Or.inr (Or.inr (Or.inr (Or.inr (Or.inr (Or.inr (Or.inl (e (nI 8) a)))))))))
theorem zCase9 (x : Int32) : x = nI 0 ∨ x = nI 1 ∨ x = nI 2 ∨ x = nI 3 ∨ x = nI 4 ∨ x = nI 5 ∨ x = nI 6 ∨ x = nI 7 ∨ x = nI 8 ∨ x = nI 9 ∨ (x.toInt < 0 ∨ 9 < x.toInt) := by
  by_cases h : x.toInt < 0 ∨ 9 < x.toInt
  · simp [h]
  · have a : x.toInt = 0 ∨ x.toInt = 1 ∨ x.toInt = 2 ∨ x.toInt = 3 ∨ x.toInt = 4 ∨ x.toInt = 5 ∨ x.toInt = 6 ∨ x.toInt = 7 ∨ x.toInt = 8 ∨ x.toInt = 9 := by omega
    have e : ∀ k : Int32, x.toInt = k.toInt → x = k := fun k q => Int32.toInt_inj.mp q
    rcases a with a | a | a | a | a | a | a | a | a | a
    · exact Or.inl (e (nI 0) a)
    · exact Or.inr (Or.inl (e (nI 1) a))
    · exact Or.inr (Or.inr (Or.inl (e (nI 2) a)))
    · exact Or.inr (Or.inr (Or.inr (Or.inl (e (nI 3) a))))
    · exact Or.inr (Or.inr (Or.inr (Or.inr (Or.inl (e (nI 4) a)))))
    · exact Or.inr (Or.inr (Or.inr (Or.inr (Or.inr (Or.inl (e (nI 5) a))))))
    · exact Or.inr (Or.inr (Or.inr (Or.inr (Or.inr (Or.inr (Or.inl (e (nI 6) a)))))))
    · exact Or.inr (Or.inr (Or.inr (Or.inr (Or.inr (Or.inr (Or.inr (Or.inl (e (nI 7) a))))))))
    · exact Or.inr (Or.inr (Or.inr (Or.inr (Or.inr (Or.inr (Or.inr (Or.inr (Or.inl (e (nI 8) a)))))))))
    · exact Or.inr (Or.inr (Or.inr (Or.inr (Or.inr (Or.inr (Or.inr (Or.inr (Or.inr (Or.inl (e (nI 9) a))))))))))
set_option maxHeartbeats 4000000 in
set_option maxRecDepth 100000 in
/-- feed -/
theorem c_feed (l : Launch) (hl0 : l.stackTraces = false) (D : va_G) (A : Nat → Prop) (sad : Nat → Nat) (τ : zTy) (fi : zFi) (fr : zFr) (ol : Int64) (n : Nat) (hF : zFix τ fr) (hn : fi 1 1 = nI n) (hn4 : n ≤ 400) (x0 x1 x2 x3 x4 : Int32) : Met l yX11_feed wsX11_feed ({ frames := 1, cells := 0, slots := 0, locals := 22 }) (va_Pc [.ref (τ.1 0), .int x0, .int x1, .int x2, .int x3, .int x4] (zQc D A sad τ fi fr ol)) (va_Qi (fun (r : Int32) (u : zFi) => (n + 20 ≤ 400 ∧ r = nI (n + 20) ∧ u 1 1 = nI (n + 20) ∧ (∀ i, i ≠ 1 → i ≠ 2 → u i = fi i) ∧ (∀ b, b ≠ 1 → u 1 b = fi 1 b) ∧ (∀ b, b < n → u 2 b = fi 2 b) ∧ u 2 (n + 0) = zB8 x0 24 ∧ u 2 (n + 1) = zB8 x0 16 ∧ u 2 (n + 2) = zB8 x0 8 ∧ u 2 (n + 3) = zB8 x0 0 ∧ u 2 (n + 4) = zB8 x1 24 ∧ u 2 (n + 5) = zB8 x1 16 ∧ u 2 (n + 6) = zB8 x1 8 ∧ u 2 (n + 7) = zB8 x1 0 ∧ u 2 (n + 8) = zB8 x2 24 ∧ u 2 (n + 9) = zB8 x2 16 ∧ u 2 (n + 10) = zB8 x2 8 ∧ u 2 (n + 11) = zB8 x2 0 ∧ u 2 (n + 12) = zB8 x3 24 ∧ u 2 (n + 13) = zB8 x3 16 ∧ u 2 (n + 14) = zB8 x3 8 ∧ u 2 (n + 15) = zB8 x3 0 ∧ u 2 (n + 16) = zB8 x4 24 ∧ u 2 (n + 17) = zB8 x4 16 ∧ u 2 (n + 18) = zB8 x4 8 ∧ u 2 (n + 19) = zB8 x4 0) ∨ (400 < n + 20 ∧ r = -1 ∧ u = fi)) (fun (u : zFi) (t : State) => zH D A τ u fr ol t t.heap) A) 0 0 A := by
  refine Met.ofW (cc := cX11_feed) (maxL := 6) (ret := (some .int)) (by decide) rfl ?_
  intro p9 e9 s m args below meth c9 s₁ B hml hv
  obtain ⟨rfl, hz, hH, hA⟩ := hv
  have hx := B.exec
  have hb := B.bytes
  have hr := B.returns
  have hts := atoms_spec (ws := wsX11_feed) B.pre
  have hown : s.vm.findClass RX11 = some m.cls := findClass_of_methodNamed B.named
  have hlocks := B.notSynchronized
  have hS : va_S A s.heap s.heap [] := va_S.rf
  have hl := lv_entry ([.ref (τ.1 0), .int x0, .int x1, .int x2, .int x3, .int x4]) (n := 6) (Nat.le_of_ble_eq_true rfl)
  rw [lg_entry_eq]
  generalize (lg_sl ([.ref (τ.1 0), .int x0, .int x1, .int x2, .int x3, .int x4]) ++ List.replicate (6 - (lg_sl ([.ref (τ.1 0), .int x0, .int x1, .int x2, .int x3, .int x4])).length) Slot.unset).toArray = ls at hl ⊢
  have hl : lv_has ls 6 [(0, .ref (τ.1 0)), (1, .int x0), (2, .int x1), (3, .int x2), (4, .int x3), (5, .int x4)] := hl
  have hiX11 : ∀ w ∈ u_ws RX11 TX11 16, w ∈ wsX11_feed := fun _ h => List.mem_cons_of_mem _ (List.mem_append_left _ (List.mem_append_right _ h))
  have hw1 := hts (.fieldLink RX11 10 "PostHouse" "tape" "LPostHouse$Tape;") (by decide +kernel)
  have hiX7 : ∀ w ∈ u_ws RX7 TX7 4, w ∈ wsX11_feed := fun _ h => List.mem_cons_of_mem _ (List.mem_append_right _ h)
  have hw3 := hts (.fieldLink RX11 84 "PostHouse$Tape" "length" "I") (by decide +kernel)
  refine lv_aload_n hx hb dX11_feed_0 rfl (lv_at hl 0 rfl) ?_
  refine zGetR (D := D) (ci := 11) (C := RX11) (T := TX11) (N := 16) hx hb hts hiX11 hown hH (zk_0 hF) rfl 0 (by decide) rfl hw1 (fun _ h9 => h9) dX11_feed_1 (zr_0_0 hF) ?_
  refine va_calli (va_runV (As := []) (rest := []) ⟨hx, hb, hml, hown, hts⟩ (t_hasRoom l hl0 D A sad τ fi fr ol n hF hn (by omega)) (cwV 0 hts gX11_feed_X7_hasRoom rfl rfl rfl (by decide +kernel) ⟨Nat.le_of_ble_eq_true rfl, Nat.le_of_ble_eq_true rfl⟩) ⟨zQc_bl, zRecv hH (zk_1 hF) rfl, zQc_at hz hS hA hH⟩ rfl rfl hl.1 rfl (lv_room (Nat.le_of_ble_eq_true rfl)) dX11_feed_4 ⟨Nat.le_of_ble_eq_true rfl, Nat.le_of_ble_eq_true rfl⟩) hS (fun q _ h => h) (fun q h => h) (fun r101 u9 t9 H1 locs ht9 hvm9 hw hB hz1 hk1 hS => ?_)
  have hH := zMv ht9 hvm9 hB
  generalize H1 = H at hH hS ⊢
  rcases hw with ⟨rfl, hrm⟩ | ⟨rfl, hrm⟩
  · skip
    refine lv_if_ne (tgt := 12) hx hb dX11_feed_7 (by decide) (fun c102 => ?_) (fun c102 => absurd c102 (by decide))
    refine lv_aload_n hx hb dX11_feed_12 rfl (lv_at hl 0 rfl) ?_
    refine zGetR (D := D) (ci := 11) (C := RX11) (T := TX11) (N := 16) hx hb hts hiX11 hown hH (zk_0 hF) rfl 0 (by decide) rfl hw1 (fun _ h9 => h9) dX11_feed_13 (zr_0_0 hF) ?_
    refine lv_iload_n hx hb dX11_feed_16 rfl (lv_at hl 1 rfl) ?_
    refine va_callv (va_runV (As := [.int x0]) (rest := []) ⟨hx, hb, hml, hown, hts⟩ (t_put l hl0 D A sad τ fi fr ol n hF hn (by omega) x0) (cwV 1 hts gX11_feed_X7_put rfl rfl rfl (by decide +kernel) ⟨Nat.le_of_ble_eq_true rfl, Nat.le_of_ble_eq_true rfl⟩) ⟨zQc_bl, zRecv hH (zk_1 hF) rfl, zQc_at hz hS hA hH⟩ rfl rfl hl.1 rfl (lv_room (Nat.le_of_ble_eq_true rfl)) dX11_feed_17 ⟨Nat.le_of_ble_eq_true rfl, Nat.le_of_ble_eq_true rfl⟩) hS (fun q _ h => h) (fun q h => h) (fun u9 t9 H1 locs ht9 hvm9 hw hB hz1 hk1 hS => ?_)
    have hH := zMv ht9 hvm9 hB
    clear hB
    generalize u9 = f104 at hw hH
    generalize H1 = H at hH hS ⊢
    have hp105 := hw
    have q106 := hw.1
    refine lv_aload_n hx hb dX11_feed_20 rfl (lv_at hl 0 rfl) ?_
    refine zGetR (D := D) (ci := 11) (C := RX11) (T := TX11) (N := 16) hx hb hts hiX11 hown hH (zk_0 hF) rfl 0 (by decide) rfl hw1 (fun _ h9 => h9) dX11_feed_21 (zr_0_0 hF) ?_
    refine lv_iload_n hx hb dX11_feed_24 rfl (lv_at hl 2 rfl) ?_
    refine va_callv (va_runV (As := [.int x1]) (rest := []) ⟨hx, hb, hml, hown, hts⟩ (t_put l hl0 D A sad τ f104 fr ol (n + 4) hF q106 (by omega) x1) (cwV 1 hts gX11_feed_X7_put rfl rfl rfl (by decide +kernel) ⟨Nat.le_of_ble_eq_true rfl, Nat.le_of_ble_eq_true rfl⟩) ⟨zQc_bl, zRecv hH (zk_1 hF) rfl, zQc_at hz hS hA hH⟩ rfl rfl hl.1 rfl (lv_room (Nat.le_of_ble_eq_true rfl)) dX11_feed_25 ⟨Nat.le_of_ble_eq_true rfl, Nat.le_of_ble_eq_true rfl⟩) hS (fun q _ h => h) (fun q h => h) (fun u9 t9 H1 locs ht9 hvm9 hw hB hz1 hk1 hS => ?_)
    have hH := zMv ht9 hvm9 hB
    clear hB
    generalize u9 = f108 at hw hH
    generalize H1 = H at hH hS ⊢
    have hp109 := hw
    have q110 := hw.1
    refine lv_aload_n hx hb dX11_feed_28 rfl (lv_at hl 0 rfl) ?_
    refine zGetR (D := D) (ci := 11) (C := RX11) (T := TX11) (N := 16) hx hb hts hiX11 hown hH (zk_0 hF) rfl 0 (by decide) rfl hw1 (fun _ h9 => h9) dX11_feed_29 (zr_0_0 hF) ?_
    refine lv_iload_n hx hb dX11_feed_32 rfl (lv_at hl 3 rfl) ?_
    refine va_callv (va_runV (As := [.int x2]) (rest := []) ⟨hx, hb, hml, hown, hts⟩ (t_put l hl0 D A sad τ f108 fr ol (n + 4 + 4) hF q110 (by omega) x2) (cwV 1 hts gX11_feed_X7_put rfl rfl rfl (by decide +kernel) ⟨Nat.le_of_ble_eq_true rfl, Nat.le_of_ble_eq_true rfl⟩) ⟨zQc_bl, zRecv hH (zk_1 hF) rfl, zQc_at hz hS hA hH⟩ rfl rfl hl.1 rfl (lv_room (Nat.le_of_ble_eq_true rfl)) dX11_feed_33 ⟨Nat.le_of_ble_eq_true rfl, Nat.le_of_ble_eq_true rfl⟩) hS (fun q _ h => h) (fun q h => h) (fun u9 t9 H1 locs ht9 hvm9 hw hB hz1 hk1 hS => ?_)
    have hH := zMv ht9 hvm9 hB
    clear hB
    generalize u9 = f112 at hw hH
    generalize H1 = H at hH hS ⊢
    have hp113 := hw
    have q114 := hw.1
    refine lv_aload_n hx hb dX11_feed_36 rfl (lv_at hl 0 rfl) ?_
    refine zGetR (D := D) (ci := 11) (C := RX11) (T := TX11) (N := 16) hx hb hts hiX11 hown hH (zk_0 hF) rfl 0 (by decide) rfl hw1 (fun _ h9 => h9) dX11_feed_37 (zr_0_0 hF) ?_
    refine lv_iload hx hb dX11_feed_40 (lv_at hl 4 rfl) ?_
    refine va_callv (va_runV (As := [.int x3]) (rest := []) ⟨hx, hb, hml, hown, hts⟩ (t_put l hl0 D A sad τ f112 fr ol (n + 4 + 4 + 4) hF q114 (by omega) x3) (cwV 1 hts gX11_feed_X7_put rfl rfl rfl (by decide +kernel) ⟨Nat.le_of_ble_eq_true rfl, Nat.le_of_ble_eq_true rfl⟩) ⟨zQc_bl, zRecv hH (zk_1 hF) rfl, zQc_at hz hS hA hH⟩ rfl rfl hl.1 rfl (lv_room (Nat.le_of_ble_eq_true rfl)) dX11_feed_42 ⟨Nat.le_of_ble_eq_true rfl, Nat.le_of_ble_eq_true rfl⟩) hS (fun q _ h => h) (fun q h => h) (fun u9 t9 H1 locs ht9 hvm9 hw hB hz1 hk1 hS => ?_)
    have hH := zMv ht9 hvm9 hB
    clear hB
    generalize u9 = f116 at hw hH
    generalize H1 = H at hH hS ⊢
    have hp117 := hw
    have q118 := hw.1
    refine lv_aload_n hx hb dX11_feed_45 rfl (lv_at hl 0 rfl) ?_
    refine zGetR (D := D) (ci := 11) (C := RX11) (T := TX11) (N := 16) hx hb hts hiX11 hown hH (zk_0 hF) rfl 0 (by decide) rfl hw1 (fun _ h9 => h9) dX11_feed_46 (zr_0_0 hF) ?_
    refine lv_iload hx hb dX11_feed_49 (lv_at hl 5 rfl) ?_
    refine va_callv (va_runV (As := [.int x4]) (rest := []) ⟨hx, hb, hml, hown, hts⟩ (t_put l hl0 D A sad τ f116 fr ol (n + 4 + 4 + 4 + 4) hF q118 (by omega) x4) (cwV 1 hts gX11_feed_X7_put rfl rfl rfl (by decide +kernel) ⟨Nat.le_of_ble_eq_true rfl, Nat.le_of_ble_eq_true rfl⟩) ⟨zQc_bl, zRecv hH (zk_1 hF) rfl, zQc_at hz hS hA hH⟩ rfl rfl hl.1 rfl (lv_room (Nat.le_of_ble_eq_true rfl)) dX11_feed_51 ⟨Nat.le_of_ble_eq_true rfl, Nat.le_of_ble_eq_true rfl⟩) hS (fun q _ h => h) (fun q h => h) (fun u9 t9 H1 locs ht9 hvm9 hw hB hz1 hk1 hS => ?_)
    have hH := zMv ht9 hvm9 hB
    clear hB
    generalize u9 = f120 at hw hH
    generalize H1 = H at hH hS ⊢
    have hp121 := hw
    have q122 := hw.1
    refine lv_aload_n hx hb dX11_feed_54 rfl (lv_at hl 0 rfl) ?_
    refine zGetR (D := D) (ci := 11) (C := RX11) (T := TX11) (N := 16) hx hb hts hiX11 hown hH (zk_0 hF) rfl 0 (by decide) rfl hw1 (fun _ h9 => h9) dX11_feed_55 (zr_0_0 hF) ?_
    refine zGetI (D := D) (ci := 7) (C := RX7) (T := TX7) (N := 4) hx hb hts hiX7 hown hH (zk_1 hF) rfl 1 (by decide) rfl hw3 (fun _ h9 => h9) dX11_feed_58 q122 ?_
    refine W.widen (k := 0) (n := 0) (by decide) (by decide) ?_
    exact W.iret (v := nI (n + 4 + 4 + 4 + 4 + 4)) hx hb hr (fun t9 ht9 hW9 => ⟨⟨nI (n + 4 + 4 + 4 + 4 + 4), f120, rfl, Or.inl ⟨by omega, rfl, hp121.1, fun i h1 h2 => by rw [hp121.2.1 i h1 h2, hp117.2.1 i h1 h2, hp113.2.1 i h1 h2, hp109.2.1 i h1 h2, hp105.2.1 i h1 h2], fun b h => by rw [hp121.2.2.1 b h, hp117.2.2.1 b h, hp113.2.2.1 b h, hp109.2.2.1 b h, hp105.2.2.1 b h], fun b h => by rw [hp121.2.2.2.1 b (by omega), hp117.2.2.2.1 b (by omega), hp113.2.2.2.1 b (by omega), hp109.2.2.2.1 b (by omega), hp105.2.2.2.1 b (by omega)], by rw [hp121.2.2.2.1 (n + 0) (by omega), hp117.2.2.2.1 (n + 0) (by omega), hp113.2.2.2.1 (n + 0) (by omega), hp109.2.2.2.1 (n + 0) (by omega)]; exact hp105.2.2.2.2.1, by rw [hp121.2.2.2.1 (n + 1) (by omega), hp117.2.2.2.1 (n + 1) (by omega), hp113.2.2.2.1 (n + 1) (by omega), hp109.2.2.2.1 (n + 1) (by omega)]; exact hp105.2.2.2.2.2.1, by rw [hp121.2.2.2.1 (n + 2) (by omega), hp117.2.2.2.1 (n + 2) (by omega), hp113.2.2.2.1 (n + 2) (by omega), hp109.2.2.2.1 (n + 2) (by omega)]; exact hp105.2.2.2.2.2.2.1, by rw [hp121.2.2.2.1 (n + 3) (by omega), hp117.2.2.2.1 (n + 3) (by omega), hp113.2.2.2.1 (n + 3) (by omega), hp109.2.2.2.1 (n + 3) (by omega)]; exact hp105.2.2.2.2.2.2.2, by rw [hp121.2.2.2.1 (n + 4) (by omega), hp117.2.2.2.1 (n + 4) (by omega), hp113.2.2.2.1 (n + 4) (by omega)]; exact hp109.2.2.2.2.1, by rw [hp121.2.2.2.1 (n + 5) (by omega), hp117.2.2.2.1 (n + 5) (by omega), hp113.2.2.2.1 (n + 5) (by omega)]; exact hp109.2.2.2.2.2.1, by rw [hp121.2.2.2.1 (n + 6) (by omega), hp117.2.2.2.1 (n + 6) (by omega), hp113.2.2.2.1 (n + 6) (by omega)]; exact hp109.2.2.2.2.2.2.1, by rw [hp121.2.2.2.1 (n + 7) (by omega), hp117.2.2.2.1 (n + 7) (by omega), hp113.2.2.2.1 (n + 7) (by omega)]; exact hp109.2.2.2.2.2.2.2, by rw [hp121.2.2.2.1 (n + 8) (by omega), hp117.2.2.2.1 (n + 8) (by omega)]; exact hp113.2.2.2.2.1, by rw [hp121.2.2.2.1 (n + 9) (by omega), hp117.2.2.2.1 (n + 9) (by omega)]; exact hp113.2.2.2.2.2.1, by rw [hp121.2.2.2.1 (n + 10) (by omega), hp117.2.2.2.1 (n + 10) (by omega)]; exact hp113.2.2.2.2.2.2.1, by rw [hp121.2.2.2.1 (n + 11) (by omega), hp117.2.2.2.1 (n + 11) (by omega)]; exact hp113.2.2.2.2.2.2.2, by rw [hp121.2.2.2.1 (n + 12) (by omega)]; exact hp117.2.2.2.2.1, by rw [hp121.2.2.2.1 (n + 13) (by omega)]; exact hp117.2.2.2.2.2.1, by rw [hp121.2.2.2.1 (n + 14) (by omega)]; exact hp117.2.2.2.2.2.2.1, by rw [hp121.2.2.2.1 (n + 15) (by omega)]; exact hp117.2.2.2.2.2.2.2, by exact hp121.2.2.2.2.1, by exact hp121.2.2.2.2.2.1, by exact hp121.2.2.2.2.2.2.1, by exact hp121.2.2.2.2.2.2.2⟩, zEnd1 hH ht9 hW9⟩, hS.F ht9⟩) hS.2.2 dX11_feed_61
  · skip
    refine lv_if_ne (tgt := 12) hx hb dX11_feed_7 (by decide) (fun c123 => absurd (by decide) c123) (fun c123 => ?_)
    refine lv_iconst (v := (-1)) hx hb dX11_feed_10 (by decide) ?_
    refine W.widen (k := 0) (n := 0) (by decide) (by decide) ?_
    exact W.iret (v := (-1)) hx hb hr (fun t9 ht9 hW9 => ⟨⟨(-1), fi, rfl, Or.inr ⟨by omega, rfl, rfl⟩, zEnd1 hH ht9 hW9⟩, hS.F ht9⟩) hS.2.2 dX11_feed_11
set_option maxHeartbeats 4000000 in
set_option maxRecDepth 100000 in
/-- end -/
theorem c_end (l : Launch) (hl0 : l.stackTraces = false) (D : va_G) (A : Nat → Prop) (sad : Nat → Nat) (τ : zTy) (fi : zFi) (fr : zFr) (ol : Int64) (n : Nat) (hF : zFix τ fr) (hn : fi 1 1 = nI n) (hn4 : n ≤ 400) (x : Int32) : Met l yX11_end wsX11_end ({ frames := 0, cells := 0, slots := 0, locals := 0 }) (va_Pc [.ref (τ.1 0), .int x] (zQc D A sad τ fi fr ol)) (va_Qi (fun (r : Int32) (u : zFi) => (r = 1 ∧ 0 ≤ x.toInt ∧ x.toInt ≤ n ∧ u = zu fi 1 1 x) ∨ (r = 0 ∧ ¬ (0 ≤ x.toInt ∧ x.toInt ≤ n) ∧ u = fi)) (fun (u : zFi) (t : State) => zH D A τ u fr ol t t.heap) A) 0 0 A := by
  refine Met.ofW (cc := cX11_end) (maxL := 2) (ret := (some .boolean)) (by decide) rfl ?_
  intro p9 e9 s m args below meth c9 s₁ B hml hv
  obtain ⟨rfl, hz, hH, hA⟩ := hv
  have hx := B.exec
  have hb := B.bytes
  have hr := B.returns
  have hts := atoms_spec (ws := wsX11_end) B.pre
  have hown : s.vm.findClass RX11 = some m.cls := findClass_of_methodNamed B.named
  have hlocks := B.notSynchronized
  have hS : va_S A s.heap s.heap [] := va_S.rf
  have hl := lv_entry ([.ref (τ.1 0), .int x]) (n := 2) (Nat.le_of_ble_eq_true rfl)
  rw [lg_entry_eq]
  generalize (lg_sl ([.ref (τ.1 0), .int x]) ++ List.replicate (2 - (lg_sl ([.ref (τ.1 0), .int x])).length) Slot.unset).toArray = ls at hl ⊢
  have hl : lv_has ls 2 [(0, .ref (τ.1 0)), (1, .int x)] := hl
  have hiX11 : ∀ w ∈ u_ws RX11 TX11 16, w ∈ wsX11_end := fun _ h => List.mem_cons_of_mem _ (List.mem_append_left _ (List.mem_append_right _ h))
  have hw1 := hts (.fieldLink RX11 10 "PostHouse" "tape" "LPostHouse$Tape;") (by decide +kernel)
  have hiX7 : ∀ w ∈ u_ws RX7 TX7 4, w ∈ wsX11_end := fun _ h => List.mem_cons_of_mem _ (List.mem_append_right _ h)
  have hw3 := hts (.fieldLink RX11 84 "PostHouse$Tape" "length" "I") (by decide +kernel)
  refine lv_iload_n hx hb dX11_end_0 rfl (lv_at hl 1 rfl) ?_
  refine lv_if_lt (tgt := 15) hx hb dX11_end_1 (by decide) (fun c101 => ?_) (fun c101 => ?_)
  · have zc101 := c101
    replace zc101 := zc_lt (rfl) ((by decide : (0 : Int32).toInt = 0)) zc101
    refine lv_iconst (v := nI 0) hx hb dX11_end_15 (by decide) ?_
    refine W.widen (k := 0) (n := 0) (by decide) (by decide) ?_
    exact W.zret (v := nI 0) hx hb hr (by decide) (fun t9 ht9 hW9 => ⟨⟨nI 0, fi, rfl, Or.inr ⟨rfl, fun h9 => by have h91 := h9.1; have h92 := h9.2; omega, rfl⟩, zEnd1 hH ht9 hW9⟩, hS.F ht9⟩) hS.2.2 dX11_end_16
  · have zc101 := c101
    replace zc101 := zc_nlt (rfl) ((by decide : (0 : Int32).toInt = 0)) zc101
    refine lv_iload_n hx hb dX11_end_4 rfl (lv_at hl 1 rfl) ?_
    refine lv_aload_n hx hb dX11_end_5 rfl (lv_at hl 0 rfl) ?_
    refine zGetR (D := D) (ci := 11) (C := RX11) (T := TX11) (N := 16) hx hb hts hiX11 hown hH (zk_0 hF) rfl 0 (by decide) rfl hw1 (fun _ h9 => h9) dX11_end_6 (zr_0_0 hF) ?_
    refine zGetI (D := D) (ci := 7) (C := RX7) (T := TX7) (N := 4) hx hb hts hiX7 hown hH (zk_1 hF) rfl 1 (by decide) rfl hw3 (fun _ h9 => h9) dX11_end_9 hn ?_
    refine lv_icmp_le (tgt := 17) hx hb dX11_end_12 (by decide) (fun c102 => ?_) (fun c102 => ?_)
    · have zc102 := c102
      replace zc102 := zc_le (rfl) (nI_toInt (by omega)) zc102
      refine lv_aload_n hx hb dX11_end_17 rfl (lv_at hl 0 rfl) ?_
      refine zGetR (D := D) (ci := 11) (C := RX11) (T := TX11) (N := 16) hx hb hts hiX11 hown hH (zk_0 hF) rfl 0 (by decide) rfl hw1 (fun _ h9 => h9) dX11_end_18 (zr_0_0 hF) ?_
      refine lv_iload_n hx hb dX11_end_21 rfl (lv_at hl 1 rfl) ?_
      refine zPutI (D := D) (ci := 7) (ty := .int) (C := RX7) (T := TX7) (N := 4) hx hb hts hiX7 tyX7 tyX7_ok nmX7 hown hH hS (zk_1 hF) rfl 1 (by decide) rfl hw3 (fun _ h9 => h9) rfl (by decide +kernel) rfl rfl dX11_end_22 (fun H locs hH hS => ?_)
      obtain ⟨f103, ef103⟩ : ∃ f9 : zFi, f9 = zu fi 1 1 x := ⟨_, rfl⟩
      rw [← ef103] at hH
      have q104 : f103 1 1 = x := by rw [ef103]; exact zu_s
      refine lv_iconst (v := nI 1) hx hb dX11_end_25 (by decide) ?_
      refine W.widen (k := 0) (n := 0) (by decide) (by decide) ?_
      exact W.zret (v := nI 1) hx hb hr (by decide) (fun t9 ht9 hW9 => ⟨⟨nI 1, f103, rfl, Or.inl ⟨rfl, by omega, by omega, ef103⟩, zEnd1 hH ht9 hW9⟩, hS.F ht9⟩) hS.2.2 dX11_end_26
    · have zc102 := c102
      replace zc102 := zc_nle (rfl) (nI_toInt (by omega)) zc102
      refine lv_iconst (v := nI 0) hx hb dX11_end_15 (by decide) ?_
      refine W.widen (k := 0) (n := 0) (by decide) (by decide) ?_
      exact W.zret (v := nI 0) hx hb hr (by decide) (fun t9 ht9 hW9 => ⟨⟨nI 0, fi, rfl, Or.inr ⟨rfl, fun h9 => by have h91 := h9.1; have h92 := h9.2; omega, rfl⟩, zEnd1 hH ht9 hW9⟩, hS.F ht9⟩) hS.2.2 dX11_end_16
set_option maxHeartbeats 4000000 in
set_option maxRecDepth 100000 in
/-- doubtAt -/
theorem c_doubtAt (l : Launch) (hl0 : l.stackTraces = false) (D : va_G) (A : Nat → Prop) (sad : Nat → Nat) (τ : zTy) (fi : zFi) (fr : zFr) (ol : Int64) (x : Int32) (hF : zFix τ fr) (d : Nat) (hDo : zDo τ fi fr d) : vx_Met l yX11_doubtAt wsX11_doubtAt ({ frames := 6, cells := 1, slots := 6, locals := 82 }) (va_Pc [.ref (τ.1 0), .int x] (zQc D A sad τ fi fr ol)) (va_Qq (fun (r : Option Nat) (u : Unit) => ∃ q, q < d ∧ x = nI q ∧ r = some (τ.1 (3000 + q))) (fun (u : Unit) (t : State) => zH D A τ fi fr ol t t.heap) A) (vx_X (fun u : Unit => True) (fun (E : String) (u : Unit) (t : State) => (E = "java/lang/IndexOutOfBoundsException" ∧ ¬ (0 ≤ x.toInt ∧ x.toInt < (d : Int))) ∧ zH D A τ fi fr ol t t.heap) A) 1 6 A := by
  refine vx_ofW (cc := cX11_doubtAt) (maxL := 2) (ret := (some (.object "PostHouse$Letter"))) (by decide) rfl ?_
  intro p9 e9 s m args below meth c9 s₁ B hml ht0 hv
  obtain ⟨rfl, hz, hH, hA⟩ := hv
  have hx := B.exec
  have hb := B.bytes
  have hr := B.returns
  have hts := atoms_spec (ws := wsX11_doubtAt) B.pre
  have hown : s.vm.findClass RX11 = some m.cls := findClass_of_methodNamed B.named
  have hlocks := B.notSynchronized
  have hS : va_S A s.heap s.heap [] := va_S.rf
  have hl := lv_entry ([.ref (τ.1 0), .int x]) (n := 2) (Nat.le_of_ble_eq_true rfl)
  rw [lg_entry_eq]
  generalize (lg_sl ([.ref (τ.1 0), .int x]) ++ List.replicate (2 - (lg_sl ([.ref (τ.1 0), .int x])).length) Slot.unset).toArray = ls at hl ⊢
  have hl : lv_has ls 2 [(0, .ref (τ.1 0)), (1, .int x)] := hl
  have hd512 := hDo.1
  have hiX11 : ∀ w ∈ u_ws RX11 TX11 16, w ∈ wsX11_doubtAt := fun _ h => List.mem_cons_of_mem _ (List.mem_append_left _ (List.mem_append_right _ h))
  have hw1 := hts (.fieldLink RX11 215 "PostHouse" "doubtCount" "I") (by decide +kernel)
  have hw2 := hts (.fieldLink RX11 42 "PostHouse" "doubts" "[LPostHouse$Letter;") (by decide +kernel)
  have hw3 := hts (.classLink RX11 322 "java/lang/IndexOutOfBoundsException") (by decide +kernel)
  have hw4 := hts (.initialized "java/lang/IndexOutOfBoundsException") (by decide +kernel)
  refine lv_iload_n hx hb dX11_doubtAt_0 rfl (lv_at hl 1 rfl) ?_
  refine lv_iconst (v := nI 0) hx hb dX11_doubtAt_1 (by decide) ?_
  refine lv_aload_n hx hb dX11_doubtAt_2 rfl (lv_at hl 0 rfl) ?_
  refine zGetI (D := D) (ci := 11) (C := RX11) (T := TX11) (N := 16) hx hb hts hiX11 hown hH (zk_0 hF) rfl 10 (by decide) rfl hw1 (fun _ h9 => h9) dX11_doubtAt_3 hDo.2.1 ?_
  refine lv_iconst (v := nI 1) hx hb dX11_doubtAt_6 (by decide) ?_
  refine lv_isub hx hb dX11_doubtAt_7 ?_
  refine lv_topi (fun v101 ev101 => ?_)
  have iv101 : v101.toInt = ((d : Nat) : Int) - ((1 : Nat) : Int) := by rw [ev101]; exact pk_sub_toInt (by omega) (by omega)
  refine va_calli (va_runS (As := [.int x, .int (nI 0), .int v101]) (rest := []) ⟨hx, hb, hml, hown, hts⟩ (c_within l hl0 D A sad τ fi fr ol x (nI 0) v101) (cwS 3 hts gX11_doubtAt_X11_within rfl rfl rfl (by decide +kernel) ⟨Nat.le_of_ble_eq_true rfl, Nat.le_of_ble_eq_true rfl⟩) ⟨zQc_bl, zQc_at hz hS hA hH⟩ rfl rfl hl.1 rfl (lv_room (Nat.le_of_ble_eq_true rfl)) dX11_doubtAt_8 ⟨Nat.le_of_ble_eq_true rfl, Nat.le_of_ble_eq_true rfl⟩) hS (fun q _ h => h) (fun q h => h) (fun r102 u9 t9 H1 locs ht9 hvm9 hw hB hz1 hk1 hS => ?_)
  have hH := zMv ht9 hvm9 hB
  generalize H1 = H at hH hS ⊢
  rcases hw with ⟨rfl, hy103⟩ | ⟨rfl, hn104⟩
  · skip
    replace hy103 := zWi1 (rfl) (nI_toInt (by omega)) (iv101) hy103
    refine lv_if_ne (tgt := 25) hx hb dX11_doubtAt_11 (by decide) (fun c105 => ?_) (fun c105 => absurd c105 (by decide))
    refine lv_aload_n hx hb dX11_doubtAt_25 rfl (lv_at hl 0 rfl) ?_
    refine zGetR (D := D) (ci := 11) (C := RX11) (T := TX11) (N := 16) hx hb hts hiX11 hown hH (zk_0 hF) rfl 5 (by decide) rfl hw2 (fun _ h9 => h9) dX11_doubtAt_26 (zr_0_5 hF) ?_
    refine lv_iload_n hx hb dX11_doubtAt_29 rfl (lv_at hl 1 rfl) ?_
    obtain ⟨q, hq, rfl⟩ : ∃ q : Nat, q < d ∧ x = nI q := zNatB (by omega) (by omega)
    refine zAaldS (D := D) hx hb hH (zk_15 hF) (by decide) (by decide) rfl (zn_15 hF) (by omega) (by omega) (hDo.2.2.1 q (by omega)).2.1.1 dX11_doubtAt_30 ?_
    refine W.widen (k := 1) (n := 6) (by decide) (by decide) ?_
    refine vx_ret ?_
    exact W.aret (v := .ref (τ.1 (3000 + q))) hx hb hr (Or.inl ⟨_, rfl⟩) (Or.inr ⟨_, rfl⟩) (fun t9 ht9 hW9 => ⟨⟨(some (τ.1 (3000 + q))), (), rfl, ⟨q, hq, rfl, rfl⟩, zEnd1 hH ht9 hW9⟩, hS.F ht9⟩) hS.2.2 dX11_doubtAt_31
  · skip
    replace hn104 := zWi0 (rfl) (nI_toInt (by omega)) (iv101) hn104
    refine lv_if_ne (tgt := 25) hx hb dX11_doubtAt_11 (by decide) (fun c106 => absurd (by decide) c106) (fun c106 => ?_)
    obtain ⟨a107, ha107⟩ := hz.1.2.2.2.2.1 _ (List.mem_of_getElem? (i := 22) rfl)
    have hat : ∀ w ∈ vx_atS RX11 326 "java/lang/IndexOutOfBoundsException" ["java/lang/RuntimeException", "java/lang/Exception"], w.before _ s = true := vx_hat (fun w h => hts w (List.mem_cons_of_mem _ (List.mem_append_right _ h))) (B := [.castable "java/lang/IndexOutOfBoundsException" "java/lang/IndexOutOfBoundsException", .declares (Bundle.initS "java/lang/RuntimeException"), .declares (Bundle.initS "java/lang/Exception"), .declares (Bundle.initS Bundle.tN)]) (by decide +kernel) (vx_c (va_Nw.use rfl (hz.1.2.2.2.2.2.2.2.1 _ (List.mem_of_getElem? (i := 0) rfl))) (vx_c (va_Nw.use rfl (hz.1.2.2.2.2.2.2.2.2 _ (List.mem_of_getElem? (i := 0) rfl))) (vx_c (va_Nw.use rfl (hz.1.2.2.2.2.2.2.2.2 _ (List.mem_of_getElem? (i := 1) rfl))) (vx_c (va_Nw.use rfl (hz.1.2.2.2.2.2.2.2.2 _ (List.mem_of_getElem? (i := 2) rfl))) vx_n))))
    exact vx_throwSW hx hb hl0 (own := RX11) (cls := "java/lang/IndexOutOfBoundsException") (text := "no such doubt") (names := ["java/lang/RuntimeException", "java/lang/Exception"]) hown (by decide +kernel) (by decide +kernel) hw3 hw4 ha107 hat (by decide +kernel) hz.1.1 hz.1.2.1 hS (by rw [hml]; exact hl.1) dX11_doubtAt_14 dX11_doubtAt_17 dX11_doubtAt_18 dX11_doubtAt_21 dX11_doubtAt_24 (fun x h9 => (ht0 x h9).elim) (Nat.le_of_ble_eq_true rfl) (Nat.le_of_ble_eq_true rfl) (Nat.le_of_ble_eq_true rfl) (Nat.le_of_ble_eq_true rfl) hlocks (fun t9 hvm9 h91 h92 => ⟨(), trivial, ⟨⟨rfl, by have h9 := hn104; omega⟩, zThr hH hvm9 h92⟩, zF2 hS h91 h92⟩) hS.2.2 (by decide) (by decide)
def zDof (y : Int32) : Nat := if y = nI 1 then 5 else if y = nI 2 then 2 else if y = nI 3 then 8 else if y = nI 4 then 3 else 4
set_option maxHeartbeats 4000000 in
set_option maxRecDepth 100000 in
/-- doubt -/
theorem c_doubt (l : Launch) (hl0 : l.stackTraces = false) (D : va_G) (A : Nat → Prop) (sad : Nat → Nat) (τ : zTy) (fi : zFi) (fr : zFr) (ol : Int64) (x y : Int32) (hF : zFix τ fr) (d : Nat) (hDo : zDo τ fi fr d) : vx_Met l yX11_doubt wsX11_doubt ({ frames := 7, cells := 2, slots := 12, locals := 103 }) (va_Pc [.ref (τ.1 0), .int x, .int y] (zQc D A sad τ fi fr ol)) (va_Qi (fun (r : Int32) (u : Unit) => ∃ q, q < d ∧ x = nI q ∧ ((y = nI 0 ∧ ((r = 1 ∧ ¬ fi (3000 + q) 9 = 0) ∨ (r = 0 ∧ fi (3000 + q) 9 = 0))) ∨ (1 ≤ y.toInt ∧ y.toInt ≤ 5 ∧ r = fi (3000 + q) (zDof y)))) (fun (u : Unit) (t : State) => zH D A τ fi fr ol t t.heap) A) (vx_X (fun u : Unit => True) (fun (E : String) (u : Unit) (t : State) => ((E = "java/lang/IndexOutOfBoundsException" ∧ ¬ (0 ≤ x.toInt ∧ x.toInt < (d : Int))) ∨ (E = "java/util/NoSuchElementException" ∧ (∃ q, q < d ∧ x = nI q) ∧ ¬ (0 ≤ y.toInt ∧ y.toInt ≤ 5))) ∧ zH D A τ fi fr ol t t.heap) A) 2 12 A := by
  refine vx_ofW (cc := cX11_doubt) (maxL := 4) (ret := (some .int)) (by decide) rfl ?_
  intro p9 e9 s m args below meth c9 s₁ B hml ht0 hv
  obtain ⟨rfl, hz, hH, hA⟩ := hv
  have hx := B.exec
  have hb := B.bytes
  have hr := B.returns
  have hts := atoms_spec (ws := wsX11_doubt) B.pre
  have hown : s.vm.findClass RX11 = some m.cls := findClass_of_methodNamed B.named
  have hlocks := B.notSynchronized
  have hS : va_S A s.heap s.heap [] := va_S.rf
  have hl := lv_entry ([.ref (τ.1 0), .int x, .int y]) (n := 4) (Nat.le_of_ble_eq_true rfl)
  rw [lg_entry_eq]
  generalize (lg_sl ([.ref (τ.1 0), .int x, .int y]) ++ List.replicate (4 - (lg_sl ([.ref (τ.1 0), .int x, .int y])).length) Slot.unset).toArray = ls at hl ⊢
  have hl : lv_has ls 4 [(0, .ref (τ.1 0)), (1, .int x), (2, .int y)] := hl
  have hd512 := hDo.1
  have hiX2 : ∀ w ∈ u_ws RX2 TX2 10, w ∈ wsX11_doubt := fun _ h => List.mem_cons_of_mem _ (List.mem_append_left _ (List.mem_append_left _ (List.mem_append_left _ (List.mem_append_right _ h))))
  have hw1 := hts (.fieldLink RX11 220 "PostHouse$Letter" "waits" "Z") (by decide +kernel)
  have hw2 := hts (.fieldLink RX11 201 "PostHouse$Letter" "mendings" "I") (by decide +kernel)
  have hw3 := hts (.fieldLink RX11 228 "PostHouse$Letter" "lines" "I") (by decide +kernel)
  have hw4 := hts (.fieldLink RX11 231 "PostHouse$Letter" "known" "I") (by decide +kernel)
  have hw5 := hts (.fieldLink RX11 234 "PostHouse$Letter" "sum" "I") (by decide +kernel)
  have hw6 := hts (.fieldLink RX11 237 "PostHouse$Letter" "money" "I") (by decide +kernel)
  have hw7 := hts (.classLink RX11 169 "java/util/NoSuchElementException") (by decide +kernel)
  have hw8 := hts (.initialized "java/util/NoSuchElementException") (by decide +kernel)
  refine lv_aload_n hx hb dX11_doubt_0 rfl (lv_at hl 0 rfl) ?_
  refine lv_iload_n hx hb dX11_doubt_1 rfl (lv_at hl 1 rfl) ?_
  refine vx_callq (vx_runV (As := [.int x]) (rest := []) ⟨hx, hb, hml, hown, hts⟩ (c_doubtAt l hl0 D A sad τ fi fr ol x hF d hDo) (cwV 1 hts gX11_doubt_X11_doubtAt rfl rfl rfl (by decide +kernel) ⟨Nat.le_of_ble_eq_true rfl, Nat.le_of_ble_eq_true rfl⟩) ⟨zQc_bl, zRecv hH (zk_0 hF) rfl, zQc_at hz hS hA hH⟩ rfl rfl hl.1 rfl (lv_room (Nat.le_of_ble_eq_true rfl)) dX11_doubt_2 ⟨Nat.le_of_ble_eq_true rfl, Nat.le_of_ble_eq_true rfl⟩) hS (fun q _ h => h) (fun q h => h) (fun q _ h => h) (fun E ce q9 u9 t9 H1 locs ht9 hvm9 hw hB hz1 hk1 hS hce hcv hcl => ?_) (fun r101 u9 t9 H1 locs ht9 hvm9 hw hB hz1 hk1 hS => ?_)
  · obtain ⟨hX, hB⟩ := hB
    have hH := zMv ht9 hvm9 hB
    generalize H1 = H at hH hS hce ⊢
    exact vx_out (fun x h9 => (ht0 x h9).elim) hlocks hce hcv hcl (fun t9 ht9 hvm9 => ⟨(), trivial, ⟨Or.inl hX, zOut hH ht9 hvm9⟩, hS.F ht9⟩) hS.2.2 (by decide) (by decide)
  · skip
    have hH := zMv ht9 hvm9 hB
    generalize H1 = H at hH hS ⊢
    refine W.widen (k := 1) (n := 6) (by decide) (by decide) ?_
    obtain ⟨q, hq, rfl, rfl⟩ := hw
    refine lv_astore_n (lv' := [(3, .ref (τ.1 (3000 + q))), (0, .ref (τ.1 0)), (1, .int (nI q)), (2, .int y)]) hx hb dX11_doubt_5 rfl hl (by decide) rfl (fun ls hl => ?_)
    refine lv_iload_n hx hb dX11_doubt_6 rfl (lv_at hl 3 rfl) ?_
    rcases zCase5 y with c102 | c102 | c102 | c102 | c102 | c102 | c102
    · subst c102
      refine lv_tableIn (tgt := 44) (off := 37) hx hb dX11_doubt_7 (by decide) (by decide) rfl (by decide) ?_
      refine lv_aload_n hx hb dX11_doubt_44 rfl (lv_at hl 0 rfl) ?_
      refine zGetI (D := D) (ci := 2) (C := RX2) (T := TX2) (N := 10) hx hb hts hiX2 hown hH (hDo.2.2.1 q (by omega)).1.1 rfl 9 (by decide) rfl hw1 (fun _ h9 => h9) dX11_doubt_45 rfl ?_
      refine lv_if_eq (tgt := 55) hx hb dX11_doubt_48 (by decide) (fun c103 => ?_) (fun c103 => ?_)
      · have zc103 := c103
        replace zc103 := zc_eq (rfl) ((by decide : (0 : Int32).toInt = 0)) zc103
        refine lv_iconst (v := nI 0) hx hb dX11_doubt_55 (by decide) ?_
        refine W.widen (k := 2) (n := 12) (by decide) (by decide) ?_
        refine vx_ret ?_
        exact W.iret (v := nI 0) hx hb hr (fun t9 ht9 hW9 => ⟨⟨nI 0, (), rfl, ⟨q, hq, rfl, Or.inl ⟨rfl, Or.inr ⟨rfl, c103⟩⟩⟩, zEnd1 hH ht9 hW9⟩, hS.F ht9⟩) hS.2.2 dX11_doubt_56
      · have zc103 := c103
        replace zc103 := zc_neq (rfl) ((by decide : (0 : Int32).toInt = 0)) zc103
        refine lv_iconst (v := nI 1) hx hb dX11_doubt_51 (by decide) ?_
        refine lv_goto (tgt := 56) hx hb dX11_doubt_52 (by decide) ?_
        refine W.widen (k := 2) (n := 12) (by decide) (by decide) ?_
        refine vx_ret ?_
        exact W.iret (v := nI 1) hx hb hr (fun t9 ht9 hW9 => ⟨⟨nI 1, (), rfl, ⟨q, hq, rfl, Or.inl ⟨rfl, Or.inl ⟨rfl, c103⟩⟩⟩, zEnd1 hH ht9 hW9⟩, hS.F ht9⟩) hS.2.2 dX11_doubt_56
    · subst c102
      refine lv_tableIn (tgt := 57) (off := 50) hx hb dX11_doubt_7 (by decide) (by decide) rfl (by decide) ?_
      refine lv_aload_n hx hb dX11_doubt_57 rfl (lv_at hl 0 rfl) ?_
      refine zGetI (D := D) (ci := 2) (C := RX2) (T := TX2) (N := 10) hx hb hts hiX2 hown hH (hDo.2.2.1 q (by omega)).1.1 rfl 5 (by decide) rfl hw2 (fun _ h9 => h9) dX11_doubt_58 rfl ?_
      refine W.widen (k := 2) (n := 12) (by decide) (by decide) ?_
      refine vx_ret ?_
      exact W.iret (v := fi (3000 + q) 5) hx hb hr (fun t9 ht9 hW9 => ⟨⟨fi (3000 + q) 5, (), rfl, ⟨q, hq, rfl, Or.inr ⟨by decide, by decide, rfl⟩⟩, zEnd1 hH ht9 hW9⟩, hS.F ht9⟩) hS.2.2 dX11_doubt_61
    · subst c102
      refine lv_tableIn (tgt := 62) (off := 55) hx hb dX11_doubt_7 (by decide) (by decide) rfl (by decide) ?_
      refine lv_aload_n hx hb dX11_doubt_62 rfl (lv_at hl 0 rfl) ?_
      refine zGetI (D := D) (ci := 2) (C := RX2) (T := TX2) (N := 10) hx hb hts hiX2 hown hH (hDo.2.2.1 q (by omega)).1.1 rfl 2 (by decide) rfl hw3 (fun _ h9 => h9) dX11_doubt_63 rfl ?_
      refine W.widen (k := 2) (n := 12) (by decide) (by decide) ?_
      refine vx_ret ?_
      exact W.iret (v := fi (3000 + q) 2) hx hb hr (fun t9 ht9 hW9 => ⟨⟨fi (3000 + q) 2, (), rfl, ⟨q, hq, rfl, Or.inr ⟨by decide, by decide, rfl⟩⟩, zEnd1 hH ht9 hW9⟩, hS.F ht9⟩) hS.2.2 dX11_doubt_66
    · subst c102
      refine lv_tableIn (tgt := 67) (off := 60) hx hb dX11_doubt_7 (by decide) (by decide) rfl (by decide) ?_
      refine lv_aload_n hx hb dX11_doubt_67 rfl (lv_at hl 0 rfl) ?_
      refine zGetI (D := D) (ci := 2) (C := RX2) (T := TX2) (N := 10) hx hb hts hiX2 hown hH (hDo.2.2.1 q (by omega)).1.1 rfl 8 (by decide) rfl hw4 (fun _ h9 => h9) dX11_doubt_68 rfl ?_
      refine W.widen (k := 2) (n := 12) (by decide) (by decide) ?_
      refine vx_ret ?_
      exact W.iret (v := fi (3000 + q) 8) hx hb hr (fun t9 ht9 hW9 => ⟨⟨fi (3000 + q) 8, (), rfl, ⟨q, hq, rfl, Or.inr ⟨by decide, by decide, rfl⟩⟩, zEnd1 hH ht9 hW9⟩, hS.F ht9⟩) hS.2.2 dX11_doubt_71
    · subst c102
      refine lv_tableIn (tgt := 72) (off := 65) hx hb dX11_doubt_7 (by decide) (by decide) rfl (by decide) ?_
      refine lv_aload_n hx hb dX11_doubt_72 rfl (lv_at hl 0 rfl) ?_
      refine zGetI (D := D) (ci := 2) (C := RX2) (T := TX2) (N := 10) hx hb hts hiX2 hown hH (hDo.2.2.1 q (by omega)).1.1 rfl 3 (by decide) rfl hw5 (fun _ h9 => h9) dX11_doubt_73 rfl ?_
      refine W.widen (k := 2) (n := 12) (by decide) (by decide) ?_
      refine vx_ret ?_
      exact W.iret (v := fi (3000 + q) 3) hx hb hr (fun t9 ht9 hW9 => ⟨⟨fi (3000 + q) 3, (), rfl, ⟨q, hq, rfl, Or.inr ⟨by decide, by decide, rfl⟩⟩, zEnd1 hH ht9 hW9⟩, hS.F ht9⟩) hS.2.2 dX11_doubt_76
    · subst c102
      refine lv_tableIn (tgt := 77) (off := 70) hx hb dX11_doubt_7 (by decide) (by decide) rfl (by decide) ?_
      refine lv_aload_n hx hb dX11_doubt_77 rfl (lv_at hl 0 rfl) ?_
      refine zGetI (D := D) (ci := 2) (C := RX2) (T := TX2) (N := 10) hx hb hts hiX2 hown hH (hDo.2.2.1 q (by omega)).1.1 rfl 4 (by decide) rfl hw6 (fun _ h9 => h9) dX11_doubt_78 rfl ?_
      refine W.widen (k := 2) (n := 12) (by decide) (by decide) ?_
      refine vx_ret ?_
      exact W.iret (v := fi (3000 + q) 4) hx hb hr (fun t9 ht9 hW9 => ⟨⟨fi (3000 + q) 4, (), rfl, ⟨q, hq, rfl, Or.inr ⟨by decide, by decide, rfl⟩⟩, zEnd1 hH ht9 hW9⟩, hS.F ht9⟩) hS.2.2 dX11_doubt_81
    · refine lv_tableOut (tgt := 82) hx hb dX11_doubt_7 c102 (by decide) ?_
      obtain ⟨a104, ha104⟩ := hz.1.2.2.2.2.1 _ (List.mem_of_getElem? (i := 11) rfl)
      have hat : ∀ w ∈ zAtN RX11 173, w.before _ s = true := vx_hat (fun w h => hts w (List.mem_cons_of_mem _ (List.mem_append_left _ (List.mem_append_right _ h)))) (B := [.castable "java/util/NoSuchElementException" "java/util/NoSuchElementException", .declares (Bundle.initS "java/lang/RuntimeException"), .declares (Bundle.initS "java/lang/Exception"), .declares (Bundle.initS Bundle.tN)]) (by decide +kernel) (vx_c (va_Nw.use rfl (hz.1.2.2.2.2.2.2.2.1 _ (List.mem_of_getElem? (i := 3) rfl))) (vx_c (va_Nw.use rfl (hz.1.2.2.2.2.2.2.2.2 _ (List.mem_of_getElem? (i := 0) rfl))) (vx_c (va_Nw.use rfl (hz.1.2.2.2.2.2.2.2.2 _ (List.mem_of_getElem? (i := 1) rfl))) (vx_c (va_Nw.use rfl (hz.1.2.2.2.2.2.2.2.2 _ (List.mem_of_getElem? (i := 2) rfl))) vx_n))))
      exact zThrowN hx hb hl0 (own := RX11) (text := "a doubt has nothing else") hown hw7 hw8 ha104 hat (by decide +kernel) hz.1.1 hz.1.2.1 hS (by rw [hml]; exact hl.1) dX11_doubt_82 dX11_doubt_85 dX11_doubt_86 dX11_doubt_88 dX11_doubt_91 (fun x h9 => (ht0 x h9).elim) (Nat.le_of_ble_eq_true rfl) (Nat.le_of_ble_eq_true rfl) (Nat.le_of_ble_eq_true rfl) (Nat.le_of_ble_eq_true rfl) hlocks (fun t9 hvm9 h91 h92 => ⟨(), trivial, ⟨Or.inr ⟨rfl, ⟨q, hq, rfl⟩, fun h9 => by have h8 := c102; omega⟩, zThr hH hvm9 h92⟩, zF2 hS h91 h92⟩) hS.2.2 (by decide) (by decide)
/-- how many of the first doubts wait -/
def zWt (fi : zFi) : Nat → Nat
  | 0 => 0
  | i + 1 => zWt fi i + (if fi (3000 + i) 9 = 0 then 0 else 1)
theorem zWt_y {fi : zFi} {i : Nat} (h : ¬ fi (3000 + i) 9 = 0) : zWt fi i + 1 = zWt fi (i + 1) := by simp [zWt, h]
theorem zWt_n {fi : zFi} {i : Nat} (h : fi (3000 + i) 9 = 0) : zWt fi i = zWt fi (i + 1) := by simp [zWt, h]
set_option maxHeartbeats 4000000 in
set_option maxRecDepth 100000 in
/-- waitingDoubts -/
theorem c_waiting (l : Launch) (hl0 : l.stackTraces = false) (D : va_G) (A : Nat → Prop) (sad : Nat → Nat) (τ : zTy) (fi : zFi) (fr : zFr) (ol : Int64) (hF : zFix τ fr) (d : Nat) (hDo : zDo τ fi fr d) : Met l yX11_waitingDoubts wsX11_waitingDoubts ({ frames := 0, cells := 0, slots := 0, locals := 0 }) (va_Pc [.ref (τ.1 0)] (zQc D A sad τ fi fr ol)) (va_Qi (fun (r : Int32) (u : Unit) => r = nI (zWt fi d)) (fun (u : Unit) (t : State) => zH D A τ fi fr ol t t.heap) A) 0 0 A := by
  refine Met.ofW (cc := cX11_waitingDoubts) (maxL := 3) (ret := (some .int)) (by decide) rfl ?_
  intro p9 e9 s m args below meth c9 s₁ B hml hv
  obtain ⟨rfl, hz, hH, hA⟩ := hv
  have hx := B.exec
  have hb := B.bytes
  have hr := B.returns
  have hts := atoms_spec (ws := wsX11_waitingDoubts) B.pre
  have hown : s.vm.findClass RX11 = some m.cls := findClass_of_methodNamed B.named
  have hlocks := B.notSynchronized
  have hS : va_S A s.heap s.heap [] := va_S.rf
  have hl := lv_entry ([.ref (τ.1 0)]) (n := 3) (Nat.le_of_ble_eq_true rfl)
  rw [lg_entry_eq]
  generalize (lg_sl ([.ref (τ.1 0)]) ++ List.replicate (3 - (lg_sl ([.ref (τ.1 0)])).length) Slot.unset).toArray = ls at hl ⊢
  have hl : lv_has ls 3 [(0, .ref (τ.1 0))] := hl
  have hd512 := hDo.1
  have hiX11 : ∀ w ∈ u_ws RX11 TX11 16, w ∈ wsX11_waitingDoubts := fun _ h => List.mem_cons_of_mem _ (List.mem_append_left _ (List.mem_append_right _ h))
  have hw1 := hts (.fieldLink RX11 215 "PostHouse" "doubtCount" "I") (by decide +kernel)
  have hw2 := hts (.fieldLink RX11 42 "PostHouse" "doubts" "[LPostHouse$Letter;") (by decide +kernel)
  have hiX2 : ∀ w ∈ u_ws RX2 TX2 10, w ∈ wsX11_waitingDoubts := fun _ h => List.mem_cons_of_mem _ (List.mem_append_right _ h)
  have hw4 := hts (.fieldLink RX11 220 "PostHouse$Letter" "waits" "Z") (by decide +kernel)
  refine lv_iconst (v := nI 0) hx hb dX11_waitingDoubts_0 (by decide) ?_
  refine lv_istore_n (lv' := [(1, .int (nI 0)), (0, .ref (τ.1 0))]) hx hb dX11_waitingDoubts_1 rfl hl (by decide) rfl (fun ls hl => ?_)
  refine lv_iconst (v := nI 0) hx hb dX11_waitingDoubts_2 (by decide) ?_
  refine lv_istore_n (lv' := [(2, .int (nI 0)), (1, .int (nI 0)), (0, .ref (τ.1 0))]) hx hb dX11_waitingDoubts_3 rfl hl (by decide) rfl (fun ls hl => ?_)
  refine zLp (σ := Nat) (fun x9 k9 H locs ls => (fun (i : Nat) => k9 = d - i ∧ (i ≤ d) ∧ zH D A τ fi fr ol s H ∧ va_S A s.heap H locs ∧ lv_has ls 3 [(0, .ref (τ.1 0)), (1, .int (nI (zWt fi i))), (2, .int (nI i))]) x9) 0 (d - 0) (show d - 0 = d - 0 ∧ (0 ≤ d) ∧ zH D A τ fi fr ol s _ ∧ va_S A s.heap _ _ ∧ lv_has _ 3 [(0, .ref (τ.1 0)), (1, .int (nI (zWt fi 0))), (2, .int (nI 0))] from ⟨rfl, Nat.zero_le _, hH, hS, lv_sub hl [2, 1, 0] rfl⟩) (fun k9 ih x9 H locs ls hv9 => ?_)
  generalize x9 = i at hv9
  have hv9 : k9 = d - i ∧ (i ≤ d) ∧ zH D A τ fi fr ol s H ∧ va_S A s.heap H locs ∧ lv_has ls 3 [(0, .ref (τ.1 0)), (1, .int (nI (zWt fi i))), (2, .int (nI i))] := hv9
  obtain ⟨hkih101, hv9, hH, hS, hl⟩ := hv9
  obtain h1 := hv9
  have ih101 := ih
  clear ih
  refine lv_iload_n hx hb dX11_waitingDoubts_4 rfl (lv_at hl 2 rfl) ?_
  refine lv_aload_n hx hb dX11_waitingDoubts_5 rfl (lv_at hl 0 rfl) ?_
  refine zGetI (D := D) (ci := 11) (C := RX11) (T := TX11) (N := 16) hx hb hts hiX11 hown hH (zk_0 hF) rfl 10 (by decide) rfl hw1 (fun _ h9 => h9) dX11_waitingDoubts_6 hDo.2.1 ?_
  refine lv_icmp_ge (tgt := 33) hx hb dX11_waitingDoubts_9 (by decide) (fun c102 => ?_) (fun c102 => ?_)
  · have zc102 := c102
    replace zc102 := zc_le (nI_toInt (by omega)) (nI_toInt (by omega)) zc102
    refine lv_iload_n hx hb dX11_waitingDoubts_33 rfl (lv_at hl 1 rfl) ?_
    refine W.widen (k := 0) (n := 0) (by decide) (by decide) ?_
    exact W.iret (v := nI (zWt fi i)) hx hb hr (fun t9 ht9 hW9 => ⟨⟨nI (zWt fi i), (), rfl, by rw [show i = d by omega], zEnd1 hH ht9 hW9⟩, hS.F ht9⟩) hS.2.2 dX11_waitingDoubts_34
  · have zc102 := c102
    replace zc102 := zc_nle (nI_toInt (by omega)) (nI_toInt (by omega)) zc102
    refine lv_aload_n hx hb dX11_waitingDoubts_12 rfl (lv_at hl 0 rfl) ?_
    refine zGetR (D := D) (ci := 11) (C := RX11) (T := TX11) (N := 16) hx hb hts hiX11 hown hH (zk_0 hF) rfl 5 (by decide) rfl hw2 (fun _ h9 => h9) dX11_waitingDoubts_13 (zr_0_5 hF) ?_
    refine lv_iload_n hx hb dX11_waitingDoubts_16 rfl (lv_at hl 2 rfl) ?_
    refine zAaldS (D := D) hx hb hH (zk_15 hF) (by decide) (by decide) rfl (zn_15 hF) (by omega) (by omega) (hDo.2.2.1 i (by omega)).2.1.1 dX11_waitingDoubts_17 ?_
    refine zGetI (D := D) (ci := 2) (C := RX2) (T := TX2) (N := 10) hx hb hts hiX2 hown hH (hDo.2.2.1 i (by omega)).1.1 rfl 9 (by decide) rfl hw4 (fun _ h9 => h9) dX11_waitingDoubts_18 rfl ?_
    refine lv_if_eq (tgt := 27) hx hb dX11_waitingDoubts_21 (by decide) (fun c103 => ?_) (fun c103 => ?_)
    · have zc103 := c103
      replace zc103 := zc_eq (rfl) ((by decide : (0 : Int32).toInt = 0)) zc103
      refine lv_iinc (v := nI (i + 1)) (lv' := [(2, .int (nI (i + 1))), (0, .ref (τ.1 0)), (1, .int (nI (zWt fi i)))]) hx hb dX11_waitingDoubts_27 hl (k := 2) rfl (by rw [show (Int32.ofInt 1 : Int32) = nI 1 from by decide, nI_add]) (by decide) rfl (fun ls hl => ?_)
      refine lv_goto (tgt := 4) hx hb dX11_waitingDoubts_30 (by decide) ?_
      rw [zWt_n c103] at hl
      exact ih101 (d - (i + 1)) (by omega) (i + 1) _ _ _ (show d - (i + 1) = d - (i + 1) ∧ ((i + 1) ≤ d) ∧ zH D A τ fi fr ol s _ ∧ va_S A s.heap _ _ ∧ lv_has _ 3 [(0, .ref (τ.1 0)), (1, .int (nI (zWt fi (i + 1)))), (2, .int (nI (i + 1)))] from ⟨rfl, (by omega), hH, hS, lv_sub hl [1, 2, 0] rfl⟩)
    · have zc103 := c103
      replace zc103 := zc_neq (rfl) ((by decide : (0 : Int32).toInt = 0)) zc103
      refine lv_iinc (v := nI (zWt fi i + 1)) (lv' := [(1, .int (nI (zWt fi i + 1))), (0, .ref (τ.1 0)), (2, .int (nI i))]) hx hb dX11_waitingDoubts_24 hl (k := 1) rfl (by rw [show (Int32.ofInt 1 : Int32) = nI 1 from by decide, nI_add]) (by decide) rfl (fun ls hl => ?_)
      refine lv_iinc (v := nI (i + 1)) (lv' := [(2, .int (nI (i + 1))), (1, .int (nI (zWt fi i + 1))), (0, .ref (τ.1 0))]) hx hb dX11_waitingDoubts_27 hl (k := 2) rfl (by rw [show (Int32.ofInt 1 : Int32) = nI 1 from by decide, nI_add]) (by decide) rfl (fun ls hl => ?_)
      refine lv_goto (tgt := 4) hx hb dX11_waitingDoubts_30 (by decide) ?_
      rw [zWt_y c103] at hl
      exact ih101 (d - (i + 1)) (by omega) (i + 1) _ _ _ (show d - (i + 1) = d - (i + 1) ∧ ((i + 1) ≤ d) ∧ zH D A τ fi fr ol s _ ∧ va_S A s.heap _ _ ∧ lv_has _ 3 [(0, .ref (τ.1 0)), (1, .int (nI (zWt fi (i + 1)))), (2, .int (nI (i + 1)))] from ⟨rfl, (by omega), hH, hS, lv_sub hl [2, 1, 0] rfl⟩)
set_option maxHeartbeats 4000000 in
set_option maxRecDepth 100000 in
/-- orderAt -/
theorem c_orderAt (l : Launch) (hl0 : l.stackTraces = false) (D : va_G) (A : Nat → Prop) (sad : Nat → Nat) (τ : zTy) (fi : zFi) (fr : zFr) (ol : Int64) (x : Int32) (hF : zFix τ fr) (n o : Nat) (hO : zOr τ fi fr n o) : vx_Met l yX11_orderAt wsX11_orderAt ({ frames := 6, cells := 1, slots := 6, locals := 82 }) (va_Pc [.ref (τ.1 0), .int x] (zQc D A sad τ fi fr ol)) (va_Qq (fun (r : Option Nat) (u : Unit) => ∃ q, q < o ∧ x = nI q ∧ r = some (τ.1 (500 + q))) (fun (u : Unit) (t : State) => zH D A τ fi fr ol t t.heap) A) (vx_X (fun u : Unit => True) (fun (E : String) (u : Unit) (t : State) => (E = "java/lang/IndexOutOfBoundsException" ∧ ¬ (0 ≤ x.toInt ∧ x.toInt < (o : Int))) ∧ zH D A τ fi fr ol t t.heap) A) 1 6 A := by
  refine vx_ofW (cc := cX11_orderAt) (maxL := 2) (ret := (some (.object "PostHouse$Order"))) (by decide) rfl ?_
  intro p9 e9 s m args below meth c9 s₁ B hml ht0 hv
  obtain ⟨rfl, hz, hH, hA⟩ := hv
  have hx := B.exec
  have hb := B.bytes
  have hr := B.returns
  have hts := atoms_spec (ws := wsX11_orderAt) B.pre
  have hown : s.vm.findClass RX11 = some m.cls := findClass_of_methodNamed B.named
  have hlocks := B.notSynchronized
  have hS : va_S A s.heap s.heap [] := va_S.rf
  have hl := lv_entry ([.ref (τ.1 0), .int x]) (n := 2) (Nat.le_of_ble_eq_true rfl)
  rw [lg_entry_eq]
  generalize (lg_sl ([.ref (τ.1 0), .int x]) ++ List.replicate (2 - (lg_sl ([.ref (τ.1 0), .int x])).length) Slot.unset).toArray = ls at hl ⊢
  have hl : lv_has ls 2 [(0, .ref (τ.1 0)), (1, .int x)] := hl
  have ho60 := hO.1
  have hiX11 : ∀ w ∈ u_ws RX11 TX11 16, w ∈ wsX11_orderAt := fun _ h => List.mem_cons_of_mem _ (List.mem_append_left _ (List.mem_append_right _ h))
  have hw1 := hts (.fieldLink RX11 366 "PostHouse" "orderCount" "I") (by decide +kernel)
  have hw2 := hts (.fieldLink RX11 48 "PostHouse" "orders" "[LPostHouse$Order;") (by decide +kernel)
  have hw3 := hts (.classLink RX11 322 "java/lang/IndexOutOfBoundsException") (by decide +kernel)
  have hw4 := hts (.initialized "java/lang/IndexOutOfBoundsException") (by decide +kernel)
  refine lv_iload_n hx hb dX11_orderAt_0 rfl (lv_at hl 1 rfl) ?_
  refine lv_iconst (v := nI 0) hx hb dX11_orderAt_1 (by decide) ?_
  refine lv_aload_n hx hb dX11_orderAt_2 rfl (lv_at hl 0 rfl) ?_
  refine zGetI (D := D) (ci := 11) (C := RX11) (T := TX11) (N := 16) hx hb hts hiX11 hown hH (zk_0 hF) rfl 11 (by decide) rfl hw1 (fun _ h9 => h9) dX11_orderAt_3 hO.2.1 ?_
  refine lv_iconst (v := nI 1) hx hb dX11_orderAt_6 (by decide) ?_
  refine lv_isub hx hb dX11_orderAt_7 ?_
  refine lv_topi (fun v101 ev101 => ?_)
  have iv101 : v101.toInt = ((o : Nat) : Int) - ((1 : Nat) : Int) := by rw [ev101]; exact pk_sub_toInt (by omega) (by omega)
  refine va_calli (va_runS (As := [.int x, .int (nI 0), .int v101]) (rest := []) ⟨hx, hb, hml, hown, hts⟩ (c_within l hl0 D A sad τ fi fr ol x (nI 0) v101) (cwS 3 hts gX11_orderAt_X11_within rfl rfl rfl (by decide +kernel) ⟨Nat.le_of_ble_eq_true rfl, Nat.le_of_ble_eq_true rfl⟩) ⟨zQc_bl, zQc_at hz hS hA hH⟩ rfl rfl hl.1 rfl (lv_room (Nat.le_of_ble_eq_true rfl)) dX11_orderAt_8 ⟨Nat.le_of_ble_eq_true rfl, Nat.le_of_ble_eq_true rfl⟩) hS (fun q _ h => h) (fun q h => h) (fun r102 u9 t9 H1 locs ht9 hvm9 hw hB hz1 hk1 hS => ?_)
  have hH := zMv ht9 hvm9 hB
  generalize H1 = H at hH hS ⊢
  rcases hw with ⟨rfl, hy103⟩ | ⟨rfl, hn104⟩
  · skip
    replace hy103 := zWi1 (rfl) (nI_toInt (by omega)) (iv101) hy103
    refine lv_if_ne (tgt := 25) hx hb dX11_orderAt_11 (by decide) (fun c105 => ?_) (fun c105 => absurd c105 (by decide))
    refine lv_aload_n hx hb dX11_orderAt_25 rfl (lv_at hl 0 rfl) ?_
    refine zGetR (D := D) (ci := 11) (C := RX11) (T := TX11) (N := 16) hx hb hts hiX11 hown hH (zk_0 hF) rfl 6 (by decide) rfl hw2 (fun _ h9 => h9) dX11_orderAt_26 (zr_0_6 hF) ?_
    refine lv_iload_n hx hb dX11_orderAt_29 rfl (lv_at hl 1 rfl) ?_
    obtain ⟨q, hq, rfl⟩ : ∃ q : Nat, q < o ∧ x = nI q := zNatB (by omega) (by omega)
    refine zAaldS (D := D) hx hb hH (zk_16 hF) (by decide) (by decide) rfl (zn_16 hF) (by omega) (by omega) (hO.2.2.1 q (by omega)).2.1.1 dX11_orderAt_30 ?_
    refine W.widen (k := 1) (n := 6) (by decide) (by decide) ?_
    refine vx_ret ?_
    exact W.aret (v := .ref (τ.1 (500 + q))) hx hb hr (Or.inl ⟨_, rfl⟩) (Or.inr ⟨_, rfl⟩) (fun t9 ht9 hW9 => ⟨⟨(some (τ.1 (500 + q))), (), rfl, ⟨q, hq, rfl, rfl⟩, zEnd1 hH ht9 hW9⟩, hS.F ht9⟩) hS.2.2 dX11_orderAt_31
  · skip
    replace hn104 := zWi0 (rfl) (nI_toInt (by omega)) (iv101) hn104
    refine lv_if_ne (tgt := 25) hx hb dX11_orderAt_11 (by decide) (fun c106 => absurd (by decide) c106) (fun c106 => ?_)
    obtain ⟨a107, ha107⟩ := hz.1.2.2.2.2.1 _ (List.mem_of_getElem? (i := 23) rfl)
    have hat : ∀ w ∈ vx_atS RX11 326 "java/lang/IndexOutOfBoundsException" ["java/lang/RuntimeException", "java/lang/Exception"], w.before _ s = true := vx_hat (fun w h => hts w (List.mem_cons_of_mem _ (List.mem_append_right _ h))) (B := [.castable "java/lang/IndexOutOfBoundsException" "java/lang/IndexOutOfBoundsException", .declares (Bundle.initS "java/lang/RuntimeException"), .declares (Bundle.initS "java/lang/Exception"), .declares (Bundle.initS Bundle.tN)]) (by decide +kernel) (vx_c (va_Nw.use rfl (hz.1.2.2.2.2.2.2.2.1 _ (List.mem_of_getElem? (i := 0) rfl))) (vx_c (va_Nw.use rfl (hz.1.2.2.2.2.2.2.2.2 _ (List.mem_of_getElem? (i := 0) rfl))) (vx_c (va_Nw.use rfl (hz.1.2.2.2.2.2.2.2.2 _ (List.mem_of_getElem? (i := 1) rfl))) (vx_c (va_Nw.use rfl (hz.1.2.2.2.2.2.2.2.2 _ (List.mem_of_getElem? (i := 2) rfl))) vx_n))))
    exact vx_throwSW hx hb hl0 (own := RX11) (cls := "java/lang/IndexOutOfBoundsException") (text := "no such order") (names := ["java/lang/RuntimeException", "java/lang/Exception"]) hown (by decide +kernel) (by decide +kernel) hw3 hw4 ha107 hat (by decide +kernel) hz.1.1 hz.1.2.1 hS (by rw [hml]; exact hl.1) dX11_orderAt_14 dX11_orderAt_17 dX11_orderAt_18 dX11_orderAt_21 dX11_orderAt_24 (fun x h9 => (ht0 x h9).elim) (Nat.le_of_ble_eq_true rfl) (Nat.le_of_ble_eq_true rfl) (Nat.le_of_ble_eq_true rfl) (Nat.le_of_ble_eq_true rfl) hlocks (fun t9 hvm9 h91 h92 => ⟨(), trivial, ⟨⟨rfl, by have h9 := hn104; omega⟩, zThr hH hvm9 h92⟩, zF2 hS h91 h92⟩) hS.2.2 (by decide) (by decide)
set_option maxHeartbeats 4000000 in
set_option maxRecDepth 100000 in
/-- wantAt -/
theorem c_wantAt (l : Launch) (hl0 : l.stackTraces = false) (D : va_G) (A : Nat → Prop) (sad : Nat → Nat) (τ : zTy) (fi : zFi) (fr : zFr) (ol : Int64) (x : Int32) (n o : Nat) (hO : zOr τ fi fr n o) (q : Nat) (hq : q < o) (wn : Nat) (hwn : wn ≤ 8) (hws5 : fi (500 + q) 5 = nI wn) : vx_Met l yX11_wantAt wsX11_wantAt ({ frames := 6, cells := 1, slots := 6, locals := 82 }) (va_Pc [.ref (τ.1 (500 + q)), .int x] (zQc D A sad τ fi fr ol)) (va_Qq (fun (r : Option Nat) (u : Unit) => ∃ j, j < wn ∧ x = nI j ∧ r = some (τ.1 (1000 + 8 * q + j))) (fun (u : Unit) (t : State) => zH D A τ fi fr ol t t.heap) A) (vx_X (fun u : Unit => True) (fun (E : String) (u : Unit) (t : State) => (E = "java/lang/IndexOutOfBoundsException") ∧ zH D A τ fi fr ol t t.heap) A) 1 6 A := by
  refine vx_ofW (cc := cX11_wantAt) (maxL := 2) (ret := (some (.object "PostHouse$Want"))) (by decide) rfl ?_
  intro p9 e9 s m args below meth c9 s₁ B hml ht0 hv
  obtain ⟨rfl, hz, hH, hA⟩ := hv
  have hx := B.exec
  have hb := B.bytes
  have hr := B.returns
  have hts := atoms_spec (ws := wsX11_wantAt) B.pre
  have hown : s.vm.findClass RX11 = some m.cls := findClass_of_methodNamed B.named
  have hlocks := B.notSynchronized
  have hS : va_S A s.heap s.heap [] := va_S.rf
  have hl := lv_entry ([.ref (τ.1 (500 + q)), .int x]) (n := 2) (Nat.le_of_ble_eq_true rfl)
  rw [lg_entry_eq]
  generalize (lg_sl ([.ref (τ.1 (500 + q)), .int x]) ++ List.replicate (2 - (lg_sl ([.ref (τ.1 (500 + q)), .int x])).length) Slot.unset).toArray = ls at hl ⊢
  have hl : lv_has ls 2 [(0, .ref (τ.1 (500 + q))), (1, .int x)] := hl
  have ho60 := hO.1
  have hws : ∀ j, j < wn → τ.2.2.1 (1000 + 8 * q + j) = 26 ∧ fr (600 + q) j = some (1000 + 8 * q + j) := by
    obtain ⟨w2, h1, h2, h3⟩ := (hO.2.2.1 q hq).2.2
    have h4 : w2 = wn := by
      have h5 := h2.symm.trans hws5
      exact (nI_eq (by omega) (by omega)).mp h5
    subst h4
    exact fun j hj => ⟨(h3 j hj).1, (h3 j hj).2.1⟩
  have hiX3 : ∀ w ∈ u_ws RX3 TX3 6, w ∈ wsX11_wantAt := fun _ h => List.mem_cons_of_mem _ (List.mem_append_left _ (List.mem_append_right _ h))
  have hw1 := hts (.fieldLink RX11 259 "PostHouse$Order" "size" "I") (by decide +kernel)
  have hw2 := hts (.fieldLink RX11 389 "PostHouse$Order" "wants" "[LPostHouse$Want;") (by decide +kernel)
  have hw3 := hts (.classLink RX11 322 "java/lang/IndexOutOfBoundsException") (by decide +kernel)
  have hw4 := hts (.initialized "java/lang/IndexOutOfBoundsException") (by decide +kernel)
  refine lv_iload_n hx hb dX11_wantAt_0 rfl (lv_at hl 1 rfl) ?_
  refine lv_iconst (v := nI 0) hx hb dX11_wantAt_1 (by decide) ?_
  refine lv_aload_n hx hb dX11_wantAt_2 rfl (lv_at hl 0 rfl) ?_
  refine zGetI (D := D) (ci := 3) (C := RX3) (T := TX3) (N := 6) hx hb hts hiX3 hown hH (hO.2.2.1 q (by omega)).1.1 rfl 5 (by decide) rfl hw1 (fun _ h9 => h9) dX11_wantAt_3 hws5 ?_
  refine lv_iconst (v := nI 1) hx hb dX11_wantAt_6 (by decide) ?_
  refine lv_isub hx hb dX11_wantAt_7 ?_
  refine lv_topi (fun v101 ev101 => ?_)
  have iv101 : v101.toInt = ((wn : Nat) : Int) - ((1 : Nat) : Int) := by rw [ev101]; exact pk_sub_toInt (by omega) (by omega)
  refine va_calli (va_runS (As := [.int x, .int (nI 0), .int v101]) (rest := []) ⟨hx, hb, hml, hown, hts⟩ (c_within l hl0 D A sad τ fi fr ol x (nI 0) v101) (cwS 3 hts gX11_wantAt_X11_within rfl rfl rfl (by decide +kernel) ⟨Nat.le_of_ble_eq_true rfl, Nat.le_of_ble_eq_true rfl⟩) ⟨zQc_bl, zQc_at hz hS hA hH⟩ rfl rfl hl.1 rfl (lv_room (Nat.le_of_ble_eq_true rfl)) dX11_wantAt_8 ⟨Nat.le_of_ble_eq_true rfl, Nat.le_of_ble_eq_true rfl⟩) hS (fun q _ h => h) (fun q h => h) (fun r102 u9 t9 H1 locs ht9 hvm9 hw hB hz1 hk1 hS => ?_)
  have hH := zMv ht9 hvm9 hB
  generalize H1 = H at hH hS ⊢
  rcases hw with ⟨rfl, hy103⟩ | ⟨rfl, hn104⟩
  · skip
    replace hy103 := zWi1 (rfl) (nI_toInt (by omega)) (iv101) hy103
    refine lv_if_ne (tgt := 25) hx hb dX11_wantAt_11 (by decide) (fun c105 => ?_) (fun c105 => absurd c105 (by decide))
    refine lv_aload_n hx hb dX11_wantAt_25 rfl (lv_at hl 0 rfl) ?_
    refine zGetR (D := D) (ci := 3) (C := RX3) (T := TX3) (N := 6) hx hb hts hiX3 hown hH (hO.2.2.1 q (by omega)).1.1 rfl 3 (by decide) rfl hw2 (fun _ h9 => h9) dX11_wantAt_26 (hO.2.2.1 q (by omega)).2.1.2 ?_
    refine lv_iload_n hx hb dX11_wantAt_29 rfl (lv_at hl 1 rfl) ?_
    obtain ⟨j, hj, rfl⟩ : ∃ j : Nat, j < wn ∧ x = nI j := zNatB (by omega) (by omega)
    refine zAaldS (D := D) hx hb hH (hO.2.2.1 q (by omega)).1.2.1 (by decide) (by decide) rfl (hO.2.2.1 q (by omega)).1.2.2 (by omega) (by omega) (hws j (by omega)).2 dX11_wantAt_30 ?_
    refine W.widen (k := 1) (n := 6) (by decide) (by decide) ?_
    refine vx_ret ?_
    exact W.aret (v := .ref (τ.1 (1000 + 8 * q + j))) hx hb hr (Or.inl ⟨_, rfl⟩) (Or.inr ⟨_, rfl⟩) (fun t9 ht9 hW9 => ⟨⟨(some (τ.1 (1000 + 8 * q + j))), (), rfl, ⟨j, hj, rfl, rfl⟩, zEnd1 hH ht9 hW9⟩, hS.F ht9⟩) hS.2.2 dX11_wantAt_31
  · skip
    replace hn104 := zWi0 (rfl) (nI_toInt (by omega)) (iv101) hn104
    refine lv_if_ne (tgt := 25) hx hb dX11_wantAt_11 (by decide) (fun c106 => absurd (by decide) c106) (fun c106 => ?_)
    obtain ⟨a107, ha107⟩ := hz.1.2.2.2.2.1 _ (List.mem_of_getElem? (i := 24) rfl)
    have hat : ∀ w ∈ vx_atS RX11 326 "java/lang/IndexOutOfBoundsException" ["java/lang/RuntimeException", "java/lang/Exception"], w.before _ s = true := vx_hat (fun w h => hts w (List.mem_cons_of_mem _ (List.mem_append_right _ h))) (B := [.castable "java/lang/IndexOutOfBoundsException" "java/lang/IndexOutOfBoundsException", .declares (Bundle.initS "java/lang/RuntimeException"), .declares (Bundle.initS "java/lang/Exception"), .declares (Bundle.initS Bundle.tN)]) (by decide +kernel) (vx_c (va_Nw.use rfl (hz.1.2.2.2.2.2.2.2.1 _ (List.mem_of_getElem? (i := 0) rfl))) (vx_c (va_Nw.use rfl (hz.1.2.2.2.2.2.2.2.2 _ (List.mem_of_getElem? (i := 0) rfl))) (vx_c (va_Nw.use rfl (hz.1.2.2.2.2.2.2.2.2 _ (List.mem_of_getElem? (i := 1) rfl))) (vx_c (va_Nw.use rfl (hz.1.2.2.2.2.2.2.2.2 _ (List.mem_of_getElem? (i := 2) rfl))) vx_n))))
    exact vx_throwSW hx hb hl0 (own := RX11) (cls := "java/lang/IndexOutOfBoundsException") (text := "no such want") (names := ["java/lang/RuntimeException", "java/lang/Exception"]) hown (by decide +kernel) (by decide +kernel) hw3 hw4 ha107 hat (by decide +kernel) hz.1.1 hz.1.2.1 hS (by rw [hml]; exact hl.1) dX11_wantAt_14 dX11_wantAt_17 dX11_wantAt_18 dX11_wantAt_21 dX11_wantAt_24 (fun x h9 => (ht0 x h9).elim) (Nat.le_of_ble_eq_true rfl) (Nat.le_of_ble_eq_true rfl) (Nat.le_of_ble_eq_true rfl) (Nat.le_of_ble_eq_true rfl) hlocks (fun t9 hvm9 h91 h92 => ⟨(), trivial, ⟨rfl, zThr hH hvm9 h92⟩, zF2 hS h91 h92⟩) hS.2.2 (by decide) (by decide)
set_option maxHeartbeats 4000000 in
set_option maxRecDepth 100000 in
/-- order -/
theorem c_order (l : Launch) (hl0 : l.stackTraces = false) (D : va_G) (A : Nat → Prop) (sad : Nat → Nat) (τ : zTy) (fi : zFi) (fr : zFr) (ol : Int64) (x y : Int32) (hF : zFix τ fr) (n o : Nat) (hO : zOr τ fi fr n o) : vx_Met l yX11_order wsX11_order ({ frames := 7, cells := 2, slots := 12, locals := 103 }) (va_Pc [.ref (τ.1 0), .int x, .int y] (zQc D A sad τ fi fr ol)) (va_Qi (fun (r : Int32) (u : Unit) => True) (fun (u : Unit) (t : State) => zH D A τ fi fr ol t t.heap) A) (vx_X (fun u : Unit => True) (fun (E : String) (u : Unit) (t : State) => (E = "java/lang/IndexOutOfBoundsException" ∨ E = "java/util/NoSuchElementException") ∧ zH D A τ fi fr ol t t.heap) A) 2 12 A := by
  refine vx_ofW (cc := cX11_order) (maxL := 4) (ret := (some .int)) (by decide) rfl ?_
  intro p9 e9 s m args below meth c9 s₁ B hml ht0 hv
  obtain ⟨rfl, hz, hH, hA⟩ := hv
  have hx := B.exec
  have hb := B.bytes
  have hr := B.returns
  have hts := atoms_spec (ws := wsX11_order) B.pre
  have hown : s.vm.findClass RX11 = some m.cls := findClass_of_methodNamed B.named
  have hlocks := B.notSynchronized
  have hS : va_S A s.heap s.heap [] := va_S.rf
  have hl := lv_entry ([.ref (τ.1 0), .int x, .int y]) (n := 4) (Nat.le_of_ble_eq_true rfl)
  rw [lg_entry_eq]
  generalize (lg_sl ([.ref (τ.1 0), .int x, .int y]) ++ List.replicate (4 - (lg_sl ([.ref (τ.1 0), .int x, .int y])).length) Slot.unset).toArray = ls at hl ⊢
  have hl : lv_has ls 4 [(0, .ref (τ.1 0)), (1, .int x), (2, .int y)] := hl
  have ho60 := hO.1
  have hiX3 : ∀ w ∈ u_ws RX3 TX3 6, w ∈ wsX11_order := fun _ h => List.mem_cons_of_mem _ (List.mem_append_left _ (List.mem_append_left _ (List.mem_append_left _ (List.mem_append_left _ (List.mem_append_right _ h)))))
  have hw1 := hts (.fieldLink RX11 256 "PostHouse$Order" "day" "I") (by decide +kernel)
  have hw2 := hts (.fieldLink RX11 259 "PostHouse$Order" "size" "I") (by decide +kernel)
  have hw3 := hts (.fieldLink RX11 260 "PostHouse$Order" "money" "I") (by decide +kernel)
  have hw4 := hts (.fieldLink RX11 261 "PostHouse$Order" "credit" "I") (by decide +kernel)
  have hw5 := hts (.fieldLink RX11 267 "PostHouse$Order" "post" "I") (by decide +kernel)
  have hw6 := hts (.classLink RX11 169 "java/util/NoSuchElementException") (by decide +kernel)
  have hw7 := hts (.initialized "java/util/NoSuchElementException") (by decide +kernel)
  refine lv_aload_n hx hb dX11_order_0 rfl (lv_at hl 0 rfl) ?_
  refine lv_iload_n hx hb dX11_order_1 rfl (lv_at hl 1 rfl) ?_
  refine vx_callq (vx_runV (As := [.int x]) (rest := []) ⟨hx, hb, hml, hown, hts⟩ (c_orderAt l hl0 D A sad τ fi fr ol x hF n o hO) (cwV 1 hts gX11_order_X11_orderAt rfl rfl rfl (by decide +kernel) ⟨Nat.le_of_ble_eq_true rfl, Nat.le_of_ble_eq_true rfl⟩) ⟨zQc_bl, zRecv hH (zk_0 hF) rfl, zQc_at hz hS hA hH⟩ rfl rfl hl.1 rfl (lv_room (Nat.le_of_ble_eq_true rfl)) dX11_order_2 ⟨Nat.le_of_ble_eq_true rfl, Nat.le_of_ble_eq_true rfl⟩) hS (fun q _ h => h) (fun q h => h) (fun q _ h => h) (fun E ce q9 u9 t9 H1 locs ht9 hvm9 hw hB hz1 hk1 hS hce hcv hcl => ?_) (fun r101 u9 t9 H1 locs ht9 hvm9 hw hB hz1 hk1 hS => ?_)
  · obtain ⟨hX, hB⟩ := hB
    have hH := zMv ht9 hvm9 hB
    generalize H1 = H at hH hS hce ⊢
    exact vx_out (fun x h9 => (ht0 x h9).elim) hlocks hce hcv hcl (fun t9 ht9 hvm9 => ⟨(), trivial, ⟨Or.inl hX.1, zOut hH ht9 hvm9⟩, hS.F ht9⟩) hS.2.2 (by decide) (by decide)
  · skip
    have hH := zMv ht9 hvm9 hB
    generalize H1 = H at hH hS ⊢
    refine W.widen (k := 1) (n := 6) (by decide) (by decide) ?_
    obtain ⟨q, hq, rfl, rfl⟩ := hw
    obtain ⟨wn, hwn, hws5, hws⟩ := (hO.2.2.1 q hq).2.2
    refine lv_astore_n (lv' := [(3, .ref (τ.1 (500 + q))), (0, .ref (τ.1 0)), (1, .int (nI q)), (2, .int y)]) hx hb dX11_order_5 rfl hl (by decide) rfl (fun ls hl => ?_)
    refine lv_iload_n hx hb dX11_order_6 rfl (lv_at hl 3 rfl) ?_
    rcases zCase5 y with c102 | c102 | c102 | c102 | c102 | c102 | c102
    · subst c102
      refine lv_tableIn (tgt := 44) (off := 37) hx hb dX11_order_7 (by decide) (by decide) rfl (by decide) ?_
      refine lv_aload_n hx hb dX11_order_44 rfl (lv_at hl 0 rfl) ?_
      refine zGetI (D := D) (ci := 3) (C := RX3) (T := TX3) (N := 6) hx hb hts hiX3 hown hH (hO.2.2.1 q (by omega)).1.1 rfl 0 (by decide) rfl hw1 (fun _ h9 => h9) dX11_order_45 rfl ?_
      refine W.widen (k := 2) (n := 12) (by decide) (by decide) ?_
      refine vx_ret ?_
      exact W.iret (v := fi (500 + q) 0) hx hb hr (fun t9 ht9 hW9 => ⟨⟨fi (500 + q) 0, (), rfl, trivial, zEnd1 hH ht9 hW9⟩, hS.F ht9⟩) hS.2.2 dX11_order_48
    · subst c102
      refine lv_tableIn (tgt := 49) (off := 42) hx hb dX11_order_7 (by decide) (by decide) rfl (by decide) ?_
      refine lv_aload_n hx hb dX11_order_49 rfl (lv_at hl 0 rfl) ?_
      refine zGetI (D := D) (ci := 3) (C := RX3) (T := TX3) (N := 6) hx hb hts hiX3 hown hH (hO.2.2.1 q (by omega)).1.1 rfl 5 (by decide) rfl hw2 (fun _ h9 => h9) dX11_order_50 hws5 ?_
      refine W.widen (k := 2) (n := 12) (by decide) (by decide) ?_
      refine vx_ret ?_
      exact W.iret (v := nI wn) hx hb hr (fun t9 ht9 hW9 => ⟨⟨nI wn, (), rfl, trivial, zEnd1 hH ht9 hW9⟩, hS.F ht9⟩) hS.2.2 dX11_order_53
    · subst c102
      refine lv_tableIn (tgt := 54) (off := 47) hx hb dX11_order_7 (by decide) (by decide) rfl (by decide) ?_
      refine lv_aload_n hx hb dX11_order_54 rfl (lv_at hl 0 rfl) ?_
      refine zGetI (D := D) (ci := 3) (C := RX3) (T := TX3) (N := 6) hx hb hts hiX3 hown hH (hO.2.2.1 q (by omega)).1.1 rfl 1 (by decide) rfl hw3 (fun _ h9 => h9) dX11_order_55 rfl ?_
      refine W.widen (k := 2) (n := 12) (by decide) (by decide) ?_
      refine vx_ret ?_
      exact W.iret (v := fi (500 + q) 1) hx hb hr (fun t9 ht9 hW9 => ⟨⟨fi (500 + q) 1, (), rfl, trivial, zEnd1 hH ht9 hW9⟩, hS.F ht9⟩) hS.2.2 dX11_order_58
    · subst c102
      refine lv_tableIn (tgt := 59) (off := 52) hx hb dX11_order_7 (by decide) (by decide) rfl (by decide) ?_
      refine lv_aload_n hx hb dX11_order_59 rfl (lv_at hl 0 rfl) ?_
      refine zGetI (D := D) (ci := 3) (C := RX3) (T := TX3) (N := 6) hx hb hts hiX3 hown hH (hO.2.2.1 q (by omega)).1.1 rfl 4 (by decide) rfl hw4 (fun _ h9 => h9) dX11_order_60 rfl ?_
      refine W.widen (k := 2) (n := 12) (by decide) (by decide) ?_
      refine vx_ret ?_
      exact W.iret (v := fi (500 + q) 4) hx hb hr (fun t9 ht9 hW9 => ⟨⟨fi (500 + q) 4, (), rfl, trivial, zEnd1 hH ht9 hW9⟩, hS.F ht9⟩) hS.2.2 dX11_order_63
    · subst c102
      refine lv_tableIn (tgt := 64) (off := 57) hx hb dX11_order_7 (by decide) (by decide) rfl (by decide) ?_
      refine lv_aload_n hx hb dX11_order_64 rfl (lv_at hl 0 rfl) ?_
      refine va_calli (va_runV (As := []) (rest := []) ⟨hx, hb, hml, hown, hts⟩ (c_piecesLeft l hl0 D A sad τ fi fr ol n o hO q hq) (cwV 0 hts gX11_order_X3_piecesLeft rfl rfl rfl (by decide +kernel) ⟨Nat.le_of_ble_eq_true rfl, Nat.le_of_ble_eq_true rfl⟩) ⟨zQc_bl, zRecv hH (hO.2.2.1 q (by omega)).1.1 rfl, zQc_at hz hS hA hH⟩ rfl rfl hl.1 rfl (lv_room (Nat.le_of_ble_eq_true rfl)) dX11_order_65 ⟨Nat.le_of_ble_eq_true rfl, Nat.le_of_ble_eq_true rfl⟩) hS (fun q _ h => h) (fun q h => h) (fun r103 u9 t9 H1 locs ht9 hvm9 hw hB hz1 hk1 hS => ?_)
      have hH := zMv ht9 hvm9 hB
      generalize H1 = H at hH hS ⊢
      refine W.widen (k := 2) (n := 12) (by decide) (by decide) ?_
      refine vx_ret ?_
      exact W.iret (v := r103) hx hb hr (fun t9 ht9 hW9 => ⟨⟨r103, (), rfl, trivial, zEnd1 hH ht9 hW9⟩, hS.F ht9⟩) hS.2.2 dX11_order_68
    · subst c102
      refine lv_tableIn (tgt := 69) (off := 62) hx hb dX11_order_7 (by decide) (by decide) rfl (by decide) ?_
      refine lv_aload_n hx hb dX11_order_69 rfl (lv_at hl 0 rfl) ?_
      refine zGetI (D := D) (ci := 3) (C := RX3) (T := TX3) (N := 6) hx hb hts hiX3 hown hH (hO.2.2.1 q (by omega)).1.1 rfl 2 (by decide) rfl hw5 (fun _ h9 => h9) dX11_order_70 rfl ?_
      refine W.widen (k := 2) (n := 12) (by decide) (by decide) ?_
      refine vx_ret ?_
      exact W.iret (v := fi (500 + q) 2) hx hb hr (fun t9 ht9 hW9 => ⟨⟨fi (500 + q) 2, (), rfl, trivial, zEnd1 hH ht9 hW9⟩, hS.F ht9⟩) hS.2.2 dX11_order_73
    · refine lv_tableOut (tgt := 74) hx hb dX11_order_7 c102 (by decide) ?_
      obtain ⟨a104, ha104⟩ := hz.1.2.2.2.2.1 _ (List.mem_of_getElem? (i := 14) rfl)
      have hat : ∀ w ∈ zAtN RX11 173, w.before _ s = true := vx_hat (fun w h => hts w (List.mem_cons_of_mem _ (List.mem_append_left _ (List.mem_append_right _ h)))) (B := [.castable "java/util/NoSuchElementException" "java/util/NoSuchElementException", .declares (Bundle.initS "java/lang/RuntimeException"), .declares (Bundle.initS "java/lang/Exception"), .declares (Bundle.initS Bundle.tN)]) (by decide +kernel) (vx_c (va_Nw.use rfl (hz.1.2.2.2.2.2.2.2.1 _ (List.mem_of_getElem? (i := 3) rfl))) (vx_c (va_Nw.use rfl (hz.1.2.2.2.2.2.2.2.2 _ (List.mem_of_getElem? (i := 0) rfl))) (vx_c (va_Nw.use rfl (hz.1.2.2.2.2.2.2.2.2 _ (List.mem_of_getElem? (i := 1) rfl))) (vx_c (va_Nw.use rfl (hz.1.2.2.2.2.2.2.2.2 _ (List.mem_of_getElem? (i := 2) rfl))) vx_n))))
      exact zThrowNW hx hb hl0 (own := RX11) (text := "an order has nothing else") hown hw6 hw7 ha104 hat (by decide +kernel) hz.1.1 hz.1.2.1 hS (by rw [hml]; exact hl.1) dX11_order_74 dX11_order_77 dX11_order_78 dX11_order_81 dX11_order_84 (fun x h9 => (ht0 x h9).elim) (Nat.le_of_ble_eq_true rfl) (Nat.le_of_ble_eq_true rfl) (Nat.le_of_ble_eq_true rfl) (Nat.le_of_ble_eq_true rfl) hlocks (fun t9 hvm9 h91 h92 => ⟨(), trivial, ⟨Or.inr rfl, zThr hH hvm9 h92⟩, zF2 hS h91 h92⟩) hS.2.2 (by decide) (by decide)
set_option maxHeartbeats 4000000 in
set_option maxRecDepth 100000 in
/-- want -/
theorem c_want (l : Launch) (hl0 : l.stackTraces = false) (D : va_G) (A : Nat → Prop) (sad : Nat → Nat) (τ : zTy) (fi : zFi) (fr : zFr) (ol : Int64) (x y z : Int32) (hF : zFix τ fr) (n o : Nat) (hO : zOr τ fi fr n o) (hT : zTh τ fi fr n) : vx_Met l yX11_want wsX11_want ({ frames := 7, cells := 3, slots := 18, locals := 103 }) (va_Pc [.ref (τ.1 0), .int x, .int y, .int z] (zQc D A sad τ fi fr ol)) (va_Qi (fun (r : Int32) (u : Unit) => True) (fun (u : Unit) (t : State) => zH D A τ fi fr ol t t.heap) A) (vx_X (fun u : Unit => True) (fun (E : String) (u : Unit) (t : State) => (E = "java/lang/IndexOutOfBoundsException" ∨ E = "java/util/NoSuchElementException") ∧ zH D A τ fi fr ol t t.heap) A) 3 18 A := by
  refine vx_ofW (cc := cX11_want) (maxL := 5) (ret := (some .int)) (by decide) rfl ?_
  intro p9 e9 s m args below meth c9 s₁ B hml ht0 hv
  obtain ⟨rfl, hz, hH, hA⟩ := hv
  have hx := B.exec
  have hb := B.bytes
  have hr := B.returns
  have hts := atoms_spec (ws := wsX11_want) B.pre
  have hown : s.vm.findClass RX11 = some m.cls := findClass_of_methodNamed B.named
  have hlocks := B.notSynchronized
  have hS : va_S A s.heap s.heap [] := va_S.rf
  have hl := lv_entry ([.ref (τ.1 0), .int x, .int y, .int z]) (n := 5) (Nat.le_of_ble_eq_true rfl)
  rw [lg_entry_eq]
  generalize (lg_sl ([.ref (τ.1 0), .int x, .int y, .int z]) ++ List.replicate (5 - (lg_sl ([.ref (τ.1 0), .int x, .int y, .int z])).length) Slot.unset).toArray = ls at hl ⊢
  have hl : lv_has ls 5 [(0, .ref (τ.1 0)), (1, .int x), (2, .int y), (3, .int z)] := hl
  have ho60 := hO.1
  have hn30 := hT.1
  have hiX10 : ∀ w ∈ u_ws RX10 TX10 10, w ∈ wsX11_want := fun _ h => List.mem_cons_of_mem _ (List.mem_append_left _ (List.mem_append_left _ (List.mem_append_left _ (List.mem_append_left _ (List.mem_append_left _ (List.mem_append_right _ h))))))
  have hw1 := hts (.fieldLink RX11 276 "PostHouse$Want" "thing" "LPostHouse$Thing;") (by decide +kernel)
  have hiX8 : ∀ w ∈ u_ws RX8 TX8 10, w ∈ wsX11_want := fun _ h => List.mem_cons_of_mem _ (List.mem_append_left _ (List.mem_append_left _ (List.mem_append_left _ (List.mem_append_left _ (List.mem_append_right _ h)))))
  have hw3 := hts (.fieldLink RX11 181 "PostHouse$Thing" "number" "I") (by decide +kernel)
  have hw4 := hts (.fieldLink RX11 282 "PostHouse$Want" "many" "I") (by decide +kernel)
  have hw5 := hts (.fieldLink RX11 285 "PostHouse$Want" "price" "I") (by decide +kernel)
  have hw6 := hts (.fieldLink RX11 288 "PostHouse$Want" "sent" "I") (by decide +kernel)
  have hw7 := hts (.fieldLink RX11 291 "PostHouse$Want" "placed" "I") (by decide +kernel)
  have hw8 := hts (.fieldLink RX11 294 "PostHouse$Want" "cancelled" "I") (by decide +kernel)
  have hw9 := hts (.fieldLink RX11 297 "PostHouse$Want" "sentBack" "I") (by decide +kernel)
  have hw10 := hts (.fieldLink RX11 300 "PostHouse$Want" "placedBack" "I") (by decide +kernel)
  have hw11 := hts (.fieldLink RX11 303 "PostHouse$Want" "cameLast" "I") (by decide +kernel)
  have hw12 := hts (.fieldLink RX11 306 "PostHouse$Want" "other" "LPostHouse$Thing;") (by decide +kernel)
  have hw13 := hts (.classLink RX11 169 "java/util/NoSuchElementException") (by decide +kernel)
  have hw14 := hts (.initialized "java/util/NoSuchElementException") (by decide +kernel)
  refine lv_aload_n hx hb dX11_want_0 rfl (lv_at hl 0 rfl) ?_
  refine lv_iload_n hx hb dX11_want_1 rfl (lv_at hl 1 rfl) ?_
  refine vx_callq (vx_runV (As := [.int x]) (rest := []) ⟨hx, hb, hml, hown, hts⟩ (c_orderAt l hl0 D A sad τ fi fr ol x hF n o hO) (cwV 1 hts gX11_want_X11_orderAt rfl rfl rfl (by decide +kernel) ⟨Nat.le_of_ble_eq_true rfl, Nat.le_of_ble_eq_true rfl⟩) ⟨zQc_bl, zRecv hH (zk_0 hF) rfl, zQc_at hz hS hA hH⟩ rfl rfl hl.1 rfl (lv_room (Nat.le_of_ble_eq_true rfl)) dX11_want_2 ⟨Nat.le_of_ble_eq_true rfl, Nat.le_of_ble_eq_true rfl⟩) hS (fun q _ h => h) (fun q h => h) (fun q _ h => h) (fun E ce q9 u9 t9 H1 locs ht9 hvm9 hw hB hz1 hk1 hS hce hcv hcl => ?_) (fun r101 u9 t9 H1 locs ht9 hvm9 hw hB hz1 hk1 hS => ?_)
  · obtain ⟨hX, hB⟩ := hB
    have hH := zMv ht9 hvm9 hB
    generalize H1 = H at hH hS hce ⊢
    exact vx_out (fun x h9 => (ht0 x h9).elim) hlocks hce hcv hcl (fun t9 ht9 hvm9 => ⟨(), trivial, ⟨Or.inl hX.1, zOut hH ht9 hvm9⟩, hS.F ht9⟩) hS.2.2 (by decide) (by decide)
  · skip
    have hH := zMv ht9 hvm9 hB
    generalize H1 = H at hH hS ⊢
    refine W.widen (k := 1) (n := 6) (by decide) (by decide) ?_
    obtain ⟨q, hq, rfl, rfl⟩ := hw
    obtain ⟨wn, hwn, hws5, hws⟩ := (hO.2.2.1 q hq).2.2
    refine lv_iload_n hx hb dX11_want_5 rfl (lv_at hl 2 rfl) ?_
    refine vx_callq (vx_runS (As := [.ref (τ.1 (500 + q)), .int y]) (rest := []) ⟨hx, hb, hml, hown, hts⟩ (c_wantAt l hl0 D A sad τ fi fr ol y n o hO q hq wn hwn hws5) (cwS 2 hts gX11_want_X11_wantAt rfl rfl rfl (by decide +kernel) ⟨Nat.le_of_ble_eq_true rfl, Nat.le_of_ble_eq_true rfl⟩) ⟨zQc_bl, zQc_at hz hS hA hH⟩ rfl rfl hl.1 rfl (lv_room (Nat.le_of_ble_eq_true rfl)) dX11_want_6 ⟨Nat.le_of_ble_eq_true rfl, Nat.le_of_ble_eq_true rfl⟩) hS (fun q _ h => h) (fun q h => h) (fun q _ h => h) (fun E ce q9 u9 t9 H1 locs ht9 hvm9 hw hB hz1 hk1 hS hce hcv hcl => ?_) (fun r102 u9 t9 H1 locs ht9 hvm9 hw hB hz1 hk1 hS => ?_)
    · obtain ⟨hX, hB⟩ := hB
      have hH := zMv ht9 hvm9 hB
      generalize H1 = H at hH hS hce ⊢
      exact vx_out (fun x h9 => (ht0 x h9).elim) hlocks hce hcv hcl (fun t9 ht9 hvm9 => ⟨(), trivial, ⟨Or.inl hX, zOut hH ht9 hvm9⟩, hS.F ht9⟩) hS.2.2 (by decide) (by decide)
    · skip
      have hH := zMv ht9 hvm9 hB
      generalize H1 = H at hH hS ⊢
      refine W.widen (k := 2) (n := 12) (by decide) (by decide) ?_
      obtain ⟨j, hj, rfl, rfl⟩ := hw
      obtain ⟨wk, -, ⟨wt, hwt, wo0⟩, wo9⟩ := hws j hj
      refine lv_astore (lv' := [(4, .ref (τ.1 (1000 + 8 * q + j))), (0, .ref (τ.1 0)), (1, .int (nI q)), (2, .int (nI j)), (3, .int z)]) hx hb dX11_want_9 hl (by decide) rfl (fun ls hl => ?_)
      refine lv_iload_n hx hb dX11_want_11 rfl (lv_at hl 4 rfl) ?_
      rcases zCase8 z with c103 | c103 | c103 | c103 | c103 | c103 | c103 | c103 | c103 | c103
      · subst c103
        refine lv_tableIn (tgt := 64) (off := 52) hx hb dX11_want_12 (by decide) (by decide) rfl (by decide) ?_
        refine lv_aload hx hb dX11_want_64 (lv_at hl 0 rfl) ?_
        refine zGetR (D := D) (ci := 10) (C := RX10) (T := TX10) (N := 10) hx hb hts hiX10 hown hH wk rfl 0 (by decide) rfl hw1 (fun _ h9 => h9) dX11_want_66 wo0 ?_
        refine zGetI (D := D) (ci := 8) (C := RX8) (T := TX8) (N := 10) hx hb hts hiX8 hown hH (hT.2.2.1 wt (by omega)).1.1 rfl 0 (by decide) rfl hw3 (fun _ h9 => h9) dX11_want_69 rfl ?_
        refine W.widen (k := 3) (n := 18) (by decide) (by decide) ?_
        refine vx_ret ?_
        exact W.iret (v := fi (300 + wt) 0) hx hb hr (fun t9 ht9 hW9 => ⟨⟨fi (300 + wt) 0, (), rfl, trivial, zEnd1 hH ht9 hW9⟩, hS.F ht9⟩) hS.2.2 dX11_want_72
      · subst c103
        refine lv_tableIn (tgt := 73) (off := 61) hx hb dX11_want_12 (by decide) (by decide) rfl (by decide) ?_
        refine lv_aload hx hb dX11_want_73 (lv_at hl 0 rfl) ?_
        refine zGetI (D := D) (ci := 10) (C := RX10) (T := TX10) (N := 10) hx hb hts hiX10 hown hH wk rfl 1 (by decide) rfl hw4 (fun _ h9 => h9) dX11_want_75 rfl ?_
        refine W.widen (k := 3) (n := 18) (by decide) (by decide) ?_
        refine vx_ret ?_
        exact W.iret (v := fi (1000 + 8 * q + j) 1) hx hb hr (fun t9 ht9 hW9 => ⟨⟨fi (1000 + 8 * q + j) 1, (), rfl, trivial, zEnd1 hH ht9 hW9⟩, hS.F ht9⟩) hS.2.2 dX11_want_78
      · subst c103
        refine lv_tableIn (tgt := 79) (off := 67) hx hb dX11_want_12 (by decide) (by decide) rfl (by decide) ?_
        refine lv_aload hx hb dX11_want_79 (lv_at hl 0 rfl) ?_
        refine zGetI (D := D) (ci := 10) (C := RX10) (T := TX10) (N := 10) hx hb hts hiX10 hown hH wk rfl 2 (by decide) rfl hw5 (fun _ h9 => h9) dX11_want_81 rfl ?_
        refine W.widen (k := 3) (n := 18) (by decide) (by decide) ?_
        refine vx_ret ?_
        exact W.iret (v := fi (1000 + 8 * q + j) 2) hx hb hr (fun t9 ht9 hW9 => ⟨⟨fi (1000 + 8 * q + j) 2, (), rfl, trivial, zEnd1 hH ht9 hW9⟩, hS.F ht9⟩) hS.2.2 dX11_want_84
      · subst c103
        refine lv_tableIn (tgt := 85) (off := 73) hx hb dX11_want_12 (by decide) (by decide) rfl (by decide) ?_
        refine lv_aload hx hb dX11_want_85 (lv_at hl 0 rfl) ?_
        refine zGetI (D := D) (ci := 10) (C := RX10) (T := TX10) (N := 10) hx hb hts hiX10 hown hH wk rfl 3 (by decide) rfl hw6 (fun _ h9 => h9) dX11_want_87 rfl ?_
        refine W.widen (k := 3) (n := 18) (by decide) (by decide) ?_
        refine vx_ret ?_
        exact W.iret (v := fi (1000 + 8 * q + j) 3) hx hb hr (fun t9 ht9 hW9 => ⟨⟨fi (1000 + 8 * q + j) 3, (), rfl, trivial, zEnd1 hH ht9 hW9⟩, hS.F ht9⟩) hS.2.2 dX11_want_90
      · subst c103
        refine lv_tableIn (tgt := 91) (off := 79) hx hb dX11_want_12 (by decide) (by decide) rfl (by decide) ?_
        refine lv_aload hx hb dX11_want_91 (lv_at hl 0 rfl) ?_
        refine zGetI (D := D) (ci := 10) (C := RX10) (T := TX10) (N := 10) hx hb hts hiX10 hown hH wk rfl 4 (by decide) rfl hw7 (fun _ h9 => h9) dX11_want_93 rfl ?_
        refine W.widen (k := 3) (n := 18) (by decide) (by decide) ?_
        refine vx_ret ?_
        exact W.iret (v := fi (1000 + 8 * q + j) 4) hx hb hr (fun t9 ht9 hW9 => ⟨⟨fi (1000 + 8 * q + j) 4, (), rfl, trivial, zEnd1 hH ht9 hW9⟩, hS.F ht9⟩) hS.2.2 dX11_want_96
      · subst c103
        refine lv_tableIn (tgt := 97) (off := 85) hx hb dX11_want_12 (by decide) (by decide) rfl (by decide) ?_
        refine lv_aload hx hb dX11_want_97 (lv_at hl 0 rfl) ?_
        refine zGetI (D := D) (ci := 10) (C := RX10) (T := TX10) (N := 10) hx hb hts hiX10 hown hH wk rfl 5 (by decide) rfl hw8 (fun _ h9 => h9) dX11_want_99 rfl ?_
        refine W.widen (k := 3) (n := 18) (by decide) (by decide) ?_
        refine vx_ret ?_
        exact W.iret (v := fi (1000 + 8 * q + j) 5) hx hb hr (fun t9 ht9 hW9 => ⟨⟨fi (1000 + 8 * q + j) 5, (), rfl, trivial, zEnd1 hH ht9 hW9⟩, hS.F ht9⟩) hS.2.2 dX11_want_102
      · subst c103
        refine lv_tableIn (tgt := 103) (off := 91) hx hb dX11_want_12 (by decide) (by decide) rfl (by decide) ?_
        refine lv_aload hx hb dX11_want_103 (lv_at hl 0 rfl) ?_
        refine zGetI (D := D) (ci := 10) (C := RX10) (T := TX10) (N := 10) hx hb hts hiX10 hown hH wk rfl 6 (by decide) rfl hw9 (fun _ h9 => h9) dX11_want_105 rfl ?_
        refine lv_aload hx hb dX11_want_108 (lv_at hl 0 rfl) ?_
        refine zGetI (D := D) (ci := 10) (C := RX10) (T := TX10) (N := 10) hx hb hts hiX10 hown hH wk rfl 7 (by decide) rfl hw10 (fun _ h9 => h9) dX11_want_110 rfl ?_
        refine lv_iadd hx hb dX11_want_113 ?_
        refine lv_topi (fun v104 ev104 => ?_)
        refine W.widen (k := 3) (n := 18) (by decide) (by decide) ?_
        refine vx_ret ?_
        exact W.iret (v := v104) hx hb hr (fun t9 ht9 hW9 => ⟨⟨v104, (), rfl, trivial, zEnd1 hH ht9 hW9⟩, hS.F ht9⟩) hS.2.2 dX11_want_114
      · subst c103
        refine lv_tableIn (tgt := 115) (off := 103) hx hb dX11_want_12 (by decide) (by decide) rfl (by decide) ?_
        refine lv_aload hx hb dX11_want_115 (lv_at hl 0 rfl) ?_
        refine zGetI (D := D) (ci := 10) (C := RX10) (T := TX10) (N := 10) hx hb hts hiX10 hown hH wk rfl 8 (by decide) rfl hw11 (fun _ h9 => h9) dX11_want_117 rfl ?_
        refine W.widen (k := 3) (n := 18) (by decide) (by decide) ?_
        refine vx_ret ?_
        exact W.iret (v := fi (1000 + 8 * q + j) 8) hx hb hr (fun t9 ht9 hW9 => ⟨⟨fi (1000 + 8 * q + j) 8, (), rfl, trivial, zEnd1 hH ht9 hW9⟩, hS.F ht9⟩) hS.2.2 dX11_want_120
      · subst c103
        refine lv_tableIn (tgt := 121) (off := 109) hx hb dX11_want_12 (by decide) (by decide) rfl (by decide) ?_
        rcases wo9 with wo9 | ⟨t2, ht2, wo9⟩
        · skip
          refine lv_aload hx hb dX11_want_121 (lv_at hl 0 rfl) ?_
          refine zGetN (D := D) (ci := 10) (C := RX10) (T := TX10) (N := 10) hx hb hts hiX10 hown hH wk rfl 9 (by decide) rfl hw12 (fun _ h9 => h9) dX11_want_123 wo9 ?_
          refine lv_ifnonnullN hx hb dX11_want_126 ?_
          refine lv_iconst (v := (-1)) hx hb dX11_want_129 (by decide) ?_
          refine lv_goto (tgt := 141) hx hb dX11_want_130 (by decide) ?_
          refine W.widen (k := 3) (n := 18) (by decide) (by decide) ?_
          refine vx_ret ?_
          exact W.iret (v := (-1)) hx hb hr (fun t9 ht9 hW9 => ⟨⟨(-1), (), rfl, trivial, zEnd1 hH ht9 hW9⟩, hS.F ht9⟩) hS.2.2 dX11_want_141
        · skip
          refine lv_aload hx hb dX11_want_121 (lv_at hl 0 rfl) ?_
          refine zGetR (D := D) (ci := 10) (C := RX10) (T := TX10) (N := 10) hx hb hts hiX10 hown hH wk rfl 9 (by decide) rfl hw12 (fun _ h9 => h9) dX11_want_123 wo9 ?_
          refine lv_ifnonnull (tgt := 133) hx hb dX11_want_126 (by decide) ?_
          refine lv_aload hx hb dX11_want_133 (lv_at hl 0 rfl) ?_
          refine zGetR (D := D) (ci := 10) (C := RX10) (T := TX10) (N := 10) hx hb hts hiX10 hown hH wk rfl 9 (by decide) rfl hw12 (fun _ h9 => h9) dX11_want_135 wo9 ?_
          refine zGetI (D := D) (ci := 8) (C := RX8) (T := TX8) (N := 10) hx hb hts hiX8 hown hH (hT.2.2.1 t2 (by omega)).1.1 rfl 0 (by decide) rfl hw3 (fun _ h9 => h9) dX11_want_138 rfl ?_
          refine W.widen (k := 3) (n := 18) (by decide) (by decide) ?_
          refine vx_ret ?_
          exact W.iret (v := fi (300 + t2) 0) hx hb hr (fun t9 ht9 hW9 => ⟨⟨fi (300 + t2) 0, (), rfl, trivial, zEnd1 hH ht9 hW9⟩, hS.F ht9⟩) hS.2.2 dX11_want_141
      · refine lv_tableOut (tgt := 142) hx hb dX11_want_12 c103 (by decide) ?_
        obtain ⟨a105, ha105⟩ := hz.1.2.2.2.2.1 _ (List.mem_of_getElem? (i := 15) rfl)
        have hat : ∀ w ∈ zAtN RX11 173, w.before _ s = true := vx_hat (fun w h => hts w (List.mem_cons_of_mem _ (List.mem_append_left _ (List.mem_append_right _ h)))) (B := [.castable "java/util/NoSuchElementException" "java/util/NoSuchElementException", .declares (Bundle.initS "java/lang/RuntimeException"), .declares (Bundle.initS "java/lang/Exception"), .declares (Bundle.initS Bundle.tN)]) (by decide +kernel) (vx_c (va_Nw.use rfl (hz.1.2.2.2.2.2.2.2.1 _ (List.mem_of_getElem? (i := 3) rfl))) (vx_c (va_Nw.use rfl (hz.1.2.2.2.2.2.2.2.2 _ (List.mem_of_getElem? (i := 0) rfl))) (vx_c (va_Nw.use rfl (hz.1.2.2.2.2.2.2.2.2 _ (List.mem_of_getElem? (i := 1) rfl))) (vx_c (va_Nw.use rfl (hz.1.2.2.2.2.2.2.2.2 _ (List.mem_of_getElem? (i := 2) rfl))) vx_n))))
        exact zThrowNW hx hb hl0 (own := RX11) (text := "a want has nothing else") hown hw13 hw14 ha105 hat (by decide +kernel) hz.1.1 hz.1.2.1 hS (by rw [hml]; exact hl.1) dX11_want_142 dX11_want_145 dX11_want_146 dX11_want_149 dX11_want_152 (fun x h9 => (ht0 x h9).elim) (Nat.le_of_ble_eq_true rfl) (Nat.le_of_ble_eq_true rfl) (Nat.le_of_ble_eq_true rfl) (Nat.le_of_ble_eq_true rfl) hlocks (fun t9 hvm9 h91 h92 => ⟨(), trivial, ⟨Or.inr rfl, zThr hH hvm9 h92⟩, zF2 hS h91 h92⟩) hS.2.2 (by decide) (by decide)
