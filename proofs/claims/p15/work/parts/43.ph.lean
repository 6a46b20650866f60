/-- a thing has come to the book -/
def zAdd (τ : zTy) (fi : zFi) (fr : zFr) (n : Nat) (x1 x2 x3 x4 : Int32) (τ' : zTy) (fi' : zFi) (fr' : zFr) : Prop :=
  zTh τ' fi' fr' (n + 1) ∧ zFix τ' fr' ∧ (∀ i, ¬ (i = 300 + n ∨ i = 340 + n ∨ i = 380 + n ∨ i = 420 + n) → τ'.1 i = τ.1 i ∧ τ'.2.2.1 i = τ.2.2.1 i ∧ τ'.2.2.2 i = τ.2.2.2 i) ∧
  (∀ i k, ¬ (i = 300 + n ∨ i = 340 + n ∨ i = 380 + n ∨ i = 420 + n ∨ (i = 3 ∧ k = 1)) → fi' i k = fi i k) ∧ (∀ i k, ¬ (i = 300 + n ∨ i = 340 + n ∨ i = 380 + n ∨ i = 420 + n ∨ (i = 4 ∧ k = n)) → fr' i k = fr i k) ∧
  fi' (300 + n) 1 = x1 ∧ fi' (300 + n) 2 = x2 ∧ fi' (300 + n) 3 = x3 ∧ fi' (300 + n) 4 = x4 ∧ fi' (300 + n) 6 = 0
theorem zAdd.of {τ τ1 τ2 : zTy} {fi f1 f2 f3 : zFi} {fr g1 g2 g3 : zFr} {n : Nat} {x1 x2 x3 x4 : Int32} (hT : zTh τ fi fr n) (hn : n < 30) (ha : ∀ i, i ≠ 300 + n → τ1.1 i = τ.1 i) (hk : τ1.2.2.1 (300 + n) = 24) (hb : ∀ i, i ≠ 300 + n → τ1.2.2.1 i = τ.2.2.1 i ∧ τ1.2.2.2 i = τ.2.2.2 i) (ef : f1 = va_up fi (300 + n) (fun _ => 0)) (eg : g1 = va_up fr (300 + n) (fun _ => none)) (hN : zThNew τ1 f1 g1 n (nI n) x1 x2 x3 x4 τ2 f2 g2) (e3 : g3 = zur g2 4 n (some (300 + n))) (e4 : f3 = zu f2 3 1 (nI (n + 1))) (hF : zFix τ2 g3) : zAdd τ fi fr n x1 x2 x3 x4 τ2 f3 g3 := by
  obtain ⟨n1, ⟨⟨n2, n3, n4⟩, n5, n6, n7⟩, -, ⟨a0, a1, a2, a3, a4⟩, n8, ⟨r7, r8, r9⟩, n9⟩ := hN
  have T : ∀ i, ¬ (i = 300 + n ∨ i = 340 + n ∨ i = 380 + n ∨ i = 420 + n) → τ2.1 i = τ.1 i ∧ τ2.2.2.1 i = τ.2.2.1 i ∧ τ2.2.2.2 i = τ.2.2.2 i := fun i h => by
    obtain ⟨q1, q2, q3⟩ := n1 i (by omega) (by omega) (by omega)
    exact ⟨by rw [q1, ha i (by omega)], by rw [q2, (hb i (by omega)).1], by rw [q3, (hb i (by omega)).2]⟩
  have F : ∀ i k, ¬ (i = 300 + n ∨ i = 340 + n ∨ i = 380 + n ∨ i = 420 + n ∨ (i = 3 ∧ k = 1)) → f3 i k = fi i k := fun i k h => by
    rw [e4, zu_n (by omega), n8 i k (by omega) (by omega) (by omega) (by omega), ef, va_up_ne _ _ (by omega)]
  have G : ∀ i k, ¬ (i = 300 + n ∨ i = 340 + n ∨ i = 380 + n ∨ i = 420 + n ∨ (i = 4 ∧ k = n)) → g3 i k = fr i k := fun i k h => by
    rw [e3, zur_n (by omega), n9 i k (by omega) (by omega) (by omega) (by omega), eg, va_up_ne _ _ (by omega)]
  have f0 : ∀ k, k ≠ 1 → f3 (300 + n) k = f2 (300 + n) k := fun k h => by rw [e4, zu_n (by omega)]
  have f00 : ∀ k, f3 (300 + n) k = f2 (300 + n) k := fun k => by rw [e4, zu_n (by omega)]
  have h6 : f3 (300 + n) 6 = 0 := by rw [f00, n8 _ _ (by omega) (by omega) (by omega) (by omega), ef, va_up_self]
  refine ⟨⟨by omega, by rw [e4]; exact zu_s, fun t ht => ?_, fun t h1 h2 => ?_⟩, hF, T, F, G, by rw [f00]; exact a1, by rw [f00]; exact a2, by rw [f00]; exact a3, by rw [f00]; exact a4, h6⟩
  · by_cases htn : t = n
    · subst htn
      exact ⟨⟨by rw [(n1 _ (by omega) (by omega) (by omega)).2.1]; exact hk, n2, n3, n4⟩, ⟨n5, n6, n7⟩, ⟨by rw [e3, zur_n (by omega)]; exact r7, by rw [e3, zur_n (by omega)]; exact r8, by rw [e3, zur_n (by omega)]; exact r9, by rw [e3]; exact zur_s⟩, by rw [f00]; exact a0, 0, by omega, h6⟩
    · obtain ⟨⟨b1, b2, b3, b4⟩, ⟨c1, c2, c3⟩, ⟨d1, d2, d3, d4⟩, d5, k, d6, d7⟩ := hT.2.2.1 t (by omega)
      exact ⟨⟨by rw [(T _ (by omega)).2.1]; exact b1, by rw [(T _ (by omega)).2.1]; exact b2, by rw [(T _ (by omega)).2.1]; exact b3, by rw [(T _ (by omega)).2.1]; exact b4⟩, ⟨by rw [(T _ (by omega)).2.2]; exact c1, by rw [(T _ (by omega)).2.2]; exact c2, by rw [(T _ (by omega)).2.2]; exact c3⟩, ⟨by rw [G _ _ (by omega)]; exact d1, by rw [G _ _ (by omega)]; exact d2, by rw [G _ _ (by omega)]; exact d3, by rw [G _ _ (by omega)]; exact d4⟩, by rw [F _ _ (by omega)]; exact d5, k, d6, by rw [F _ _ (by omega)]; exact d7⟩
  · obtain ⟨b1, b2, b3, b4⟩ := hT.2.2.2 t (by omega) h2
    exact ⟨by rw [(T _ (by omega)).2.1]; exact b1, by rw [(T _ (by omega)).2.1]; exact b2, by rw [(T _ (by omega)).2.1]; exact b3, by rw [(T _ (by omega)).2.1]; exact b4⟩
set_option maxHeartbeats 4000000 in
set_option maxRecDepth 100000 in
/-- Book.add -/
theorem c_badd (l : Launch) (hl0 : l.stackTraces = false) (D : va_G) (A : Nat → Prop) (sad : Nat → Nat) (τ : zTy) (fi : zFi) (fr : zFr) (ol : Int64) (hF : zFix τ fr) (n : Nat) (hT : zTh τ fi fr n) (hn : n < 30) (x1 x2 x3 x4 : Int32) : Met l yX0_add wsX0_add ({ frames := 2, cells := 4, slots := 22, locals := 37 }) (va_Pc [.ref (τ.1 3), .int x1, .int x2, .int x3, .int x4] (zQc D A sad τ fi fr ol)) (va_Qi (fun (r : Int32) (u : zTy × zFi × zFr) => r = nI n ∧ zAdd τ fi fr n x1 x2 x3 x4 u.1 u.2.1 u.2.2) (fun (u : zTy × zFi × zFr) (t : State) => zH D A u.1 u.2.1 u.2.2 ol t t.heap) A) 4 22 A := by
  refine Met.ofW (cc := cX0_add) (maxL := 5) (ret := (some .int)) (by decide) rfl ?_
  intro p9 e9 s m args below meth c9 s₁ B hml hv
  obtain ⟨rfl, hz, hH, hA⟩ := hv
  have hx := B.exec
  have hb := B.bytes
  have hr := B.returns
  have hts := atoms_spec (ws := wsX0_add) B.pre
  have hown : s.vm.findClass RX0 = some m.cls := findClass_of_methodNamed B.named
  have hlocks := B.notSynchronized
  have hS : va_S A s.heap s.heap [] := va_S.rf
  have hl := lv_entry ([.ref (τ.1 3), .int x1, .int x2, .int x3, .int x4]) (n := 5) (Nat.le_of_ble_eq_true rfl)
  rw [lg_entry_eq]
  generalize (lg_sl ([.ref (τ.1 3), .int x1, .int x2, .int x3, .int x4]) ++ List.replicate (5 - (lg_sl ([.ref (τ.1 3), .int x1, .int x2, .int x3, .int x4])).length) Slot.unset).toArray = ls at hl ⊢
  have hl : lv_has ls 5 [(0, .ref (τ.1 3)), (1, .int x1), (2, .int x2), (3, .int x3), (4, .int x4)] := hl
  have hiX0 : ∀ w ∈ u_ws RX0 TX0 2, w ∈ wsX0_add := fun _ h => List.mem_cons_of_mem _ (List.mem_append_left _ (List.mem_append_right _ h))
  have hw1 := hts (.fieldLink RX0 17 "PostHouse$Book" "size" "I") (by decide +kernel)
  have hw2 := hts (.fieldLink RX0 11 "PostHouse$Book" "things" "[LPostHouse$Thing;") (by decide +kernel)
  have hiX8 : ∀ w ∈ u_ws RX8 TX8 10, w ∈ wsX0_add := fun _ h => List.mem_cons_of_mem _ (List.mem_append_right _ h)
  have hw4 := hts (.classLink RX0 9 RX8) (by decide +kernel)
  have hw5 := hts (.instantiable RX8 10) (by decide +kernel)
  have hw6 := hts (.initialized RX8) (by decide +kernel)
  have hw7 := hts (.methodLink RX0 21 yX8_init) (by decide +kernel)
  have hw8 := hts (.instanceMethod yX8_init) (by decide +kernel)
  refine lv_aload_n hx hb dX0_add_0 rfl (lv_at hl 0 rfl) ?_
  refine zGetI (D := D) (ci := 0) (C := RX0) (T := TX0) (N := 2) hx hb hts hiX0 hown hH (zk_3 hF) rfl 1 (by decide) rfl hw1 (fun _ h9 => h9) dX0_add_1 hT.2.1 ?_
  refine lv_bipush (v := nI 30) hx hb dX0_add_4 (by decide) ?_
  refine lv_icmp_lt (tgt := 11) hx hb dX0_add_6 (by decide) (fun c101 => ?_) (fun c101 => False.elim (by have zc101 := zc_nlt (nI_toInt (by omega)) (nI_toInt (by omega)) c101; omega))
  refine lv_aload_n hx hb dX0_add_11 rfl (lv_at hl 0 rfl) ?_
  refine zGetR (D := D) (ci := 0) (C := RX0) (T := TX0) (N := 2) hx hb hts hiX0 hown hH (zk_3 hF) rfl 0 (by decide) rfl hw2 (fun _ h9 => h9) dX0_add_12 (zr_3_0 hF) ?_
  refine lv_aload_n hx hb dX0_add_15 rfl (lv_at hl 0 rfl) ?_
  refine zGetI (D := D) (ci := 0) (C := RX0) (T := TX0) (N := 2) hx hb hts hiX0 hown hH (zk_3 hF) rfl 1 (by decide) rfl hw1 (fun _ h9 => h9) dX0_add_16 hT.2.1 ?_
  refine zNew (D := D) (fs := [.int 0, .int 0, .int 0, .int 0, .int 0, .int 0, .int 0, .null, .null, .null]) (ci := 8) (C := RX8) (T := TX8) (N := 10) hx hb hts hiX8 tyX8 tyX8_ok hown hw4 hw5 hw6 hH hS hA rfl (300 + n) (hT.2.2.2 n (Nat.le_refl _) (by omega)).1 (fun _ => rfl) (by decide) (Nat.le_of_ble_eq_true rfl) (Nat.le_of_ble_eq_true rfl) dX0_add_19 (fun q9 c9 H hH8 hS => ?_)
  obtain ⟨τ102, eτ102⟩ : ∃ t9 : zTy, t9 = (va_up τ.1 (300 + n) q9, va_up τ.2.1 (300 + n) c9, va_up τ.2.2.1 (300 + n) 24, va_up τ.2.2.2 (300 + n) 0) := ⟨_, rfl⟩
  obtain ⟨f103, ef103⟩ : ∃ f9 : zFi, f9 = va_up fi (300 + n) (fun _ => 0) := ⟨_, rfl⟩
  obtain ⟨g104, eg104⟩ : ∃ f9 : zFr, f9 = va_up fr (300 + n) (fun _ => none) := ⟨_, rfl⟩
  have hH : zH D A τ102 f103 g104 ol s H := by rw [eτ102, ef103, eg104]; exact hH8
  clear hH8
  have hqτ102 : τ102.1 (300 + n) = q9 := by rw [eτ102]; exact va_up_self _ _ _
  have haτ102 : ∀ i, i ≠ 300 + n → τ102.1 i = τ.1 i := fun i h => by rw [eτ102]; exact va_up_ne _ _ h
  have hkτ102 : τ102.2.2.1 (300 + n) = 24 := by rw [eτ102]; exact va_up_self _ _ _
  have hnτ102 : τ102.2.2.2 (300 + n) = 0 := by rw [eτ102]; exact va_up_self _ _ _
  have hbτ102 : ∀ i, i ≠ 300 + n → τ102.2.2.1 i = τ.2.2.1 i ∧ τ102.2.2.2 i = τ.2.2.2 i := fun i h => by rw [eτ102]; exact ⟨va_up_ne _ _ h, va_up_ne _ _ h⟩
  have hFτ102 : zFix τ102 g104 := by rw [eτ102, eg104]; exact hF.up (by omega)
  clear eτ102
  subst hqτ102
  rw [show τ.1 3 = τ102.1 3 from (haτ102 3 (by omega)).symm] at hl
  refine W.eq (g2 := F0 m 22 ls [.ref (τ102.1 (300 + n)), .int (nI n), .ref (τ102.1 4)]) (by rw [haτ102 4 (by omega)]) ?_
  have q105 : f103 3 1 = nI n := by rw [ef103, va_up_ne _ _ (by omega)]; exact hT.2.1
  refine W.widen (k := 1) (n := 10) (by decide) (by decide) ?_
  refine lv_dup hx hb dX0_add_22 rfl ?_
  refine lv_aload_n hx hb dX0_add_23 rfl (lv_at hl 0 rfl) ?_
  refine zGetI (D := D) (ci := 0) (C := RX0) (T := TX0) (N := 2) hx hb hts hiX0 hown hH (zk_3 hFτ102) rfl 1 (by decide) rfl hw1 (fun _ h9 => h9) dX0_add_24 q105 ?_
  refine lv_iload_n hx hb dX0_add_27 rfl (lv_at hl 1 rfl) ?_
  refine lv_iload_n hx hb dX0_add_28 rfl (lv_at hl 2 rfl) ?_
  refine lv_iload_n hx hb dX0_add_29 rfl (lv_at hl 3 rfl) ?_
  refine lv_iload hx hb dX0_add_30 (lv_at hl 4 rfl) ?_
  refine va_callv (va_runI (As := [.int (nI n), .int x1, .int x2, .int x3, .int x4]) (rest := [.ref (τ102.1 (300 + n)), .int (nI n), .ref (τ102.1 4)]) ⟨hx, hb, hml, hown, hts⟩ (c_Thing_init l hl0 D A sad τ102 f103 g104 ol hFτ102 n hkτ102 (⟨(by rw [(hbτ102 (340 + n) (by omega)).1]; exact (hT.2.2.2 n (Nat.le_refl _) (by omega)).2.1), (by rw [(hbτ102 (380 + n) (by omega)).1]; exact (hT.2.2.2 n (Nat.le_refl _) (by omega)).2.2.1), (by rw [(hbτ102 (420 + n) (by omega)).1]; exact (hT.2.2.2 n (Nat.le_refl _) (by omega)).2.2.2)⟩) (by omega) (nI n) x1 x2 x3 x4) (cwI 5 hts gX0_add_X8_init rfl rfl rfl hw6 hw7 hw8 rfl (by decide +kernel) ⟨Nat.le_of_ble_eq_true rfl, Nat.le_of_ble_eq_true rfl⟩) ⟨zQc_bl, zQc_at hz hS hA hH⟩ rfl rfl hl.1 rfl (lv_room (Nat.le_of_ble_eq_true rfl)) dX0_add_32 ⟨Nat.le_of_ble_eq_true rfl, Nat.le_of_ble_eq_true rfl⟩) hS (fun q _ h => h) (fun q h => h) (fun u9 t9 H1 locs ht9 hvm9 hw hB hz1 hk1 hS => ?_)
  obtain ⟨τ107, f108, g109⟩ := u9
  have hH := zMv ht9 hvm9 hB
  clear hB
  simp only at hw hH
  generalize H1 = H at hH hS ⊢
  refine W.widen (k := 4) (n := 22) (by decide) (by decide) ?_
  have hN110 := hw
  clear hw
  have ha111 : ∀ i, (i ≠ 340 + n ∧ i ≠ 380 + n ∧ i ≠ 420 + n) → τ107.1 i = τ102.1 i := fun i h => (hN110.1 i h.1 h.2.1 h.2.2).1
  rw [show τ102.1 3 = τ107.1 3 from (ha111 3 (by omega)).symm] at hl
  refine W.eq (g2 := F0 m 35 ls [.ref (τ107.1 (300 + n)), .int (nI n), .ref (τ107.1 4)]) (by rw [ha111 4 (by omega), ha111 (300 + n) (by omega)]) ?_
  have q112 : f108 3 1 = nI n := by rw [hN110.2.2.2.2.1 3 1 (by omega) (by omega) (by omega) (by omega)]; exact q105
  refine zAastS (D := D) (rr := (RX8, TX8, 10)) hx hb hH hS (zk_4 hN110.2.2.1) (by decide) (by decide) rfl (by rw [(hN110.1 (300 + n) (by omega) (by omega) (by omega)).2.1]; exact hkτ102) rfl (zn_4 hN110.2.2.1) (by omega) (by omega) dX0_add_35 (fun H locs hH hS => ?_)
  obtain ⟨g113, eg113⟩ : ∃ f9 : zFr, f9 = zur g109 4 n (some (300 + n)) := ⟨_, rfl⟩
  rw [← eg113] at hH
  have hF114 : zFix τ107 g113 := by rw [eg113]; exact hN110.2.2.1.ur (by omega)
  refine lv_aload_n hx hb dX0_add_36 rfl (lv_at hl 0 rfl) ?_
  refine lv_dup hx hb dX0_add_37 rfl ?_
  refine zGetI (D := D) (ci := 0) (C := RX0) (T := TX0) (N := 2) hx hb hts hiX0 hown hH (zk_3 hF114) rfl 1 (by decide) rfl hw1 (fun _ h9 => h9) dX0_add_38 q112 ?_
  refine lv_iconst (v := nI 1) hx hb dX0_add_41 (by decide) ?_
  refine lv_iadd hx hb dX0_add_42 ?_
  refine lv_topi (fun v115 ev115 => ?_)
  obtain rfl : v115 = nI (n + 1) := ev115.trans (nI_add _ _)
  refine zPutI (D := D) (ci := 0) (ty := .int) (C := RX0) (T := TX0) (N := 2) hx hb hts hiX0 tyX0 tyX0_ok nmX0 hown hH hS (zk_3 hF114) rfl 1 (by decide) rfl hw1 (fun _ h9 => h9) rfl (by decide +kernel) rfl rfl dX0_add_43 (fun H locs hH hS => ?_)
  obtain ⟨f116, ef116⟩ : ∃ f9 : zFi, f9 = zu f108 3 1 (nI (n + 1)) := ⟨_, rfl⟩
  rw [← ef116] at hH
  have q117 : f116 3 1 = nI (n + 1) := by rw [ef116]; exact zu_s
  refine lv_aload_n hx hb dX0_add_46 rfl (lv_at hl 0 rfl) ?_
  refine zGetI (D := D) (ci := 0) (C := RX0) (T := TX0) (N := 2) hx hb hts hiX0 hown hH (zk_3 hF114) rfl 1 (by decide) rfl hw1 (fun _ h9 => h9) dX0_add_47 q117 ?_
  refine lv_iconst (v := nI 1) hx hb dX0_add_50 (by decide) ?_
  refine lv_isub hx hb dX0_add_51 ?_
  refine lv_topi (fun v118 ev118 => ?_)
  obtain rfl : v118 = nI ((n + 1) - 1) := ev118.trans (pk_sub (by omega))
  refine W.widen (k := 4) (n := 22) (by decide) (by decide) ?_
  exact W.iret (v := nI ((n + 1) - 1)) hx hb hr (fun t9 ht9 hW9 => ⟨⟨nI ((n + 1) - 1), (τ107, f116, g113), rfl, (show (nI ((n + 1) - 1)) = nI n ∧ zAdd τ fi fr n x1 x2 x3 x4 τ107 f116 g113 from ⟨rfl, zAdd.of hT (by omega) haτ102 hkτ102 hbτ102 ef103 eg104 hN110 eg113 ef116 hF114⟩), zEnd1 hH ht9 hW9⟩, hS.F ht9⟩) hS.2.2 dX0_add_52
set_option maxHeartbeats 4000000 in
set_option maxRecDepth 100000 in
/-- thing -/
theorem c_thing (l : Launch) (hl0 : l.stackTraces = false) (D : va_G) (A : Nat → Prop) (sad : Nat → Nat) (τ : zTy) (fi : zFi) (fr : zFr) (ol : Int64) (hF : zFix τ fr) (n : Nat) (hT : zTh τ fi fr n) (x1 x2 x3 x4 : Int32) : vx_Met l yX11_thing wsX11_thing ({ frames := 6, cells := 4, slots := 22, locals := 82 }) (va_Pc [.ref (τ.1 0), .int x1, .int x2, .int x3, .int x4] (zQc D A sad τ fi fr ol)) (va_Qi (fun (r : Int32) (u : zTy × zFi × zFr) => n < 30 ∧ (0 ≤ x1.toInt ∧ x1.toInt ≤ 9999 ∧ 1 ≤ x2.toInt ∧ x2.toInt ≤ 2000 ∧ 0 ≤ x3.toInt ∧ x3.toInt ≤ 7 ∧ 1 ≤ x4.toInt ∧ x4.toInt ≤ 20 ∧ ∀ j, j < n → ¬ fi (300 + j) 1 = x1) ∧ r = nI n ∧ zAdd τ fi fr n x1 x2 x3 x4 u.1 u.2.1 u.2.2) (fun (u : zTy × zFi × zFr) (t : State) => zH D A u.1 u.2.1 u.2.2 ol t t.heap) A) (vx_X (fun u : Unit => True) (fun (E : String) (u : Unit) (t : State) => ((E = "java/lang/IllegalArgumentException" ∧ ¬ (0 ≤ x1.toInt ∧ x1.toInt ≤ 9999 ∧ 1 ≤ x2.toInt ∧ x2.toInt ≤ 2000 ∧ 0 ≤ x3.toInt ∧ x3.toInt ≤ 7 ∧ 1 ≤ x4.toInt ∧ x4.toInt ≤ 20 ∧ ∀ j, j < n → ¬ fi (300 + j) 1 = x1)) ∨ (E = "java/lang/UnsupportedOperationException" ∧ (0 ≤ x1.toInt ∧ x1.toInt ≤ 9999 ∧ 1 ≤ x2.toInt ∧ x2.toInt ≤ 2000 ∧ 0 ≤ x3.toInt ∧ x3.toInt ≤ 7 ∧ 1 ≤ x4.toInt ∧ x4.toInt ≤ 20 ∧ ∀ j, j < n → ¬ fi (300 + j) 1 = x1) ∧ n = 30)) ∧ zH D A τ fi fr ol t t.heap) A) 4 22 A := by
  refine vx_ofW (cc := cX11_thing) (maxL := 5) (ret := (some .int)) (by decide) rfl ?_
  intro p9 e9 s m args below meth c9 s₁ B hml ht0 hv
  obtain ⟨rfl, hz, hH, hA⟩ := hv
  have hx := B.exec
  have hb := B.bytes
  have hr := B.returns
  have hts := atoms_spec (ws := wsX11_thing) B.pre
  have hown : s.vm.findClass RX11 = some m.cls := findClass_of_methodNamed B.named
  have hlocks := B.notSynchronized
  have hS : va_S A s.heap s.heap [] := va_S.rf
  have hl := lv_entry ([.ref (τ.1 0), .int x1, .int x2, .int x3, .int x4]) (n := 5) (Nat.le_of_ble_eq_true rfl)
  rw [lg_entry_eq]
  generalize (lg_sl ([.ref (τ.1 0), .int x1, .int x2, .int x3, .int x4]) ++ List.replicate (5 - (lg_sl ([.ref (τ.1 0), .int x1, .int x2, .int x3, .int x4])).length) Slot.unset).toArray = ls at hl ⊢
  have hl : lv_has ls 5 [(0, .ref (τ.1 0)), (1, .int x1), (2, .int x2), (3, .int x3), (4, .int x4)] := hl
  have hn30 := hT.1
  have hiX11 : ∀ w ∈ u_ws RX11 TX11 16, w ∈ wsX11_thing := fun _ h => List.mem_cons_of_mem _ (List.mem_append_left _ (List.mem_append_left _ (List.mem_append_left _ (List.mem_append_left _ (List.mem_append_right _ h)))))
  have hw1 := hts (.fieldLink RX11 19 "PostHouse" "book" "LPostHouse$Book;") (by decide +kernel)
  have hw2 := hts (.classLink RX11 91 "java/lang/IllegalArgumentException") (by decide +kernel)
  have hw3 := hts (.initialized "java/lang/IllegalArgumentException") (by decide +kernel)
  have hiX0 : ∀ w ∈ u_ws RX0 TX0 2, w ∈ wsX11_thing := fun _ h => List.mem_cons_of_mem _ (List.mem_append_left _ (List.mem_append_left _ (List.mem_append_left _ (List.mem_append_right _ h))))
  have hw5 := hts (.fieldLink RX11 104 "PostHouse$Book" "size" "I") (by decide +kernel)
  have hw6 := hts (.classLink RX11 107 "java/lang/UnsupportedOperationException") (by decide +kernel)
  have hw7 := hts (.initialized "java/lang/UnsupportedOperationException") (by decide +kernel)
  refine lv_iload_n hx hb dX11_thing_0 rfl (lv_at hl 1 rfl) ?_
  refine lv_iconst (v := nI 0) hx hb dX11_thing_1 (by decide) ?_
  refine lv_sipush (v := nI 9999) hx hb dX11_thing_2 (by decide) ?_
  refine va_calli (va_runS (As := [.int x1, .int (nI 0), .int (nI 9999)]) (rest := []) ⟨hx, hb, hml, hown, hts⟩ (c_within l hl0 D A sad τ fi fr ol x1 (nI 0) (nI 9999)) (cwS 3 hts gX11_thing_X11_within rfl rfl rfl (by decide +kernel) ⟨Nat.le_of_ble_eq_true rfl, Nat.le_of_ble_eq_true rfl⟩) ⟨zQc_bl, zQc_at hz hS hA hH⟩ rfl rfl hl.1 rfl (lv_room (Nat.le_of_ble_eq_true rfl)) dX11_thing_5 ⟨Nat.le_of_ble_eq_true rfl, Nat.le_of_ble_eq_true rfl⟩) hS (fun q _ h => h) (fun q h => h) (fun r101 u9 t9 H1 locs ht9 hvm9 hw hB hz1 hk1 hS => ?_)
  have hH := zMv ht9 hvm9 hB
  generalize H1 = H at hH hS ⊢
  rcases hw with ⟨rfl, hy102⟩ | ⟨rfl, hn103⟩
  · skip
    replace hy102 := zWi1 (rfl) (nI_toInt (by omega)) (nI_toInt (by omega)) hy102
    refine lv_if_eq (tgt := 43) hx hb dX11_thing_8 (by decide) (fun c104 => absurd c104 (by decide)) (fun c104 => ?_)
    refine lv_iload_n hx hb dX11_thing_11 rfl (lv_at hl 2 rfl) ?_
    refine lv_iconst (v := nI 1) hx hb dX11_thing_12 (by decide) ?_
    refine lv_sipush (v := nI 2000) hx hb dX11_thing_13 (by decide) ?_
    refine va_calli (va_runS (As := [.int x2, .int (nI 1), .int (nI 2000)]) (rest := []) ⟨hx, hb, hml, hown, hts⟩ (c_within l hl0 D A sad τ fi fr ol x2 (nI 1) (nI 2000)) (cwS 3 hts gX11_thing_X11_within rfl rfl rfl (by decide +kernel) ⟨Nat.le_of_ble_eq_true rfl, Nat.le_of_ble_eq_true rfl⟩) ⟨zQc_bl, zQc_at hz hS hA hH⟩ rfl rfl hl.1 rfl (lv_room (Nat.le_of_ble_eq_true rfl)) dX11_thing_16 ⟨Nat.le_of_ble_eq_true rfl, Nat.le_of_ble_eq_true rfl⟩) hS (fun q _ h => h) (fun q h => h) (fun r105 u9 t9 H1 locs ht9 hvm9 hw hB hz1 hk1 hS => ?_)
    have hH := zMv ht9 hvm9 hB
    generalize H1 = H at hH hS ⊢
    rcases hw with ⟨rfl, hy106⟩ | ⟨rfl, hn107⟩
    · skip
      replace hy106 := zWi1 (rfl) (nI_toInt (by omega)) (nI_toInt (by omega)) hy106
      refine lv_if_eq (tgt := 43) hx hb dX11_thing_19 (by decide) (fun c108 => absurd c108 (by decide)) (fun c108 => ?_)
      refine lv_iload_n hx hb dX11_thing_22 rfl (lv_at hl 3 rfl) ?_
      refine lv_iconst (v := nI 0) hx hb dX11_thing_23 (by decide) ?_
      refine lv_bipush (v := nI 7) hx hb dX11_thing_24 (by decide) ?_
      refine va_calli (va_runS (As := [.int x3, .int (nI 0), .int (nI 7)]) (rest := []) ⟨hx, hb, hml, hown, hts⟩ (c_within l hl0 D A sad τ fi fr ol x3 (nI 0) (nI 7)) (cwS 3 hts gX11_thing_X11_within rfl rfl rfl (by decide +kernel) ⟨Nat.le_of_ble_eq_true rfl, Nat.le_of_ble_eq_true rfl⟩) ⟨zQc_bl, zQc_at hz hS hA hH⟩ rfl rfl hl.1 rfl (lv_room (Nat.le_of_ble_eq_true rfl)) dX11_thing_26 ⟨Nat.le_of_ble_eq_true rfl, Nat.le_of_ble_eq_true rfl⟩) hS (fun q _ h => h) (fun q h => h) (fun r109 u9 t9 H1 locs ht9 hvm9 hw hB hz1 hk1 hS => ?_)
      have hH := zMv ht9 hvm9 hB
      generalize H1 = H at hH hS ⊢
      rcases hw with ⟨rfl, hy110⟩ | ⟨rfl, hn111⟩
      · skip
        replace hy110 := zWi1 (rfl) (nI_toInt (by omega)) (nI_toInt (by omega)) hy110
        refine lv_if_eq (tgt := 43) hx hb dX11_thing_29 (by decide) (fun c112 => absurd c112 (by decide)) (fun c112 => ?_)
        refine lv_iload hx hb dX11_thing_32 (lv_at hl 4 rfl) ?_
        refine lv_iconst (v := nI 1) hx hb dX11_thing_34 (by decide) ?_
        refine lv_bipush (v := nI 20) hx hb dX11_thing_35 (by decide) ?_
        refine va_calli (va_runS (As := [.int x4, .int (nI 1), .int (nI 20)]) (rest := []) ⟨hx, hb, hml, hown, hts⟩ (c_within l hl0 D A sad τ fi fr ol x4 (nI 1) (nI 20)) (cwS 3 hts gX11_thing_X11_within rfl rfl rfl (by decide +kernel) ⟨Nat.le_of_ble_eq_true rfl, Nat.le_of_ble_eq_true rfl⟩) ⟨zQc_bl, zQc_at hz hS hA hH⟩ rfl rfl hl.1 rfl (lv_room (Nat.le_of_ble_eq_true rfl)) dX11_thing_37 ⟨Nat.le_of_ble_eq_true rfl, Nat.le_of_ble_eq_true rfl⟩) hS (fun q _ h => h) (fun q h => h) (fun r113 u9 t9 H1 locs ht9 hvm9 hw hB hz1 hk1 hS => ?_)
        have hH := zMv ht9 hvm9 hB
        generalize H1 = H at hH hS ⊢
        rcases hw with ⟨rfl, hy114⟩ | ⟨rfl, hn115⟩
        · skip
          replace hy114 := zWi1 (rfl) (nI_toInt (by omega)) (nI_toInt (by omega)) hy114
          refine lv_if_ne (tgt := 53) hx hb dX11_thing_40 (by decide) (fun c116 => ?_) (fun c116 => absurd c116 (by decide))
          refine lv_aload_n hx hb dX11_thing_53 rfl (lv_at hl 0 rfl) ?_
          refine zGetR (D := D) (ci := 11) (C := RX11) (T := TX11) (N := 16) hx hb hts hiX11 hown hH (zk_0 hF) rfl 1 (by decide) rfl hw1 (fun _ h9 => h9) dX11_thing_54 (zr_0_1 hF) ?_
          refine lv_iload_n hx hb dX11_thing_57 rfl (lv_at hl 1 rfl) ?_
          refine va_callq (va_runV (As := [.int x1]) (rest := []) ⟨hx, hb, hml, hown, hts⟩ (c_ofCode l hl0 D A sad τ fi fr ol x1 hF n hT) (cwV 1 hts gX11_thing_X0_ofCode rfl rfl rfl (by decide +kernel) ⟨Nat.le_of_ble_eq_true rfl, Nat.le_of_ble_eq_true rfl⟩) ⟨zQc_bl, zRecv hH (zk_3 hF) rfl, zQc_at hz hS hA hH⟩ rfl rfl hl.1 rfl (lv_room (Nat.le_of_ble_eq_true rfl)) dX11_thing_58 ⟨Nat.le_of_ble_eq_true rfl, Nat.le_of_ble_eq_true rfl⟩) hS (fun q _ h => h) (fun q h => h) (fun r117 u9 t9 H1 locs ht9 hvm9 hw hB hz1 hk1 hS => ?_)
          have hH := zMv ht9 hvm9 hB
          generalize H1 = H at hH hS ⊢
          rcases hw with ⟨t, ht, hcd, hcl, rfl⟩ | ⟨hno, rfl⟩
          · skip
            refine lv_ifnull hx hb dX11_thing_61 ?_
            obtain ⟨a118, ha118⟩ := hz.1.2.2.2.2.1 _ (List.mem_of_getElem? (i := 1) rfl)
            have hat : ∀ w ∈ vx_atS RX11 95 "java/lang/IllegalArgumentException" ["java/lang/RuntimeException", "java/lang/Exception"], w.before _ s = true := vx_hat (fun w h => hts w (List.mem_cons_of_mem _ (List.mem_append_left _ (List.mem_append_right _ h)))) (B := [.castable "java/lang/IllegalArgumentException" "java/lang/IllegalArgumentException", .declares (Bundle.initS "java/lang/RuntimeException"), .declares (Bundle.initS "java/lang/Exception"), .declares (Bundle.initS Bundle.tN)]) (by decide +kernel) (vx_c (va_Nw.use rfl (hz.1.2.2.2.2.2.2.2.1 _ (List.mem_of_getElem? (i := 1) rfl))) (vx_c (va_Nw.use rfl (hz.1.2.2.2.2.2.2.2.2 _ (List.mem_of_getElem? (i := 0) rfl))) (vx_c (va_Nw.use rfl (hz.1.2.2.2.2.2.2.2.2 _ (List.mem_of_getElem? (i := 1) rfl))) (vx_c (va_Nw.use rfl (hz.1.2.2.2.2.2.2.2.2 _ (List.mem_of_getElem? (i := 2) rfl))) vx_n))))
            exact vx_throwS hx hb hl0 (own := RX11) (cls := "java/lang/IllegalArgumentException") (text := "there is a thing of that code") (names := ["java/lang/RuntimeException", "java/lang/Exception"]) hown (by decide +kernel) (by decide +kernel) hw2 hw3 ha118 hat (by decide +kernel) hz.1.1 hz.1.2.1 hS (by rw [hml]; exact hl.1) dX11_thing_64 dX11_thing_67 dX11_thing_68 dX11_thing_70 dX11_thing_73 (fun x h9 => (ht0 x h9).elim) (Nat.le_of_ble_eq_true rfl) (Nat.le_of_ble_eq_true rfl) (Nat.le_of_ble_eq_true rfl) (Nat.le_of_ble_eq_true rfl) hlocks (fun t9 hvm9 h91 h92 => ⟨(), trivial, ⟨Or.inl ⟨rfl, fun h9 => h9.2.2.2.2.2.2.2.2 t ht hcd⟩, zThr hH hvm9 h92⟩, zF2 hS h91 h92⟩) hS.2.2 (by decide) (by decide)
          · skip
            refine lv_ifnullN (tgt := 74) hx hb dX11_thing_61 (by decide) ?_
            refine lv_aload_n hx hb dX11_thing_74 rfl (lv_at hl 0 rfl) ?_
            refine zGetR (D := D) (ci := 11) (C := RX11) (T := TX11) (N := 16) hx hb hts hiX11 hown hH (zk_0 hF) rfl 1 (by decide) rfl hw1 (fun _ h9 => h9) dX11_thing_75 (zr_0_1 hF) ?_
            refine zGetI (D := D) (ci := 0) (C := RX0) (T := TX0) (N := 2) hx hb hts hiX0 hown hH (zk_3 hF) rfl 1 (by decide) rfl hw5 (fun _ h9 => h9) dX11_thing_78 hT.2.1 ?_
            refine lv_bipush (v := nI 30) hx hb dX11_thing_81 (by decide) ?_
            refine lv_icmp_lt (tgt := 96) hx hb dX11_thing_83 (by decide) (fun c119 => ?_) (fun c119 => ?_)
            · have zc119 := c119
              replace zc119 := zc_lt (nI_toInt (by omega)) (nI_toInt (by omega)) zc119
              refine lv_aload_n hx hb dX11_thing_96 rfl (lv_at hl 0 rfl) ?_
              refine zGetR (D := D) (ci := 11) (C := RX11) (T := TX11) (N := 16) hx hb hts hiX11 hown hH (zk_0 hF) rfl 1 (by decide) rfl hw1 (fun _ h9 => h9) dX11_thing_97 (zr_0_1 hF) ?_
              refine lv_iload_n hx hb dX11_thing_100 rfl (lv_at hl 1 rfl) ?_
              refine lv_iload_n hx hb dX11_thing_101 rfl (lv_at hl 2 rfl) ?_
              refine lv_iload_n hx hb dX11_thing_102 rfl (lv_at hl 3 rfl) ?_
              refine lv_iload hx hb dX11_thing_103 (lv_at hl 4 rfl) ?_
              refine va_calli (va_runV (As := [.int x1, .int x2, .int x3, .int x4]) (rest := []) ⟨hx, hb, hml, hown, hts⟩ (c_badd l hl0 D A sad τ fi fr ol hF n hT (by omega) x1 x2 x3 x4) (cwV 4 hts gX11_thing_X0_add rfl rfl rfl (by decide +kernel) ⟨Nat.le_of_ble_eq_true rfl, Nat.le_of_ble_eq_true rfl⟩) ⟨zQc_bl, zRecv hH (zk_3 hF) rfl, zQc_at hz hS hA hH⟩ rfl rfl hl.1 rfl (lv_room (Nat.le_of_ble_eq_true rfl)) dX11_thing_105 ⟨Nat.le_of_ble_eq_true rfl, Nat.le_of_ble_eq_true rfl⟩) hS (fun q _ h => h) (fun q h => h) (fun r120 u9 t9 H1 locs ht9 hvm9 hw hB hz1 hk1 hS => ?_)
              obtain ⟨τ121, f122, g123⟩ := u9
              have hH := zMv ht9 hvm9 hB
              clear hB
              simp only at hw hH
              generalize H1 = H at hH hS ⊢
              refine W.widen (k := 4) (n := 22) (by decide) (by decide) ?_
              have hba := hw
              refine W.widen (k := 4) (n := 22) (by decide) (by decide) ?_
              refine vx_ret ?_
              exact W.iret (v := r120) hx hb hr (fun t9 ht9 hW9 => ⟨⟨r120, (τ121, f122, g123), rfl, (show n < 30 ∧ (0 ≤ x1.toInt ∧ x1.toInt ≤ 9999 ∧ 1 ≤ x2.toInt ∧ x2.toInt ≤ 2000 ∧ 0 ≤ x3.toInt ∧ x3.toInt ≤ 7 ∧ 1 ≤ x4.toInt ∧ x4.toInt ≤ 20 ∧ ∀ j, j < n → ¬ fi (300 + j) 1 = x1) ∧ r120 = nI n ∧ zAdd τ fi fr n x1 x2 x3 x4 τ121 f122 g123 from ⟨by omega, (by have k0 := hy102; have k1 := hy106; have k2 := hy110; have k3 := hy114; refine ⟨?_, ?_, ?_, ?_, ?_, ?_, ?_, ?_, hno⟩ <;> omega), hba⟩), zEnd1 hH ht9 hW9⟩, hS.F ht9⟩) hS.2.2 dX11_thing_108
            · have zc119 := c119
              replace zc119 := zc_nlt (nI_toInt (by omega)) (nI_toInt (by omega)) zc119
              obtain ⟨a124, ha124⟩ := hz.1.2.2.2.2.1 _ (List.mem_of_getElem? (i := 2) rfl)
              have hat : ∀ w ∈ vx_atS RX11 111 "java/lang/UnsupportedOperationException" ["java/lang/RuntimeException", "java/lang/Exception"], w.before _ s = true := vx_hat (fun w h => hts w (List.mem_cons_of_mem _ (List.mem_append_right _ h))) (B := [.castable "java/lang/UnsupportedOperationException" "java/lang/UnsupportedOperationException", .declares (Bundle.initS "java/lang/RuntimeException"), .declares (Bundle.initS "java/lang/Exception"), .declares (Bundle.initS Bundle.tN)]) (by decide +kernel) (vx_c (va_Nw.use rfl (hz.1.2.2.2.2.2.2.2.1 _ (List.mem_of_getElem? (i := 2) rfl))) (vx_c (va_Nw.use rfl (hz.1.2.2.2.2.2.2.2.2 _ (List.mem_of_getElem? (i := 0) rfl))) (vx_c (va_Nw.use rfl (hz.1.2.2.2.2.2.2.2.2 _ (List.mem_of_getElem? (i := 1) rfl))) (vx_c (va_Nw.use rfl (hz.1.2.2.2.2.2.2.2.2 _ (List.mem_of_getElem? (i := 2) rfl))) vx_n))))
              exact vx_throwS hx hb hl0 (own := RX11) (cls := "java/lang/UnsupportedOperationException") (text := "the book is full") (names := ["java/lang/RuntimeException", "java/lang/Exception"]) hown (by decide +kernel) (by decide +kernel) hw6 hw7 ha124 hat (by decide +kernel) hz.1.1 hz.1.2.1 hS (by rw [hml]; exact hl.1) dX11_thing_86 dX11_thing_89 dX11_thing_90 dX11_thing_92 dX11_thing_95 (fun x h9 => (ht0 x h9).elim) (Nat.le_of_ble_eq_true rfl) (Nat.le_of_ble_eq_true rfl) (Nat.le_of_ble_eq_true rfl) (Nat.le_of_ble_eq_true rfl) hlocks (fun t9 hvm9 h91 h92 => ⟨(), trivial, ⟨Or.inr ⟨rfl, (by have k0 := hy102; have k1 := hy106; have k2 := hy110; have k3 := hy114; refine ⟨?_, ?_, ?_, ?_, ?_, ?_, ?_, ?_, hno⟩ <;> omega), by omega⟩, zThr hH hvm9 h92⟩, zF2 hS h91 h92⟩) hS.2.2 (by decide) (by decide)
        · skip
          replace hn115 := zWi0 (rfl) (nI_toInt (by omega)) (nI_toInt (by omega)) hn115
          refine lv_if_ne (tgt := 53) hx hb dX11_thing_40 (by decide) (fun c125 => absurd (by decide) c125) (fun c125 => ?_)
          obtain ⟨a126, ha126⟩ := hz.1.2.2.2.2.1 _ (List.mem_of_getElem? (i := 0) rfl)
          have hat : ∀ w ∈ vx_atS RX11 95 "java/lang/IllegalArgumentException" ["java/lang/RuntimeException", "java/lang/Exception"], w.before _ s = true := vx_hat (fun w h => hts w (List.mem_cons_of_mem _ (List.mem_append_left _ (List.mem_append_right _ h)))) (B := [.castable "java/lang/IllegalArgumentException" "java/lang/IllegalArgumentException", .declares (Bundle.initS "java/lang/RuntimeException"), .declares (Bundle.initS "java/lang/Exception"), .declares (Bundle.initS Bundle.tN)]) (by decide +kernel) (vx_c (va_Nw.use rfl (hz.1.2.2.2.2.2.2.2.1 _ (List.mem_of_getElem? (i := 1) rfl))) (vx_c (va_Nw.use rfl (hz.1.2.2.2.2.2.2.2.2 _ (List.mem_of_getElem? (i := 0) rfl))) (vx_c (va_Nw.use rfl (hz.1.2.2.2.2.2.2.2.2 _ (List.mem_of_getElem? (i := 1) rfl))) (vx_c (va_Nw.use rfl (hz.1.2.2.2.2.2.2.2.2 _ (List.mem_of_getElem? (i := 2) rfl))) vx_n))))
          exact vx_throwS hx hb hl0 (own := RX11) (cls := "java/lang/IllegalArgumentException") (text := "a number of the thing is out of its bounds") (names := ["java/lang/RuntimeException", "java/lang/Exception"]) hown (by decide +kernel) (by decide +kernel) hw2 hw3 ha126 hat (by decide +kernel) hz.1.1 hz.1.2.1 hS (by rw [hml]; exact hl.1) dX11_thing_43 dX11_thing_46 dX11_thing_47 dX11_thing_49 dX11_thing_52 (fun x h9 => (ht0 x h9).elim) (Nat.le_of_ble_eq_true rfl) (Nat.le_of_ble_eq_true rfl) (Nat.le_of_ble_eq_true rfl) (Nat.le_of_ble_eq_true rfl) hlocks (fun t9 hvm9 h91 h92 => ⟨(), trivial, ⟨Or.inl ⟨rfl, fun h9 => by obtain ⟨a1, a2, a3, a4, a5, a6, a7, a8, -⟩ := h9; have h8 := hn115; omega⟩, zThr hH hvm9 h92⟩, zF2 hS h91 h92⟩) hS.2.2 (by decide) (by decide)
      · skip
        replace hn111 := zWi0 (rfl) (nI_toInt (by omega)) (nI_toInt (by omega)) hn111
        refine lv_if_eq (tgt := 43) hx hb dX11_thing_29 (by decide) (fun c127 => ?_) (fun c127 => absurd (by decide) c127)
        obtain ⟨a128, ha128⟩ := hz.1.2.2.2.2.1 _ (List.mem_of_getElem? (i := 0) rfl)
        have hat : ∀ w ∈ vx_atS RX11 95 "java/lang/IllegalArgumentException" ["java/lang/RuntimeException", "java/lang/Exception"], w.before _ s = true := vx_hat (fun w h => hts w (List.mem_cons_of_mem _ (List.mem_append_left _ (List.mem_append_right _ h)))) (B := [.castable "java/lang/IllegalArgumentException" "java/lang/IllegalArgumentException", .declares (Bundle.initS "java/lang/RuntimeException"), .declares (Bundle.initS "java/lang/Exception"), .declares (Bundle.initS Bundle.tN)]) (by decide +kernel) (vx_c (va_Nw.use rfl (hz.1.2.2.2.2.2.2.2.1 _ (List.mem_of_getElem? (i := 1) rfl))) (vx_c (va_Nw.use rfl (hz.1.2.2.2.2.2.2.2.2 _ (List.mem_of_getElem? (i := 0) rfl))) (vx_c (va_Nw.use rfl (hz.1.2.2.2.2.2.2.2.2 _ (List.mem_of_getElem? (i := 1) rfl))) (vx_c (va_Nw.use rfl (hz.1.2.2.2.2.2.2.2.2 _ (List.mem_of_getElem? (i := 2) rfl))) vx_n))))
        exact vx_throwS hx hb hl0 (own := RX11) (cls := "java/lang/IllegalArgumentException") (text := "a number of the thing is out of its bounds") (names := ["java/lang/RuntimeException", "java/lang/Exception"]) hown (by decide +kernel) (by decide +kernel) hw2 hw3 ha128 hat (by decide +kernel) hz.1.1 hz.1.2.1 hS (by rw [hml]; exact hl.1) dX11_thing_43 dX11_thing_46 dX11_thing_47 dX11_thing_49 dX11_thing_52 (fun x h9 => (ht0 x h9).elim) (Nat.le_of_ble_eq_true rfl) (Nat.le_of_ble_eq_true rfl) (Nat.le_of_ble_eq_true rfl) (Nat.le_of_ble_eq_true rfl) hlocks (fun t9 hvm9 h91 h92 => ⟨(), trivial, ⟨Or.inl ⟨rfl, fun h9 => by obtain ⟨a1, a2, a3, a4, a5, a6, a7, a8, -⟩ := h9; have h8 := hn111; omega⟩, zThr hH hvm9 h92⟩, zF2 hS h91 h92⟩) hS.2.2 (by decide) (by decide)
    · skip
      replace hn107 := zWi0 (rfl) (nI_toInt (by omega)) (nI_toInt (by omega)) hn107
      refine lv_if_eq (tgt := 43) hx hb dX11_thing_19 (by decide) (fun c129 => ?_) (fun c129 => absurd (by decide) c129)
      obtain ⟨a130, ha130⟩ := hz.1.2.2.2.2.1 _ (List.mem_of_getElem? (i := 0) rfl)
      have hat : ∀ w ∈ vx_atS RX11 95 "java/lang/IllegalArgumentException" ["java/lang/RuntimeException", "java/lang/Exception"], w.before _ s = true := vx_hat (fun w h => hts w (List.mem_cons_of_mem _ (List.mem_append_left _ (List.mem_append_right _ h)))) (B := [.castable "java/lang/IllegalArgumentException" "java/lang/IllegalArgumentException", .declares (Bundle.initS "java/lang/RuntimeException"), .declares (Bundle.initS "java/lang/Exception"), .declares (Bundle.initS Bundle.tN)]) (by decide +kernel) (vx_c (va_Nw.use rfl (hz.1.2.2.2.2.2.2.2.1 _ (List.mem_of_getElem? (i := 1) rfl))) (vx_c (va_Nw.use rfl (hz.1.2.2.2.2.2.2.2.2 _ (List.mem_of_getElem? (i := 0) rfl))) (vx_c (va_Nw.use rfl (hz.1.2.2.2.2.2.2.2.2 _ (List.mem_of_getElem? (i := 1) rfl))) (vx_c (va_Nw.use rfl (hz.1.2.2.2.2.2.2.2.2 _ (List.mem_of_getElem? (i := 2) rfl))) vx_n))))
      exact vx_throwS hx hb hl0 (own := RX11) (cls := "java/lang/IllegalArgumentException") (text := "a number of the thing is out of its bounds") (names := ["java/lang/RuntimeException", "java/lang/Exception"]) hown (by decide +kernel) (by decide +kernel) hw2 hw3 ha130 hat (by decide +kernel) hz.1.1 hz.1.2.1 hS (by rw [hml]; exact hl.1) dX11_thing_43 dX11_thing_46 dX11_thing_47 dX11_thing_49 dX11_thing_52 (fun x h9 => (ht0 x h9).elim) (Nat.le_of_ble_eq_true rfl) (Nat.le_of_ble_eq_true rfl) (Nat.le_of_ble_eq_true rfl) (Nat.le_of_ble_eq_true rfl) hlocks (fun t9 hvm9 h91 h92 => ⟨(), trivial, ⟨Or.inl ⟨rfl, fun h9 => by obtain ⟨a1, a2, a3, a4, a5, a6, a7, a8, -⟩ := h9; have h8 := hn107; omega⟩, zThr hH hvm9 h92⟩, zF2 hS h91 h92⟩) hS.2.2 (by decide) (by decide)
  · skip
    replace hn103 := zWi0 (rfl) (nI_toInt (by omega)) (nI_toInt (by omega)) hn103
    refine lv_if_eq (tgt := 43) hx hb dX11_thing_8 (by decide) (fun c131 => ?_) (fun c131 => absurd (by decide) c131)
    obtain ⟨a132, ha132⟩ := hz.1.2.2.2.2.1 _ (List.mem_of_getElem? (i := 0) rfl)
    have hat : ∀ w ∈ vx_atS RX11 95 "java/lang/IllegalArgumentException" ["java/lang/RuntimeException", "java/lang/Exception"], w.before _ s = true := vx_hat (fun w h => hts w (List.mem_cons_of_mem _ (List.mem_append_left _ (List.mem_append_right _ h)))) (B := [.castable "java/lang/IllegalArgumentException" "java/lang/IllegalArgumentException", .declares (Bundle.initS "java/lang/RuntimeException"), .declares (Bundle.initS "java/lang/Exception"), .declares (Bundle.initS Bundle.tN)]) (by decide +kernel) (vx_c (va_Nw.use rfl (hz.1.2.2.2.2.2.2.2.1 _ (List.mem_of_getElem? (i := 1) rfl))) (vx_c (va_Nw.use rfl (hz.1.2.2.2.2.2.2.2.2 _ (List.mem_of_getElem? (i := 0) rfl))) (vx_c (va_Nw.use rfl (hz.1.2.2.2.2.2.2.2.2 _ (List.mem_of_getElem? (i := 1) rfl))) (vx_c (va_Nw.use rfl (hz.1.2.2.2.2.2.2.2.2 _ (List.mem_of_getElem? (i := 2) rfl))) vx_n))))
    exact vx_throwS hx hb hl0 (own := RX11) (cls := "java/lang/IllegalArgumentException") (text := "a number of the thing is out of its bounds") (names := ["java/lang/RuntimeException", "java/lang/Exception"]) hown (by decide +kernel) (by decide +kernel) hw2 hw3 ha132 hat (by decide +kernel) hz.1.1 hz.1.2.1 hS (by rw [hml]; exact hl.1) dX11_thing_43 dX11_thing_46 dX11_thing_47 dX11_thing_49 dX11_thing_52 (fun x h9 => (ht0 x h9).elim) (Nat.le_of_ble_eq_true rfl) (Nat.le_of_ble_eq_true rfl) (Nat.le_of_ble_eq_true rfl) (Nat.le_of_ble_eq_true rfl) hlocks (fun t9 hvm9 h91 h92 => ⟨(), trivial, ⟨Or.inl ⟨rfl, fun h9 => by obtain ⟨a1, a2, a3, a4, a5, a6, a7, a8, -⟩ := h9; have h8 := hn103; omega⟩, zThr hH hvm9 h92⟩, zF2 hS h91 h92⟩) hS.2.2 (by decide) (by decide)
set_option maxHeartbeats 4000000 in
set_option maxRecDepth 100000 in
/-- coming -/
theorem c_coming (l : Launch) (hl0 : l.stackTraces = false) (D : va_G) (A : Nat → Prop) (sad : Nat → Nat) (τ : zTy) (fi : zFi) (fr : zFr) (ol : Int64) (x y z : Int32) (td : Nat) (htd : fi 0 15 = nI td) (htd9 : td ≤ 999) (hF : zFix τ fr) (n : Nat) (hT : zTh τ fi fr n) (c : Nat) (hC : zCm fi fr n c) : vx_Met l yX11_coming wsX11_coming ({ frames := 7, cells := 2, slots := 12, locals := 104 }) (va_Pc [.ref (τ.1 0), .int x, .int y, .int z] (zQc D A sad τ fi fr ol)) (va_Qi (fun (r : Int32) (u : zFi × zFr) => ∃ b, b < n ∧ x = nI b ∧ (((td : Nat) : Int) + 1 ≤ y.toInt ∧ y.toInt ≤ 999 ∧ 1 ≤ z.toInt ∧ z.toInt ≤ 10000) ∧ c < 60 ∧ r = nI (c + 1) ∧ u.1 = zu (zu (zu fi 7 c y) 8 c z) 5 3 (nI (c + 1)) ∧ u.2 = zur fr 6 c (some (300 + b))) (fun (u : zFi × zFr) (t : State) => zH D A τ u.1 u.2 ol t t.heap) A) (vx_X (fun u : Unit => True) (fun (E : String) (u : Unit) (t : State) => ((E = "java/lang/IndexOutOfBoundsException" ∧ ¬ (0 ≤ x.toInt ∧ x.toInt < (n : Int))) ∨ (E = "java/lang/IllegalArgumentException" ∧ (∃ b, b < n ∧ x = nI b) ∧ ¬ (((td : Nat) : Int) + 1 ≤ y.toInt ∧ y.toInt ≤ 999 ∧ 1 ≤ z.toInt ∧ z.toInt ≤ 10000)) ∨ (E = "java/lang/UnsupportedOperationException" ∧ (∃ b, b < n ∧ x = nI b) ∧ (((td : Nat) : Int) + 1 ≤ y.toInt ∧ y.toInt ≤ 999 ∧ 1 ≤ z.toInt ∧ z.toInt ≤ 10000) ∧ c = 60)) ∧ zH D A τ fi fr ol t t.heap) A) 2 12 A := by
  refine vx_ofW (cc := cX11_coming) (maxL := 5) (ret := (some .int)) (by decide) rfl ?_
  intro p9 e9 s m args below meth c9 s₁ B hml ht0 hv
  obtain ⟨rfl, hz, hH, hA⟩ := hv
  have hx := B.exec
  have hb := B.bytes
  have hr := B.returns
  have hts := atoms_spec (ws := wsX11_coming) B.pre
  have hown : s.vm.findClass RX11 = some m.cls := findClass_of_methodNamed B.named
  have hlocks := B.notSynchronized
  have hS : va_S A s.heap s.heap [] := va_S.rf
  have hl := lv_entry ([.ref (τ.1 0), .int x, .int y, .int z]) (n := 5) (Nat.le_of_ble_eq_true rfl)
  rw [lg_entry_eq]
  generalize (lg_sl ([.ref (τ.1 0), .int x, .int y, .int z]) ++ List.replicate (5 - (lg_sl ([.ref (τ.1 0), .int x, .int y, .int z])).length) Slot.unset).toArray = ls at hl ⊢
  have hl : lv_has ls 5 [(0, .ref (τ.1 0)), (1, .int x), (2, .int y), (3, .int z)] := hl
  have hn30 := hT.1
  have hc60 := hC.1
  have hiX11 : ∀ w ∈ u_ws RX11 TX11 16, w ∈ wsX11_coming := fun _ h => List.mem_cons_of_mem _ (List.mem_append_left _ (List.mem_append_left _ (List.mem_append_left _ (List.mem_append_left _ (List.mem_append_left _ (List.mem_append_right _ h))))))
  have hw1 := hts (.fieldLink RX11 136 "PostHouse" "today" "I") (by decide +kernel)
  have hw2 := hts (.fieldLink RX11 26 "PostHouse" "comings" "LPostHouse$Comings;") (by decide +kernel)
  have hiX1 : ∀ w ∈ u_ws RX1 TX1 4, w ∈ wsX11_coming := fun _ h => List.mem_cons_of_mem _ (List.mem_append_left _ (List.mem_append_left _ (List.mem_append_left _ (List.mem_append_left _ (List.mem_append_right _ h)))))
  have hw4 := hts (.fieldLink RX11 141 "PostHouse$Comings" "size" "I") (by decide +kernel)
  have hw5 := hts (.classLink RX11 107 "java/lang/UnsupportedOperationException") (by decide +kernel)
  have hw6 := hts (.initialized "java/lang/UnsupportedOperationException") (by decide +kernel)
  have hw7 := hts (.classLink RX11 91 "java/lang/IllegalArgumentException") (by decide +kernel)
  have hw8 := hts (.initialized "java/lang/IllegalArgumentException") (by decide +kernel)
  refine lv_aload_n hx hb dX11_coming_0 rfl (lv_at hl 0 rfl) ?_
  refine lv_iload_n hx hb dX11_coming_1 rfl (lv_at hl 1 rfl) ?_
  refine vx_callq (vx_runV (As := [.int x]) (rest := []) ⟨hx, hb, hml, hown, hts⟩ (c_thingAt l hl0 D A sad τ fi fr ol x hF n hT) (cwV 1 hts gX11_coming_X11_thingAt rfl rfl rfl (by decide +kernel) ⟨Nat.le_of_ble_eq_true rfl, Nat.le_of_ble_eq_true rfl⟩) ⟨zQc_bl, zRecv hH (zk_0 hF) rfl, zQc_at hz hS hA hH⟩ rfl rfl hl.1 rfl (lv_room (Nat.le_of_ble_eq_true rfl)) dX11_coming_2 ⟨Nat.le_of_ble_eq_true rfl, Nat.le_of_ble_eq_true rfl⟩) hS (fun q _ h => h) (fun q h => h) (fun q _ h => h) (fun E ce q9 u9 t9 H1 locs ht9 hvm9 hw hB hz1 hk1 hS hce hcv hcl => ?_) (fun r101 u9 t9 H1 locs ht9 hvm9 hw hB hz1 hk1 hS => ?_)
  · obtain ⟨hX, hB⟩ := hB
    have hH := zMv ht9 hvm9 hB
    generalize H1 = H at hH hS hce ⊢
    exact vx_out (fun x h9 => (ht0 x h9).elim) hlocks hce hcv hcl (fun t9 ht9 hvm9 => ⟨(), trivial, ⟨Or.inl hX, zOut hH ht9 hvm9⟩, hS.F ht9⟩) hS.2.2 (by decide) (by decide)
  · skip
    have hH := zMv ht9 hvm9 hB
    generalize H1 = H at hH hS ⊢
    refine W.widen (k := 1) (n := 6) (by decide) (by decide) ?_
    obtain ⟨t, ht, rfl, rfl⟩ := hw
    refine lv_astore (lv' := [(4, .ref (τ.1 (300 + t))), (0, .ref (τ.1 0)), (1, .int (nI t)), (2, .int y), (3, .int z)]) hx hb dX11_coming_5 hl (by decide) rfl (fun ls hl => ?_)
    refine lv_iload_n hx hb dX11_coming_7 rfl (lv_at hl 3 rfl) ?_
    refine lv_aload_n hx hb dX11_coming_8 rfl (lv_at hl 1 rfl) ?_
    refine zGetI (D := D) (ci := 11) (C := RX11) (T := TX11) (N := 16) hx hb hts hiX11 hown hH (zk_0 hF) rfl 15 (by decide) rfl hw1 (fun _ h9 => h9) dX11_coming_9 htd ?_
    refine lv_iconst (v := nI 1) hx hb dX11_coming_12 (by decide) ?_
    refine lv_iadd hx hb dX11_coming_13 ?_
    refine lv_topi (fun v102 ev102 => ?_)
    obtain rfl : v102 = nI (td + 1) := ev102.trans (nI_add _ _)
    refine lv_sipush (v := nI 999) hx hb dX11_coming_14 (by decide) ?_
    refine va_calli (va_runS (As := [.int y, .int (nI (td + 1)), .int (nI 999)]) (rest := []) ⟨hx, hb, hml, hown, hts⟩ (c_within l hl0 D A sad τ fi fr ol y (nI (td + 1)) (nI 999)) (cwS 3 hts gX11_coming_X11_within rfl rfl rfl (by decide +kernel) ⟨Nat.le_of_ble_eq_true rfl, Nat.le_of_ble_eq_true rfl⟩) ⟨zQc_bl, zQc_at hz hS hA hH⟩ rfl rfl hl.1 rfl (lv_room (Nat.le_of_ble_eq_true rfl)) dX11_coming_17 ⟨Nat.le_of_ble_eq_true rfl, Nat.le_of_ble_eq_true rfl⟩) hS (fun q _ h => h) (fun q h => h) (fun r103 u9 t9 H1 locs ht9 hvm9 hw hB hz1 hk1 hS => ?_)
    have hH := zMv ht9 hvm9 hB
    generalize H1 = H at hH hS ⊢
    rcases hw with ⟨rfl, hy104⟩ | ⟨rfl, hn105⟩
    · skip
      replace hy104 := zWi1 (rfl) (nI_toInt (by omega)) (nI_toInt (by omega)) hy104
      refine lv_if_eq (tgt := 34) hx hb dX11_coming_20 (by decide) (fun c106 => absurd c106 (by decide)) (fun c106 => ?_)
      refine lv_iload_n hx hb dX11_coming_23 rfl (lv_at hl 4 rfl) ?_
      refine lv_iconst (v := nI 1) hx hb dX11_coming_24 (by decide) ?_
      refine lv_sipush (v := nI 10000) hx hb dX11_coming_25 (by decide) ?_
      refine va_calli (va_runS (As := [.int z, .int (nI 1), .int (nI 10000)]) (rest := []) ⟨hx, hb, hml, hown, hts⟩ (c_within l hl0 D A sad τ fi fr ol z (nI 1) (nI 10000)) (cwS 3 hts gX11_coming_X11_within rfl rfl rfl (by decide +kernel) ⟨Nat.le_of_ble_eq_true rfl, Nat.le_of_ble_eq_true rfl⟩) ⟨zQc_bl, zQc_at hz hS hA hH⟩ rfl rfl hl.1 rfl (lv_room (Nat.le_of_ble_eq_true rfl)) dX11_coming_28 ⟨Nat.le_of_ble_eq_true rfl, Nat.le_of_ble_eq_true rfl⟩) hS (fun q _ h => h) (fun q h => h) (fun r107 u9 t9 H1 locs ht9 hvm9 hw hB hz1 hk1 hS => ?_)
      have hH := zMv ht9 hvm9 hB
      generalize H1 = H at hH hS ⊢
      rcases hw with ⟨rfl, hy108⟩ | ⟨rfl, hn109⟩
      · skip
        replace hy108 := zWi1 (rfl) (nI_toInt (by omega)) (nI_toInt (by omega)) hy108
        refine lv_if_ne (tgt := 44) hx hb dX11_coming_31 (by decide) (fun c110 => ?_) (fun c110 => absurd c110 (by decide))
        refine lv_aload_n hx hb dX11_coming_44 rfl (lv_at hl 1 rfl) ?_
        refine zGetR (D := D) (ci := 11) (C := RX11) (T := TX11) (N := 16) hx hb hts hiX11 hown hH (zk_0 hF) rfl 2 (by decide) rfl hw2 (fun _ h9 => h9) dX11_coming_45 (zr_0_2 hF) ?_
        refine zGetI (D := D) (ci := 1) (C := RX1) (T := TX1) (N := 4) hx hb hts hiX1 hown hH (zk_5 hF) rfl 3 (by decide) rfl hw4 (fun _ h9 => h9) dX11_coming_48 hC.2.1 ?_
        refine lv_bipush (v := nI 60) hx hb dX11_coming_51 (by decide) ?_
        refine lv_icmp_lt (tgt := 66) hx hb dX11_coming_53 (by decide) (fun c111 => ?_) (fun c111 => ?_)
        · have zc111 := c111
          replace zc111 := zc_lt (nI_toInt (by omega)) (nI_toInt (by omega)) zc111
          refine lv_aload_n hx hb dX11_coming_66 rfl (lv_at hl 1 rfl) ?_
          refine zGetR (D := D) (ci := 11) (C := RX11) (T := TX11) (N := 16) hx hb hts hiX11 hown hH (zk_0 hF) rfl 2 (by decide) rfl hw2 (fun _ h9 => h9) dX11_coming_67 (zr_0_2 hF) ?_
          refine lv_aload hx hb dX11_coming_70 (lv_at hl 0 rfl) ?_
          refine lv_iload_n hx hb dX11_coming_72 rfl (lv_at hl 3 rfl) ?_
          refine lv_iload_n hx hb dX11_coming_73 rfl (lv_at hl 4 rfl) ?_
          refine va_calli (va_runV (As := [.ref (τ.1 (300 + t)), .int y, .int z]) (rest := []) ⟨hx, hb, hml, hown, hts⟩ (c_cadd l hl0 D A sad τ fi fr ol hF n hT c hC t ht y z (by omega)) (cwV 3 hts gX11_coming_X1_add rfl rfl rfl (by decide +kernel) ⟨Nat.le_of_ble_eq_true rfl, Nat.le_of_ble_eq_true rfl⟩) ⟨zQc_bl, zRecv hH (zk_5 hF) rfl, zQc_at hz hS hA hH⟩ rfl rfl hl.1 rfl (lv_room (Nat.le_of_ble_eq_true rfl)) dX11_coming_74 ⟨Nat.le_of_ble_eq_true rfl, Nat.le_of_ble_eq_true rfl⟩) hS (fun q _ h => h) (fun q h => h) (fun r112 u9 t9 H1 locs ht9 hvm9 hw hB hz1 hk1 hS => ?_)
          obtain ⟨f113, g114⟩ := u9
          have hH := zMv ht9 hvm9 hB
          clear hB
          simp only at hw hH
          generalize H1 = H at hH hS ⊢
          have hca := hw
          refine W.widen (k := 2) (n := 12) (by decide) (by decide) ?_
          refine vx_ret ?_
          exact W.iret (v := r112) hx hb hr (fun t9 ht9 hW9 => ⟨⟨r112, (f113, g114), rfl, (show ∃ b, b < n ∧ (nI t) = nI b ∧ (((td : Nat) : Int) + 1 ≤ y.toInt ∧ y.toInt ≤ 999 ∧ 1 ≤ z.toInt ∧ z.toInt ≤ 10000) ∧ c < 60 ∧ r112 = nI (c + 1) ∧ f113 = zu (zu (zu fi 7 c y) 8 c z) 5 3 (nI (c + 1)) ∧ g114 = zur fr 6 c (some (300 + b)) from ⟨t, ht, rfl, (by have k0 := hy104; have k1 := hy108; omega), by omega, hca⟩), zEnd1 hH ht9 hW9⟩, hS.F ht9⟩) hS.2.2 dX11_coming_77
        · have zc111 := c111
          replace zc111 := zc_nlt (nI_toInt (by omega)) (nI_toInt (by omega)) zc111
          obtain ⟨a115, ha115⟩ := hz.1.2.2.2.2.1 _ (List.mem_of_getElem? (i := 6) rfl)
          have hat : ∀ w ∈ vx_atS RX11 111 "java/lang/UnsupportedOperationException" ["java/lang/RuntimeException", "java/lang/Exception"], w.before _ s = true := vx_hat (fun w h => hts w (List.mem_cons_of_mem _ (List.mem_append_left _ (List.mem_append_right _ h)))) (B := [.castable "java/lang/UnsupportedOperationException" "java/lang/UnsupportedOperationException", .declares (Bundle.initS "java/lang/RuntimeException"), .declares (Bundle.initS "java/lang/Exception"), .declares (Bundle.initS Bundle.tN)]) (by decide +kernel) (vx_c (va_Nw.use rfl (hz.1.2.2.2.2.2.2.2.1 _ (List.mem_of_getElem? (i := 2) rfl))) (vx_c (va_Nw.use rfl (hz.1.2.2.2.2.2.2.2.2 _ (List.mem_of_getElem? (i := 0) rfl))) (vx_c (va_Nw.use rfl (hz.1.2.2.2.2.2.2.2.2 _ (List.mem_of_getElem? (i := 1) rfl))) (vx_c (va_Nw.use rfl (hz.1.2.2.2.2.2.2.2.2 _ (List.mem_of_getElem? (i := 2) rfl))) vx_n))))
          exact vx_throwS hx hb hl0 (own := RX11) (cls := "java/lang/UnsupportedOperationException") (text := "too much is coming") (names := ["java/lang/RuntimeException", "java/lang/Exception"]) hown (by decide +kernel) (by decide +kernel) hw5 hw6 ha115 hat (by decide +kernel) hz.1.1 hz.1.2.1 hS (by rw [hml]; exact hl.1) dX11_coming_56 dX11_coming_59 dX11_coming_60 dX11_coming_62 dX11_coming_65 (fun x h9 => (ht0 x h9).elim) (Nat.le_of_ble_eq_true rfl) (Nat.le_of_ble_eq_true rfl) (Nat.le_of_ble_eq_true rfl) (Nat.le_of_ble_eq_true rfl) hlocks (fun t9 hvm9 h91 h92 => ⟨(), trivial, ⟨Or.inr (Or.inr ⟨rfl, ⟨t, ht, rfl⟩, (by have k0 := hy104; have k1 := hy108; omega), by omega⟩), zThr hH hvm9 h92⟩, zF2 hS h91 h92⟩) hS.2.2 (by decide) (by decide)
      · skip
        replace hn109 := zWi0 (rfl) (nI_toInt (by omega)) (nI_toInt (by omega)) hn109
        refine lv_if_ne (tgt := 44) hx hb dX11_coming_31 (by decide) (fun c116 => absurd (by decide) c116) (fun c116 => ?_)
        obtain ⟨a117, ha117⟩ := hz.1.2.2.2.2.1 _ (List.mem_of_getElem? (i := 5) rfl)
        have hat : ∀ w ∈ vx_atS RX11 95 "java/lang/IllegalArgumentException" ["java/lang/RuntimeException", "java/lang/Exception"], w.before _ s = true := vx_hat (fun w h => hts w (List.mem_cons_of_mem _ (List.mem_append_left _ (List.mem_append_left _ (List.mem_append_right _ h))))) (B := [.castable "java/lang/IllegalArgumentException" "java/lang/IllegalArgumentException", .declares (Bundle.initS "java/lang/RuntimeException"), .declares (Bundle.initS "java/lang/Exception"), .declares (Bundle.initS Bundle.tN)]) (by decide +kernel) (vx_c (va_Nw.use rfl (hz.1.2.2.2.2.2.2.2.1 _ (List.mem_of_getElem? (i := 1) rfl))) (vx_c (va_Nw.use rfl (hz.1.2.2.2.2.2.2.2.2 _ (List.mem_of_getElem? (i := 0) rfl))) (vx_c (va_Nw.use rfl (hz.1.2.2.2.2.2.2.2.2 _ (List.mem_of_getElem? (i := 1) rfl))) (vx_c (va_Nw.use rfl (hz.1.2.2.2.2.2.2.2.2 _ (List.mem_of_getElem? (i := 2) rfl))) vx_n))))
        exact vx_throwS hx hb hl0 (own := RX11) (cls := "java/lang/IllegalArgumentException") (text := "the day or how many is out of its bounds") (names := ["java/lang/RuntimeException", "java/lang/Exception"]) hown (by decide +kernel) (by decide +kernel) hw7 hw8 ha117 hat (by decide +kernel) hz.1.1 hz.1.2.1 hS (by rw [hml]; exact hl.1) dX11_coming_34 dX11_coming_37 dX11_coming_38 dX11_coming_40 dX11_coming_43 (fun x h9 => (ht0 x h9).elim) (Nat.le_of_ble_eq_true rfl) (Nat.le_of_ble_eq_true rfl) (Nat.le_of_ble_eq_true rfl) (Nat.le_of_ble_eq_true rfl) hlocks (fun t9 hvm9 h91 h92 => ⟨(), trivial, ⟨Or.inr (Or.inl ⟨rfl, ⟨t, ht, rfl⟩, fun h9 => by have h8 := hn109; omega⟩), zThr hH hvm9 h92⟩, zF2 hS h91 h92⟩) hS.2.2 (by decide) (by decide)
    · skip
      replace hn105 := zWi0 (rfl) (nI_toInt (by omega)) (nI_toInt (by omega)) hn105
      refine lv_if_eq (tgt := 34) hx hb dX11_coming_20 (by decide) (fun c118 => ?_) (fun c118 => absurd (by decide) c118)
      obtain ⟨a119, ha119⟩ := hz.1.2.2.2.2.1 _ (List.mem_of_getElem? (i := 5) rfl)
      have hat : ∀ w ∈ vx_atS RX11 95 "java/lang/IllegalArgumentException" ["java/lang/RuntimeException", "java/lang/Exception"], w.before _ s = true := vx_hat (fun w h => hts w (List.mem_cons_of_mem _ (List.mem_append_left _ (List.mem_append_left _ (List.mem_append_right _ h))))) (B := [.castable "java/lang/IllegalArgumentException" "java/lang/IllegalArgumentException", .declares (Bundle.initS "java/lang/RuntimeException"), .declares (Bundle.initS "java/lang/Exception"), .declares (Bundle.initS Bundle.tN)]) (by decide +kernel) (vx_c (va_Nw.use rfl (hz.1.2.2.2.2.2.2.2.1 _ (List.mem_of_getElem? (i := 1) rfl))) (vx_c (va_Nw.use rfl (hz.1.2.2.2.2.2.2.2.2 _ (List.mem_of_getElem? (i := 0) rfl))) (vx_c (va_Nw.use rfl (hz.1.2.2.2.2.2.2.2.2 _ (List.mem_of_getElem? (i := 1) rfl))) (vx_c (va_Nw.use rfl (hz.1.2.2.2.2.2.2.2.2 _ (List.mem_of_getElem? (i := 2) rfl))) vx_n))))
      exact vx_throwS hx hb hl0 (own := RX11) (cls := "java/lang/IllegalArgumentException") (text := "the day or how many is out of its bounds") (names := ["java/lang/RuntimeException", "java/lang/Exception"]) hown (by decide +kernel) (by decide +kernel) hw7 hw8 ha119 hat (by decide +kernel) hz.1.1 hz.1.2.1 hS (by rw [hml]; exact hl.1) dX11_coming_34 dX11_coming_37 dX11_coming_38 dX11_coming_40 dX11_coming_43 (fun x h9 => (ht0 x h9).elim) (Nat.le_of_ble_eq_true rfl) (Nat.le_of_ble_eq_true rfl) (Nat.le_of_ble_eq_true rfl) (Nat.le_of_ble_eq_true rfl) hlocks (fun t9 hvm9 h91 h92 => ⟨(), trivial, ⟨Or.inr (Or.inl ⟨rfl, ⟨t, ht, rfl⟩, fun h9 => by have h8 := hn105; omega⟩), zThr hH hvm9 h92⟩, zF2 hS h91 h92⟩) hS.2.2 (by decide) (by decide)
