set_option maxHeartbeats 4000000 in
set_option maxRecDepth 100000 in
/-- Comings.add -/
theorem c_cadd (l : Launch) (hl0 : l.stackTraces = false) (D : va_G) (A : Nat → Prop) (sad : Nat → Nat) (τ : zTy) (fi : zFi) (fr : zFr) (ol : Int64) (hF : zFix τ fr) (n : Nat) (hT : zTh τ fi fr n) (c : Nat) (hC : zCm fi fr n c) (t : Nat) (ht : t < n) (y z : Int32) (hc : c < 60) : Met l yX1_add wsX1_add ({ frames := 0, cells := 0, slots := 0, locals := 0 }) (va_Pc [.ref (τ.1 5), .ref (τ.1 (300 + t)), .int y, .int z] (zQc D A sad τ fi fr ol)) (va_Qi (fun (r : Int32) (u : zFi × zFr) => r = nI (c + 1) ∧ u.1 = zu (zu (zu fi 7 c y) 8 c z) 5 3 (nI (c + 1)) ∧ u.2 = zur fr 6 c (some (300 + t))) (fun (u : zFi × zFr) (t : State) => zH D A τ u.1 u.2 ol t t.heap) A) 0 0 A := by
  refine Met.ofW (cc := cX1_add) (maxL := 4) (ret := (some .int)) (by decide) rfl ?_
  intro p9 e9 s m args below meth c9 s₁ B hml hv
  obtain ⟨rfl, hz, hH, hA⟩ := hv
  have hx := B.exec
  have hb := B.bytes
  have hr := B.returns
  have hts := atoms_spec (ws := wsX1_add) B.pre
  have hown : s.vm.findClass RX1 = some m.cls := findClass_of_methodNamed B.named
  have hlocks := B.notSynchronized
  have hS : va_S A s.heap s.heap [] := va_S.rf
  have hl := lv_entry ([.ref (τ.1 5), .ref (τ.1 (300 + t)), .int y, .int z]) (n := 4) (Nat.le_of_ble_eq_true rfl)
  rw [lg_entry_eq]
  generalize (lg_sl ([.ref (τ.1 5), .ref (τ.1 (300 + t)), .int y, .int z]) ++ List.replicate (4 - (lg_sl ([.ref (τ.1 5), .ref (τ.1 (300 + t)), .int y, .int z])).length) Slot.unset).toArray = ls at hl ⊢
  have hl : lv_has ls 4 [(0, .ref (τ.1 5)), (1, .ref (τ.1 (300 + t))), (2, .int y), (3, .int z)] := hl
  have hn30 := hT.1
  have hiX1 : ∀ w ∈ u_ws RX1 TX1 4, w ∈ wsX1_add := fun _ h => List.mem_cons_of_mem _ (List.mem_append_right _ h)
  have hw1 := hts (.fieldLink RX1 24 "PostHouse$Comings" "size" "I") (by decide +kernel)
  have hw2 := hts (.fieldLink RX1 11 "PostHouse$Comings" "things" "[LPostHouse$Thing;") (by decide +kernel)
  have hw3 := hts (.fieldLink RX1 17 "PostHouse$Comings" "days" "[I") (by decide +kernel)
  have hw4 := hts (.fieldLink RX1 21 "PostHouse$Comings" "pieces" "[I") (by decide +kernel)
  refine lv_aload_n hx hb dX1_add_0 rfl (lv_at hl 0 rfl) ?_
  refine zGetI (D := D) (ci := 1) (C := RX1) (T := TX1) (N := 4) hx hb hts hiX1 hown hH (zk_5 hF) rfl 3 (by decide) rfl hw1 (fun _ h9 => h9) dX1_add_1 hC.2.1 ?_
  refine lv_bipush (v := nI 60) hx hb dX1_add_4 (by decide) ?_
  refine lv_icmp_ge (tgt := 49) hx hb dX1_add_6 (by decide) (fun c101 => False.elim (by have zc101 := zc_le (nI_toInt (by omega)) (nI_toInt (by omega)) c101; omega)) (fun c101 => ?_)
  refine lv_aload_n hx hb dX1_add_9 rfl (lv_at hl 0 rfl) ?_
  refine zGetR (D := D) (ci := 1) (C := RX1) (T := TX1) (N := 4) hx hb hts hiX1 hown hH (zk_5 hF) rfl 0 (by decide) rfl hw2 (fun _ h9 => h9) dX1_add_10 (zr_5_0 hF) ?_
  refine lv_aload_n hx hb dX1_add_13 rfl (lv_at hl 0 rfl) ?_
  refine zGetI (D := D) (ci := 1) (C := RX1) (T := TX1) (N := 4) hx hb hts hiX1 hown hH (zk_5 hF) rfl 3 (by decide) rfl hw1 (fun _ h9 => h9) dX1_add_14 hC.2.1 ?_
  refine lv_aload_n hx hb dX1_add_17 rfl (lv_at hl 1 rfl) ?_
  refine zAastS (D := D) (rr := (RX8, TX8, 10)) hx hb hH hS (zk_6 hF) (by decide) (by decide) rfl (hT.2.2.1 t (by omega)).1.1 rfl (zn_6 hF) (by omega) (by omega) dX1_add_18 (fun H locs hH hS => ?_)
  obtain ⟨g102, eg102⟩ : ∃ f9 : zFr, f9 = zur fr 6 c (some (300 + t)) := ⟨_, rfl⟩
  rw [← eg102] at hH
  have hF103 : zFix τ g102 := by rw [eg102]; exact hF.ur (by omega)
  refine lv_aload_n hx hb dX1_add_19 rfl (lv_at hl 0 rfl) ?_
  refine zGetR (D := D) (ci := 1) (C := RX1) (T := TX1) (N := 4) hx hb hts hiX1 hown hH (zk_5 hF103) rfl 1 (by decide) rfl hw3 (fun _ h9 => h9) dX1_add_20 (zr_5_1 hF103) ?_
  refine lv_aload_n hx hb dX1_add_23 rfl (lv_at hl 0 rfl) ?_
  refine zGetI (D := D) (ci := 1) (C := RX1) (T := TX1) (N := 4) hx hb hts hiX1 hown hH (zk_5 hF103) rfl 3 (by decide) rfl hw1 (fun _ h9 => h9) dX1_add_24 hC.2.1 ?_
  refine lv_iload_n hx hb dX1_add_27 rfl (lv_at hl 2 rfl) ?_
  refine zIastN (D := D) hx hb hH hS (zk_7 hF103) (zn_7 hF103) (by omega) (by omega) dX1_add_28 (fun H locs hH hS => ?_)
  obtain ⟨f104, ef104⟩ : ∃ f9 : zFi, f9 = zu fi 7 c y := ⟨_, rfl⟩
  rw [← ef104] at hH
  have q105 : f104 5 3 = nI c := by rw [ef104, zu_n (fun h9 => absurd h9.1 (by decide))]; exact hC.2.1
  have q106 : f104 7 c = y := by rw [ef104]; exact zu_s
  refine lv_aload_n hx hb dX1_add_29 rfl (lv_at hl 0 rfl) ?_
  refine zGetR (D := D) (ci := 1) (C := RX1) (T := TX1) (N := 4) hx hb hts hiX1 hown hH (zk_5 hF103) rfl 2 (by decide) rfl hw4 (fun _ h9 => h9) dX1_add_30 (zr_5_2 hF103) ?_
  refine lv_aload_n hx hb dX1_add_33 rfl (lv_at hl 0 rfl) ?_
  refine zGetI (D := D) (ci := 1) (C := RX1) (T := TX1) (N := 4) hx hb hts hiX1 hown hH (zk_5 hF103) rfl 3 (by decide) rfl hw1 (fun _ h9 => h9) dX1_add_34 q105 ?_
  refine lv_iload_n hx hb dX1_add_37 rfl (lv_at hl 3 rfl) ?_
  refine zIastN (D := D) hx hb hH hS (zk_8 hF103) (zn_8 hF103) (by omega) (by omega) dX1_add_38 (fun H locs hH hS => ?_)
  obtain ⟨f107, ef107⟩ : ∃ f9 : zFi, f9 = zu f104 8 c z := ⟨_, rfl⟩
  rw [← ef107] at hH
  have q108 : f107 5 3 = nI c := by rw [ef107, zu_n (fun h9 => absurd h9.1 (by decide))]; exact q105
  have q109 : f107 7 c = y := by rw [ef107, zu_n (fun h9 => absurd h9.1 (by decide))]; exact q106
  have q110 : f107 8 c = z := by rw [ef107]; exact zu_s
  refine lv_aload_n hx hb dX1_add_39 rfl (lv_at hl 0 rfl) ?_
  refine lv_dup hx hb dX1_add_40 rfl ?_
  refine zGetI (D := D) (ci := 1) (C := RX1) (T := TX1) (N := 4) hx hb hts hiX1 hown hH (zk_5 hF103) rfl 3 (by decide) rfl hw1 (fun _ h9 => h9) dX1_add_41 q108 ?_
  refine lv_iconst (v := nI 1) hx hb dX1_add_44 (by decide) ?_
  refine lv_iadd hx hb dX1_add_45 ?_
  refine lv_topi (fun v111 ev111 => ?_)
  obtain rfl : v111 = nI (c + 1) := ev111.trans (nI_add _ _)
  refine zPutI (D := D) (ci := 1) (ty := .int) (C := RX1) (T := TX1) (N := 4) hx hb hts hiX1 tyX1 tyX1_ok nmX1 hown hH hS (zk_5 hF103) rfl 3 (by decide) rfl hw1 (fun _ h9 => h9) rfl (by decide +kernel) rfl rfl dX1_add_46 (fun H locs hH hS => ?_)
  obtain ⟨f112, ef112⟩ : ∃ f9 : zFi, f9 = zu f107 5 3 (nI (c + 1)) := ⟨_, rfl⟩
  rw [← ef112] at hH
  have q113 : f112 7 c = y := by rw [ef112, zu_n (fun h9 => absurd h9.1 (by decide))]; exact q109
  have q114 : f112 8 c = z := by rw [ef112, zu_n (fun h9 => absurd h9.1 (by decide))]; exact q110
  have q115 : f112 5 3 = nI (c + 1) := by rw [ef112]; exact zu_s
  refine lv_aload_n hx hb dX1_add_49 rfl (lv_at hl 0 rfl) ?_
  refine zGetI (D := D) (ci := 1) (C := RX1) (T := TX1) (N := 4) hx hb hts hiX1 hown hH (zk_5 hF103) rfl 3 (by decide) rfl hw1 (fun _ h9 => h9) dX1_add_50 q115 ?_
  refine W.widen (k := 0) (n := 0) (by decide) (by decide) ?_
  exact W.iret (v := nI (c + 1)) hx hb hr (fun t9 ht9 hW9 => ⟨⟨nI (c + 1), (f112, g102), rfl, (show (nI (c + 1)) = nI (c + 1) ∧ f112 = zu (zu (zu fi 7 c y) 8 c z) 5 3 (nI (c + 1)) ∧ g102 = zur fr 6 c (some (300 + t)) from ⟨rfl, by rw [ef112, ef107, ef104], by rw [eg102]⟩), zEnd1 hH ht9 hW9⟩, hS.F ht9⟩) hS.2.2 dX1_add_53
/-- how many of the first i days are another one -/
def zKp (d : Nat → Int32) (x : Int32) : Nat → Nat
  | 0 => 0
  | i + 1 => zKp d x i + (if d i = x then 0 else 1)
theorem zKp_le (d : Nat → Int32) (x : Int32) : ∀ i, zKp d x i ≤ i
  | 0 => Nat.le_refl _
  | i + 1 => by
    have := zKp_le d x i
    simp only [zKp]
    split <;> omega
theorem zKp_y {d : Nat → Int32} {x : Int32} {i : Nat} (h : d i = x) : zKp d x (i + 1) = zKp d x i := by simp [zKp, h]
theorem zKp_n {d : Nat → Int32} {x : Int32} {i : Nat} (h : ¬ d i = x) : zKp d x (i + 1) = zKp d x i + 1 := by simp [zKp, h]
theorem zKp_mono (d : Nat → Int32) (x : Int32) : ∀ i j, zKp d x i ≤ zKp d x (i + j)
  | _, 0 => Nat.le_refl _
  | i, j + 1 => by
    have := zKp_mono d x i j
    rw [show i + (j + 1) = (i + j) + 1 by omega]
    simp only [zKp]
    split <;> omega
theorem zKp_lt {d : Nat → Int32} {x : Int32} {b i : Nat} (h : b < i) (hb : ¬ d b = x) : zKp d x b < zKp d x i := by
  have h1 := zKp_mono d x (b + 1) (i - (b + 1))
  rw [show b + 1 + (i - (b + 1)) = i by omega, zKp_n hb] at h1
  omega
set_option maxHeartbeats 4000000 in
set_option maxRecDepth 100000 in
/-- Comings.arrive -/
theorem c_arrive (l : Launch) (hl0 : l.stackTraces = false) (D : va_G) (A : Nat → Prop) (sad : Nat → Nat) (τ : zTy) (fi : zFi) (fr : zFr) (ol : Int64) (x : Int32) (hF : zFix τ fr) (n : Nat) (hT : zTh τ fi fr n) (c : Nat) (hC : zCm fi fr n c) : Met l yX1_arrive wsX1_arrive ({ frames := 0, cells := 0, slots := 0, locals := 0 }) (va_Pc [.ref (τ.1 5), .int x] (zQc D A sad τ fi fr ol)) (va_Qv (fun (u : zFi × zFr) => zCm u.1 u.2 n (zKp (fi 7) x c) ∧ (∀ a b, ¬ (a = 7 ∨ a = 8 ∨ (a = 5 ∧ b = 3) ∨ (300 ≤ a ∧ a < 330 ∧ b = 5)) → u.1 a b = fi a b) ∧ (∀ a b, a ≠ 6 → u.2 a b = fr a b) ∧ ∀ b, b < c → ¬ fi 7 b = x → u.1 7 (zKp (fi 7) x b) = fi 7 b ∧ u.1 8 (zKp (fi 7) x b) = fi 8 b ∧ u.2 6 (zKp (fi 7) x b) = fr 6 b) (fun (u : zFi × zFr) (t : State) => zH D A τ u.1 u.2 ol t t.heap) A) 0 0 A := by
  refine Met.ofW (cc := cX1_arrive) (maxL := 4) (ret := none) (by decide) rfl ?_
  intro p9 e9 s m args below meth c9 s₁ B hml hv
  obtain ⟨rfl, hz, hH, hA⟩ := hv
  have hx := B.exec
  have hb := B.bytes
  have hr := B.returns
  have hts := atoms_spec (ws := wsX1_arrive) B.pre
  have hown : s.vm.findClass RX1 = some m.cls := findClass_of_methodNamed B.named
  have hlocks := B.notSynchronized
  have hS : va_S A s.heap s.heap [] := va_S.rf
  have hl := lv_entry ([.ref (τ.1 5), .int x]) (n := 4) (Nat.le_of_ble_eq_true rfl)
  rw [lg_entry_eq]
  generalize (lg_sl ([.ref (τ.1 5), .int x]) ++ List.replicate (4 - (lg_sl ([.ref (τ.1 5), .int x])).length) Slot.unset).toArray = ls at hl ⊢
  have hl : lv_has ls 4 [(0, .ref (τ.1 5)), (1, .int x)] := hl
  have hn30 := hT.1
  have hc60 := hC.1
  have hiX1 : ∀ w ∈ u_ws RX1 TX1 4, w ∈ wsX1_arrive := fun _ h => List.mem_cons_of_mem _ (List.mem_append_left _ (List.mem_append_right _ h))
  have hw1 := hts (.fieldLink RX1 24 "PostHouse$Comings" "size" "I") (by decide +kernel)
  have hw2 := hts (.fieldLink RX1 17 "PostHouse$Comings" "days" "[I") (by decide +kernel)
  have hw3 := hts (.fieldLink RX1 11 "PostHouse$Comings" "things" "[LPostHouse$Thing;") (by decide +kernel)
  have hw4 := hts (.fieldLink RX1 21 "PostHouse$Comings" "pieces" "[I") (by decide +kernel)
  have hiX8 : ∀ w ∈ u_ws RX8 TX8 10, w ∈ wsX1_arrive := fun _ h => List.mem_cons_of_mem _ (List.mem_append_right _ h)
  have hw6 := hts (.fieldLink RX1 28 "PostHouse$Thing" "stock" "I") (by decide +kernel)
  refine lv_iconst (v := nI 0) hx hb dX1_arrive_0 (by decide) ?_
  refine lv_istore_n (lv' := [(2, .int (nI 0)), (0, .ref (τ.1 5)), (1, .int x)]) hx hb dX1_arrive_1 rfl hl (by decide) rfl (fun ls hl => ?_)
  refine lv_iconst (v := nI 0) hx hb dX1_arrive_2 (by decide) ?_
  refine lv_istore_n (lv' := [(3, .int (nI 0)), (2, .int (nI 0)), (0, .ref (τ.1 5)), (1, .int x)]) hx hb dX1_arrive_3 rfl hl (by decide) rfl (fun ls hl => ?_)
  refine zLp (σ := Nat × Nat × zFi × zFr) (fun x9 k9 H locs ls => (fun (i : Nat) (j : Nat) (f : zFi) (g : zFr) => k9 = c - i ∧ (i ≤ c ∧ j = zKp (fi 7) x i ∧ zFix τ g ∧ (∀ a b, ¬ (a = 7 ∨ a = 8 ∨ (300 ≤ a ∧ a < 330 ∧ b = 5)) → f a b = fi a b) ∧ (∀ a b, a ≠ 6 → g a b = fr a b) ∧ (∀ b, i ≤ b → f 7 b = fi 7 b ∧ f 8 b = fi 8 b ∧ g 6 b = fr 6 b) ∧ (∀ b, b < i → ¬ fi 7 b = x → f 7 (zKp (fi 7) x b) = fi 7 b ∧ f 8 (zKp (fi 7) x b) = fi 8 b ∧ g 6 (zKp (fi 7) x b) = fr 6 b) ∧ ∀ b, b < c → ∃ t, t < n ∧ g 6 b = some (300 + t)) ∧ zH D A τ f g ol s H ∧ va_S A s.heap H locs ∧ lv_has ls 4 [(0, .ref (τ.1 5)), (1, .int x), (2, .int (nI j)), (3, .int (nI i))]) x9.1 x9.2.1 x9.2.2.1 x9.2.2.2) (0, 0, fi, fr) (c - 0) (show c - 0 = c - 0 ∧ (0 ≤ c ∧ 0 = zKp (fi 7) x 0 ∧ zFix τ fr ∧ (∀ a b, ¬ (a = 7 ∨ a = 8 ∨ (300 ≤ a ∧ a < 330 ∧ b = 5)) → fi a b = fi a b) ∧ (∀ a b, a ≠ 6 → fr a b = fr a b) ∧ (∀ b, 0 ≤ b → fi 7 b = fi 7 b ∧ fi 8 b = fi 8 b ∧ fr 6 b = fr 6 b) ∧ (∀ b, b < 0 → ¬ fi 7 b = x → fi 7 (zKp (fi 7) x b) = fi 7 b ∧ fi 8 (zKp (fi 7) x b) = fi 8 b ∧ fr 6 (zKp (fi 7) x b) = fr 6 b) ∧ ∀ b, b < c → ∃ t, t < n ∧ fr 6 b = some (300 + t)) ∧ zH D A τ fi fr ol s _ ∧ va_S A s.heap _ _ ∧ lv_has _ 4 [(0, .ref (τ.1 5)), (1, .int x), (2, .int (nI 0)), (3, .int (nI 0))] from ⟨rfl, ⟨Nat.zero_le _, rfl, hF, fun _ _ _ => rfl, fun _ _ _ => rfl, fun _ _ => ⟨rfl, rfl, rfl⟩, fun b h => absurd h (by omega), hC.2.2⟩, hH, hS, lv_sub hl [2, 3, 1, 0] rfl⟩) (fun k9 ih x9 H locs ls hv9 => ?_)
  obtain ⟨i, j, f, g⟩ := x9
  have hv9 : k9 = c - i ∧ (i ≤ c ∧ j = zKp (fi 7) x i ∧ zFix τ g ∧ (∀ a b, ¬ (a = 7 ∨ a = 8 ∨ (300 ≤ a ∧ a < 330 ∧ b = 5)) → f a b = fi a b) ∧ (∀ a b, a ≠ 6 → g a b = fr a b) ∧ (∀ b, i ≤ b → f 7 b = fi 7 b ∧ f 8 b = fi 8 b ∧ g 6 b = fr 6 b) ∧ (∀ b, b < i → ¬ fi 7 b = x → f 7 (zKp (fi 7) x b) = fi 7 b ∧ f 8 (zKp (fi 7) x b) = fi 8 b ∧ g 6 (zKp (fi 7) x b) = fr 6 b) ∧ ∀ b, b < c → ∃ t, t < n ∧ g 6 b = some (300 + t)) ∧ zH D A τ f g ol s H ∧ va_S A s.heap H locs ∧ lv_has ls 4 [(0, .ref (τ.1 5)), (1, .int x), (2, .int (nI j)), (3, .int (nI i))] := hv9
  obtain ⟨hkih101, hv9, hH, hS, hl⟩ := hv9
  obtain ⟨h1, hj, hFg, hfr, hgr, hun, hkp, hty⟩ := hv9
  have ih101 := ih
  clear ih
  have q1 : f 5 3 = nI c := by rw [hfr 5 3 (by omega)]; exact hC.2.1
  have hji := zKp_le (fi 7) x i
  rw [← hj] at hji
  refine lv_iload_n hx hb dX1_arrive_4 rfl (lv_at hl 3 rfl) ?_
  refine lv_aload_n hx hb dX1_arrive_5 rfl (lv_at hl 0 rfl) ?_
  refine zGetI (D := D) (ci := 1) (C := RX1) (T := TX1) (N := 4) hx hb hts hiX1 hown hH (zk_5 hFg) rfl 3 (by decide) rfl hw1 (fun _ h9 => h9) dX1_arrive_6 q1 ?_
  refine lv_icmp_ge (tgt := 90) hx hb dX1_arrive_9 (by decide) (fun c102 => ?_) (fun c102 => ?_)
  · have zc102 := c102
    replace zc102 := zc_le (nI_toInt (by omega)) (nI_toInt (by omega)) zc102
    refine lv_aload_n hx hb dX1_arrive_90 rfl (lv_at hl 0 rfl) ?_
    refine lv_iload_n hx hb dX1_arrive_91 rfl (lv_at hl 2 rfl) ?_
    refine zPutI (D := D) (ci := 1) (ty := .int) (C := RX1) (T := TX1) (N := 4) hx hb hts hiX1 tyX1 tyX1_ok nmX1 hown hH hS (zk_5 hFg) rfl 3 (by decide) rfl hw1 (fun _ h9 => h9) rfl (by decide +kernel) rfl rfl dX1_arrive_92 (fun H locs hH hS => ?_)
    obtain ⟨f103, ef103⟩ : ∃ f9 : zFi, f9 = zu f 5 3 (nI j) := ⟨_, rfl⟩
    rw [← ef103] at hH
    have q104 : f103 5 3 = nI j := by rw [ef103]; exact zu_s
    have hic : i = c := by omega
    rw [hic] at hj
    have hle := zKp_le (fi 7) x c
    refine W.widen (k := 0) (n := 0) (by decide) (by decide) ?_
    exact W.vret hx hb hr (fun t9 ht9 hW9 => ⟨⟨(f103, g), rfl, (show zCm f103 g n (zKp (fi 7) x c) ∧ (∀ a b, ¬ (a = 7 ∨ a = 8 ∨ (a = 5 ∧ b = 3) ∨ (300 ≤ a ∧ a < 330 ∧ b = 5)) → f103 a b = fi a b) ∧ (∀ a b, a ≠ 6 → g a b = fr a b) ∧ ∀ b, b < c → ¬ fi 7 b = x → f103 7 (zKp (fi 7) x b) = fi 7 b ∧ f103 8 (zKp (fi 7) x b) = fi 8 b ∧ g 6 (zKp (fi 7) x b) = fr 6 b from ⟨⟨by omega, by rw [ef103, ← hj]; exact zu_s, fun b h => hty b (by omega)⟩, fun a b h => by rw [ef103, zu_n (by omega)]; exact hfr a b (by omega), hgr, fun b h h2 => by rw [ef103, zu_n (by omega), zu_n (by omega)]; exact hkp b (by omega) h2⟩), zEnd1 hH ht9 hW9⟩, hS.F ht9⟩) hS.2.2 dX1_arrive_95
  · have zc102 := c102
    replace zc102 := zc_nle (nI_toInt (by omega)) (nI_toInt (by omega)) zc102
    refine lv_aload_n hx hb dX1_arrive_12 rfl (lv_at hl 0 rfl) ?_
    refine zGetR (D := D) (ci := 1) (C := RX1) (T := TX1) (N := 4) hx hb hts hiX1 hown hH (zk_5 hFg) rfl 1 (by decide) rfl hw2 (fun _ h9 => h9) dX1_arrive_13 (zr_5_1 hFg) ?_
    refine lv_iload_n hx hb dX1_arrive_16 rfl (lv_at hl 3 rfl) ?_
    refine zIaldN (D := D) hx hb hH (zk_7 hFg) (zn_7 hFg) (by omega) (by omega) rfl dX1_arrive_17 ?_
    refine lv_iload_n hx hb dX1_arrive_18 rfl (lv_at hl 1 rfl) ?_
    refine lv_icmp_ne (tgt := 45) hx hb dX1_arrive_19 (by decide) (fun c105 => ?_) (fun c105 => ?_)
    · have zc105 := c105
      replace zc105 := zc_neq (rfl) (rfl) zc105
      refine lv_aload_n hx hb dX1_arrive_45 rfl (lv_at hl 0 rfl) ?_
      refine zGetR (D := D) (ci := 1) (C := RX1) (T := TX1) (N := 4) hx hb hts hiX1 hown hH (zk_5 hFg) rfl 0 (by decide) rfl hw3 (fun _ h9 => h9) dX1_arrive_46 (zr_5_0 hFg) ?_
      refine lv_iload_n hx hb dX1_arrive_49 rfl (lv_at hl 2 rfl) ?_
      refine lv_aload_n hx hb dX1_arrive_50 rfl (lv_at hl 0 rfl) ?_
      refine zGetR (D := D) (ci := 1) (C := RX1) (T := TX1) (N := 4) hx hb hts hiX1 hown hH (zk_5 hFg) rfl 0 (by decide) rfl hw3 (fun _ h9 => h9) dX1_arrive_51 (zr_5_0 hFg) ?_
      refine lv_iload_n hx hb dX1_arrive_54 rfl (lv_at hl 3 rfl) ?_
      obtain ⟨t106, ht106, gt106⟩ := hty i (by omega)
      refine zAaldS (D := D) hx hb hH (zk_6 hFg) (by decide) (by decide) rfl (zn_6 hFg) (by omega) (by omega) gt106 dX1_arrive_55 ?_
      refine zAastS (D := D) (rr := (RX8, TX8, 10)) hx hb hH hS (zk_6 hFg) (by decide) (by decide) rfl (hT.2.2.1 t106 (by omega)).1.1 rfl (zn_6 hFg) (by omega) (by omega) dX1_arrive_56 (fun H locs hH hS => ?_)
      obtain ⟨g107, eg107⟩ : ∃ f9 : zFr, f9 = zur g 6 j (some (300 + t106)) := ⟨_, rfl⟩
      rw [← eg107] at hH
      have hF108 : zFix τ g107 := by rw [eg107]; exact hFg.ur (by omega)
      refine lv_aload_n hx hb dX1_arrive_57 rfl (lv_at hl 0 rfl) ?_
      refine zGetR (D := D) (ci := 1) (C := RX1) (T := TX1) (N := 4) hx hb hts hiX1 hown hH (zk_5 hF108) rfl 1 (by decide) rfl hw2 (fun _ h9 => h9) dX1_arrive_58 (zr_5_1 hF108) ?_
      refine lv_iload_n hx hb dX1_arrive_61 rfl (lv_at hl 2 rfl) ?_
      refine lv_aload_n hx hb dX1_arrive_62 rfl (lv_at hl 0 rfl) ?_
      refine zGetR (D := D) (ci := 1) (C := RX1) (T := TX1) (N := 4) hx hb hts hiX1 hown hH (zk_5 hF108) rfl 1 (by decide) rfl hw2 (fun _ h9 => h9) dX1_arrive_63 (zr_5_1 hF108) ?_
      refine lv_iload_n hx hb dX1_arrive_66 rfl (lv_at hl 3 rfl) ?_
      refine zIaldN (D := D) hx hb hH (zk_7 hF108) (zn_7 hF108) (by omega) (by omega) rfl dX1_arrive_67 ?_
      refine zIastN (D := D) hx hb hH hS (zk_7 hF108) (zn_7 hF108) (by omega) (by omega) dX1_arrive_68 (fun H locs hH hS => ?_)
      obtain ⟨f109, ef109⟩ : ∃ f9 : zFi, f9 = zu f 7 j (f 7 i) := ⟨_, rfl⟩
      rw [← ef109] at hH
      have q110 : f109 5 3 = nI c := by rw [ef109, zu_n (fun h9 => absurd h9.1 (by decide))]; exact q1
      have q111 : f109 7 j = f 7 i := by rw [ef109]; exact zu_s
      refine lv_aload_n hx hb dX1_arrive_69 rfl (lv_at hl 0 rfl) ?_
      refine zGetR (D := D) (ci := 1) (C := RX1) (T := TX1) (N := 4) hx hb hts hiX1 hown hH (zk_5 hF108) rfl 2 (by decide) rfl hw4 (fun _ h9 => h9) dX1_arrive_70 (zr_5_2 hF108) ?_
      refine lv_iload_n hx hb dX1_arrive_73 rfl (lv_at hl 2 rfl) ?_
      refine lv_aload_n hx hb dX1_arrive_74 rfl (lv_at hl 0 rfl) ?_
      refine zGetR (D := D) (ci := 1) (C := RX1) (T := TX1) (N := 4) hx hb hts hiX1 hown hH (zk_5 hF108) rfl 2 (by decide) rfl hw4 (fun _ h9 => h9) dX1_arrive_75 (zr_5_2 hF108) ?_
      refine lv_iload_n hx hb dX1_arrive_78 rfl (lv_at hl 3 rfl) ?_
      refine zIaldN (D := D) hx hb hH (zk_8 hF108) (zn_8 hF108) (by omega) (by omega) rfl dX1_arrive_79 ?_
      refine zIastN (D := D) hx hb hH hS (zk_8 hF108) (zn_8 hF108) (by omega) (by omega) dX1_arrive_80 (fun H locs hH hS => ?_)
      obtain ⟨f112, ef112⟩ : ∃ f9 : zFi, f9 = zu f109 8 j (f109 8 i) := ⟨_, rfl⟩
      rw [← ef112] at hH
      have q113 : f112 5 3 = nI c := by rw [ef112, zu_n (fun h9 => absurd h9.1 (by decide))]; exact q110
      have q114 : f112 7 j = f 7 i := by rw [ef112, zu_n (fun h9 => absurd h9.1 (by decide))]; exact q111
      have q115 : f112 8 j = f109 8 i := by rw [ef112]; exact zu_s
      refine lv_iinc (v := nI (j + 1)) (lv' := [(2, .int (nI (j + 1))), (0, .ref (τ.1 5)), (1, .int x), (3, .int (nI i))]) hx hb dX1_arrive_81 hl (k := 2) rfl (by rw [show (Int32.ofInt 1 : Int32) = nI 1 from by decide, nI_add]) (by decide) rfl (fun ls hl => ?_)
      refine lv_iinc (v := nI (i + 1)) (lv' := [(3, .int (nI (i + 1))), (2, .int (nI (j + 1))), (0, .ref (τ.1 5)), (1, .int x)]) hx hb dX1_arrive_84 hl (k := 3) rfl (by rw [show (Int32.ofInt 1 : Int32) = nI 1 from by decide, nI_add]) (by decide) rfl (fun ls hl => ?_)
      refine lv_goto (tgt := 4) hx hb dX1_arrive_87 (by decide) ?_
      have hB1 : ∀ b, b < i + 1 → ¬ fi 7 b = x → f112 7 (zKp (fi 7) x b) = fi 7 b ∧ f112 8 (zKp (fi 7) x b) = fi 8 b ∧ g107 6 (zKp (fi 7) x b) = fr 6 b := by
        intro b h9 h8
        by_cases h7 : b = i
        · subst h7
          rw [← hj]
          refine ⟨?_, ?_, ?_⟩
          · rw [ef112, zu_n (by omega), ef109, zu_s]; exact (hun b (Nat.le_refl _)).1
          · rw [ef112, zu_s, ef109, zu_n (by omega)]; exact (hun b (Nat.le_refl _)).2.1
          · rw [eg107, zur_s, ← gt106]; exact (hun b (Nat.le_refl _)).2.2
        · have h6 := zKp_lt (show b < i by omega) h8
          rw [← hj] at h6
          obtain ⟨a1, a2, a3⟩ := hkp b (by omega) h8
          refine ⟨?_, ?_, ?_⟩
          · rw [ef112, zu_n (by omega), ef109, zu_n (by omega)]; exact a1
          · rw [ef112, zu_n (by omega), ef109, zu_n (by omega)]; exact a2
          · rw [eg107, zur_n (by omega)]; exact a3
      have hB2 : ∀ b, b < c → ∃ t, t < n ∧ g107 6 b = some (300 + t) := by
        intro b h9
        by_cases h7 : b = j
        · subst h7
          exact ⟨t106, ht106, by rw [eg107]; exact zur_s⟩
        · rw [eg107, zur_n (by omega)]
          exact hty b h9
      exact ih101 (c - (i + 1)) (by omega) (i + 1, j + 1, f112, g107) _ _ _ (show c - (i + 1) = c - (i + 1) ∧ ((i + 1) ≤ c ∧ (j + 1) = zKp (fi 7) x (i + 1) ∧ zFix τ g107 ∧ (∀ a b, ¬ (a = 7 ∨ a = 8 ∨ (300 ≤ a ∧ a < 330 ∧ b = 5)) → f112 a b = fi a b) ∧ (∀ a b, a ≠ 6 → g107 a b = fr a b) ∧ (∀ b, (i + 1) ≤ b → f112 7 b = fi 7 b ∧ f112 8 b = fi 8 b ∧ g107 6 b = fr 6 b) ∧ (∀ b, b < (i + 1) → ¬ fi 7 b = x → f112 7 (zKp (fi 7) x b) = fi 7 b ∧ f112 8 (zKp (fi 7) x b) = fi 8 b ∧ g107 6 (zKp (fi 7) x b) = fr 6 b) ∧ ∀ b, b < c → ∃ t, t < n ∧ g107 6 b = some (300 + t)) ∧ zH D A τ f112 g107 ol s _ ∧ va_S A s.heap _ _ ∧ lv_has _ 4 [(0, .ref (τ.1 5)), (1, .int x), (2, .int (nI (j + 1))), (3, .int (nI (i + 1)))] from ⟨rfl, ⟨by omega, by rw [zKp_n (fun q9 => c105 (by rw [(hun i (Nat.le_refl _)).1]; exact q9)), hj], hF108, fun a b h9 => by rw [ef112, zu_n (by omega), ef109, zu_n (by omega)]; exact hfr a b h9, fun a b h9 => by rw [eg107, zur_n (by omega)]; exact hgr a b h9, fun b h9 => ⟨by rw [ef112, zu_n (by omega), ef109, zu_n (by omega)]; exact (hun b (by omega)).1, by rw [ef112, zu_n (by omega), ef109, zu_n (by omega)]; exact (hun b (by omega)).2.1, by rw [eg107, zur_n (by omega)]; exact (hun b (by omega)).2.2⟩, hB1, hB2⟩, hH, hS, lv_sub hl [2, 3, 1, 0] rfl⟩)
    · have zc105 := c105
      replace zc105 := zc_eq (rfl) (rfl) zc105
      refine lv_aload_n hx hb dX1_arrive_22 rfl (lv_at hl 0 rfl) ?_
      refine zGetR (D := D) (ci := 1) (C := RX1) (T := TX1) (N := 4) hx hb hts hiX1 hown hH (zk_5 hFg) rfl 0 (by decide) rfl hw3 (fun _ h9 => h9) dX1_arrive_23 (zr_5_0 hFg) ?_
      refine lv_iload_n hx hb dX1_arrive_26 rfl (lv_at hl 3 rfl) ?_
      obtain ⟨t116, ht116, gt116⟩ := hty i (by omega)
      refine zAaldS (D := D) hx hb hH (zk_6 hFg) (by decide) (by decide) rfl (zn_6 hFg) (by omega) (by omega) gt116 dX1_arrive_27 ?_
      refine lv_dup hx hb dX1_arrive_28 rfl ?_
      refine zGetI (D := D) (ci := 8) (C := RX8) (T := TX8) (N := 10) hx hb hts hiX8 hown hH (hT.2.2.1 t116 (by omega)).1.1 rfl 5 (by decide) rfl hw6 (fun _ h9 => h9) dX1_arrive_29 rfl ?_
      refine lv_aload_n hx hb dX1_arrive_32 rfl (lv_at hl 0 rfl) ?_
      refine zGetR (D := D) (ci := 1) (C := RX1) (T := TX1) (N := 4) hx hb hts hiX1 hown hH (zk_5 hFg) rfl 2 (by decide) rfl hw4 (fun _ h9 => h9) dX1_arrive_33 (zr_5_2 hFg) ?_
      refine lv_iload_n hx hb dX1_arrive_36 rfl (lv_at hl 3 rfl) ?_
      refine zIaldN (D := D) hx hb hH (zk_8 hFg) (zn_8 hFg) (by omega) (by omega) rfl dX1_arrive_37 ?_
      refine lv_iadd hx hb dX1_arrive_38 ?_
      refine lv_topi (fun v117 ev117 => ?_)
      refine zPutI (D := D) (ci := 8) (ty := .int) (C := RX8) (T := TX8) (N := 10) hx hb hts hiX8 tyX8 tyX8_ok nmX8 hown hH hS (hT.2.2.1 t116 (by omega)).1.1 rfl 5 (by decide) rfl hw6 (fun _ h9 => h9) rfl (by decide +kernel) rfl rfl dX1_arrive_39 (fun H locs hH hS => ?_)
      obtain ⟨f118, ef118⟩ : ∃ f9 : zFi, f9 = zu f (300 + t116) 5 v117 := ⟨_, rfl⟩
      rw [← ef118] at hH
      have q119 : f118 5 3 = nI c := by rw [ef118, zu_n (fun h9 => by omega)]; exact q1
      have q120 : f118 (300 + t116) 5 = v117 := by rw [ef118]; exact zu_s
      refine lv_goto (tgt := 84) hx hb dX1_arrive_42 (by decide) ?_
      refine lv_iinc (v := nI (i + 1)) (lv' := [(3, .int (nI (i + 1))), (0, .ref (τ.1 5)), (1, .int x), (2, .int (nI j))]) hx hb dX1_arrive_84 hl (k := 3) rfl (by rw [show (Int32.ofInt 1 : Int32) = nI 1 from by decide, nI_add]) (by decide) rfl (fun ls hl => ?_)
      refine lv_goto (tgt := 4) hx hb dX1_arrive_87 (by decide) ?_
      exact ih101 (c - (i + 1)) (by omega) (i + 1, j, f118, g) _ _ _ (show c - (i + 1) = c - (i + 1) ∧ ((i + 1) ≤ c ∧ j = zKp (fi 7) x (i + 1) ∧ zFix τ g ∧ (∀ a b, ¬ (a = 7 ∨ a = 8 ∨ (300 ≤ a ∧ a < 330 ∧ b = 5)) → f118 a b = fi a b) ∧ (∀ a b, a ≠ 6 → g a b = fr a b) ∧ (∀ b, (i + 1) ≤ b → f118 7 b = fi 7 b ∧ f118 8 b = fi 8 b ∧ g 6 b = fr 6 b) ∧ (∀ b, b < (i + 1) → ¬ fi 7 b = x → f118 7 (zKp (fi 7) x b) = fi 7 b ∧ f118 8 (zKp (fi 7) x b) = fi 8 b ∧ g 6 (zKp (fi 7) x b) = fr 6 b) ∧ ∀ b, b < c → ∃ t, t < n ∧ g 6 b = some (300 + t)) ∧ zH D A τ f118 g ol s _ ∧ va_S A s.heap _ _ ∧ lv_has _ 4 [(0, .ref (τ.1 5)), (1, .int x), (2, .int (nI j)), (3, .int (nI (i + 1)))] from ⟨rfl, ⟨by omega, by rw [zKp_y (by rw [← (hun i (Nat.le_refl _)).1]; exact c105)]; exact hj, hFg, fun a b h9 => by rw [ef118, zu_n (by omega)]; exact hfr a b h9, hgr, fun b h9 => ⟨by rw [ef118, zu_n (by omega)]; exact (hun b (by omega)).1, by rw [ef118, zu_n (by omega)]; exact (hun b (by omega)).2.1, (hun b (by omega)).2.2⟩, fun b h9 h8 => by by_cases h7 : b = i; (subst h7; exact absurd (by rw [← (hun b (Nat.le_refl _)).1]; exact c105) h8); (rw [ef118, zu_n (by omega), zu_n (by omega)]; exact hkp b (by omega) h8), hty⟩, hH, hS, lv_sub hl [1, 2, 3, 0] rfl⟩)
set_option maxHeartbeats 4000000 in
set_option maxRecDepth 100000 in
/-- Comings.piecesOf -/
theorem c_piecesOf (l : Launch) (hl0 : l.stackTraces = false) (D : va_G) (A : Nat → Prop) (sad : Nat → Nat) (τ : zTy) (fi : zFi) (fr : zFr) (ol : Int64) (hF : zFix τ fr) (n : Nat) (hT : zTh τ fi fr n) (c : Nat) (hC : zCm fi fr n c) (t : Nat) (ht : t < n) : Met l yX1_piecesOf wsX1_piecesOf ({ frames := 0, cells := 0, slots := 0, locals := 0 }) (va_Pc [.ref (τ.1 5), .ref (τ.1 (300 + t))] (zQc D A sad τ fi fr ol)) (va_Qi (fun (r : Int32) (u : Unit) => True) (fun (u : Unit) (t : State) => zH D A τ fi fr ol t t.heap) A) 0 0 A := by
  refine Met.ofW (cc := cX1_piecesOf) (maxL := 4) (ret := (some .int)) (by decide) rfl ?_
  intro p9 e9 s m args below meth c9 s₁ B hml hv
  obtain ⟨rfl, hz, hH, hA⟩ := hv
  have hx := B.exec
  have hb := B.bytes
  have hr := B.returns
  have hts := atoms_spec (ws := wsX1_piecesOf) B.pre
  have hown : s.vm.findClass RX1 = some m.cls := findClass_of_methodNamed B.named
  have hlocks := B.notSynchronized
  have hS : va_S A s.heap s.heap [] := va_S.rf
  have hl := lv_entry ([.ref (τ.1 5), .ref (τ.1 (300 + t))]) (n := 4) (Nat.le_of_ble_eq_true rfl)
  rw [lg_entry_eq]
  generalize (lg_sl ([.ref (τ.1 5), .ref (τ.1 (300 + t))]) ++ List.replicate (4 - (lg_sl ([.ref (τ.1 5), .ref (τ.1 (300 + t))])).length) Slot.unset).toArray = ls at hl ⊢
  have hl : lv_has ls 4 [(0, .ref (τ.1 5)), (1, .ref (τ.1 (300 + t)))] := hl
  have hn30 := hT.1
  have hc60 := hC.1
  have hiX1 : ∀ w ∈ u_ws RX1 TX1 4, w ∈ wsX1_piecesOf := fun _ h => List.mem_cons_of_mem _ (List.mem_append_right _ h)
  have hw1 := hts (.fieldLink RX1 24 "PostHouse$Comings" "size" "I") (by decide +kernel)
  have hw2 := hts (.fieldLink RX1 11 "PostHouse$Comings" "things" "[LPostHouse$Thing;") (by decide +kernel)
  have hw3 := hts (.fieldLink RX1 21 "PostHouse$Comings" "pieces" "[I") (by decide +kernel)
  refine lv_iconst (v := nI 0) hx hb dX1_piecesOf_0 (by decide) ?_
  refine lv_istore_n (lv' := [(2, .int (nI 0)), (0, .ref (τ.1 5)), (1, .ref (τ.1 (300 + t)))]) hx hb dX1_piecesOf_1 rfl hl (by decide) rfl (fun ls hl => ?_)
  refine lv_iconst (v := nI 0) hx hb dX1_piecesOf_2 (by decide) ?_
  refine lv_istore_n (lv' := [(3, .int (nI 0)), (2, .int (nI 0)), (0, .ref (τ.1 5)), (1, .ref (τ.1 (300 + t)))]) hx hb dX1_piecesOf_3 rfl hl (by decide) rfl (fun ls hl => ?_)
  refine zLp (σ := Nat × Int32) (fun x9 k9 H locs ls => (fun (i : Nat) (y : Int32) => k9 = c - i ∧ (i ≤ c) ∧ zH D A τ fi fr ol s H ∧ va_S A s.heap H locs ∧ lv_has ls 4 [(0, .ref (τ.1 5)), (1, .ref (τ.1 (300 + t))), (2, .int y), (3, .int (nI i))]) x9.1 x9.2) (0, nI 0) (c - 0) (show c - 0 = c - 0 ∧ (0 ≤ c) ∧ zH D A τ fi fr ol s _ ∧ va_S A s.heap _ _ ∧ lv_has _ 4 [(0, .ref (τ.1 5)), (1, .ref (τ.1 (300 + t))), (2, .int (nI 0)), (3, .int (nI 0))] from ⟨rfl, Nat.zero_le _, hH, hS, lv_sub hl [2, 3, 1, 0] rfl⟩) (fun k9 ih x9 H locs ls hv9 => ?_)
  obtain ⟨i, y⟩ := x9
  have hv9 : k9 = c - i ∧ (i ≤ c) ∧ zH D A τ fi fr ol s H ∧ va_S A s.heap H locs ∧ lv_has ls 4 [(0, .ref (τ.1 5)), (1, .ref (τ.1 (300 + t))), (2, .int y), (3, .int (nI i))] := hv9
  obtain ⟨hkih101, hv9, hH, hS, hl⟩ := hv9
  obtain h1 := hv9
  have ih101 := ih
  clear ih
  refine lv_iload_n hx hb dX1_piecesOf_4 rfl (lv_at hl 3 rfl) ?_
  refine lv_aload_n hx hb dX1_piecesOf_5 rfl (lv_at hl 0 rfl) ?_
  refine zGetI (D := D) (ci := 1) (C := RX1) (T := TX1) (N := 4) hx hb hts hiX1 hown hH (zk_5 hF) rfl 3 (by decide) rfl hw1 (fun _ h9 => h9) dX1_piecesOf_6 hC.2.1 ?_
  refine lv_icmp_ge (tgt := 37) hx hb dX1_piecesOf_9 (by decide) (fun c102 => ?_) (fun c102 => ?_)
  · have zc102 := c102
    replace zc102 := zc_le (nI_toInt (by omega)) (nI_toInt (by omega)) zc102
    refine lv_iload_n hx hb dX1_piecesOf_37 rfl (lv_at hl 2 rfl) ?_
    refine W.widen (k := 0) (n := 0) (by decide) (by decide) ?_
    exact W.iret (v := y) hx hb hr (fun t9 ht9 hW9 => ⟨⟨y, (), rfl, trivial, zEnd1 hH ht9 hW9⟩, hS.F ht9⟩) hS.2.2 dX1_piecesOf_38
  · have zc102 := c102
    replace zc102 := zc_nle (nI_toInt (by omega)) (nI_toInt (by omega)) zc102
    refine lv_aload_n hx hb dX1_piecesOf_12 rfl (lv_at hl 0 rfl) ?_
    refine zGetR (D := D) (ci := 1) (C := RX1) (T := TX1) (N := 4) hx hb hts hiX1 hown hH (zk_5 hF) rfl 0 (by decide) rfl hw2 (fun _ h9 => h9) dX1_piecesOf_13 (zr_5_0 hF) ?_
    refine lv_iload_n hx hb dX1_piecesOf_16 rfl (lv_at hl 3 rfl) ?_
    obtain ⟨t103, ht103, gt103⟩ := hC.2.2 i (by omega)
    refine zAaldS (D := D) hx hb hH (zk_6 hF) (by decide) (by decide) rfl (zn_6 hF) (by omega) (by omega) gt103 dX1_piecesOf_17 ?_
    refine lv_aload_n hx hb dX1_piecesOf_18 rfl (lv_at hl 1 rfl) ?_
    refine lv_acmp_ne (rx := some (τ.1 (300 + t103))) (ry := some (τ.1 (300 + t))) (tgt := 31) hx hb dX1_piecesOf_19 (by decide) (fun c104 => ?_) (fun c104 => ?_)
    · have zc104 := c104
      refine lv_iinc (v := nI (i + 1)) (lv' := [(3, .int (nI (i + 1))), (0, .ref (τ.1 5)), (1, .ref (τ.1 (300 + t))), (2, .int y)]) hx hb dX1_piecesOf_31 hl (k := 3) rfl (by rw [show (Int32.ofInt 1 : Int32) = nI 1 from by decide, nI_add]) (by decide) rfl (fun ls hl => ?_)
      refine lv_goto (tgt := 4) hx hb dX1_piecesOf_34 (by decide) ?_
      exact ih101 (c - (i + 1)) (by omega) (i + 1, _) _ _ _ (show c - (i + 1) = c - (i + 1) ∧ ((i + 1) ≤ c) ∧ zH D A τ fi fr ol s _ ∧ va_S A s.heap _ _ ∧ lv_has _ 4 [(0, .ref (τ.1 5)), (1, .ref (τ.1 (300 + t))), (2, .int _), (3, .int (nI (i + 1)))] from ⟨rfl, (by omega), hH, hS, lv_sub hl [1, 2, 3, 0] rfl⟩)
    · have zc104 := c104
      refine lv_iload_n hx hb dX1_piecesOf_22 rfl (lv_at hl 2 rfl) ?_
      refine lv_aload_n hx hb dX1_piecesOf_23 rfl (lv_at hl 0 rfl) ?_
      refine zGetR (D := D) (ci := 1) (C := RX1) (T := TX1) (N := 4) hx hb hts hiX1 hown hH (zk_5 hF) rfl 2 (by decide) rfl hw3 (fun _ h9 => h9) dX1_piecesOf_24 (zr_5_2 hF) ?_
      refine lv_iload_n hx hb dX1_piecesOf_27 rfl (lv_at hl 3 rfl) ?_
      refine zIaldN (D := D) hx hb hH (zk_8 hF) (zn_8 hF) (by omega) (by omega) rfl dX1_piecesOf_28 ?_
      refine lv_iadd hx hb dX1_piecesOf_29 ?_
      refine lv_topi (fun v105 ev105 => ?_)
      refine lv_istore_n (lv' := [(2, .int v105), (0, .ref (τ.1 5)), (1, .ref (τ.1 (300 + t))), (3, .int (nI i))]) hx hb dX1_piecesOf_30 rfl hl (by decide) rfl (fun ls hl => ?_)
      refine lv_iinc (v := nI (i + 1)) (lv' := [(3, .int (nI (i + 1))), (2, .int v105), (0, .ref (τ.1 5)), (1, .ref (τ.1 (300 + t)))]) hx hb dX1_piecesOf_31 hl (k := 3) rfl (by rw [show (Int32.ofInt 1 : Int32) = nI 1 from by decide, nI_add]) (by decide) rfl (fun ls hl => ?_)
      refine lv_goto (tgt := 4) hx hb dX1_piecesOf_34 (by decide) ?_
      exact ih101 (c - (i + 1)) (by omega) (i + 1, _) _ _ _ (show c - (i + 1) = c - (i + 1) ∧ ((i + 1) ≤ c) ∧ zH D A τ fi fr ol s _ ∧ va_S A s.heap _ _ ∧ lv_has _ 4 [(0, .ref (τ.1 5)), (1, .ref (τ.1 (300 + t))), (2, .int _), (3, .int (nI (i + 1)))] from ⟨rfl, (by omega), hH, hS, lv_sub hl [2, 3, 1, 0] rfl⟩)
set_option maxHeartbeats 4000000 in
set_option maxRecDepth 100000 in
/-- Comings.allPieces -/
theorem c_allPieces (l : Launch) (hl0 : l.stackTraces = false) (D : va_G) (A : Nat → Prop) (sad : Nat → Nat) (τ : zTy) (fi : zFi) (fr : zFr) (ol : Int64) (hF : zFix τ fr) (n : Nat) (c : Nat) (hC : zCm fi fr n c) : Met l yX1_allPieces wsX1_allPieces ({ frames := 0, cells := 0, slots := 0, locals := 0 }) (va_Pc [.ref (τ.1 5)] (zQc D A sad τ fi fr ol)) (va_Qi (fun (r : Int32) (u : Unit) => True) (fun (u : Unit) (t : State) => zH D A τ fi fr ol t t.heap) A) 0 0 A := by
  refine Met.ofW (cc := cX1_allPieces) (maxL := 3) (ret := (some .int)) (by decide) rfl ?_
  intro p9 e9 s m args below meth c9 s₁ B hml hv
  obtain ⟨rfl, hz, hH, hA⟩ := hv
  have hx := B.exec
  have hb := B.bytes
  have hr := B.returns
  have hts := atoms_spec (ws := wsX1_allPieces) B.pre
  have hown : s.vm.findClass RX1 = some m.cls := findClass_of_methodNamed B.named
  have hlocks := B.notSynchronized
  have hS : va_S A s.heap s.heap [] := va_S.rf
  have hl := lv_entry ([.ref (τ.1 5)]) (n := 3) (Nat.le_of_ble_eq_true rfl)
  rw [lg_entry_eq]
  generalize (lg_sl ([.ref (τ.1 5)]) ++ List.replicate (3 - (lg_sl ([.ref (τ.1 5)])).length) Slot.unset).toArray = ls at hl ⊢
  have hl : lv_has ls 3 [(0, .ref (τ.1 5))] := hl
  have hc60 := hC.1
  have hiX1 : ∀ w ∈ u_ws RX1 TX1 4, w ∈ wsX1_allPieces := fun _ h => List.mem_cons_of_mem _ (List.mem_append_right _ h)
  have hw1 := hts (.fieldLink RX1 24 "PostHouse$Comings" "size" "I") (by decide +kernel)
  have hw2 := hts (.fieldLink RX1 21 "PostHouse$Comings" "pieces" "[I") (by decide +kernel)
  refine lv_iconst (v := nI 0) hx hb dX1_allPieces_0 (by decide) ?_
  refine lv_istore_n (lv' := [(1, .int (nI 0)), (0, .ref (τ.1 5))]) hx hb dX1_allPieces_1 rfl hl (by decide) rfl (fun ls hl => ?_)
  refine lv_iconst (v := nI 0) hx hb dX1_allPieces_2 (by decide) ?_
  refine lv_istore_n (lv' := [(2, .int (nI 0)), (1, .int (nI 0)), (0, .ref (τ.1 5))]) hx hb dX1_allPieces_3 rfl hl (by decide) rfl (fun ls hl => ?_)
  refine zLp (σ := Nat × Int32) (fun x9 k9 H locs ls => (fun (i : Nat) (y : Int32) => k9 = c - i ∧ (i ≤ c) ∧ zH D A τ fi fr ol s H ∧ va_S A s.heap H locs ∧ lv_has ls 3 [(0, .ref (τ.1 5)), (1, .int y), (2, .int (nI i))]) x9.1 x9.2) (0, nI 0) (c - 0) (show c - 0 = c - 0 ∧ (0 ≤ c) ∧ zH D A τ fi fr ol s _ ∧ va_S A s.heap _ _ ∧ lv_has _ 3 [(0, .ref (τ.1 5)), (1, .int (nI 0)), (2, .int (nI 0))] from ⟨rfl, Nat.zero_le _, hH, hS, lv_sub hl [2, 1, 0] rfl⟩) (fun k9 ih x9 H locs ls hv9 => ?_)
  obtain ⟨i, y⟩ := x9
  have hv9 : k9 = c - i ∧ (i ≤ c) ∧ zH D A τ fi fr ol s H ∧ va_S A s.heap H locs ∧ lv_has ls 3 [(0, .ref (τ.1 5)), (1, .int y), (2, .int (nI i))] := hv9
  obtain ⟨hkih101, hv9, hH, hS, hl⟩ := hv9
  obtain h1 := hv9
  have ih101 := ih
  clear ih
  refine lv_iload_n hx hb dX1_allPieces_4 rfl (lv_at hl 2 rfl) ?_
  refine lv_aload_n hx hb dX1_allPieces_5 rfl (lv_at hl 0 rfl) ?_
  refine zGetI (D := D) (ci := 1) (C := RX1) (T := TX1) (N := 4) hx hb hts hiX1 hown hH (zk_5 hF) rfl 3 (by decide) rfl hw1 (fun _ h9 => h9) dX1_allPieces_6 hC.2.1 ?_
  refine lv_icmp_ge (tgt := 27) hx hb dX1_allPieces_9 (by decide) (fun c102 => ?_) (fun c102 => ?_)
  · have zc102 := c102
    replace zc102 := zc_le (nI_toInt (by omega)) (nI_toInt (by omega)) zc102
    refine lv_iload_n hx hb dX1_allPieces_27 rfl (lv_at hl 1 rfl) ?_
    refine W.widen (k := 0) (n := 0) (by decide) (by decide) ?_
    exact W.iret (v := y) hx hb hr (fun t9 ht9 hW9 => ⟨⟨y, (), rfl, trivial, zEnd1 hH ht9 hW9⟩, hS.F ht9⟩) hS.2.2 dX1_allPieces_28
  · have zc102 := c102
    replace zc102 := zc_nle (nI_toInt (by omega)) (nI_toInt (by omega)) zc102
    refine lv_iload_n hx hb dX1_allPieces_12 rfl (lv_at hl 1 rfl) ?_
    refine lv_aload_n hx hb dX1_allPieces_13 rfl (lv_at hl 0 rfl) ?_
    refine zGetR (D := D) (ci := 1) (C := RX1) (T := TX1) (N := 4) hx hb hts hiX1 hown hH (zk_5 hF) rfl 2 (by decide) rfl hw2 (fun _ h9 => h9) dX1_allPieces_14 (zr_5_2 hF) ?_
    refine lv_iload_n hx hb dX1_allPieces_17 rfl (lv_at hl 2 rfl) ?_
    refine zIaldN (D := D) hx hb hH (zk_8 hF) (zn_8 hF) (by omega) (by omega) rfl dX1_allPieces_18 ?_
    refine lv_iadd hx hb dX1_allPieces_19 ?_
    refine lv_topi (fun v103 ev103 => ?_)
    refine lv_istore_n (lv' := [(1, .int v103), (0, .ref (τ.1 5)), (2, .int (nI i))]) hx hb dX1_allPieces_20 rfl hl (by decide) rfl (fun ls hl => ?_)
    refine lv_iinc (v := nI (i + 1)) (lv' := [(2, .int (nI (i + 1))), (1, .int v103), (0, .ref (τ.1 5))]) hx hb dX1_allPieces_21 hl (k := 2) rfl (by rw [show (Int32.ofInt 1 : Int32) = nI 1 from by decide, nI_add]) (by decide) rfl (fun ls hl => ?_)
    refine lv_goto (tgt := 4) hx hb dX1_allPieces_24 (by decide) ?_
    exact ih101 (c - (i + 1)) (by omega) (i + 1, _) _ _ _ (show c - (i + 1) = c - (i + 1) ∧ ((i + 1) ≤ c) ∧ zH D A τ fi fr ol s _ ∧ va_S A s.heap _ _ ∧ lv_has _ 3 [(0, .ref (τ.1 5)), (1, .int _), (2, .int (nI (i + 1)))] from ⟨rfl, (by omega), hH, hS, lv_sub hl [2, 1, 0] rfl⟩)
set_option maxHeartbeats 4000000 in
set_option maxRecDepth 100000 in
/-- Rules.copy -/
theorem c_copyD (l : Launch) (hl0 : l.stackTraces = false) (D : va_G) (A : Nat → Prop) (sad : Nat → Nat) (τ : zTy) (fi : zFi) (fr : zFr) (ol : Int64) (hF : zFix τ fr) : Met l yX5_copy wsX5_copy ({ frames := 1, cells := 0, slots := 0, locals := 40 }) (va_Pc [.ref (τ.1 12), .ref (τ.1 9)] (zQc D A sad τ fi fr ol)) (va_Qv (fun (u : zFi) => u = (fun i j => if i = 14 ∧ j < 30 then fi 11 j else if i = 13 ∧ j < 4 then fi 10 j else fi i j)) (fun (u : zFi) (t : State) => zH D A τ u fr ol t t.heap) A) 0 0 A := by
  refine Met.ofW (cc := cX5_copy) (maxL := 2) (ret := none) (by decide) rfl ?_
  intro p9 e9 s m args below meth c9 s₁ B hml hv
  obtain ⟨rfl, hz, hH, hA⟩ := hv
  have hx := B.exec
  have hb := B.bytes
  have hr := B.returns
  have hts := atoms_spec (ws := wsX5_copy) B.pre
  have hown : s.vm.findClass RX5 = some m.cls := findClass_of_methodNamed B.named
  have hlocks := B.notSynchronized
  have hS : va_S A s.heap s.heap [] := va_S.rf
  have hl := lv_entry ([.ref (τ.1 12), .ref (τ.1 9)]) (n := 2) (Nat.le_of_ble_eq_true rfl)
  rw [lg_entry_eq]
  generalize (lg_sl ([.ref (τ.1 12), .ref (τ.1 9)]) ++ List.replicate (2 - (lg_sl ([.ref (τ.1 12), .ref (τ.1 9)])).length) Slot.unset).toArray = ls at hl ⊢
  have hl : lv_has ls 2 [(0, .ref (τ.1 12)), (1, .ref (τ.1 9))] := hl
  have hiX5 : ∀ w ∈ u_ws RX5 TX5 2, w ∈ wsX5_copy := fun _ h => List.mem_cons_of_mem _ (List.mem_append_right _ h)
  have hw1 := hts (.fieldLink RX5 9 "PostHouse$Rules" "numbers" "[I") (by decide +kernel)
  have hw2 := hts (.methodLink RX5 18 arraycopyName) (by decide +kernel)
  have hw3 := hts (.native arraycopyName) (by decide +kernel)
  have hw4 := hts (.static arraycopyName) (by decide +kernel)
  have hw5 := hts (.initialized "java/lang/System") (by decide +kernel)
  have hw6 := hts (.fieldLink RX5 15 "PostHouse$Rules" "places" "[I") (by decide +kernel)
  refine lv_aload_n hx hb dX5_copy_0 rfl (lv_at hl 1 rfl) ?_
  refine zGetR (D := D) (ci := 5) (C := RX5) (T := TX5) (N := 2) hx hb hts hiX5 hown hH (zk_9 hF) rfl 0 (by decide) rfl hw1 (fun _ h9 => h9) dX5_copy_1 (zr_9_0 hF) ?_
  refine lv_iconst (v := nI 0) hx hb dX5_copy_4 (by decide) ?_
  refine lv_aload_n hx hb dX5_copy_5 rfl (lv_at hl 0 rfl) ?_
  refine zGetR (D := D) (ci := 5) (C := RX5) (T := TX5) (N := 2) hx hb hts hiX5 hown hH (zk_12 hF) rfl 0 (by decide) rfl hw1 (fun _ h9 => h9) dX5_copy_6 (zr_12_0 hF) ?_
  refine lv_iconst (v := nI 0) hx hb dX5_copy_9 (by decide) ?_
  refine lv_iconst (v := nI 4) hx hb dX5_copy_10 (by decide) ?_
  refine zCopy (D := D) (i := 10) (j := 13) (N' := 4) hx hb (by rw [hml]; exact hl.1.symm) hown hw2 hw3 hw4 hw5 hH hS (by omega) (zk_10 hF) (zk_13 hF) (zn_10 hF) (zn_13 hF) rfl (by decide) (by decide) (by decide) (Nat.le_of_ble_eq_true rfl) (by decide +kernel) dX5_copy_11 (fun H locs hH hS => ?_)
  obtain ⟨f101, ef101⟩ : ∃ f9 : zFi, f9 = fun a b => if a = 13 ∧ b < 4 then fi 10 b else fi a b := ⟨_, rfl⟩
  rw [← ef101] at hH
  refine lv_aload_n hx hb dX5_copy_14 rfl (lv_at hl 1 rfl) ?_
  refine zGetR (D := D) (ci := 5) (C := RX5) (T := TX5) (N := 2) hx hb hts hiX5 hown hH (zk_9 hF) rfl 1 (by decide) rfl hw6 (fun _ h9 => h9) dX5_copy_15 (zr_9_1 hF) ?_
  refine lv_iconst (v := nI 0) hx hb dX5_copy_18 (by decide) ?_
  refine lv_aload_n hx hb dX5_copy_19 rfl (lv_at hl 0 rfl) ?_
  refine zGetR (D := D) (ci := 5) (C := RX5) (T := TX5) (N := 2) hx hb hts hiX5 hown hH (zk_12 hF) rfl 1 (by decide) rfl hw6 (fun _ h9 => h9) dX5_copy_20 (zr_12_1 hF) ?_
  refine lv_iconst (v := nI 0) hx hb dX5_copy_23 (by decide) ?_
  refine lv_bipush (v := nI 30) hx hb dX5_copy_24 (by decide) ?_
  refine zCopy (D := D) (i := 11) (j := 14) (N' := 30) hx hb (by rw [hml]; exact hl.1.symm) hown hw2 hw3 hw4 hw5 hH hS (by omega) (zk_11 hF) (zk_14 hF) (zn_11 hF) (zn_14 hF) rfl (by decide) (by decide) (by decide) (Nat.le_of_ble_eq_true rfl) (by decide +kernel) dX5_copy_26 (fun H locs hH hS => ?_)
  obtain ⟨f102, ef102⟩ : ∃ f9 : zFi, f9 = fun a b => if a = 14 ∧ b < 30 then f101 11 b else f101 a b := ⟨_, rfl⟩
  rw [← ef102] at hH
  refine W.widen (k := 0) (n := 0) (by decide) (by decide) ?_
  exact W.vret hx hb hr (fun t9 ht9 hW9 => ⟨⟨f102, rfl, by rw [ef102, ef101]; funext i j; simp only []; repeat' split <;> simp_all, zEnd1 hH ht9 hW9⟩, hS.F ht9⟩) hS.2.2 dX5_copy_29
set_option maxHeartbeats 4000000 in
set_option maxRecDepth 100000 in
/-- Rules.copy -/
theorem c_copyR (l : Launch) (hl0 : l.stackTraces = false) (D : va_G) (A : Nat → Prop) (sad : Nat → Nat) (τ : zTy) (fi : zFi) (fr : zFr) (ol : Int64) (hF : zFix τ fr) : Met l yX5_copy wsX5_copy ({ frames := 1, cells := 0, slots := 0, locals := 40 }) (va_Pc [.ref (τ.1 9), .ref (τ.1 12)] (zQc D A sad τ fi fr ol)) (va_Qv (fun (u : zFi) => u = (fun i j => if i = 11 ∧ j < 30 then fi 14 j else if i = 10 ∧ j < 4 then fi 13 j else fi i j)) (fun (u : zFi) (t : State) => zH D A τ u fr ol t t.heap) A) 0 0 A := by
  refine Met.ofW (cc := cX5_copy) (maxL := 2) (ret := none) (by decide) rfl ?_
  intro p9 e9 s m args below meth c9 s₁ B hml hv
  obtain ⟨rfl, hz, hH, hA⟩ := hv
  have hx := B.exec
  have hb := B.bytes
  have hr := B.returns
  have hts := atoms_spec (ws := wsX5_copy) B.pre
  have hown : s.vm.findClass RX5 = some m.cls := findClass_of_methodNamed B.named
  have hlocks := B.notSynchronized
  have hS : va_S A s.heap s.heap [] := va_S.rf
  have hl := lv_entry ([.ref (τ.1 9), .ref (τ.1 12)]) (n := 2) (Nat.le_of_ble_eq_true rfl)
  rw [lg_entry_eq]
  generalize (lg_sl ([.ref (τ.1 9), .ref (τ.1 12)]) ++ List.replicate (2 - (lg_sl ([.ref (τ.1 9), .ref (τ.1 12)])).length) Slot.unset).toArray = ls at hl ⊢
  have hl : lv_has ls 2 [(0, .ref (τ.1 9)), (1, .ref (τ.1 12))] := hl
  have hiX5 : ∀ w ∈ u_ws RX5 TX5 2, w ∈ wsX5_copy := fun _ h => List.mem_cons_of_mem _ (List.mem_append_right _ h)
  have hw1 := hts (.fieldLink RX5 9 "PostHouse$Rules" "numbers" "[I") (by decide +kernel)
  have hw2 := hts (.methodLink RX5 18 arraycopyName) (by decide +kernel)
  have hw3 := hts (.native arraycopyName) (by decide +kernel)
  have hw4 := hts (.static arraycopyName) (by decide +kernel)
  have hw5 := hts (.initialized "java/lang/System") (by decide +kernel)
  have hw6 := hts (.fieldLink RX5 15 "PostHouse$Rules" "places" "[I") (by decide +kernel)
  refine lv_aload_n hx hb dX5_copy_0 rfl (lv_at hl 1 rfl) ?_
  refine zGetR (D := D) (ci := 5) (C := RX5) (T := TX5) (N := 2) hx hb hts hiX5 hown hH (zk_12 hF) rfl 0 (by decide) rfl hw1 (fun _ h9 => h9) dX5_copy_1 (zr_12_0 hF) ?_
  refine lv_iconst (v := nI 0) hx hb dX5_copy_4 (by decide) ?_
  refine lv_aload_n hx hb dX5_copy_5 rfl (lv_at hl 0 rfl) ?_
  refine zGetR (D := D) (ci := 5) (C := RX5) (T := TX5) (N := 2) hx hb hts hiX5 hown hH (zk_9 hF) rfl 0 (by decide) rfl hw1 (fun _ h9 => h9) dX5_copy_6 (zr_9_0 hF) ?_
  refine lv_iconst (v := nI 0) hx hb dX5_copy_9 (by decide) ?_
  refine lv_iconst (v := nI 4) hx hb dX5_copy_10 (by decide) ?_
  refine zCopy (D := D) (i := 13) (j := 10) (N' := 4) hx hb (by rw [hml]; exact hl.1.symm) hown hw2 hw3 hw4 hw5 hH hS (by omega) (zk_13 hF) (zk_10 hF) (zn_13 hF) (zn_10 hF) rfl (by decide) (by decide) (by decide) (Nat.le_of_ble_eq_true rfl) (by decide +kernel) dX5_copy_11 (fun H locs hH hS => ?_)
  obtain ⟨f101, ef101⟩ : ∃ f9 : zFi, f9 = fun a b => if a = 10 ∧ b < 4 then fi 13 b else fi a b := ⟨_, rfl⟩
  rw [← ef101] at hH
  refine lv_aload_n hx hb dX5_copy_14 rfl (lv_at hl 1 rfl) ?_
  refine zGetR (D := D) (ci := 5) (C := RX5) (T := TX5) (N := 2) hx hb hts hiX5 hown hH (zk_12 hF) rfl 1 (by decide) rfl hw6 (fun _ h9 => h9) dX5_copy_15 (zr_12_1 hF) ?_
  refine lv_iconst (v := nI 0) hx hb dX5_copy_18 (by decide) ?_
  refine lv_aload_n hx hb dX5_copy_19 rfl (lv_at hl 0 rfl) ?_
  refine zGetR (D := D) (ci := 5) (C := RX5) (T := TX5) (N := 2) hx hb hts hiX5 hown hH (zk_9 hF) rfl 1 (by decide) rfl hw6 (fun _ h9 => h9) dX5_copy_20 (zr_9_1 hF) ?_
  refine lv_iconst (v := nI 0) hx hb dX5_copy_23 (by decide) ?_
  refine lv_bipush (v := nI 30) hx hb dX5_copy_24 (by decide) ?_
  refine zCopy (D := D) (i := 14) (j := 11) (N' := 30) hx hb (by rw [hml]; exact hl.1.symm) hown hw2 hw3 hw4 hw5 hH hS (by omega) (zk_14 hF) (zk_11 hF) (zn_14 hF) (zn_11 hF) rfl (by decide) (by decide) (by decide) (Nat.le_of_ble_eq_true rfl) (by decide +kernel) dX5_copy_26 (fun H locs hH hS => ?_)
  obtain ⟨f102, ef102⟩ : ∃ f9 : zFi, f9 = fun a b => if a = 11 ∧ b < 30 then f101 14 b else f101 a b := ⟨_, rfl⟩
  rw [← ef102] at hH
  refine W.widen (k := 0) (n := 0) (by decide) (by decide) ?_
  exact W.vret hx hb hr (fun t9 ht9 hW9 => ⟨⟨f102, rfl, by rw [ef102, ef101]; funext i j; simp only []; repeat' split <;> simp_all, zEnd1 hH ht9 hW9⟩, hS.F ht9⟩) hS.2.2 dX5_copy_29
set_option maxHeartbeats 4000000 in
set_option maxRecDepth 100000 in
/-- Rules.postOf -/
theorem c_postOf (l : Launch) (hl0 : l.stackTraces = false) (D : va_G) (A : Nat → Prop) (sad : Nat → Nat) (τ : zTy) (fi : zFi) (fr : zFr) (ol : Int64) (x : Int32) (hF : zFix τ fr) : Met l yX5_postOf wsX5_postOf ({ frames := 0, cells := 0, slots := 0, locals := 0 }) (va_Pc [.ref (τ.1 9), .int x] (zQc D A sad τ fi fr ol)) (va_Qi (fun (r : Int32) (u : Unit) => r = if x.toInt < (fi 10 2).toInt then fi 10 1 else 0) (fun (u : Unit) (t : State) => zH D A τ fi fr ol t t.heap) A) 0 0 A := by
  refine Met.ofW (cc := cX5_postOf) (maxL := 2) (ret := (some .int)) (by decide) rfl ?_
  intro p9 e9 s m args below meth c9 s₁ B hml hv
  obtain ⟨rfl, hz, hH, hA⟩ := hv
  have hx := B.exec
  have hb := B.bytes
  have hr := B.returns
  have hts := atoms_spec (ws := wsX5_postOf) B.pre
  have hown : s.vm.findClass RX5 = some m.cls := findClass_of_methodNamed B.named
  have hlocks := B.notSynchronized
  have hS : va_S A s.heap s.heap [] := va_S.rf
  have hl := lv_entry ([.ref (τ.1 9), .int x]) (n := 2) (Nat.le_of_ble_eq_true rfl)
  rw [lg_entry_eq]
  generalize (lg_sl ([.ref (τ.1 9), .int x]) ++ List.replicate (2 - (lg_sl ([.ref (τ.1 9), .int x])).length) Slot.unset).toArray = ls at hl ⊢
  have hl : lv_has ls 2 [(0, .ref (τ.1 9)), (1, .int x)] := hl
  have hiX5 : ∀ w ∈ u_ws RX5 TX5 2, w ∈ wsX5_postOf := fun _ h => List.mem_cons_of_mem _ (List.mem_append_right _ h)
  have hw1 := hts (.fieldLink RX5 9 "PostHouse$Rules" "numbers" "[I") (by decide +kernel)
  refine lv_iload_n hx hb dX5_postOf_0 rfl (lv_at hl 1 rfl) ?_
  refine lv_aload_n hx hb dX5_postOf_1 rfl (lv_at hl 0 rfl) ?_
  refine zGetR (D := D) (ci := 5) (C := RX5) (T := TX5) (N := 2) hx hb hts hiX5 hown hH (zk_9 hF) rfl 0 (by decide) rfl hw1 (fun _ h9 => h9) dX5_postOf_2 (zr_9_0 hF) ?_
  refine lv_iconst (v := nI 2) hx hb dX5_postOf_5 (by decide) ?_
  refine zIaldN (D := D) hx hb hH (zk_10 hF) (zn_10 hF) (by omega) (by omega) rfl dX5_postOf_6 ?_
  refine lv_icmp_ge (tgt := 19) hx hb dX5_postOf_7 (by decide) (fun c101 => ?_) (fun c101 => ?_)
  · have zc101 := c101
    replace zc101 := zc_le (rfl) (rfl) zc101
    refine lv_iconst (v := nI 0) hx hb dX5_postOf_19 (by decide) ?_
    refine W.widen (k := 0) (n := 0) (by decide) (by decide) ?_
    exact W.iret (v := nI 0) hx hb hr (fun t9 ht9 hW9 => ⟨⟨nI 0, (), rfl, by rw [if_neg (by omega)]; rfl, zEnd1 hH ht9 hW9⟩, hS.F ht9⟩) hS.2.2 dX5_postOf_20
  · have zc101 := c101
    replace zc101 := zc_nle (rfl) (rfl) zc101
    refine lv_aload_n hx hb dX5_postOf_10 rfl (lv_at hl 0 rfl) ?_
    refine zGetR (D := D) (ci := 5) (C := RX5) (T := TX5) (N := 2) hx hb hts hiX5 hown hH (zk_9 hF) rfl 0 (by decide) rfl hw1 (fun _ h9 => h9) dX5_postOf_11 (zr_9_0 hF) ?_
    refine lv_iconst (v := nI 1) hx hb dX5_postOf_14 (by decide) ?_
    refine zIaldN (D := D) hx hb hH (zk_10 hF) (zn_10 hF) (by omega) (by omega) rfl dX5_postOf_15 ?_
    refine lv_goto (tgt := 20) hx hb dX5_postOf_16 (by decide) ?_
    refine W.widen (k := 0) (n := 0) (by decide) (by decide) ?_
    exact W.iret (v := fi 10 1) hx hb hr (fun t9 ht9 hW9 => ⟨⟨fi 10 1, (), rfl, by rw [if_pos (by omega)], zEnd1 hH ht9 hW9⟩, hS.F ht9⟩) hS.2.2 dX5_postOf_20
