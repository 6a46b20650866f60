/-! ===== THE TAPE ===== -/
/-- from a on, k bytes lie between lo and hi, and no more -/
def zRun (b : Nat → Int32) (lo hi : Int32) (a n k : Nat) : Prop := a + k ≤ n ∧ (∀ j, a ≤ j → j < a + k → lo.toInt ≤ (b j).toInt ∧ (b j).toInt ≤ hi.toInt) ∧ (a + k < n → ¬ (lo.toInt ≤ (b (a + k)).toInt ∧ (b (a + k)).toInt ≤ hi.toInt))
/-- from a on, blanks up to k -/
def zSkip (b : Nat → Int32) (a n k : Nat) : Prop := a ≤ k ∧ k ≤ n ∧ (∀ j, a ≤ j → j < k → (b j).toInt = 32) ∧ (k < n → (b k).toInt ≠ 32)
/-- the number of k digits from a on -/
def zDig (b : Nat → Int32) (a : Nat) : Nat → Int32
  | 0 => 0
  | k + 1 => zDig b a k * 10 + b (a + k) - 48
set_option maxHeartbeats 4000000 in
set_option maxRecDepth 100000 in
/-- Tape.run -/
theorem t_run (l : Launch) (hl0 : l.stackTraces = false) (D : va_G) (A : Nat → Prop) (sad : Nat → Nat) (τ : zTy) (fi : zFi) (fr : zFr) (ol : Int64) (n a : Nat) (hF : zFix τ fr) (hn : fi 1 1 = nI n) (ha : fi 1 2 = nI a) (hn4 : n ≤ 400) (han : a ≤ n) (x1 x2 : Int32) : Met l yX7_run wsX7_run ({ frames := 0, cells := 0, slots := 0, locals := 0 }) (va_Pc [.ref (τ.1 1), .int x1, .int x2] (zQc D A sad τ fi fr ol)) (va_Qi (fun (r : Int32) (u : Unit) => ∃ k, r = nI k ∧ zRun (fi 2) x1 x2 a n k) (fun (u : Unit) (t : State) => zH D A τ fi fr ol t t.heap) A) 0 0 A := by
  refine Met.ofW (cc := cX7_run) (maxL := 4) (ret := (some .int)) (by decide) rfl ?_
  intro p e s m args below meth c s₁ B hml hv
  obtain ⟨rfl, hz, hH, hA⟩ := hv
  have hx := B.exec
  have hb := B.bytes
  have hr := B.returns
  have hts := atoms_spec (ws := wsX7_run) B.pre
  have hown : s.vm.findClass RX7 = some m.cls := findClass_of_methodNamed B.named
  have hlocks := B.notSynchronized
  have hS : va_S A s.heap s.heap [] := va_S.rf
  have hl := lv_entry ([.ref (τ.1 1), .int x1, .int x2]) (n := 4) (Nat.le_of_ble_eq_true rfl)
  rw [lg_entry_eq]
  generalize (lg_sl ([.ref (τ.1 1), .int x1, .int x2]) ++ List.replicate (4 - (lg_sl ([.ref (τ.1 1), .int x1, .int x2])).length) Slot.unset).toArray = ls at hl ⊢
  have hl : lv_has ls 4 [(0, .ref (τ.1 1)), (1, .int x1), (2, .int x2)] := hl
  have hiX7 : ∀ w ∈ u_ws RX7 TX7 4, w ∈ wsX7_run := fun _ h => List.mem_cons_of_mem _ (List.mem_append_right _ h)
  have hw1 := hts (.fieldLink RX7 22 "PostHouse$Tape" "next" "I") (by decide +kernel)
  have hw2 := hts (.fieldLink RX7 19 "PostHouse$Tape" "length" "I") (by decide +kernel)
  have hw3 := hts (.fieldLink RX7 11 "PostHouse$Tape" "bytes" "[B") (by decide +kernel)
  refine lv_aload_n hx hb dX7_run_0 rfl (lv_at hl 0 rfl) ?_
  refine zGetI (D := D) (ci := 7) (C := RX7) (T := TX7) (N := 4) hx hb hts hiX7 hown hH (zk_1 hF) rfl 2 (by decide) rfl hw1 (fun _ h9 => h9) dX7_run_1 ha ?_
  refine lv_istore_n (lv' := [(3, .int (nI a)), (0, .ref (τ.1 1)), (1, .int x1), (2, .int x2)]) hx hb dX7_run_4 rfl hl (by decide) rfl (fun ls hl => ?_)
  refine zLp (σ := Nat) (fun x9 k9 H locs ls => (fun (i : Nat) => k9 = n - i ∧ (a ≤ i ∧ i ≤ n ∧ ∀ j, a ≤ j → j < i → x1.toInt ≤ (fi 2 j).toInt ∧ (fi 2 j).toInt ≤ x2.toInt) ∧ zH D A τ fi fr ol s H ∧ va_S A s.heap H locs ∧ lv_has ls 4 [(0, .ref (τ.1 1)), (1, .int x1), (2, .int x2), (3, .int (nI i))]) x9) a _ ⟨rfl, ⟨Nat.le_refl _, han, fun j h1 h2 => absurd h2 (by omega)⟩, hH, hS, lv_sub hl [1, 2, 3, 0] rfl⟩ (fun k9 ih x9 H locs ls hv9 => ?_)
  generalize x9 = i at hv9
  obtain ⟨hkih1, hv9, hH, hS, hl⟩ := hv9
  obtain ⟨h1, h2, hj⟩ := hv9
  have ih1 := ih
  clear ih
  refine lv_iload_n hx hb dX7_run_5 rfl (lv_at hl 3 rfl) ?_
  refine lv_aload_n hx hb dX7_run_6 rfl (lv_at hl 0 rfl) ?_
  refine zGetI (D := D) (ci := 7) (C := RX7) (T := TX7) (N := 4) hx hb hts hiX7 hown hH (zk_1 hF) rfl 1 (by decide) rfl hw2 (fun _ h9 => h9) dX7_run_7 hn ?_
  refine lv_icmp_ge (tgt := 39) hx hb dX7_run_10 (by decide) (fun c2 => ?_) (fun c2 => ?_)
  · have zc2 := c2
    replace zc2 := zc_le (nI_toInt (by omega)) (nI_toInt (by omega)) zc2
    refine lv_iload_n hx hb dX7_run_39 rfl (lv_at hl 3 rfl) ?_
    refine lv_aload_n hx hb dX7_run_40 rfl (lv_at hl 0 rfl) ?_
    refine zGetI (D := D) (ci := 7) (C := RX7) (T := TX7) (N := 4) hx hb hts hiX7 hown hH (zk_1 hF) rfl 2 (by decide) rfl hw1 (fun _ h9 => h9) dX7_run_41 ha ?_
    refine lv_isub hx hb dX7_run_44 ?_
    refine lv_topi (fun v3 ev3 => ?_)
    obtain rfl : v3 = nI (i - a) := ev3.trans (pk_sub (by omega))
    refine W.widen (k := 0) (n := 0) (by decide) (by decide) ?_
    exact W.iret (v := nI (i - a)) hx hb hr (fun t9 ht9 hW9 => ⟨⟨nI (i - a), (), rfl, ⟨i - a, rfl, ⟨by omega, fun j h1 h2 => hj j h1 (by omega), fun h => by first | exact absurd h (by omega) | (rw [show a + (i - a) = i by omega]; omega)⟩⟩, zEnd1 hH ht9 hW9⟩, hS.F ht9⟩) hS.2.2 dX7_run_45
  · have zc2 := c2
    replace zc2 := zc_nle (nI_toInt (by omega)) (nI_toInt (by omega)) zc2
    refine lv_aload_n hx hb dX7_run_13 rfl (lv_at hl 0 rfl) ?_
    refine zGetR (D := D) (ci := 7) (C := RX7) (T := TX7) (N := 4) hx hb hts hiX7 hown hH (zk_1 hF) rfl 0 (by decide) rfl hw3 (fun _ h9 => h9) dX7_run_14 (zr_1_0 hF) ?_
    refine lv_iload_n hx hb dX7_run_17 rfl (lv_at hl 3 rfl) ?_
    refine zBaldN (D := D) hx hb hH (zk_2 hF) (zn_2 hF) (by omega) (by omega) rfl dX7_run_18 ?_
    refine lv_iload_n hx hb dX7_run_19 rfl (lv_at hl 1 rfl) ?_
    refine lv_icmp_lt (tgt := 39) hx hb dX7_run_20 (by decide) (fun c4 => ?_) (fun c4 => ?_)
    · have zc4 := c4
      replace zc4 := zc_lt (rfl) (rfl) zc4
      refine lv_iload_n hx hb dX7_run_39 rfl (lv_at hl 3 rfl) ?_
      refine lv_aload_n hx hb dX7_run_40 rfl (lv_at hl 0 rfl) ?_
      refine zGetI (D := D) (ci := 7) (C := RX7) (T := TX7) (N := 4) hx hb hts hiX7 hown hH (zk_1 hF) rfl 2 (by decide) rfl hw1 (fun _ h9 => h9) dX7_run_41 ha ?_
      refine lv_isub hx hb dX7_run_44 ?_
      refine lv_topi (fun v5 ev5 => ?_)
      obtain rfl : v5 = nI (i - a) := ev5.trans (pk_sub (by omega))
      refine W.widen (k := 0) (n := 0) (by decide) (by decide) ?_
      exact W.iret (v := nI (i - a)) hx hb hr (fun t9 ht9 hW9 => ⟨⟨nI (i - a), (), rfl, ⟨i - a, rfl, ⟨by omega, fun j h1 h2 => hj j h1 (by omega), fun h => by first | exact absurd h (by omega) | (rw [show a + (i - a) = i by omega]; omega)⟩⟩, zEnd1 hH ht9 hW9⟩, hS.F ht9⟩) hS.2.2 dX7_run_45
    · have zc4 := c4
      replace zc4 := zc_nlt (rfl) (rfl) zc4
      refine lv_aload_n hx hb dX7_run_23 rfl (lv_at hl 0 rfl) ?_
      refine zGetR (D := D) (ci := 7) (C := RX7) (T := TX7) (N := 4) hx hb hts hiX7 hown hH (zk_1 hF) rfl 0 (by decide) rfl hw3 (fun _ h9 => h9) dX7_run_24 (zr_1_0 hF) ?_
      refine lv_iload_n hx hb dX7_run_27 rfl (lv_at hl 3 rfl) ?_
      refine zBaldN (D := D) hx hb hH (zk_2 hF) (zn_2 hF) (by omega) (by omega) rfl dX7_run_28 ?_
      refine lv_iload_n hx hb dX7_run_29 rfl (lv_at hl 2 rfl) ?_
      refine lv_icmp_gt (tgt := 39) hx hb dX7_run_30 (by decide) (fun c6 => ?_) (fun c6 => ?_)
      · have zc6 := c6
        replace zc6 := zc_lt (rfl) (rfl) zc6
        refine lv_iload_n hx hb dX7_run_39 rfl (lv_at hl 3 rfl) ?_
        refine lv_aload_n hx hb dX7_run_40 rfl (lv_at hl 0 rfl) ?_
        refine zGetI (D := D) (ci := 7) (C := RX7) (T := TX7) (N := 4) hx hb hts hiX7 hown hH (zk_1 hF) rfl 2 (by decide) rfl hw1 (fun _ h9 => h9) dX7_run_41 ha ?_
        refine lv_isub hx hb dX7_run_44 ?_
        refine lv_topi (fun v7 ev7 => ?_)
        obtain rfl : v7 = nI (i - a) := ev7.trans (pk_sub (by omega))
        refine W.widen (k := 0) (n := 0) (by decide) (by decide) ?_
        exact W.iret (v := nI (i - a)) hx hb hr (fun t9 ht9 hW9 => ⟨⟨nI (i - a), (), rfl, ⟨i - a, rfl, ⟨by omega, fun j h1 h2 => hj j h1 (by omega), fun h => by first | exact absurd h (by omega) | (rw [show a + (i - a) = i by omega]; omega)⟩⟩, zEnd1 hH ht9 hW9⟩, hS.F ht9⟩) hS.2.2 dX7_run_45
      · have zc6 := c6
        replace zc6 := zc_nlt (rfl) (rfl) zc6
        refine lv_iinc (v := nI (i + 1)) (lv' := [(3, .int (nI (i + 1))), (0, .ref (τ.1 1)), (1, .int x1), (2, .int x2)]) hx hb dX7_run_33 hl (k := 3) rfl (by rw [show (Int32.ofInt 1 : Int32) = nI 1 from by decide, nI_add]) (by decide) rfl (fun ls hl => ?_)
        refine lv_goto (tgt := 5) hx hb dX7_run_36 (by decide) ?_
        exact ih1 _ (by omega) (i + 1) _ _ _ ⟨rfl, ⟨by omega, by omega, fun j h5 h6 => by by_cases h7 : j = i; (subst h7; constructor <;> omega); exact hj j h5 (by omega)⟩, hH, hS, lv_sub hl [1, 2, 3, 0] rfl⟩
set_option maxHeartbeats 4000000 in
set_option maxRecDepth 100000 in
/-- Tape.skip -/
theorem t_skip (l : Launch) (hl0 : l.stackTraces = false) (D : va_G) (A : Nat → Prop) (sad : Nat → Nat) (τ : zTy) (fi : zFi) (fr : zFr) (ol : Int64) (n a : Nat) (hF : zFix τ fr) (hn : fi 1 1 = nI n) (ha : fi 1 2 = nI a) (hn4 : n ≤ 400) (han : a ≤ n) (k : Nat) (hk : a + k ≤ n) : Met l yX7_skip wsX7_skip ({ frames := 0, cells := 0, slots := 0, locals := 0 }) (va_Pc [.ref (τ.1 1), .int (nI k)] (zQc D A sad τ fi fr ol)) (va_Qv (fun (u : zFi) => ∃ b, u = zu fi 1 2 (nI b) ∧ zSkip (fi 2) (a + k) n b) (fun (u : zFi) (t : State) => zH D A τ u fr ol t t.heap) A) 0 0 A := by
  refine Met.ofW (cc := cX7_skip) (maxL := 2) (ret := none) (by decide) rfl ?_
  intro p e s m args below meth c s₁ B hml hv
  obtain ⟨rfl, hz, hH, hA⟩ := hv
  have hx := B.exec
  have hb := B.bytes
  have hr := B.returns
  have hts := atoms_spec (ws := wsX7_skip) B.pre
  have hown : s.vm.findClass RX7 = some m.cls := findClass_of_methodNamed B.named
  have hlocks := B.notSynchronized
  have hS : va_S A s.heap s.heap [] := va_S.rf
  have hl := lv_entry ([.ref (τ.1 1), .int (nI k)]) (n := 2) (Nat.le_of_ble_eq_true rfl)
  rw [lg_entry_eq]
  generalize (lg_sl ([.ref (τ.1 1), .int (nI k)]) ++ List.replicate (2 - (lg_sl ([.ref (τ.1 1), .int (nI k)])).length) Slot.unset).toArray = ls at hl ⊢
  have hl : lv_has ls 2 [(0, .ref (τ.1 1)), (1, .int (nI k))] := hl
  have hiX7 : ∀ w ∈ u_ws RX7 TX7 4, w ∈ wsX7_skip := fun _ h => List.mem_cons_of_mem _ (List.mem_append_right _ h)
  have hw1 := hts (.fieldLink RX7 22 "PostHouse$Tape" "next" "I") (by decide +kernel)
  have hw2 := hts (.fieldLink RX7 19 "PostHouse$Tape" "length" "I") (by decide +kernel)
  have hw3 := hts (.fieldLink RX7 11 "PostHouse$Tape" "bytes" "[B") (by decide +kernel)
  refine lv_aload_n hx hb dX7_skip_0 rfl (lv_at hl 0 rfl) ?_
  refine lv_dup hx hb dX7_skip_1 rfl ?_
  refine zGetI (D := D) (ci := 7) (C := RX7) (T := TX7) (N := 4) hx hb hts hiX7 hown hH (zk_1 hF) rfl 2 (by decide) rfl hw1 (fun _ h9 => h9) dX7_skip_2 ha ?_
  refine lv_iload_n hx hb dX7_skip_5 rfl (lv_at hl 1 rfl) ?_
  refine lv_iadd hx hb dX7_skip_6 ?_
  refine lv_topi (fun v1 ev1 => ?_)
  obtain rfl : v1 = nI (a + k) := ev1.trans (nI_add _ _)
  refine zPutI (D := D) (ci := 7) (ty := .int) (C := RX7) (T := TX7) (N := 4) hx hb hts hiX7 tyX7 tyX7_ok nmX7 hown hH hS (zk_1 hF) rfl 2 (by decide) rfl hw1 (fun _ h9 => h9) rfl (by decide +kernel) rfl rfl dX7_skip_7 (fun H locs hH hS => ?_)
  obtain ⟨f2, ef2⟩ : ∃ f9 : zFi, f9 = zu fi 1 2 (nI (a + k)) := ⟨_, rfl⟩
  rw [← ef2] at hH
  have q3 : f2 1 1 = nI n := by rw [ef2, zu_n (fun h9 => absurd h9.2 (by decide))]; exact hn
  have q4 : f2 1 2 = nI (a + k) := by rw [ef2]; exact zu_s
  refine zLp (σ := Nat × zFi) (fun x9 k9 H locs ls => (fun (i : Nat) (f : zFi) => k9 = n - i ∧ (f = zu fi 1 2 (nI i) ∧ a + k ≤ i ∧ i ≤ n ∧ ∀ j, a + k ≤ j → j < i → (fi 2 j).toInt = 32) ∧ zH D A τ f fr ol s H ∧ va_S A s.heap H locs ∧ lv_has ls 2 [(0, .ref (τ.1 1)), (1, .int (nI k))]) x9.1 x9.2) (a + k, f2) _ ⟨rfl, ⟨ef2, Nat.le_refl _, hk, fun j h1 h2 => absurd h2 (by omega)⟩, hH, hS, lv_sub hl [0, 1] rfl⟩ (fun k9 ih x9 H locs ls hv9 => ?_)
  obtain ⟨i, f⟩ := x9
  obtain ⟨hkih5, hv9, hH, hS, hl⟩ := hv9
  obtain ⟨hf, h1, h2, hj⟩ := hv9
  have ih5 := ih
  clear ih
  have q1 : f 1 1 = nI n := by rw [hf, zu_n (fun h9 => absurd h9.2 (by decide))]; exact hn
  have q2 : f 1 2 = nI i := by rw [hf]; exact zu_s
  have q3 : f 2 = fi 2 := by rw [hf]; exact zu_r (by decide)
  refine lv_aload_n hx hb dX7_skip_10 rfl (lv_at hl 0 rfl) ?_
  refine zGetI (D := D) (ci := 7) (C := RX7) (T := TX7) (N := 4) hx hb hts hiX7 hown hH (zk_1 hF) rfl 2 (by decide) rfl hw1 (fun _ h9 => h9) dX7_skip_11 q2 ?_
  refine lv_aload_n hx hb dX7_skip_14 rfl (lv_at hl 0 rfl) ?_
  refine zGetI (D := D) (ci := 7) (C := RX7) (T := TX7) (N := 4) hx hb hts hiX7 hown hH (zk_1 hF) rfl 1 (by decide) rfl hw2 (fun _ h9 => h9) dX7_skip_15 q1 ?_
  refine lv_icmp_ge (tgt := 48) hx hb dX7_skip_18 (by decide) (fun c6 => ?_) (fun c6 => ?_)
  · have zc6 := c6
    replace zc6 := zc_le (nI_toInt (by omega)) (nI_toInt (by omega)) zc6
    refine W.widen (k := 0) (n := 0) (by decide) (by decide) ?_
    exact W.vret hx hb hr (fun t9 ht9 hW9 => ⟨⟨f, rfl, ⟨i, hf, h1, h2, hj, fun h => by first | exact absurd h (by omega) | (rw [q3] at zc6; exact zc6)⟩, zEnd1 hH ht9 hW9⟩, hS.F ht9⟩) hS.2.2 dX7_skip_48
  · have zc6 := c6
    replace zc6 := zc_nle (nI_toInt (by omega)) (nI_toInt (by omega)) zc6
    refine lv_aload_n hx hb dX7_skip_21 rfl (lv_at hl 0 rfl) ?_
    refine zGetR (D := D) (ci := 7) (C := RX7) (T := TX7) (N := 4) hx hb hts hiX7 hown hH (zk_1 hF) rfl 0 (by decide) rfl hw3 (fun _ h9 => h9) dX7_skip_22 (zr_1_0 hF) ?_
    refine lv_aload_n hx hb dX7_skip_25 rfl (lv_at hl 0 rfl) ?_
    refine zGetI (D := D) (ci := 7) (C := RX7) (T := TX7) (N := 4) hx hb hts hiX7 hown hH (zk_1 hF) rfl 2 (by decide) rfl hw1 (fun _ h9 => h9) dX7_skip_26 q2 ?_
    refine zBaldN (D := D) hx hb hH (zk_2 hF) (zn_2 hF) (by omega) (by omega) rfl dX7_skip_29 ?_
    refine lv_bipush (v := nI 32) hx hb dX7_skip_30 (by decide) ?_
    refine lv_icmp_ne (tgt := 48) hx hb dX7_skip_32 (by decide) (fun c7 => ?_) (fun c7 => ?_)
    · have zc7 := c7
      replace zc7 := zc_neq (rfl) (nI_toInt (by omega)) zc7
      refine W.widen (k := 0) (n := 0) (by decide) (by decide) ?_
      exact W.vret hx hb hr (fun t9 ht9 hW9 => ⟨⟨f, rfl, ⟨i, hf, h1, h2, hj, fun h => by first | exact absurd h (by omega) | (rw [q3] at zc7; exact zc7)⟩, zEnd1 hH ht9 hW9⟩, hS.F ht9⟩) hS.2.2 dX7_skip_48
    · have zc7 := c7
      replace zc7 := zc_eq (rfl) (nI_toInt (by omega)) zc7
      refine lv_aload_n hx hb dX7_skip_35 rfl (lv_at hl 0 rfl) ?_
      refine lv_dup hx hb dX7_skip_36 rfl ?_
      refine zGetI (D := D) (ci := 7) (C := RX7) (T := TX7) (N := 4) hx hb hts hiX7 hown hH (zk_1 hF) rfl 2 (by decide) rfl hw1 (fun _ h9 => h9) dX7_skip_37 q2 ?_
      refine lv_iconst (v := nI 1) hx hb dX7_skip_40 (by decide) ?_
      refine lv_iadd hx hb dX7_skip_41 ?_
      refine lv_topi (fun v8 ev8 => ?_)
      obtain rfl : v8 = nI (i + 1) := ev8.trans (nI_add _ _)
      refine zPutI (D := D) (ci := 7) (ty := .int) (C := RX7) (T := TX7) (N := 4) hx hb hts hiX7 tyX7 tyX7_ok nmX7 hown hH hS (zk_1 hF) rfl 2 (by decide) rfl hw1 (fun _ h9 => h9) rfl (by decide +kernel) rfl rfl dX7_skip_42 (fun H locs hH hS => ?_)
      obtain ⟨f9, ef9⟩ : ∃ f9 : zFi, f9 = zu f 1 2 (nI (i + 1)) := ⟨_, rfl⟩
      rw [← ef9] at hH
      have q10 : f9 1 1 = nI n := by rw [ef9, zu_n (fun h9 => absurd h9.2 (by decide))]; exact q1
      have q11 : f9 1 2 = nI (i + 1) := by rw [ef9]; exact zu_s
      refine lv_goto (tgt := 10) hx hb dX7_skip_45 (by decide) ?_
      exact ih5 _ (by omega) (i + 1, f9) _ _ _ ⟨rfl, ⟨by rw [ef9, hf]; funext x9 y9; simp only [zu]; split <;> simp_all, by omega, by omega, fun j h5 h6 => by by_cases h7 : j = i; (subst h7; rw [q3] at zc7; omega); exact hj j h5 (by omega)⟩, hH, hS, lv_sub hl [0, 1] rfl⟩
def zRef (fi : zFi) (x : Int32) (u : zFi) : Prop := (fi 1 3 = -1 ∧ u = zu fi 1 3 x) ∨ (¬ fi 1 3 = -1 ∧ u = fi)
def zWordAt (b : Nat → Int32) (a n : Nat) (ws : List Int32) : Prop := zRun b 97 122 a n ws.length ∧ ∀ j, j < ws.length → b (a + j) = ws.getD j 0
def zNumAt (b : Nat → Int32) (a n p q : Nat) (lo hi : Int32) (k : Nat) : Prop := zRun b 48 57 a n k ∧ p ≤ k ∧ k ≤ q ∧ lo.toInt ≤ (zDig b a k).toInt ∧ (zDig b a k).toInt ≤ hi.toInt
theorem zRun_one {b : Nat → Int32} {lo hi : Int32} {a n k k' : Nat} (h : zRun b lo hi a n k) (h' : zRun b lo hi a n k') : k = k' := by
  obtain ⟨a1, a2, a3⟩ := h
  obtain ⟨b1, b2, b3⟩ := h'
  rcases Nat.lt_trichotomy k k' with q | q | q
  · exact absurd (b2 (a + k) (by omega) (by omega)) (a3 (by omega))
  · exact q
  · exact absurd (a2 (a + k') (by omega) (by omega)) (b3 (by omega))
set_option maxHeartbeats 4000000 in
set_option maxRecDepth 100000 in
/-- Tape.refuse -/
theorem t_refuse (l : Launch) (hl0 : l.stackTraces = false) (D : va_G) (A : Nat → Prop) (sad : Nat → Nat) (τ : zTy) (fi : zFi) (fr : zFr) (ol : Int64) (hF : zFix τ fr) (x : Int32) : Met l yX7_refuse wsX7_refuse ({ frames := 0, cells := 0, slots := 0, locals := 0 }) (va_Pc [.ref (τ.1 1), .int x] (zQc D A sad τ fi fr ol)) (va_Qv (fun (u : zFi) => zRef fi x u) (fun (u : zFi) (t : State) => zH D A τ u fr ol t t.heap) A) 0 0 A := by
  refine Met.ofW (cc := cX7_refuse) (maxL := 2) (ret := none) (by decide) rfl ?_
  intro p e s m args below meth c s₁ B hml hv
  obtain ⟨rfl, hz, hH, hA⟩ := hv
  have hx := B.exec
  have hb := B.bytes
  have hr := B.returns
  have hts := atoms_spec (ws := wsX7_refuse) B.pre
  have hown : s.vm.findClass RX7 = some m.cls := findClass_of_methodNamed B.named
  have hlocks := B.notSynchronized
  have hS : va_S A s.heap s.heap [] := va_S.rf
  have hl := lv_entry ([.ref (τ.1 1), .int x]) (n := 2) (Nat.le_of_ble_eq_true rfl)
  rw [lg_entry_eq]
  generalize (lg_sl ([.ref (τ.1 1), .int x]) ++ List.replicate (2 - (lg_sl ([.ref (τ.1 1), .int x])).length) Slot.unset).toArray = ls at hl ⊢
  have hl : lv_has ls 2 [(0, .ref (τ.1 1)), (1, .int x)] := hl
  have hiX7 : ∀ w ∈ u_ws RX7 TX7 4, w ∈ wsX7_refuse := fun _ h => List.mem_cons_of_mem _ (List.mem_append_right _ h)
  have hw1 := hts (.fieldLink RX7 15 "PostHouse$Tape" "wrong" "I") (by decide +kernel)
  refine lv_aload_n hx hb dX7_refuse_0 rfl (lv_at hl 0 rfl) ?_
  refine zGetI (D := D) (ci := 7) (C := RX7) (T := TX7) (N := 4) hx hb hts hiX7 hown hH (zk_1 hF) rfl 3 (by decide) rfl hw1 (fun _ h9 => h9) dX7_refuse_1 rfl ?_
  refine lv_iconst (v := (-1)) hx hb dX7_refuse_4 (by decide) ?_
  refine lv_icmp_ne (tgt := 13) hx hb dX7_refuse_5 (by decide) (fun c1 => ?_) (fun c1 => ?_)
  · have zc1 := c1
    replace zc1 := zc_neq (rfl) ((by decide : ((-1) : Int32).toInt = (-1))) zc1
    refine W.widen (k := 0) (n := 0) (by decide) (by decide) ?_
    exact W.vret hx hb hr (fun t9 ht9 hW9 => ⟨⟨fi, rfl, Or.inr ⟨c1, rfl⟩, zEnd1 hH ht9 hW9⟩, hS.F ht9⟩) hS.2.2 dX7_refuse_13
  · have zc1 := c1
    replace zc1 := zc_eq (rfl) ((by decide : ((-1) : Int32).toInt = (-1))) zc1
    refine lv_aload_n hx hb dX7_refuse_8 rfl (lv_at hl 0 rfl) ?_
    refine lv_iload_n hx hb dX7_refuse_9 rfl (lv_at hl 1 rfl) ?_
    refine zPutI (D := D) (ci := 7) (ty := .int) (C := RX7) (T := TX7) (N := 4) hx hb hts hiX7 tyX7 tyX7_ok nmX7 hown hH hS (zk_1 hF) rfl 3 (by decide) rfl hw1 (fun _ h9 => h9) rfl (by decide +kernel) rfl rfl dX7_refuse_10 (fun H locs hH hS => ?_)
    obtain ⟨f2, ef2⟩ : ∃ f9 : zFi, f9 = zu fi 1 3 x := ⟨_, rfl⟩
    rw [← ef2] at hH
    have q3 : f2 1 3 = x := by rw [ef2]; exact zu_s
    refine W.widen (k := 0) (n := 0) (by decide) (by decide) ?_
    exact W.vret hx hb hr (fun t9 ht9 hW9 => ⟨⟨f2, rfl, Or.inl ⟨c1, ef2⟩, zEnd1 hH ht9 hW9⟩, hS.F ht9⟩) hS.2.2 dX7_refuse_13
set_option maxHeartbeats 4000000 in
set_option maxRecDepth 100000 in
/-- Tape.open -/
theorem t_open (l : Launch) (hl0 : l.stackTraces = false) (D : va_G) (A : Nat → Prop) (sad : Nat → Nat) (τ : zTy) (fi : zFi) (fr : zFr) (ol : Int64) (n : Nat) (hF : zFix τ fr) (hn : fi 1 1 = nI n) (hn4 : n ≤ 400) : Met l yX7_open wsX7_open ({ frames := 1, cells := 0, slots := 0, locals := 21 }) (va_Pc [.ref (τ.1 1)] (zQc D A sad τ fi fr ol)) (va_Qv (fun (u : zFi) => ∃ b, u = zu (zu fi 1 3 (-1)) 1 2 (nI b) ∧ zSkip (fi 2) 0 n b) (fun (u : zFi) (t : State) => zH D A τ u fr ol t t.heap) A) 0 0 A := by
  refine Met.ofW (cc := cX7_open) (maxL := 1) (ret := none) (by decide) rfl ?_
  intro p e s m args below meth c s₁ B hml hv
  obtain ⟨rfl, hz, hH, hA⟩ := hv
  have hx := B.exec
  have hb := B.bytes
  have hr := B.returns
  have hts := atoms_spec (ws := wsX7_open) B.pre
  have hown : s.vm.findClass RX7 = some m.cls := findClass_of_methodNamed B.named
  have hlocks := B.notSynchronized
  have hS : va_S A s.heap s.heap [] := va_S.rf
  have hl := lv_entry ([.ref (τ.1 1)]) (n := 1) (Nat.le_of_ble_eq_true rfl)
  rw [lg_entry_eq]
  generalize (lg_sl ([.ref (τ.1 1)]) ++ List.replicate (1 - (lg_sl ([.ref (τ.1 1)])).length) Slot.unset).toArray = ls at hl ⊢
  have hl : lv_has ls 1 [(0, .ref (τ.1 1))] := hl
  have hw0 := hts (.fieldLink RX7 15 "PostHouse$Tape" "wrong" "I") (by decide +kernel)
  have hiX7 : ∀ w ∈ u_ws RX7 TX7 4, w ∈ wsX7_open := fun _ h => List.mem_cons_of_mem _ (List.mem_append_right _ h)
  have hw2 := hts (.fieldLink RX7 22 "PostHouse$Tape" "next" "I") (by decide +kernel)
  refine lv_aload_n hx hb dX7_open_0 rfl (lv_at hl 0 rfl) ?_
  refine lv_iconst (v := (-1)) hx hb dX7_open_1 (by decide) ?_
  refine zPutI (D := D) (ci := 7) (ty := .int) (C := RX7) (T := TX7) (N := 4) hx hb hts hiX7 tyX7 tyX7_ok nmX7 hown hH hS (zk_1 hF) rfl 3 (by decide) rfl hw0 (fun _ h9 => h9) rfl (by decide +kernel) rfl rfl dX7_open_2 (fun H locs hH hS => ?_)
  obtain ⟨f1, ef1⟩ : ∃ f9 : zFi, f9 = zu fi 1 3 ((-1)) := ⟨_, rfl⟩
  rw [← ef1] at hH
  have q2 : f1 1 1 = nI n := by rw [ef1, zu_n (fun h9 => absurd h9.2 (by decide))]; exact hn
  have q3 : f1 1 3 = (-1) := by rw [ef1]; exact zu_s
  refine lv_aload_n hx hb dX7_open_5 rfl (lv_at hl 0 rfl) ?_
  refine lv_iconst (v := nI 0) hx hb dX7_open_6 (by decide) ?_
  refine zPutI (D := D) (ci := 7) (ty := .int) (C := RX7) (T := TX7) (N := 4) hx hb hts hiX7 tyX7 tyX7_ok nmX7 hown hH hS (zk_1 hF) rfl 2 (by decide) rfl hw2 (fun _ h9 => h9) rfl (by decide +kernel) rfl rfl dX7_open_7 (fun H locs hH hS => ?_)
  obtain ⟨f4, ef4⟩ : ∃ f9 : zFi, f9 = zu f1 1 2 (nI 0) := ⟨_, rfl⟩
  rw [← ef4] at hH
  have q5 : f4 1 1 = nI n := by rw [ef4, zu_n (fun h9 => absurd h9.2 (by decide))]; exact q2
  have q6 : f4 1 3 = (-1) := by rw [ef4, zu_n (fun h9 => absurd h9.2 (by decide))]; exact q3
  have q7 : f4 1 2 = nI 0 := by rw [ef4]; exact zu_s
  refine lv_aload_n hx hb dX7_open_10 rfl (lv_at hl 0 rfl) ?_
  refine lv_iconst (v := nI 0) hx hb dX7_open_11 (by decide) ?_
  refine va_callv (va_runV (As := [.int (nI 0)]) (rest := []) ⟨hx, hb, hml, hown, hts⟩ (t_skip l hl0 D A sad τ f4 fr ol n 0 hF q5 q7 (by omega) (by omega) 0 (by omega)) (cwV 1 hts gX7_open_X7_skip rfl rfl rfl (by decide +kernel) ⟨Nat.le_of_ble_eq_true rfl, Nat.le_of_ble_eq_true rfl⟩) ⟨zQc_bl, zRecv hH (zk_1 hF) rfl, zQc_at hz hS hA hH⟩ rfl rfl hl.1 rfl (lv_room (Nat.le_of_ble_eq_true rfl)) dX7_open_12 ⟨Nat.le_of_ble_eq_true rfl, Nat.le_of_ble_eq_true rfl⟩) hS (fun q _ h => h) (fun q h => h) (fun u9 t9 H1 locs ht9 hvm9 hw hB hz1 hk1 hS => ?_)
  have hH := zMv ht9 hvm9 hB
  clear hB
  generalize u9 = f9 at hw hH
  generalize H1 = H at hH hS ⊢
  obtain ⟨b10, ef9, hs11⟩ := hw
  have zhs11 := hs11.1
  have yhs11 := hs11.2.1
  have q12 : f9 1 1 = nI n := by rw [ef9, zu_n (fun h9 => absurd h9.2 (by decide))]; exact q5
  have q13 : f9 1 3 = (-1) := by rw [ef9, zu_n (fun h9 => absurd h9.2 (by decide))]; exact q6
  have q14 : f9 1 2 = nI b10 := by rw [ef9]; exact zu_s
  refine W.widen (k := 0) (n := 0) (by decide) (by decide) ?_
  exact W.vret hx hb hr (fun t9 ht9 hW9 => ⟨⟨f9, rfl, ⟨b10, by rw [ef9, ef4, ef1]; funext x9 y9; simp only [zu]; split <;> simp_all, by have h7 := hs11; rw [Nat.zero_add] at h7; rw [show f4 2 = fi 2 from by rw [ef4, zu_r (by decide), ef1, zu_r (by decide)]] at h7; exact h7⟩, zEnd1 hH ht9 hW9⟩, hS.F ht9⟩) hS.2.2 dX7_open_15
set_option maxHeartbeats 4000000 in
set_option maxRecDepth 100000 in
/-- Tape.needEnd -/
theorem t_needEnd (l : Launch) (hl0 : l.stackTraces = false) (D : va_G) (A : Nat → Prop) (sad : Nat → Nat) (τ : zTy) (fi : zFi) (fr : zFr) (ol : Int64) (n a : Nat) (hF : zFix τ fr) (hn : fi 1 1 = nI n) (ha : fi 1 2 = nI a) (hn4 : n ≤ 400) (han : a ≤ n) : Met l yX7_needEnd wsX7_needEnd ({ frames := 1, cells := 0, slots := 0, locals := 21 }) (va_Pc [.ref (τ.1 1)] (zQc D A sad τ fi fr ol)) (va_Qv (fun (u : zFi) => (a < n ∧ zRef fi (nI a) u) ∨ (a = n ∧ u = fi)) (fun (u : zFi) (t : State) => zH D A τ u fr ol t t.heap) A) 0 0 A := by
  refine Met.ofW (cc := cX7_needEnd) (maxL := 1) (ret := none) (by decide) rfl ?_
  intro p e s m args below meth c s₁ B hml hv
  obtain ⟨rfl, hz, hH, hA⟩ := hv
  have hx := B.exec
  have hb := B.bytes
  have hr := B.returns
  have hts := atoms_spec (ws := wsX7_needEnd) B.pre
  have hown : s.vm.findClass RX7 = some m.cls := findClass_of_methodNamed B.named
  have hlocks := B.notSynchronized
  have hS : va_S A s.heap s.heap [] := va_S.rf
  have hl := lv_entry ([.ref (τ.1 1)]) (n := 1) (Nat.le_of_ble_eq_true rfl)
  rw [lg_entry_eq]
  generalize (lg_sl ([.ref (τ.1 1)]) ++ List.replicate (1 - (lg_sl ([.ref (τ.1 1)])).length) Slot.unset).toArray = ls at hl ⊢
  have hl : lv_has ls 1 [(0, .ref (τ.1 1))] := hl
  have hiX7 : ∀ w ∈ u_ws RX7 TX7 4, w ∈ wsX7_needEnd := fun _ h => List.mem_cons_of_mem _ (List.mem_append_right _ h)
  have hw1 := hts (.fieldLink RX7 22 "PostHouse$Tape" "next" "I") (by decide +kernel)
  have hw2 := hts (.fieldLink RX7 19 "PostHouse$Tape" "length" "I") (by decide +kernel)
  refine lv_aload_n hx hb dX7_needEnd_0 rfl (lv_at hl 0 rfl) ?_
  refine zGetI (D := D) (ci := 7) (C := RX7) (T := TX7) (N := 4) hx hb hts hiX7 hown hH (zk_1 hF) rfl 2 (by decide) rfl hw1 (fun _ h9 => h9) dX7_needEnd_1 ha ?_
  refine lv_aload_n hx hb dX7_needEnd_4 rfl (lv_at hl 0 rfl) ?_
  refine zGetI (D := D) (ci := 7) (C := RX7) (T := TX7) (N := 4) hx hb hts hiX7 hown hH (zk_1 hF) rfl 1 (by decide) rfl hw2 (fun _ h9 => h9) dX7_needEnd_5 hn ?_
  refine lv_icmp_ge (tgt := 19) hx hb dX7_needEnd_8 (by decide) (fun c1 => ?_) (fun c1 => ?_)
  · have zc1 := c1
    replace zc1 := zc_le (nI_toInt (by omega)) (nI_toInt (by omega)) zc1
    refine W.widen (k := 0) (n := 0) (by decide) (by decide) ?_
    exact W.vret hx hb hr (fun t9 ht9 hW9 => ⟨⟨fi, rfl, Or.inr ⟨by omega, rfl⟩, zEnd1 hH ht9 hW9⟩, hS.F ht9⟩) hS.2.2 dX7_needEnd_19
  · have zc1 := c1
    replace zc1 := zc_nle (nI_toInt (by omega)) (nI_toInt (by omega)) zc1
    refine lv_aload_n hx hb dX7_needEnd_11 rfl (lv_at hl 0 rfl) ?_
    refine lv_aload_n hx hb dX7_needEnd_12 rfl (lv_at hl 0 rfl) ?_
    refine zGetI (D := D) (ci := 7) (C := RX7) (T := TX7) (N := 4) hx hb hts hiX7 hown hH (zk_1 hF) rfl 2 (by decide) rfl hw1 (fun _ h9 => h9) dX7_needEnd_13 ha ?_
    refine va_callv (va_runV (As := [.int (nI a)]) (rest := []) ⟨hx, hb, hml, hown, hts⟩ (t_refuse l hl0 D A sad τ fi fr ol hF (nI a)) (cwV 1 hts gX7_needEnd_X7_refuse rfl rfl rfl (by decide +kernel) ⟨Nat.le_of_ble_eq_true rfl, Nat.le_of_ble_eq_true rfl⟩) ⟨zQc_bl, zRecv hH (zk_1 hF) rfl, zQc_at hz hS hA hH⟩ rfl rfl hl.1 rfl (lv_room (Nat.le_of_ble_eq_true rfl)) dX7_needEnd_16 ⟨Nat.le_of_ble_eq_true rfl, Nat.le_of_ble_eq_true rfl⟩) hS (fun q _ h => h) (fun q h => h) (fun u9 t9 H1 locs ht9 hvm9 hw hB hz1 hk1 hS => ?_)
    have hH := zMv ht9 hvm9 hB
    clear hB
    generalize u9 = f3 at hw hH
    generalize H1 = H at hH hS ⊢
    have hr4 := hw
    clear hw
    refine W.widen (k := 0) (n := 0) (by decide) (by decide) ?_
    exact W.vret hx hb hr (fun t9 ht9 hW9 => ⟨⟨f3, rfl, Or.inl ⟨by omega, hr4⟩, zEnd1 hH ht9 hW9⟩, hS.F ht9⟩) hS.2.2 dX7_needEnd_19
set_option maxHeartbeats 4000000 in
set_option maxRecDepth 100000 in
/-- Tape.takesSign -/
theorem t_takesSign (l : Launch) (hl0 : l.stackTraces = false) (D : va_G) (A : Nat → Prop) (sad : Nat → Nat) (τ : zTy) (fi : zFi) (fr : zFr) (ol : Int64) (n a : Nat) (hF : zFix τ fr) (hn : fi 1 1 = nI n) (ha : fi 1 2 = nI a) (hn4 : n ≤ 400) (han : a ≤ n) (x : Int32) : Met l yX7_takesSign wsX7_takesSign ({ frames := 1, cells := 0, slots := 0, locals := 21 }) (va_Pc [.ref (τ.1 1), .int x] (zQc D A sad τ fi fr ol)) (va_Qi (fun (r : Int32) (u : zFi) => (r = 1 ∧ a < n ∧ fi 2 a = x ∧ ∃ b, u = zu fi 1 2 (nI b) ∧ zSkip (fi 2) (a + 1) n b) ∨ (r = 0 ∧ u = fi ∧ (a < n → ¬ fi 2 a = x))) (fun (u : zFi) (t : State) => zH D A τ u fr ol t t.heap) A) 0 0 A := by
  refine Met.ofW (cc := cX7_takesSign) (maxL := 2) (ret := (some .boolean)) (by decide) rfl ?_
  intro p e s m args below meth c s₁ B hml hv
  obtain ⟨rfl, hz, hH, hA⟩ := hv
  have hx := B.exec
  have hb := B.bytes
  have hr := B.returns
  have hts := atoms_spec (ws := wsX7_takesSign) B.pre
  have hown : s.vm.findClass RX7 = some m.cls := findClass_of_methodNamed B.named
  have hlocks := B.notSynchronized
  have hS : va_S A s.heap s.heap [] := va_S.rf
  have hl := lv_entry ([.ref (τ.1 1), .int x]) (n := 2) (Nat.le_of_ble_eq_true rfl)
  rw [lg_entry_eq]
  generalize (lg_sl ([.ref (τ.1 1), .int x]) ++ List.replicate (2 - (lg_sl ([.ref (τ.1 1), .int x])).length) Slot.unset).toArray = ls at hl ⊢
  have hl : lv_has ls 2 [(0, .ref (τ.1 1)), (1, .int x)] := hl
  have hiX7 : ∀ w ∈ u_ws RX7 TX7 4, w ∈ wsX7_takesSign := fun _ h => List.mem_cons_of_mem _ (List.mem_append_right _ h)
  have hw1 := hts (.fieldLink RX7 22 "PostHouse$Tape" "next" "I") (by decide +kernel)
  have hw2 := hts (.fieldLink RX7 19 "PostHouse$Tape" "length" "I") (by decide +kernel)
  have hw3 := hts (.fieldLink RX7 11 "PostHouse$Tape" "bytes" "[B") (by decide +kernel)
  refine lv_aload_n hx hb dX7_takesSign_0 rfl (lv_at hl 0 rfl) ?_
  refine zGetI (D := D) (ci := 7) (C := RX7) (T := TX7) (N := 4) hx hb hts hiX7 hown hH (zk_1 hF) rfl 2 (by decide) rfl hw1 (fun _ h9 => h9) dX7_takesSign_1 ha ?_
  refine lv_aload_n hx hb dX7_takesSign_4 rfl (lv_at hl 0 rfl) ?_
  refine zGetI (D := D) (ci := 7) (C := RX7) (T := TX7) (N := 4) hx hb hts hiX7 hown hH (zk_1 hF) rfl 1 (by decide) rfl hw2 (fun _ h9 => h9) dX7_takesSign_5 hn ?_
  refine lv_icmp_ge (tgt := 24) hx hb dX7_takesSign_8 (by decide) (fun c1 => ?_) (fun c1 => ?_)
  · have zc1 := c1
    replace zc1 := zc_le (nI_toInt (by omega)) (nI_toInt (by omega)) zc1
    refine lv_iconst (v := nI 0) hx hb dX7_takesSign_24 (by decide) ?_
    refine W.widen (k := 0) (n := 0) (by decide) (by decide) ?_
    exact W.zret (v := nI 0) hx hb hr (by decide) (fun t9 ht9 hW9 => ⟨⟨nI 0, fi, rfl, Or.inr ⟨rfl, rfl, fun h => by first | exact absurd h (by omega) | exact c1⟩, zEnd1 hH ht9 hW9⟩, hS.F ht9⟩) hS.2.2 dX7_takesSign_25
  · have zc1 := c1
    replace zc1 := zc_nle (nI_toInt (by omega)) (nI_toInt (by omega)) zc1
    refine lv_aload_n hx hb dX7_takesSign_11 rfl (lv_at hl 0 rfl) ?_
    refine zGetR (D := D) (ci := 7) (C := RX7) (T := TX7) (N := 4) hx hb hts hiX7 hown hH (zk_1 hF) rfl 0 (by decide) rfl hw3 (fun _ h9 => h9) dX7_takesSign_12 (zr_1_0 hF) ?_
    refine lv_aload_n hx hb dX7_takesSign_15 rfl (lv_at hl 0 rfl) ?_
    refine zGetI (D := D) (ci := 7) (C := RX7) (T := TX7) (N := 4) hx hb hts hiX7 hown hH (zk_1 hF) rfl 2 (by decide) rfl hw1 (fun _ h9 => h9) dX7_takesSign_16 ha ?_
    refine zBaldN (D := D) hx hb hH (zk_2 hF) (zn_2 hF) (by omega) (by omega) rfl dX7_takesSign_19 ?_
    refine lv_iload_n hx hb dX7_takesSign_20 rfl (lv_at hl 1 rfl) ?_
    refine lv_icmp_eq (tgt := 26) hx hb dX7_takesSign_21 (by decide) (fun c2 => ?_) (fun c2 => ?_)
    · have zc2 := c2
      replace zc2 := zc_eq (rfl) (rfl) zc2
      refine lv_aload_n hx hb dX7_takesSign_26 rfl (lv_at hl 0 rfl) ?_
      refine lv_iconst (v := nI 1) hx hb dX7_takesSign_27 (by decide) ?_
      refine va_callv (va_runV (As := [.int (nI 1)]) (rest := []) ⟨hx, hb, hml, hown, hts⟩ (t_skip l hl0 D A sad τ fi fr ol n a hF hn ha (by omega) (by omega) 1 (by omega)) (cwV 1 hts gX7_takesSign_X7_skip rfl rfl rfl (by decide +kernel) ⟨Nat.le_of_ble_eq_true rfl, Nat.le_of_ble_eq_true rfl⟩) ⟨zQc_bl, zRecv hH (zk_1 hF) rfl, zQc_at hz hS hA hH⟩ rfl rfl hl.1 rfl (lv_room (Nat.le_of_ble_eq_true rfl)) dX7_takesSign_28 ⟨Nat.le_of_ble_eq_true rfl, Nat.le_of_ble_eq_true rfl⟩) hS (fun q _ h => h) (fun q h => h) (fun u9 t9 H1 locs ht9 hvm9 hw hB hz1 hk1 hS => ?_)
      have hH := zMv ht9 hvm9 hB
      clear hB
      generalize u9 = f4 at hw hH
      generalize H1 = H at hH hS ⊢
      obtain ⟨b5, ef4, hs6⟩ := hw
      have zhs6 := hs6.1
      have yhs6 := hs6.2.1
      have q7 : f4 1 1 = nI n := by rw [ef4, zu_n (fun h9 => absurd h9.2 (by decide))]; exact hn
      have q8 : f4 1 2 = nI b5 := by rw [ef4]; exact zu_s
      refine lv_iconst (v := nI 1) hx hb dX7_takesSign_31 (by decide) ?_
      refine W.widen (k := 0) (n := 0) (by decide) (by decide) ?_
      exact W.zret (v := nI 1) hx hb hr (by decide) (fun t9 ht9 hW9 => ⟨⟨nI 1, f4, rfl, Or.inl ⟨rfl, by omega, c2, b5, ef4, hs6⟩, zEnd1 hH ht9 hW9⟩, hS.F ht9⟩) hS.2.2 dX7_takesSign_32
    · have zc2 := c2
      replace zc2 := zc_neq (rfl) (rfl) zc2
      refine lv_iconst (v := nI 0) hx hb dX7_takesSign_24 (by decide) ?_
      refine W.widen (k := 0) (n := 0) (by decide) (by decide) ?_
      exact W.zret (v := nI 0) hx hb hr (by decide) (fun t9 ht9 hW9 => ⟨⟨nI 0, fi, rfl, Or.inr ⟨rfl, rfl, fun h => by first | exact absurd h (by omega) | exact c2⟩, zEnd1 hH ht9 hW9⟩, hS.F ht9⟩) hS.2.2 dX7_takesSign_25
set_option maxHeartbeats 4000000 in
set_option maxRecDepth 100000 in
/-- Tape.value -/
theorem t_value (l : Launch) (hl0 : l.stackTraces = false) (D : va_G) (A : Nat → Prop) (sad : Nat → Nat) (τ : zTy) (fi : zFi) (fr : zFr) (ol : Int64) (n a : Nat) (hF : zFix τ fr) (hn : fi 1 1 = nI n) (ha : fi 1 2 = nI a) (hn4 : n ≤ 400) (han : a ≤ n) (k : Nat) (hk : a + k ≤ n) : Met l yX7_value wsX7_value ({ frames := 0, cells := 0, slots := 0, locals := 0 }) (va_Pc [.ref (τ.1 1), .int (nI k)] (zQc D A sad τ fi fr ol)) (va_Qi (fun (r : Int32) (u : Unit) => r = zDig (fi 2) a k) (fun (u : Unit) (t : State) => zH D A τ fi fr ol t t.heap) A) 0 0 A := by
  refine Met.ofW (cc := cX7_value) (maxL := 4) (ret := (some .int)) (by decide) rfl ?_
  intro p e s m args below meth c s₁ B hml hv
  obtain ⟨rfl, hz, hH, hA⟩ := hv
  have hx := B.exec
  have hb := B.bytes
  have hr := B.returns
  have hts := atoms_spec (ws := wsX7_value) B.pre
  have hown : s.vm.findClass RX7 = some m.cls := findClass_of_methodNamed B.named
  have hlocks := B.notSynchronized
  have hS : va_S A s.heap s.heap [] := va_S.rf
  have hl := lv_entry ([.ref (τ.1 1), .int (nI k)]) (n := 4) (Nat.le_of_ble_eq_true rfl)
  rw [lg_entry_eq]
  generalize (lg_sl ([.ref (τ.1 1), .int (nI k)]) ++ List.replicate (4 - (lg_sl ([.ref (τ.1 1), .int (nI k)])).length) Slot.unset).toArray = ls at hl ⊢
  have hl : lv_has ls 4 [(0, .ref (τ.1 1)), (1, .int (nI k))] := hl
  have hiX7 : ∀ w ∈ u_ws RX7 TX7 4, w ∈ wsX7_value := fun _ h => List.mem_cons_of_mem _ (List.mem_append_right _ h)
  have hw1 := hts (.fieldLink RX7 22 "PostHouse$Tape" "next" "I") (by decide +kernel)
  have hw2 := hts (.fieldLink RX7 19 "PostHouse$Tape" "length" "I") (by decide +kernel)
  have hw3 := hts (.fieldLink RX7 11 "PostHouse$Tape" "bytes" "[B") (by decide +kernel)
  refine lv_iconst (v := nI 0) hx hb dX7_value_0 (by decide) ?_
  refine lv_istore_n (lv' := [(2, .int (nI 0)), (0, .ref (τ.1 1)), (1, .int (nI k))]) hx hb dX7_value_1 rfl hl (by decide) rfl (fun ls hl => ?_)
  refine lv_aload_n hx hb dX7_value_2 rfl (lv_at hl 1 rfl) ?_
  refine zGetI (D := D) (ci := 7) (C := RX7) (T := TX7) (N := 4) hx hb hts hiX7 hown hH (zk_1 hF) rfl 2 (by decide) rfl hw1 (fun _ h9 => h9) dX7_value_3 ha ?_
  refine lv_istore_n (lv' := [(3, .int (nI a)), (2, .int (nI 0)), (0, .ref (τ.1 1)), (1, .int (nI k))]) hx hb dX7_value_6 rfl hl (by decide) rfl (fun ls hl => ?_)
  refine zLp (σ := Nat) (fun x9 k9 H locs ls => (fun (j : Nat) => k9 = k - j ∧ (j ≤ k) ∧ zH D A τ fi fr ol s H ∧ va_S A s.heap H locs ∧ lv_has ls 4 [(0, .ref (τ.1 1)), (1, .int (nI k)), (2, .int (zDig (fi 2) a j)), (3, .int (nI (a + j)))]) x9) 0 _ ⟨rfl, Nat.zero_le _, hH, hS, lv_sub hl [2, 3, 1, 0] rfl⟩ (fun k9 ih x9 H locs ls hv9 => ?_)
  generalize x9 = j at hv9
  obtain ⟨hkih1, hv9, hH, hS, hl⟩ := hv9
  obtain h1 := hv9
  have ih1 := ih
  clear ih
  refine lv_iload_n hx hb dX7_value_7 rfl (lv_at hl 3 rfl) ?_
  refine lv_aload_n hx hb dX7_value_8 rfl (lv_at hl 0 rfl) ?_
  refine zGetI (D := D) (ci := 7) (C := RX7) (T := TX7) (N := 4) hx hb hts hiX7 hown hH (zk_1 hF) rfl 2 (by decide) rfl hw1 (fun _ h9 => h9) dX7_value_9 ha ?_
  refine lv_iload_n hx hb dX7_value_12 rfl (lv_at hl 1 rfl) ?_
  refine lv_iadd hx hb dX7_value_13 ?_
  refine lv_topi (fun v2 ev2 => ?_)
  obtain rfl : v2 = nI (a + k) := ev2.trans (nI_add _ _)
  refine lv_icmp_ge (tgt := 46) hx hb dX7_value_14 (by decide) (fun c3 => ?_) (fun c3 => ?_)
  · have zc3 := c3
    replace zc3 := zc_le (nI_toInt (by omega)) (nI_toInt (by omega)) zc3
    refine lv_iload_n hx hb dX7_value_46 rfl (lv_at hl 2 rfl) ?_
    refine W.widen (k := 0) (n := 0) (by decide) (by decide) ?_
    exact W.iret (v := zDig (fi 2) a j) hx hb hr (fun t9 ht9 hW9 => ⟨⟨zDig (fi 2) a j, (), rfl, by rw [show j = k by omega], zEnd1 hH ht9 hW9⟩, hS.F ht9⟩) hS.2.2 dX7_value_47
  · have zc3 := c3
    replace zc3 := zc_nle (nI_toInt (by omega)) (nI_toInt (by omega)) zc3
    refine lv_iload_n hx hb dX7_value_17 rfl (lv_at hl 3 rfl) ?_
    refine lv_aload_n hx hb dX7_value_18 rfl (lv_at hl 0 rfl) ?_
    refine zGetI (D := D) (ci := 7) (C := RX7) (T := TX7) (N := 4) hx hb hts hiX7 hown hH (zk_1 hF) rfl 1 (by decide) rfl hw2 (fun _ h9 => h9) dX7_value_19 hn ?_
    refine lv_icmp_ge (tgt := 46) hx hb dX7_value_22 (by decide) (fun c4 => ?_) (fun c4 => ?_)
    · have zc4 := c4
      replace zc4 := zc_le (nI_toInt (by omega)) (nI_toInt (by omega)) zc4
      refine lv_iload_n hx hb dX7_value_46 rfl (lv_at hl 2 rfl) ?_
      refine W.widen (k := 0) (n := 0) (by decide) (by decide) ?_
      exact W.iret (v := zDig (fi 2) a j) hx hb hr (fun t9 ht9 hW9 => ⟨⟨zDig (fi 2) a j, (), rfl, by rw [show j = k by omega], zEnd1 hH ht9 hW9⟩, hS.F ht9⟩) hS.2.2 dX7_value_47
    · have zc4 := c4
      replace zc4 := zc_nle (nI_toInt (by omega)) (nI_toInt (by omega)) zc4
      refine lv_iload_n hx hb dX7_value_25 rfl (lv_at hl 2 rfl) ?_
      refine lv_bipush (v := nI 10) hx hb dX7_value_26 (by decide) ?_
      refine lv_imul hx hb dX7_value_28 ?_
      refine lv_topi (fun v5 ev5 => ?_)
      refine lv_aload_n hx hb dX7_value_29 rfl (lv_at hl 0 rfl) ?_
      refine zGetR (D := D) (ci := 7) (C := RX7) (T := TX7) (N := 4) hx hb hts hiX7 hown hH (zk_1 hF) rfl 0 (by decide) rfl hw3 (fun _ h9 => h9) dX7_value_30 (zr_1_0 hF) ?_
      refine lv_iload_n hx hb dX7_value_33 rfl (lv_at hl 3 rfl) ?_
      refine zBaldN (D := D) hx hb hH (zk_2 hF) (zn_2 hF) (by omega) (by omega) rfl dX7_value_34 ?_
      refine lv_iadd hx hb dX7_value_35 ?_
      refine lv_topi (fun v6 ev6 => ?_)
      refine lv_bipush (v := nI 48) hx hb dX7_value_36 (by decide) ?_
      refine lv_isub hx hb dX7_value_38 ?_
      refine lv_topi (fun v7 ev7 => ?_)
      refine lv_istore_n (lv' := [(2, .int v7), (0, .ref (τ.1 1)), (1, .int (nI k)), (3, .int (nI (a + j)))]) hx hb dX7_value_39 rfl hl (by decide) rfl (fun ls hl => ?_)
      refine lv_iinc (v := nI (a + j + 1)) (lv' := [(3, .int (nI (a + j + 1))), (2, .int v7), (0, .ref (τ.1 1)), (1, .int (nI k))]) hx hb dX7_value_40 hl (k := 3) rfl (by rw [show (Int32.ofInt 1 : Int32) = nI 1 from by decide, nI_add]) (by decide) rfl (fun ls hl => ?_)
      refine lv_goto (tgt := 7) hx hb dX7_value_43 (by decide) ?_
      subst ev5 ev6 ev7
      exact ih1 _ (by omega) (j + 1) _ _ _ ⟨rfl, (by omega), hH, hS, lv_sub hl [2, 3, 1, 0] rfl⟩
set_option maxHeartbeats 4000000 in
set_option maxRecDepth 100000 in
/-- Tape.digits -/
theorem t_digits (l : Launch) (hl0 : l.stackTraces = false) (D : va_G) (A : Nat → Prop) (sad : Nat → Nat) (τ : zTy) (fi : zFi) (fr : zFr) (ol : Int64) (n a : Nat) (hF : zFix τ fr) (hn : fi 1 1 = nI n) (ha : fi 1 2 = nI a) (hn4 : n ≤ 400) (han : a ≤ n) (p q : Nat) (hp : p ≤ 6) (hq : q ≤ 6) (lo hi : Int32) (hlo : 0 ≤ lo.toInt) : Met l yX7_digits wsX7_digits ({ frames := 1, cells := 0, slots := 0, locals := 23 }) (va_Pc [.ref (τ.1 1), .int (nI p), .int (nI q), .int lo, .int hi] (zQc D A sad τ fi fr ol)) (va_Qi (fun (r : Int32) (u : zFi) => ∃ k, zRun (fi 2) 48 57 a n k ∧ (((p ≤ k ∧ k ≤ q ∧ lo.toInt ≤ (zDig (fi 2) a k).toInt ∧ (zDig (fi 2) a k).toInt ≤ hi.toInt) ∧ r = zDig (fi 2) a k ∧ ∃ b, u = zu fi 1 2 (nI b) ∧ zSkip (fi 2) (a + k) n b) ∨ (¬ (p ≤ k ∧ k ≤ q ∧ lo.toInt ≤ (zDig (fi 2) a k).toInt ∧ (zDig (fi 2) a k).toInt ≤ hi.toInt) ∧ r = -1 ∧ zRef fi (nI a) u))) (fun (u : zFi) (t : State) => zH D A τ u fr ol t t.heap) A) 0 0 A := by
  refine Met.ofW (cc := cX7_digits) (maxL := 7) (ret := (some .int)) (by decide) rfl ?_
  intro p e s m args below meth c s₁ B hml hv
  obtain ⟨rfl, hz, hH, hA⟩ := hv
  have hx := B.exec
  have hb := B.bytes
  have hr := B.returns
  have hts := atoms_spec (ws := wsX7_digits) B.pre
  have hown : s.vm.findClass RX7 = some m.cls := findClass_of_methodNamed B.named
  have hlocks := B.notSynchronized
  have hS : va_S A s.heap s.heap [] := va_S.rf
  have hl := lv_entry ([.ref (τ.1 1), .int (nI p), .int (nI q), .int lo, .int hi]) (n := 7) (Nat.le_of_ble_eq_true rfl)
  rw [lg_entry_eq]
  generalize (lg_sl ([.ref (τ.1 1), .int (nI p), .int (nI q), .int lo, .int hi]) ++ List.replicate (7 - (lg_sl ([.ref (τ.1 1), .int (nI p), .int (nI q), .int lo, .int hi])).length) Slot.unset).toArray = ls at hl ⊢
  have hl : lv_has ls 7 [(0, .ref (τ.1 1)), (1, .int (nI p)), (2, .int (nI q)), (3, .int lo), (4, .int hi)] := hl
  have hiX7 : ∀ w ∈ u_ws RX7 TX7 4, w ∈ wsX7_digits := fun _ h => List.mem_cons_of_mem _ (List.mem_append_right _ h)
  have hw1 := hts (.fieldLink RX7 22 "PostHouse$Tape" "next" "I") (by decide +kernel)
  refine lv_aload_n hx hb dX7_digits_0 rfl (lv_at hl 0 rfl) ?_
  refine lv_bipush (v := nI 48) hx hb dX7_digits_1 (by decide) ?_
  refine lv_bipush (v := nI 57) hx hb dX7_digits_3 (by decide) ?_
  refine va_calli (va_runV (As := [.int (nI 48), .int (nI 57)]) (rest := []) ⟨hx, hb, hml, hown, hts⟩ (t_run l hl0 D A sad τ fi fr ol n a hF hn ha (by omega) (by omega) (nI 48) (nI 57)) (cwV 2 hts gX7_digits_X7_run rfl rfl rfl (by decide +kernel) ⟨Nat.le_of_ble_eq_true rfl, Nat.le_of_ble_eq_true rfl⟩) ⟨zQc_bl, zRecv hH (zk_1 hF) rfl, zQc_at hz hS hA hH⟩ rfl rfl hl.1 rfl (lv_room (Nat.le_of_ble_eq_true rfl)) dX7_digits_5 ⟨Nat.le_of_ble_eq_true rfl, Nat.le_of_ble_eq_true rfl⟩) hS (fun q _ h => h) (fun q h => h) (fun r1 u9 t9 H1 locs ht9 hvm9 hw hB hz1 hk1 hS => ?_)
  have hH := zMv ht9 hvm9 hB
  generalize H1 = H at hH hS ⊢
  obtain ⟨k2, rfl, hrun3⟩ := hw
  have zhrun3 := hrun3.1
  refine lv_istore (lv' := [(5, .int (nI k2)), (0, .ref (τ.1 1)), (1, .int (nI p)), (2, .int (nI q)), (3, .int lo), (4, .int hi)]) hx hb dX7_digits_8 hl (by decide) rfl (fun ls hl => ?_)
  refine lv_iload hx hb dX7_digits_10 (lv_at hl 0 rfl) ?_
  refine lv_iload_n hx hb dX7_digits_12 rfl (lv_at hl 2 rfl) ?_
  refine lv_icmp_lt (tgt := 22) hx hb dX7_digits_13 (by decide) (fun c4 => ?_) (fun c4 => ?_)
  · have zc4 := c4
    replace zc4 := zc_lt (nI_toInt (by omega)) (nI_toInt (by omega)) zc4
    refine lv_iconst (v := (-1)) hx hb dX7_digits_22 (by decide) ?_
    refine lv_goto (tgt := 32) hx hb dX7_digits_23 (by decide) ?_
    refine lv_istore (lv' := [(6, .int ((-1))), (5, .int (nI k2)), (0, .ref (τ.1 1)), (1, .int (nI p)), (2, .int (nI q)), (3, .int lo), (4, .int hi)]) hx hb dX7_digits_32 hl (by decide) rfl (fun ls hl => ?_)
    refine lv_iload hx hb dX7_digits_34 (lv_at hl 0 rfl) ?_
    refine lv_iload_n hx hb dX7_digits_36 rfl (lv_at hl 5 rfl) ?_
    refine lv_icmp_lt (tgt := 47) hx hb dX7_digits_37 (by decide) (fun c5 => ?_) (fun c5 => False.elim (by have zc5 := zc_nlt ((by decide : ((-1) : Int32).toInt = (-1))) (rfl) c5; omega))
    refine lv_aload_n hx hb dX7_digits_47 rfl (lv_at hl 2 rfl) ?_
    refine lv_aload_n hx hb dX7_digits_48 rfl (lv_at hl 2 rfl) ?_
    refine zGetI (D := D) (ci := 7) (C := RX7) (T := TX7) (N := 4) hx hb hts hiX7 hown hH (zk_1 hF) rfl 2 (by decide) rfl hw1 (fun _ h9 => h9) dX7_digits_49 ha ?_
    refine va_callv (va_runV (As := [.int (nI a)]) (rest := []) ⟨hx, hb, hml, hown, hts⟩ (t_refuse l hl0 D A sad τ fi fr ol hF (nI a)) (cwV 1 hts gX7_digits_X7_refuse rfl rfl rfl (by decide +kernel) ⟨Nat.le_of_ble_eq_true rfl, Nat.le_of_ble_eq_true rfl⟩) ⟨zQc_bl, zRecv hH (zk_1 hF) rfl, zQc_at hz hS hA hH⟩ rfl rfl hl.1 rfl (lv_room (Nat.le_of_ble_eq_true rfl)) dX7_digits_52 ⟨Nat.le_of_ble_eq_true rfl, Nat.le_of_ble_eq_true rfl⟩) hS (fun q _ h => h) (fun q h => h) (fun u9 t9 H1 locs ht9 hvm9 hw hB hz1 hk1 hS => ?_)
    have hH := zMv ht9 hvm9 hB
    clear hB
    generalize u9 = f7 at hw hH
    generalize H1 = H at hH hS ⊢
    have hr8 := hw
    clear hw
    refine lv_iconst (v := (-1)) hx hb dX7_digits_55 (by decide) ?_
    refine W.widen (k := 0) (n := 0) (by decide) (by decide) ?_
    exact W.iret (v := (-1)) hx hb hr (fun t9 ht9 hW9 => ⟨⟨(-1), f7, rfl, ⟨k2, hrun3, Or.inr ⟨fun h9 => by have h91 := h9.1; have h92 := h9.2.1; have h93 := h9.2.2.1; have h94 := h9.2.2.2; omega, rfl, hr8⟩⟩, zEnd1 hH ht9 hW9⟩, hS.F ht9⟩) hS.2.2 dX7_digits_56
  · have zc4 := c4
    replace zc4 := zc_nlt (nI_toInt (by omega)) (nI_toInt (by omega)) zc4
    refine lv_iload hx hb dX7_digits_16 (lv_at hl 0 rfl) ?_
    refine lv_iload_n hx hb dX7_digits_18 rfl (lv_at hl 3 rfl) ?_
    refine lv_icmp_le (tgt := 26) hx hb dX7_digits_19 (by decide) (fun c9 => ?_) (fun c9 => ?_)
    · have zc9 := c9
      replace zc9 := zc_le (nI_toInt (by omega)) (nI_toInt (by omega)) zc9
      refine lv_aload_n hx hb dX7_digits_26 rfl (lv_at hl 1 rfl) ?_
      refine lv_iload hx hb dX7_digits_27 (lv_at hl 0 rfl) ?_
      refine va_calli (va_runV (As := [.int (nI k2)]) (rest := []) ⟨hx, hb, hml, hown, hts⟩ (t_value l hl0 D A sad τ fi fr ol n a hF hn ha (by omega) (by omega) k2 (by omega)) (cwV 1 hts gX7_digits_X7_value rfl rfl rfl (by decide +kernel) ⟨Nat.le_of_ble_eq_true rfl, Nat.le_of_ble_eq_true rfl⟩) ⟨zQc_bl, zRecv hH (zk_1 hF) rfl, zQc_at hz hS hA hH⟩ rfl rfl hl.1 rfl (lv_room (Nat.le_of_ble_eq_true rfl)) dX7_digits_29 ⟨Nat.le_of_ble_eq_true rfl, Nat.le_of_ble_eq_true rfl⟩) hS (fun q _ h => h) (fun q h => h) (fun r10 u9 t9 H1 locs ht9 hvm9 hw hB hz1 hk1 hS => ?_)
      have hH := zMv ht9 hvm9 hB
      generalize H1 = H at hH hS ⊢
      obtain rfl : r10 = zDig (fi 2) a k2 := hw
      refine lv_istore (lv' := [(6, .int (zDig (fi 2) a k2)), (5, .int (nI k2)), (0, .ref (τ.1 1)), (1, .int (nI p)), (2, .int (nI q)), (3, .int lo), (4, .int hi)]) hx hb dX7_digits_32 hl (by decide) rfl (fun ls hl => ?_)
      refine lv_iload hx hb dX7_digits_34 (lv_at hl 0 rfl) ?_
      refine lv_iload_n hx hb dX7_digits_36 rfl (lv_at hl 5 rfl) ?_
      refine lv_icmp_lt (tgt := 47) hx hb dX7_digits_37 (by decide) (fun c11 => ?_) (fun c11 => ?_)
      · have zc11 := c11
        replace zc11 := zc_lt (rfl) (rfl) zc11
        refine lv_aload_n hx hb dX7_digits_47 rfl (lv_at hl 2 rfl) ?_
        refine lv_aload_n hx hb dX7_digits_48 rfl (lv_at hl 2 rfl) ?_
        refine zGetI (D := D) (ci := 7) (C := RX7) (T := TX7) (N := 4) hx hb hts hiX7 hown hH (zk_1 hF) rfl 2 (by decide) rfl hw1 (fun _ h9 => h9) dX7_digits_49 ha ?_
        refine va_callv (va_runV (As := [.int (nI a)]) (rest := []) ⟨hx, hb, hml, hown, hts⟩ (t_refuse l hl0 D A sad τ fi fr ol hF (nI a)) (cwV 1 hts gX7_digits_X7_refuse rfl rfl rfl (by decide +kernel) ⟨Nat.le_of_ble_eq_true rfl, Nat.le_of_ble_eq_true rfl⟩) ⟨zQc_bl, zRecv hH (zk_1 hF) rfl, zQc_at hz hS hA hH⟩ rfl rfl hl.1 rfl (lv_room (Nat.le_of_ble_eq_true rfl)) dX7_digits_52 ⟨Nat.le_of_ble_eq_true rfl, Nat.le_of_ble_eq_true rfl⟩) hS (fun q _ h => h) (fun q h => h) (fun u9 t9 H1 locs ht9 hvm9 hw hB hz1 hk1 hS => ?_)
        have hH := zMv ht9 hvm9 hB
        clear hB
        generalize u9 = f13 at hw hH
        generalize H1 = H at hH hS ⊢
        have hr14 := hw
        clear hw
        refine lv_iconst (v := (-1)) hx hb dX7_digits_55 (by decide) ?_
        refine W.widen (k := 0) (n := 0) (by decide) (by decide) ?_
        exact W.iret (v := (-1)) hx hb hr (fun t9 ht9 hW9 => ⟨⟨(-1), f13, rfl, ⟨k2, hrun3, Or.inr ⟨fun h9 => by have h91 := h9.1; have h92 := h9.2.1; have h93 := h9.2.2.1; have h94 := h9.2.2.2; omega, rfl, hr14⟩⟩, zEnd1 hH ht9 hW9⟩, hS.F ht9⟩) hS.2.2 dX7_digits_56
      · have zc11 := c11
        replace zc11 := zc_nlt (rfl) (rfl) zc11
        refine lv_iload hx hb dX7_digits_40 (lv_at hl 0 rfl) ?_
        refine lv_iload hx hb dX7_digits_42 (lv_at hl 6 rfl) ?_
        refine lv_icmp_le (tgt := 57) hx hb dX7_digits_44 (by decide) (fun c15 => ?_) (fun c15 => ?_)
        · have zc15 := c15
          replace zc15 := zc_le (rfl) (rfl) zc15
          refine lv_aload_n hx hb dX7_digits_57 rfl (lv_at hl 2 rfl) ?_
          refine lv_iload hx hb dX7_digits_58 (lv_at hl 1 rfl) ?_
          refine va_callv (va_runV (As := [.int (nI k2)]) (rest := []) ⟨hx, hb, hml, hown, hts⟩ (t_skip l hl0 D A sad τ fi fr ol n a hF hn ha (by omega) (by omega) k2 (by omega)) (cwV 1 hts gX7_digits_X7_skip rfl rfl rfl (by decide +kernel) ⟨Nat.le_of_ble_eq_true rfl, Nat.le_of_ble_eq_true rfl⟩) ⟨zQc_bl, zRecv hH (zk_1 hF) rfl, zQc_at hz hS hA hH⟩ rfl rfl hl.1 rfl (lv_room (Nat.le_of_ble_eq_true rfl)) dX7_digits_60 ⟨Nat.le_of_ble_eq_true rfl, Nat.le_of_ble_eq_true rfl⟩) hS (fun q _ h => h) (fun q h => h) (fun u9 t9 H1 locs ht9 hvm9 hw hB hz1 hk1 hS => ?_)
          have hH := zMv ht9 hvm9 hB
          clear hB
          generalize u9 = f17 at hw hH
          generalize H1 = H at hH hS ⊢
          obtain ⟨b18, ef17, hs19⟩ := hw
          have zhs19 := hs19.1
          have yhs19 := hs19.2.1
          have q20 : f17 1 1 = nI n := by rw [ef17, zu_n (fun h9 => absurd h9.2 (by decide))]; exact hn
          have q21 : f17 1 2 = nI b18 := by rw [ef17]; exact zu_s
          refine lv_iload hx hb dX7_digits_63 (lv_at hl 0 rfl) ?_
          refine W.widen (k := 0) (n := 0) (by decide) (by decide) ?_
          exact W.iret (v := zDig (fi 2) a k2) hx hb hr (fun t9 ht9 hW9 => ⟨⟨zDig (fi 2) a k2, f17, rfl, ⟨k2, hrun3, Or.inl ⟨⟨by omega, by omega, by omega, by omega⟩, rfl, b18, ef17, hs19⟩⟩, zEnd1 hH ht9 hW9⟩, hS.F ht9⟩) hS.2.2 dX7_digits_65
        · have zc15 := c15
          replace zc15 := zc_nle (rfl) (rfl) zc15
          refine lv_aload_n hx hb dX7_digits_47 rfl (lv_at hl 2 rfl) ?_
          refine lv_aload_n hx hb dX7_digits_48 rfl (lv_at hl 2 rfl) ?_
          refine zGetI (D := D) (ci := 7) (C := RX7) (T := TX7) (N := 4) hx hb hts hiX7 hown hH (zk_1 hF) rfl 2 (by decide) rfl hw1 (fun _ h9 => h9) dX7_digits_49 ha ?_
          refine va_callv (va_runV (As := [.int (nI a)]) (rest := []) ⟨hx, hb, hml, hown, hts⟩ (t_refuse l hl0 D A sad τ fi fr ol hF (nI a)) (cwV 1 hts gX7_digits_X7_refuse rfl rfl rfl (by decide +kernel) ⟨Nat.le_of_ble_eq_true rfl, Nat.le_of_ble_eq_true rfl⟩) ⟨zQc_bl, zRecv hH (zk_1 hF) rfl, zQc_at hz hS hA hH⟩ rfl rfl hl.1 rfl (lv_room (Nat.le_of_ble_eq_true rfl)) dX7_digits_52 ⟨Nat.le_of_ble_eq_true rfl, Nat.le_of_ble_eq_true rfl⟩) hS (fun q _ h => h) (fun q h => h) (fun u9 t9 H1 locs ht9 hvm9 hw hB hz1 hk1 hS => ?_)
          have hH := zMv ht9 hvm9 hB
          clear hB
          generalize u9 = f23 at hw hH
          generalize H1 = H at hH hS ⊢
          have hr24 := hw
          clear hw
          refine lv_iconst (v := (-1)) hx hb dX7_digits_55 (by decide) ?_
          refine W.widen (k := 0) (n := 0) (by decide) (by decide) ?_
          exact W.iret (v := (-1)) hx hb hr (fun t9 ht9 hW9 => ⟨⟨(-1), f23, rfl, ⟨k2, hrun3, Or.inr ⟨fun h9 => by have h91 := h9.1; have h92 := h9.2.1; have h93 := h9.2.2.1; have h94 := h9.2.2.2; omega, rfl, hr24⟩⟩, zEnd1 hH ht9 hW9⟩, hS.F ht9⟩) hS.2.2 dX7_digits_56
    · have zc9 := c9
      replace zc9 := zc_nle (nI_toInt (by omega)) (nI_toInt (by omega)) zc9
      refine lv_iconst (v := (-1)) hx hb dX7_digits_22 (by decide) ?_
      refine lv_goto (tgt := 32) hx hb dX7_digits_23 (by decide) ?_
      refine lv_istore (lv' := [(6, .int ((-1))), (5, .int (nI k2)), (0, .ref (τ.1 1)), (1, .int (nI p)), (2, .int (nI q)), (3, .int lo), (4, .int hi)]) hx hb dX7_digits_32 hl (by decide) rfl (fun ls hl => ?_)
      refine lv_iload hx hb dX7_digits_34 (lv_at hl 0 rfl) ?_
      refine lv_iload_n hx hb dX7_digits_36 rfl (lv_at hl 5 rfl) ?_
      refine lv_icmp_lt (tgt := 47) hx hb dX7_digits_37 (by decide) (fun c25 => ?_) (fun c25 => False.elim (by have zc25 := zc_nlt ((by decide : ((-1) : Int32).toInt = (-1))) (rfl) c25; omega))
      refine lv_aload_n hx hb dX7_digits_47 rfl (lv_at hl 2 rfl) ?_
      refine lv_aload_n hx hb dX7_digits_48 rfl (lv_at hl 2 rfl) ?_
      refine zGetI (D := D) (ci := 7) (C := RX7) (T := TX7) (N := 4) hx hb hts hiX7 hown hH (zk_1 hF) rfl 2 (by decide) rfl hw1 (fun _ h9 => h9) dX7_digits_49 ha ?_
      refine va_callv (va_runV (As := [.int (nI a)]) (rest := []) ⟨hx, hb, hml, hown, hts⟩ (t_refuse l hl0 D A sad τ fi fr ol hF (nI a)) (cwV 1 hts gX7_digits_X7_refuse rfl rfl rfl (by decide +kernel) ⟨Nat.le_of_ble_eq_true rfl, Nat.le_of_ble_eq_true rfl⟩) ⟨zQc_bl, zRecv hH (zk_1 hF) rfl, zQc_at hz hS hA hH⟩ rfl rfl hl.1 rfl (lv_room (Nat.le_of_ble_eq_true rfl)) dX7_digits_52 ⟨Nat.le_of_ble_eq_true rfl, Nat.le_of_ble_eq_true rfl⟩) hS (fun q _ h => h) (fun q h => h) (fun u9 t9 H1 locs ht9 hvm9 hw hB hz1 hk1 hS => ?_)
      have hH := zMv ht9 hvm9 hB
      clear hB
      generalize u9 = f27 at hw hH
      generalize H1 = H at hH hS ⊢
      have hr28 := hw
      clear hw
      refine lv_iconst (v := (-1)) hx hb dX7_digits_55 (by decide) ?_
      refine W.widen (k := 0) (n := 0) (by decide) (by decide) ?_
      exact W.iret (v := (-1)) hx hb hr (fun t9 ht9 hW9 => ⟨⟨(-1), f27, rfl, ⟨k2, hrun3, Or.inr ⟨fun h9 => by have h91 := h9.1; have h92 := h9.2.1; have h93 := h9.2.2.1; have h94 := h9.2.2.2; omega, rfl, hr28⟩⟩, zEnd1 hH ht9 hW9⟩, hS.F ht9⟩) hS.2.2 dX7_digits_56
set_option maxHeartbeats 4000000 in
set_option maxRecDepth 100000 in
/-- Tape.code -/
theorem t_code (l : Launch) (hl0 : l.stackTraces = false) (D : va_G) (A : Nat → Prop) (sad : Nat → Nat) (τ : zTy) (fi : zFi) (fr : zFr) (ol : Int64) (n a : Nat) (hF : zFix τ fr) (hn : fi 1 1 = nI n) (ha : fi 1 2 = nI a) (hn4 : n ≤ 400) (han : a ≤ n) : Met l yX7_code wsX7_code ({ frames := 2, cells := 0, slots := 0, locals := 49 }) (va_Pc [.ref (τ.1 1)] (zQc D A sad τ fi fr ol)) (va_Qi (fun (r : Int32) (u : zFi) => ∃ k, zRun (fi 2) 48 57 a n k ∧ (((4 ≤ k ∧ k ≤ 4 ∧ (nI 0 : Int32).toInt ≤ (zDig (fi 2) a k).toInt ∧ (zDig (fi 2) a k).toInt ≤ (nI 9999 : Int32).toInt) ∧ r = zDig (fi 2) a k ∧ ∃ b, u = zu fi 1 2 (nI b) ∧ zSkip (fi 2) (a + k) n b) ∨ (¬ (4 ≤ k ∧ k ≤ 4 ∧ (nI 0 : Int32).toInt ≤ (zDig (fi 2) a k).toInt ∧ (zDig (fi 2) a k).toInt ≤ (nI 9999 : Int32).toInt) ∧ r = -1 ∧ zRef fi (nI a) u))) (fun (u : zFi) (t : State) => zH D A τ u fr ol t t.heap) A) 0 0 A := by
  refine Met.ofW (cc := cX7_code) (maxL := 1) (ret := (some .int)) (by decide) rfl ?_
  intro p e s m args below meth c s₁ B hml hv
  obtain ⟨rfl, hz, hH, hA⟩ := hv
  have hx := B.exec
  have hb := B.bytes
  have hr := B.returns
  have hts := atoms_spec (ws := wsX7_code) B.pre
  have hown : s.vm.findClass RX7 = some m.cls := findClass_of_methodNamed B.named
  have hlocks := B.notSynchronized
  have hS : va_S A s.heap s.heap [] := va_S.rf
  have hl := lv_entry ([.ref (τ.1 1)]) (n := 1) (Nat.le_of_ble_eq_true rfl)
  rw [lg_entry_eq]
  generalize (lg_sl ([.ref (τ.1 1)]) ++ List.replicate (1 - (lg_sl ([.ref (τ.1 1)])).length) Slot.unset).toArray = ls at hl ⊢
  have hl : lv_has ls 1 [(0, .ref (τ.1 1))] := hl
  refine lv_aload_n hx hb dX7_code_0 rfl (lv_at hl 0 rfl) ?_
  refine lv_iconst (v := nI 4) hx hb dX7_code_1 (by decide) ?_
  refine lv_iconst (v := nI 4) hx hb dX7_code_2 (by decide) ?_
  refine lv_iconst (v := nI 0) hx hb dX7_code_3 (by decide) ?_
  refine lv_sipush (v := nI 9999) hx hb dX7_code_4 (by decide) ?_
  refine va_calli (va_runV (As := [.int (nI 4), .int (nI 4), .int (nI 0), .int (nI 9999)]) (rest := []) ⟨hx, hb, hml, hown, hts⟩ (t_digits l hl0 D A sad τ fi fr ol n a hF hn ha (by omega) (by omega) 4 4 (by omega) (by omega) (nI 0) (nI 9999) (by decide)) (cwV 4 hts gX7_code_X7_digits rfl rfl rfl (by decide +kernel) ⟨Nat.le_of_ble_eq_true rfl, Nat.le_of_ble_eq_true rfl⟩) ⟨zQc_bl, zRecv hH (zk_1 hF) rfl, zQc_at hz hS hA hH⟩ rfl rfl hl.1 rfl (lv_room (Nat.le_of_ble_eq_true rfl)) dX7_code_7 ⟨Nat.le_of_ble_eq_true rfl, Nat.le_of_ble_eq_true rfl⟩) hS (fun q _ h => h) (fun q h => h) (fun r1 u9 t9 H1 locs ht9 hvm9 hw hB hz1 hk1 hS => ?_)
  have hH := zMv ht9 hvm9 hB
  clear hB
  generalize u9 = f2 at hw hH
  generalize H1 = H at hH hS ⊢
  have hdg := hw
  refine W.widen (k := 0) (n := 0) (by decide) (by decide) ?_
  exact W.iret (v := r1) hx hb hr (fun t9 ht9 hW9 => ⟨⟨r1, f2, rfl, hdg, zEnd1 hH ht9 hW9⟩, hS.F ht9⟩) hS.2.2 dX7_code_10
set_option maxHeartbeats 4000000 in
set_option maxRecDepth 100000 in
/-- Tape.number -/
theorem t_number (l : Launch) (hl0 : l.stackTraces = false) (D : va_G) (A : Nat → Prop) (sad : Nat → Nat) (τ : zTy) (fi : zFi) (fr : zFr) (ol : Int64) (n a : Nat) (hF : zFix τ fr) (hn : fi 1 1 = nI n) (ha : fi 1 2 = nI a) (hn4 : n ≤ 400) (han : a ≤ n) (lo hi : Int32) (hlo : 0 ≤ lo.toInt) : Met l yX7_number wsX7_number ({ frames := 2, cells := 0, slots := 0, locals := 49 }) (va_Pc [.ref (τ.1 1), .int lo, .int hi] (zQc D A sad τ fi fr ol)) (va_Qi (fun (r : Int32) (u : zFi) => ∃ k, zRun (fi 2) 48 57 a n k ∧ (((1 ≤ k ∧ k ≤ 6 ∧ (lo : Int32).toInt ≤ (zDig (fi 2) a k).toInt ∧ (zDig (fi 2) a k).toInt ≤ (hi : Int32).toInt) ∧ r = zDig (fi 2) a k ∧ ∃ b, u = zu fi 1 2 (nI b) ∧ zSkip (fi 2) (a + k) n b) ∨ (¬ (1 ≤ k ∧ k ≤ 6 ∧ (lo : Int32).toInt ≤ (zDig (fi 2) a k).toInt ∧ (zDig (fi 2) a k).toInt ≤ (hi : Int32).toInt) ∧ r = -1 ∧ zRef fi (nI a) u))) (fun (u : zFi) (t : State) => zH D A τ u fr ol t t.heap) A) 0 0 A := by
  refine Met.ofW (cc := cX7_number) (maxL := 3) (ret := (some .int)) (by decide) rfl ?_
  intro p e s m args below meth c s₁ B hml hv
  obtain ⟨rfl, hz, hH, hA⟩ := hv
  have hx := B.exec
  have hb := B.bytes
  have hr := B.returns
  have hts := atoms_spec (ws := wsX7_number) B.pre
  have hown : s.vm.findClass RX7 = some m.cls := findClass_of_methodNamed B.named
  have hlocks := B.notSynchronized
  have hS : va_S A s.heap s.heap [] := va_S.rf
  have hl := lv_entry ([.ref (τ.1 1), .int lo, .int hi]) (n := 3) (Nat.le_of_ble_eq_true rfl)
  rw [lg_entry_eq]
  generalize (lg_sl ([.ref (τ.1 1), .int lo, .int hi]) ++ List.replicate (3 - (lg_sl ([.ref (τ.1 1), .int lo, .int hi])).length) Slot.unset).toArray = ls at hl ⊢
  have hl : lv_has ls 3 [(0, .ref (τ.1 1)), (1, .int lo), (2, .int hi)] := hl
  refine lv_aload_n hx hb dX7_number_0 rfl (lv_at hl 0 rfl) ?_
  refine lv_iconst (v := nI 1) hx hb dX7_number_1 (by decide) ?_
  refine lv_bipush (v := nI 6) hx hb dX7_number_2 (by decide) ?_
  refine lv_iload_n hx hb dX7_number_4 rfl (lv_at hl 1 rfl) ?_
  refine lv_iload_n hx hb dX7_number_5 rfl (lv_at hl 2 rfl) ?_
  refine va_calli (va_runV (As := [.int (nI 1), .int (nI 6), .int lo, .int hi]) (rest := []) ⟨hx, hb, hml, hown, hts⟩ (t_digits l hl0 D A sad τ fi fr ol n a hF hn ha (by omega) (by omega) 1 6 (by omega) (by omega) lo hi hlo) (cwV 4 hts gX7_number_X7_digits rfl rfl rfl (by decide +kernel) ⟨Nat.le_of_ble_eq_true rfl, Nat.le_of_ble_eq_true rfl⟩) ⟨zQc_bl, zRecv hH (zk_1 hF) rfl, zQc_at hz hS hA hH⟩ rfl rfl hl.1 rfl (lv_room (Nat.le_of_ble_eq_true rfl)) dX7_number_6 ⟨Nat.le_of_ble_eq_true rfl, Nat.le_of_ble_eq_true rfl⟩) hS (fun q _ h => h) (fun q h => h) (fun r1 u9 t9 H1 locs ht9 hvm9 hw hB hz1 hk1 hS => ?_)
  have hH := zMv ht9 hvm9 hB
  clear hB
  generalize u9 = f2 at hw hH
  generalize H1 = H at hH hS ⊢
  have hdg := hw
  refine W.widen (k := 0) (n := 0) (by decide) (by decide) ?_
  exact W.iret (v := r1) hx hb hr (fun t9 ht9 hW9 => ⟨⟨r1, f2, rfl, hdg, zEnd1 hH ht9 hW9⟩, hS.F ht9⟩) hS.2.2 dX7_number_9
set_option maxHeartbeats 4000000 in
set_option maxRecDepth 100000 in
/-- Tape.hasRoom -/
theorem t_hasRoom (l : Launch) (hl0 : l.stackTraces = false) (D : va_G) (A : Nat → Prop) (sad : Nat → Nat) (τ : zTy) (fi : zFi) (fr : zFr) (ol : Int64) (n : Nat) (hF : zFix τ fr) (hn : fi 1 1 = nI n) (hn4 : n ≤ 400) : Met l yX7_hasRoom wsX7_hasRoom ({ frames := 0, cells := 0, slots := 0, locals := 0 }) (va_Pc [.ref (τ.1 1)] (zQc D A sad τ fi fr ol)) (va_Qi (fun (r : Int32) (u : Unit) => (r = 1 ∧ n + 20 ≤ 400) ∨ (r = 0 ∧ 400 < n + 20)) (fun (u : Unit) (t : State) => zH D A τ fi fr ol t t.heap) A) 0 0 A := by
  refine Met.ofW (cc := cX7_hasRoom) (maxL := 1) (ret := (some .boolean)) (by decide) rfl ?_
  intro p e s m args below meth c s₁ B hml hv
  obtain ⟨rfl, hz, hH, hA⟩ := hv
  have hx := B.exec
  have hb := B.bytes
  have hr := B.returns
  have hts := atoms_spec (ws := wsX7_hasRoom) B.pre
  have hown : s.vm.findClass RX7 = some m.cls := findClass_of_methodNamed B.named
  have hlocks := B.notSynchronized
  have hS : va_S A s.heap s.heap [] := va_S.rf
  have hl := lv_entry ([.ref (τ.1 1)]) (n := 1) (Nat.le_of_ble_eq_true rfl)
  rw [lg_entry_eq]
  generalize (lg_sl ([.ref (τ.1 1)]) ++ List.replicate (1 - (lg_sl ([.ref (τ.1 1)])).length) Slot.unset).toArray = ls at hl ⊢
  have hl : lv_has ls 1 [(0, .ref (τ.1 1))] := hl
  have hiX7 : ∀ w ∈ u_ws RX7 TX7 4, w ∈ wsX7_hasRoom := fun _ h => List.mem_cons_of_mem _ (List.mem_append_right _ h)
  have hw1 := hts (.fieldLink RX7 19 "PostHouse$Tape" "length" "I") (by decide +kernel)
  refine lv_aload_n hx hb dX7_hasRoom_0 rfl (lv_at hl 0 rfl) ?_
  refine zGetI (D := D) (ci := 7) (C := RX7) (T := TX7) (N := 4) hx hb hts hiX7 hown hH (zk_1 hF) rfl 1 (by decide) rfl hw1 (fun _ h9 => h9) dX7_hasRoom_1 hn ?_
  refine lv_bipush (v := nI 20) hx hb dX7_hasRoom_4 (by decide) ?_
  refine lv_iadd hx hb dX7_hasRoom_6 ?_
  refine lv_topi (fun v1 ev1 => ?_)
  obtain rfl : v1 = nI (n + 20) := ev1.trans (nI_add _ _)
  refine lv_sipush (v := nI 400) hx hb dX7_hasRoom_7 (by decide) ?_
  refine lv_icmp_gt (tgt := 17) hx hb dX7_hasRoom_10 (by decide) (fun c2 => ?_) (fun c2 => ?_)
  · have zc2 := c2
    replace zc2 := zc_lt (nI_toInt (by omega)) (nI_toInt (by omega)) zc2
    refine lv_iconst (v := nI 0) hx hb dX7_hasRoom_17 (by decide) ?_
    refine W.widen (k := 0) (n := 0) (by decide) (by decide) ?_
    exact W.zret (v := nI 0) hx hb hr (by decide) (fun t9 ht9 hW9 => ⟨⟨nI 0, (), rfl, Or.inr ⟨rfl, by omega⟩, zEnd1 hH ht9 hW9⟩, hS.F ht9⟩) hS.2.2 dX7_hasRoom_18
  · have zc2 := c2
    replace zc2 := zc_nlt (nI_toInt (by omega)) (nI_toInt (by omega)) zc2
    refine lv_iconst (v := nI 1) hx hb dX7_hasRoom_13 (by decide) ?_
    refine lv_goto (tgt := 18) hx hb dX7_hasRoom_14 (by decide) ?_
    refine W.widen (k := 0) (n := 0) (by decide) (by decide) ?_
    exact W.zret (v := nI 1) hx hb hr (by decide) (fun t9 ht9 hW9 => ⟨⟨nI 1, (), rfl, Or.inl ⟨rfl, by omega⟩, zEnd1 hH ht9 hW9⟩, hS.F ht9⟩) hS.2.2 dX7_hasRoom_18
def zB8 (x k : Int32) : Int32 := (x >>> (k &&& 31)).toInt8.toInt32
set_option maxHeartbeats 4000000 in
set_option maxRecDepth 100000 in
/-- Tape.put -/
theorem t_put (l : Launch) (hl0 : l.stackTraces = false) (D : va_G) (A : Nat → Prop) (sad : Nat → Nat) (τ : zTy) (fi : zFi) (fr : zFr) (ol : Int64) (n : Nat) (hF : zFix τ fr) (hn : fi 1 1 = nI n) (hn4 : n + 4 ≤ 400) (x : Int32) : Met l yX7_put wsX7_put ({ frames := 0, cells := 0, slots := 0, locals := 0 }) (va_Pc [.ref (τ.1 1), .int x] (zQc D A sad τ fi fr ol)) (va_Qv (fun (u : zFi) => u 1 1 = nI (n + 4) ∧ (∀ i, i ≠ 1 → i ≠ 2 → u i = fi i) ∧ (∀ b, b ≠ 1 → u 1 b = fi 1 b) ∧ (∀ b, b < n → u 2 b = fi 2 b) ∧ u 2 n = zB8 x 24 ∧ u 2 (n + 1) = zB8 x 16 ∧ u 2 (n + 2) = zB8 x 8 ∧ u 2 (n + 3) = zB8 x 0) (fun (u : zFi) (t : State) => zH D A τ u fr ol t t.heap) A) 0 0 A := by
  refine Met.ofW (cc := cX7_put) (maxL := 3) (ret := none) (by decide) rfl ?_
  intro p e s m args below meth c s₁ B hml hv
  obtain ⟨rfl, hz, hH, hA⟩ := hv
  have hx := B.exec
  have hb := B.bytes
  have hr := B.returns
  have hts := atoms_spec (ws := wsX7_put) B.pre
  have hown : s.vm.findClass RX7 = some m.cls := findClass_of_methodNamed B.named
  have hlocks := B.notSynchronized
  have hS : va_S A s.heap s.heap [] := va_S.rf
  have hl := lv_entry ([.ref (τ.1 1), .int x]) (n := 3) (Nat.le_of_ble_eq_true rfl)
  rw [lg_entry_eq]
  generalize (lg_sl ([.ref (τ.1 1), .int x]) ++ List.replicate (3 - (lg_sl ([.ref (τ.1 1), .int x])).length) Slot.unset).toArray = ls at hl ⊢
  have hl : lv_has ls 3 [(0, .ref (τ.1 1)), (1, .int x)] := hl
  have hiX7 : ∀ w ∈ u_ws RX7 TX7 4, w ∈ wsX7_put := fun _ h => List.mem_cons_of_mem _ (List.mem_append_right _ h)
  have hw1 := hts (.fieldLink RX7 19 "PostHouse$Tape" "length" "I") (by decide +kernel)
  have hw2 := hts (.fieldLink RX7 11 "PostHouse$Tape" "bytes" "[B") (by decide +kernel)
  refine lv_bipush (v := nI 24) hx hb dX7_put_0 (by decide) ?_
  refine lv_istore_n (lv' := [(2, .int (nI 24)), (0, .ref (τ.1 1)), (1, .int x)]) hx hb dX7_put_2 rfl hl (by decide) rfl (fun ls hl => ?_)
  refine lv_iload_n hx hb dX7_put_3 rfl (lv_at hl 0 rfl) ?_
  refine lv_if_lt (tgt := 46) hx hb dX7_put_4 (by decide) (fun c1 => absurd c1 (by decide)) (fun c1 => ?_)
  refine lv_aload_n hx hb dX7_put_7 rfl (lv_at hl 1 rfl) ?_
  refine zGetI (D := D) (ci := 7) (C := RX7) (T := TX7) (N := 4) hx hb hts hiX7 hown hH (zk_1 hF) rfl 1 (by decide) rfl hw1 (fun _ h9 => h9) dX7_put_8 hn ?_
  refine lv_sipush (v := nI 400) hx hb dX7_put_11 (by decide) ?_
  refine lv_icmp_ge (tgt := 46) hx hb dX7_put_14 (by decide) (fun c2 => False.elim (by have zc2 := zc_le (nI_toInt (by omega)) (nI_toInt (by omega)) c2; omega)) (fun c2 => ?_)
  refine lv_aload_n hx hb dX7_put_17 rfl (lv_at hl 1 rfl) ?_
  refine zGetR (D := D) (ci := 7) (C := RX7) (T := TX7) (N := 4) hx hb hts hiX7 hown hH (zk_1 hF) rfl 0 (by decide) rfl hw2 (fun _ h9 => h9) dX7_put_18 (zr_1_0 hF) ?_
  refine lv_aload_n hx hb dX7_put_21 rfl (lv_at hl 1 rfl) ?_
  refine zGetI (D := D) (ci := 7) (C := RX7) (T := TX7) (N := 4) hx hb hts hiX7 hown hH (zk_1 hF) rfl 1 (by decide) rfl hw1 (fun _ h9 => h9) dX7_put_22 hn ?_
  refine lv_iload_n hx hb dX7_put_25 rfl (lv_at hl 2 rfl) ?_
  refine lv_iload_n hx hb dX7_put_26 rfl (lv_at hl 0 rfl) ?_
  refine lv_ishr hx hb dX7_put_27 ?_
  refine lv_topi (fun v3 ev3 => ?_)
  refine lv_i2b hx hb dX7_put_28 rfl ?_
  refine lv_topi (fun v4 ev4 => ?_)
  refine zBastN (D := D) hx hb hH hS (zk_2 hF) (zn_2 hF) (by omega) (by omega) dX7_put_29 (fun H locs hH hS => ?_)
  obtain ⟨f5, ef5⟩ : ∃ f9 : zFi, f9 = zu fi 2 n (vp_nar .byte v4) := ⟨_, rfl⟩
  rw [← ef5] at hH
  have q6 : f5 1 1 = nI n := by rw [ef5, zu_n (fun h9 => absurd h9.1 (by decide))]; exact hn
  have q7 : f5 2 n = (vp_nar .byte v4) := by rw [ef5]; exact zu_s
  refine lv_aload_n hx hb dX7_put_30 rfl (lv_at hl 1 rfl) ?_
  refine lv_dup hx hb dX7_put_31 rfl ?_
  refine zGetI (D := D) (ci := 7) (C := RX7) (T := TX7) (N := 4) hx hb hts hiX7 hown hH (zk_1 hF) rfl 1 (by decide) rfl hw1 (fun _ h9 => h9) dX7_put_32 q6 ?_
  refine lv_iconst (v := nI 1) hx hb dX7_put_35 (by decide) ?_
  refine lv_iadd hx hb dX7_put_36 ?_
  refine lv_topi (fun v8 ev8 => ?_)
  obtain rfl : v8 = nI (n + 1) := ev8.trans (nI_add _ _)
  refine zPutI (D := D) (ci := 7) (ty := .int) (C := RX7) (T := TX7) (N := 4) hx hb hts hiX7 tyX7 tyX7_ok nmX7 hown hH hS (zk_1 hF) rfl 1 (by decide) rfl hw1 (fun _ h9 => h9) rfl (by decide +kernel) rfl rfl dX7_put_37 (fun H locs hH hS => ?_)
  obtain ⟨f9, ef9⟩ : ∃ f9 : zFi, f9 = zu f5 1 1 (nI (n + 1)) := ⟨_, rfl⟩
  rw [← ef9] at hH
  have q10 : f9 2 n = (vp_nar .byte v4) := by rw [ef9, zu_n (fun h9 => absurd h9.1 (by decide))]; exact q7
  have q11 : f9 1 1 = nI (n + 1) := by rw [ef9]; exact zu_s
  refine lv_iinc (v := nI 16) (lv' := [(2, .int (nI 16)), (0, .ref (τ.1 1)), (1, .int x)]) hx hb dX7_put_40 hl (k := 0) rfl (by decide) (by decide) rfl (fun ls hl => ?_)
  refine lv_goto (tgt := 3) hx hb dX7_put_43 (by decide) ?_
  refine lv_iload_n hx hb dX7_put_3 rfl (lv_at hl 0 rfl) ?_
  refine lv_if_lt (tgt := 46) hx hb dX7_put_4 (by decide) (fun c12 => absurd c12 (by decide)) (fun c12 => ?_)
  refine lv_aload_n hx hb dX7_put_7 rfl (lv_at hl 1 rfl) ?_
  refine zGetI (D := D) (ci := 7) (C := RX7) (T := TX7) (N := 4) hx hb hts hiX7 hown hH (zk_1 hF) rfl 1 (by decide) rfl hw1 (fun _ h9 => h9) dX7_put_8 q11 ?_
  refine lv_sipush (v := nI 400) hx hb dX7_put_11 (by decide) ?_
  refine lv_icmp_ge (tgt := 46) hx hb dX7_put_14 (by decide) (fun c13 => False.elim (by have zc13 := zc_le (nI_toInt (by omega)) (nI_toInt (by omega)) c13; omega)) (fun c13 => ?_)
  refine lv_aload_n hx hb dX7_put_17 rfl (lv_at hl 1 rfl) ?_
  refine zGetR (D := D) (ci := 7) (C := RX7) (T := TX7) (N := 4) hx hb hts hiX7 hown hH (zk_1 hF) rfl 0 (by decide) rfl hw2 (fun _ h9 => h9) dX7_put_18 (zr_1_0 hF) ?_
  refine lv_aload_n hx hb dX7_put_21 rfl (lv_at hl 1 rfl) ?_
  refine zGetI (D := D) (ci := 7) (C := RX7) (T := TX7) (N := 4) hx hb hts hiX7 hown hH (zk_1 hF) rfl 1 (by decide) rfl hw1 (fun _ h9 => h9) dX7_put_22 q11 ?_
  refine lv_iload_n hx hb dX7_put_25 rfl (lv_at hl 2 rfl) ?_
  refine lv_iload_n hx hb dX7_put_26 rfl (lv_at hl 0 rfl) ?_
  refine lv_ishr hx hb dX7_put_27 ?_
  refine lv_topi (fun v14 ev14 => ?_)
  refine lv_i2b hx hb dX7_put_28 rfl ?_
  refine lv_topi (fun v15 ev15 => ?_)
  refine zBastN (D := D) hx hb hH hS (zk_2 hF) (zn_2 hF) (by omega) (by omega) dX7_put_29 (fun H locs hH hS => ?_)
  obtain ⟨f16, ef16⟩ : ∃ f9 : zFi, f9 = zu f9 2 (n + 1) (vp_nar .byte v15) := ⟨_, rfl⟩
  rw [← ef16] at hH
  have q17 : f16 1 1 = nI (n + 1) := by rw [ef16, zu_n (fun h9 => absurd h9.1 (by decide))]; exact q11
  have q18 : f16 2 (n + 1) = (vp_nar .byte v15) := by rw [ef16]; exact zu_s
  refine lv_aload_n hx hb dX7_put_30 rfl (lv_at hl 1 rfl) ?_
  refine lv_dup hx hb dX7_put_31 rfl ?_
  refine zGetI (D := D) (ci := 7) (C := RX7) (T := TX7) (N := 4) hx hb hts hiX7 hown hH (zk_1 hF) rfl 1 (by decide) rfl hw1 (fun _ h9 => h9) dX7_put_32 q17 ?_
  refine lv_iconst (v := nI 1) hx hb dX7_put_35 (by decide) ?_
  refine lv_iadd hx hb dX7_put_36 ?_
  refine lv_topi (fun v19 ev19 => ?_)
  obtain rfl : v19 = nI (n + 1 + 1) := ev19.trans (nI_add _ _)
  refine zPutI (D := D) (ci := 7) (ty := .int) (C := RX7) (T := TX7) (N := 4) hx hb hts hiX7 tyX7 tyX7_ok nmX7 hown hH hS (zk_1 hF) rfl 1 (by decide) rfl hw1 (fun _ h9 => h9) rfl (by decide +kernel) rfl rfl dX7_put_37 (fun H locs hH hS => ?_)
  obtain ⟨f20, ef20⟩ : ∃ f9 : zFi, f9 = zu f16 1 1 (nI (n + 1 + 1)) := ⟨_, rfl⟩
  rw [← ef20] at hH
  have q21 : f20 2 (n + 1) = (vp_nar .byte v15) := by rw [ef20, zu_n (fun h9 => absurd h9.1 (by decide))]; exact q18
  have q22 : f20 1 1 = nI (n + 1 + 1) := by rw [ef20]; exact zu_s
  refine lv_iinc (v := nI 8) (lv' := [(2, .int (nI 8)), (0, .ref (τ.1 1)), (1, .int x)]) hx hb dX7_put_40 hl (k := 0) rfl (by decide) (by decide) rfl (fun ls hl => ?_)
  refine lv_goto (tgt := 3) hx hb dX7_put_43 (by decide) ?_
  refine lv_iload_n hx hb dX7_put_3 rfl (lv_at hl 0 rfl) ?_
  refine lv_if_lt (tgt := 46) hx hb dX7_put_4 (by decide) (fun c23 => absurd c23 (by decide)) (fun c23 => ?_)
  refine lv_aload_n hx hb dX7_put_7 rfl (lv_at hl 1 rfl) ?_
  refine zGetI (D := D) (ci := 7) (C := RX7) (T := TX7) (N := 4) hx hb hts hiX7 hown hH (zk_1 hF) rfl 1 (by decide) rfl hw1 (fun _ h9 => h9) dX7_put_8 q22 ?_
  refine lv_sipush (v := nI 400) hx hb dX7_put_11 (by decide) ?_
  refine lv_icmp_ge (tgt := 46) hx hb dX7_put_14 (by decide) (fun c24 => False.elim (by have zc24 := zc_le (nI_toInt (by omega)) (nI_toInt (by omega)) c24; omega)) (fun c24 => ?_)
  refine lv_aload_n hx hb dX7_put_17 rfl (lv_at hl 1 rfl) ?_
  refine zGetR (D := D) (ci := 7) (C := RX7) (T := TX7) (N := 4) hx hb hts hiX7 hown hH (zk_1 hF) rfl 0 (by decide) rfl hw2 (fun _ h9 => h9) dX7_put_18 (zr_1_0 hF) ?_
  refine lv_aload_n hx hb dX7_put_21 rfl (lv_at hl 1 rfl) ?_
  refine zGetI (D := D) (ci := 7) (C := RX7) (T := TX7) (N := 4) hx hb hts hiX7 hown hH (zk_1 hF) rfl 1 (by decide) rfl hw1 (fun _ h9 => h9) dX7_put_22 q22 ?_
  refine lv_iload_n hx hb dX7_put_25 rfl (lv_at hl 2 rfl) ?_
  refine lv_iload_n hx hb dX7_put_26 rfl (lv_at hl 0 rfl) ?_
  refine lv_ishr hx hb dX7_put_27 ?_
  refine lv_topi (fun v25 ev25 => ?_)
  refine lv_i2b hx hb dX7_put_28 rfl ?_
  refine lv_topi (fun v26 ev26 => ?_)
  refine zBastN (D := D) hx hb hH hS (zk_2 hF) (zn_2 hF) (by omega) (by omega) dX7_put_29 (fun H locs hH hS => ?_)
  obtain ⟨f27, ef27⟩ : ∃ f9 : zFi, f9 = zu f20 2 (n + 1 + 1) (vp_nar .byte v26) := ⟨_, rfl⟩
  rw [← ef27] at hH
  have q28 : f27 1 1 = nI (n + 1 + 1) := by rw [ef27, zu_n (fun h9 => absurd h9.1 (by decide))]; exact q22
  have q29 : f27 2 (n + 1 + 1) = (vp_nar .byte v26) := by rw [ef27]; exact zu_s
  refine lv_aload_n hx hb dX7_put_30 rfl (lv_at hl 1 rfl) ?_
  refine lv_dup hx hb dX7_put_31 rfl ?_
  refine zGetI (D := D) (ci := 7) (C := RX7) (T := TX7) (N := 4) hx hb hts hiX7 hown hH (zk_1 hF) rfl 1 (by decide) rfl hw1 (fun _ h9 => h9) dX7_put_32 q28 ?_
  refine lv_iconst (v := nI 1) hx hb dX7_put_35 (by decide) ?_
  refine lv_iadd hx hb dX7_put_36 ?_
  refine lv_topi (fun v30 ev30 => ?_)
  obtain rfl : v30 = nI (n + 1 + 1 + 1) := ev30.trans (nI_add _ _)
  refine zPutI (D := D) (ci := 7) (ty := .int) (C := RX7) (T := TX7) (N := 4) hx hb hts hiX7 tyX7 tyX7_ok nmX7 hown hH hS (zk_1 hF) rfl 1 (by decide) rfl hw1 (fun _ h9 => h9) rfl (by decide +kernel) rfl rfl dX7_put_37 (fun H locs hH hS => ?_)
  obtain ⟨f31, ef31⟩ : ∃ f9 : zFi, f9 = zu f27 1 1 (nI (n + 1 + 1 + 1)) := ⟨_, rfl⟩
  rw [← ef31] at hH
  have q32 : f31 2 (n + 1 + 1) = (vp_nar .byte v26) := by rw [ef31, zu_n (fun h9 => absurd h9.1 (by decide))]; exact q29
  have q33 : f31 1 1 = nI (n + 1 + 1 + 1) := by rw [ef31]; exact zu_s
  refine lv_iinc (v := nI 0) (lv' := [(2, .int (nI 0)), (0, .ref (τ.1 1)), (1, .int x)]) hx hb dX7_put_40 hl (k := 0) rfl (by decide) (by decide) rfl (fun ls hl => ?_)
  refine lv_goto (tgt := 3) hx hb dX7_put_43 (by decide) ?_
  refine lv_iload_n hx hb dX7_put_3 rfl (lv_at hl 0 rfl) ?_
  refine lv_if_lt (tgt := 46) hx hb dX7_put_4 (by decide) (fun c34 => absurd c34 (by decide)) (fun c34 => ?_)
  refine lv_aload_n hx hb dX7_put_7 rfl (lv_at hl 1 rfl) ?_
  refine zGetI (D := D) (ci := 7) (C := RX7) (T := TX7) (N := 4) hx hb hts hiX7 hown hH (zk_1 hF) rfl 1 (by decide) rfl hw1 (fun _ h9 => h9) dX7_put_8 q33 ?_
  refine lv_sipush (v := nI 400) hx hb dX7_put_11 (by decide) ?_
  refine lv_icmp_ge (tgt := 46) hx hb dX7_put_14 (by decide) (fun c35 => False.elim (by have zc35 := zc_le (nI_toInt (by omega)) (nI_toInt (by omega)) c35; omega)) (fun c35 => ?_)
  refine lv_aload_n hx hb dX7_put_17 rfl (lv_at hl 1 rfl) ?_
  refine zGetR (D := D) (ci := 7) (C := RX7) (T := TX7) (N := 4) hx hb hts hiX7 hown hH (zk_1 hF) rfl 0 (by decide) rfl hw2 (fun _ h9 => h9) dX7_put_18 (zr_1_0 hF) ?_
  refine lv_aload_n hx hb dX7_put_21 rfl (lv_at hl 1 rfl) ?_
  refine zGetI (D := D) (ci := 7) (C := RX7) (T := TX7) (N := 4) hx hb hts hiX7 hown hH (zk_1 hF) rfl 1 (by decide) rfl hw1 (fun _ h9 => h9) dX7_put_22 q33 ?_
  refine lv_iload_n hx hb dX7_put_25 rfl (lv_at hl 2 rfl) ?_
  refine lv_iload_n hx hb dX7_put_26 rfl (lv_at hl 0 rfl) ?_
  refine lv_ishr hx hb dX7_put_27 ?_
  refine lv_topi (fun v36 ev36 => ?_)
  refine lv_i2b hx hb dX7_put_28 rfl ?_
  refine lv_topi (fun v37 ev37 => ?_)
  refine zBastN (D := D) hx hb hH hS (zk_2 hF) (zn_2 hF) (by omega) (by omega) dX7_put_29 (fun H locs hH hS => ?_)
  obtain ⟨f38, ef38⟩ : ∃ f9 : zFi, f9 = zu f31 2 (n + 1 + 1 + 1) (vp_nar .byte v37) := ⟨_, rfl⟩
  rw [← ef38] at hH
  have q39 : f38 1 1 = nI (n + 1 + 1 + 1) := by rw [ef38, zu_n (fun h9 => absurd h9.1 (by decide))]; exact q33
  have q40 : f38 2 (n + 1 + 1 + 1) = (vp_nar .byte v37) := by rw [ef38]; exact zu_s
  refine lv_aload_n hx hb dX7_put_30 rfl (lv_at hl 1 rfl) ?_
  refine lv_dup hx hb dX7_put_31 rfl ?_
  refine zGetI (D := D) (ci := 7) (C := RX7) (T := TX7) (N := 4) hx hb hts hiX7 hown hH (zk_1 hF) rfl 1 (by decide) rfl hw1 (fun _ h9 => h9) dX7_put_32 q39 ?_
  refine lv_iconst (v := nI 1) hx hb dX7_put_35 (by decide) ?_
  refine lv_iadd hx hb dX7_put_36 ?_
  refine lv_topi (fun v41 ev41 => ?_)
  obtain rfl : v41 = nI (n + 1 + 1 + 1 + 1) := ev41.trans (nI_add _ _)
  refine zPutI (D := D) (ci := 7) (ty := .int) (C := RX7) (T := TX7) (N := 4) hx hb hts hiX7 tyX7 tyX7_ok nmX7 hown hH hS (zk_1 hF) rfl 1 (by decide) rfl hw1 (fun _ h9 => h9) rfl (by decide +kernel) rfl rfl dX7_put_37 (fun H locs hH hS => ?_)
  obtain ⟨f42, ef42⟩ : ∃ f9 : zFi, f9 = zu f38 1 1 (nI (n + 1 + 1 + 1 + 1)) := ⟨_, rfl⟩
  rw [← ef42] at hH
  have q43 : f42 2 (n + 1 + 1 + 1) = (vp_nar .byte v37) := by rw [ef42, zu_n (fun h9 => absurd h9.1 (by decide))]; exact q40
  have q44 : f42 1 1 = nI (n + 1 + 1 + 1 + 1) := by rw [ef42]; exact zu_s
  refine lv_iinc (v := (-8)) (lv' := [(2, .int ((-8))), (0, .ref (τ.1 1)), (1, .int x)]) hx hb dX7_put_40 hl (k := 0) rfl (by decide) (by decide) rfl (fun ls hl => ?_)
  refine lv_goto (tgt := 3) hx hb dX7_put_43 (by decide) ?_
  refine lv_iload_n hx hb dX7_put_3 rfl (lv_at hl 0 rfl) ?_
  refine lv_if_lt (tgt := 46) hx hb dX7_put_4 (by decide) (fun c45 => ?_) (fun c45 => absurd (by decide) c45)
  refine W.widen (k := 0) (n := 0) (by decide) (by decide) ?_
  exact W.vret hx hb hr (fun t9 ht9 hW9 => ⟨⟨f42, rfl, (by subst ev3 ev4 ef5 ef9 ev14 ev15 ef16 ef20 ev25 ev26 ef27 ef31 ev36 ev37 ef38 ef42; refine ⟨zu_s, fun i h1 h2 => by simp only [zu_r h1, zu_r h2], fun b h1 => by simp [zu, h1], fun b h1 => ?_, ?_, ?_, ?_, ?_⟩ <;> simp [zu, pk_vb, zB8, nI] <;> omega), zEnd1 hH ht9 hW9⟩, hS.F ht9⟩) hS.2.2 dX7_put_46
set_option maxHeartbeats 4000000 in
set_option maxRecDepth 100000 in
/-- Tape.takesWord -/
theorem t_takesWord (l : Launch) (hl0 : l.stackTraces = false) (D : va_G) (A : Nat → Prop) (sad : Nat → Nat) (τ : zTy) (fi : zFi) (fr : zFr) (ol : Int64) (n a : Nat) (hF : zFix τ fr) (hn : fi 1 1 = nI n) (ha : fi 1 2 = nI a) (hn4 : n ≤ 400) (han : a ≤ n) (i : Nat) (w : Nat × String × List Int32) (hi : zWd[i]? = some w) : Met l yX7_takesWord wsX7_takesWord ({ frames := 4, cells := 0, slots := 0, locals := 85 }) (va_Pc [.ref (τ.1 1), .ref (sad i)] (zQc D A sad τ fi fr ol)) (va_Qi (fun (r : Int32) (u : zFi) => (r = 1 ∧ zWordAt (fi 2) a n w.2.2 ∧ ∃ b, u = zu fi 1 2 (nI b) ∧ zSkip (fi 2) (a + w.2.2.length) n b) ∨ (r = 0 ∧ ¬ zWordAt (fi 2) a n w.2.2 ∧ u = fi)) (fun (u : zFi) (t : State) => zH D A τ u fr ol t t.heap) A) 0 0 A := by
  refine Met.ofW (cc := cX7_takesWord) (maxL := 4) (ret := (some .boolean)) (by decide) rfl ?_
  intro p e s m args below meth c s₁ B hml hv
  obtain ⟨rfl, hz, hH, hA⟩ := hv
  have hx := B.exec
  have hb := B.bytes
  have hr := B.returns
  have hts := atoms_spec (ws := wsX7_takesWord) B.pre
  have hown : s.vm.findClass RX7 = some m.cls := findClass_of_methodNamed B.named
  have hlocks := B.notSynchronized
  have hS : va_S A s.heap s.heap [] := va_S.rf
  have hl := lv_entry ([.ref (τ.1 1), .ref (sad i)]) (n := 4) (Nat.le_of_ble_eq_true rfl)
  rw [lg_entry_eq]
  generalize (lg_sl ([.ref (τ.1 1), .ref (sad i)]) ++ List.replicate (4 - (lg_sl ([.ref (τ.1 1), .ref (sad i)])).length) Slot.unset).toArray = ls at hl ⊢
  have hl : lv_has ls 4 [(0, .ref (τ.1 1)), (1, .ref (sad i))] := hl
  have hw6 := zWd_len hi
  obtain ⟨⟨v0, hE⟩, hR⟩ := hz.1.2.2.2.1 i w hi
  have hiX7 : ∀ w ∈ u_ws RX7 TX7 4, w ∈ wsX7_takesWord := fun _ h => List.mem_cons_of_mem _ (List.mem_append_right _ h)
  have hw1 := hts (.fieldLink RX7 22 "PostHouse$Tape" "next" "I") (by decide +kernel)
  have hw2 := hts (.fieldLink RX7 19 "PostHouse$Tape" "length" "I") (by decide +kernel)
  have hw3 := hts (.fieldLink RX7 11 "PostHouse$Tape" "bytes" "[B") (by decide +kernel)
  refine lv_aload_n hx hb dX7_takesWord_0 rfl (lv_at hl 1 rfl) ?_
  refine va_calli (va_runV (As := []) (rest := []) ⟨hx, hb, hml, hown, hts⟩ (j_length l hl0 D A sad τ fi fr ol i w hi) (cwV 0 hts gX7_takesWord_J0_length_8abf5 rfl rfl rfl (by decide +kernel) ⟨Nat.le_of_ble_eq_true rfl, Nat.le_of_ble_eq_true rfl⟩) ⟨zQc_bl, vk_recv (i := 0) hE (by decide) hS, zQc_at hz hS hA hH⟩ rfl rfl hl.1 rfl (lv_room (Nat.le_of_ble_eq_true rfl)) dX7_takesWord_1 ⟨Nat.le_of_ble_eq_true rfl, Nat.le_of_ble_eq_true rfl⟩) hS (fun q _ h => h) (fun q h => h) (fun r1 u9 t9 H1 locs ht9 hvm9 hw hB hz1 hk1 hS => ?_)
  have hH := zMv ht9 hvm9 hB
  generalize H1 = H at hH hS ⊢
  obtain rfl : r1 = nI w.2.2.length := hw
  refine lv_istore_n (lv' := [(2, .int (nI w.2.2.length)), (0, .ref (τ.1 1)), (1, .ref (sad i))]) hx hb dX7_takesWord_4 rfl hl (by decide) rfl (fun ls hl => ?_)
  refine lv_aload_n hx hb dX7_takesWord_5 rfl (lv_at hl 1 rfl) ?_
  refine lv_bipush (v := nI 97) hx hb dX7_takesWord_6 (by decide) ?_
  refine lv_bipush (v := nI 122) hx hb dX7_takesWord_8 (by decide) ?_
  refine va_calli (va_runV (As := [.int (nI 97), .int (nI 122)]) (rest := []) ⟨hx, hb, hml, hown, hts⟩ (t_run l hl0 D A sad τ fi fr ol n a hF hn ha (by omega) (by omega) (nI 97) (nI 122)) (cwV 2 hts gX7_takesWord_X7_run rfl rfl rfl (by decide +kernel) ⟨Nat.le_of_ble_eq_true rfl, Nat.le_of_ble_eq_true rfl⟩) ⟨zQc_bl, zRecv hH (zk_1 hF) rfl, zQc_at hz hS hA hH⟩ rfl rfl hl.1 rfl (lv_room (Nat.le_of_ble_eq_true rfl)) dX7_takesWord_10 ⟨Nat.le_of_ble_eq_true rfl, Nat.le_of_ble_eq_true rfl⟩) hS (fun q _ h => h) (fun q h => h) (fun r2 u9 t9 H1 locs ht9 hvm9 hw hB hz1 hk1 hS => ?_)
  have hH := zMv ht9 hvm9 hB
  generalize H1 = H at hH hS ⊢
  obtain ⟨k3, rfl, hrun4⟩ := hw
  have zhrun4 := hrun4.1
  refine lv_iload_n hx hb dX7_takesWord_13 rfl (lv_at hl 0 rfl) ?_
  refine lv_icmp_eq (tgt := 19) hx hb dX7_takesWord_14 (by decide) (fun c5 => ?_) (fun c5 => ?_)
  · have zc5 := c5
    replace zc5 := zc_eq (nI_toInt (by omega)) (nI_toInt (by omega)) zc5
    refine lv_iconst (v := nI 0) hx hb dX7_takesWord_19 (by decide) ?_
    refine lv_istore_n (lv' := [(3, .int (nI 0)), (2, .int (nI w.2.2.length)), (0, .ref (τ.1 1)), (1, .ref (sad i))]) hx hb dX7_takesWord_20 rfl hl (by decide) rfl (fun ls hl => ?_)
    refine zLp (σ := Nat) (fun x9 k9 H locs ls => (fun (j : Nat) => k9 = w.2.2.length - j ∧ (j ≤ w.2.2.length ∧ ∀ x, x < j → fi 2 (a + x) = w.2.2.getD x 0) ∧ zH D A τ fi fr ol s H ∧ va_S A s.heap H locs ∧ lv_has ls 4 [(0, .ref (τ.1 1)), (1, .ref (sad i)), (2, .int (nI w.2.2.length)), (3, .int (nI j))]) x9) 0 _ ⟨rfl, ⟨Nat.zero_le _, fun x h => absurd h (by omega)⟩, hH, hS, lv_sub hl [2, 3, 1, 0] rfl⟩ (fun k9 ih x9 H locs ls hv9 => ?_)
    generalize x9 = j at hv9
    obtain ⟨hkih6, hv9, hH, hS, hl⟩ := hv9
    obtain ⟨h1, hj⟩ := hv9
    have ih6 := ih
    clear ih
    refine lv_iload_n hx hb dX7_takesWord_21 rfl (lv_at hl 3 rfl) ?_
    refine lv_iload_n hx hb dX7_takesWord_22 rfl (lv_at hl 2 rfl) ?_
    refine lv_icmp_ge (tgt := 66) hx hb dX7_takesWord_23 (by decide) (fun c7 => ?_) (fun c7 => ?_)
    · have zc7 := c7
      replace zc7 := zc_le (nI_toInt (by omega)) (nI_toInt (by omega)) zc7
      refine lv_aload_n hx hb dX7_takesWord_66 rfl (lv_at hl 0 rfl) ?_
      refine lv_iload_n hx hb dX7_takesWord_67 rfl (lv_at hl 2 rfl) ?_
      refine va_callv (va_runV (As := [.int (nI w.2.2.length)]) (rest := []) ⟨hx, hb, hml, hown, hts⟩ (t_skip l hl0 D A sad τ fi fr ol n a hF hn ha (by omega) (by omega) w.2.2.length (by omega)) (cwV 1 hts gX7_takesWord_X7_skip rfl rfl rfl (by decide +kernel) ⟨Nat.le_of_ble_eq_true rfl, Nat.le_of_ble_eq_true rfl⟩) ⟨zQc_bl, zRecv hH (zk_1 hF) rfl, zQc_at hz hS hA hH⟩ rfl rfl hl.1 rfl (lv_room (Nat.le_of_ble_eq_true rfl)) dX7_takesWord_68 ⟨Nat.le_of_ble_eq_true rfl, Nat.le_of_ble_eq_true rfl⟩) hS (fun q _ h => h) (fun q h => h) (fun u9 t9 H1 locs ht9 hvm9 hw hB hz1 hk1 hS => ?_)
      have hH := zMv ht9 hvm9 hB
      clear hB
      generalize u9 = f9 at hw hH
      generalize H1 = H at hH hS ⊢
      obtain ⟨b10, ef9, hs11⟩ := hw
      have zhs11 := hs11.1
      have yhs11 := hs11.2.1
      have q12 : f9 1 1 = nI n := by rw [ef9, zu_n (fun h9 => absurd h9.2 (by decide))]; exact hn
      have q13 : f9 1 2 = nI b10 := by rw [ef9]; exact zu_s
      refine lv_iconst (v := nI 1) hx hb dX7_takesWord_71 (by decide) ?_
      refine W.widen (k := 0) (n := 0) (by decide) (by decide) ?_
      exact W.zret (v := nI 1) hx hb hr (by decide) (fun t9 ht9 hW9 => ⟨⟨nI 1, f9, rfl, Or.inl ⟨rfl, ⟨by have h7 := hrun4; rw [show k3 = w.2.2.length by omega] at h7; exact h7, fun j9 h8 => hj j9 (by omega)⟩, b10, ef9, hs11⟩, zEnd1 hH ht9 hW9⟩, hS.F ht9⟩) hS.2.2 dX7_takesWord_72
    · have zc7 := c7
      replace zc7 := zc_nle (nI_toInt (by omega)) (nI_toInt (by omega)) zc7
      refine lv_aload_n hx hb dX7_takesWord_26 rfl (lv_at hl 0 rfl) ?_
      refine zGetI (D := D) (ci := 7) (C := RX7) (T := TX7) (N := 4) hx hb hts hiX7 hown hH (zk_1 hF) rfl 2 (by decide) rfl hw1 (fun _ h9 => h9) dX7_takesWord_27 ha ?_
      refine lv_iload_n hx hb dX7_takesWord_30 rfl (lv_at hl 3 rfl) ?_
      refine lv_iadd hx hb dX7_takesWord_31 ?_
      refine lv_topi (fun v14 ev14 => ?_)
      obtain rfl : v14 = nI (a + j) := ev14.trans (nI_add _ _)
      refine lv_aload_n hx hb dX7_takesWord_32 rfl (lv_at hl 0 rfl) ?_
      refine zGetI (D := D) (ci := 7) (C := RX7) (T := TX7) (N := 4) hx hb hts hiX7 hown hH (zk_1 hF) rfl 1 (by decide) rfl hw2 (fun _ h9 => h9) dX7_takesWord_33 hn ?_
      refine lv_icmp_ge (tgt := 66) hx hb dX7_takesWord_36 (by decide) (fun c15 => False.elim (by have zc15 := zc_le (nI_toInt (by omega)) (nI_toInt (by omega)) c15; omega)) (fun c15 => ?_)
      refine lv_aload_n hx hb dX7_takesWord_39 rfl (lv_at hl 0 rfl) ?_
      refine zGetR (D := D) (ci := 7) (C := RX7) (T := TX7) (N := 4) hx hb hts hiX7 hown hH (zk_1 hF) rfl 0 (by decide) rfl hw3 (fun _ h9 => h9) dX7_takesWord_40 (zr_1_0 hF) ?_
      refine lv_aload_n hx hb dX7_takesWord_43 rfl (lv_at hl 0 rfl) ?_
      refine zGetI (D := D) (ci := 7) (C := RX7) (T := TX7) (N := 4) hx hb hts hiX7 hown hH (zk_1 hF) rfl 2 (by decide) rfl hw1 (fun _ h9 => h9) dX7_takesWord_44 ha ?_
      refine lv_iload_n hx hb dX7_takesWord_47 rfl (lv_at hl 3 rfl) ?_
      refine lv_iadd hx hb dX7_takesWord_48 ?_
      refine lv_topi (fun v16 ev16 => ?_)
      obtain rfl : v16 = nI (a + j) := ev16.trans (nI_add _ _)
      refine zBaldN (D := D) hx hb hH (zk_2 hF) (zn_2 hF) (by omega) (by omega) rfl dX7_takesWord_49 ?_
      refine lv_aload_n hx hb dX7_takesWord_50 rfl (lv_at hl 1 rfl) ?_
      refine lv_iload_n hx hb dX7_takesWord_51 rfl (lv_at hl 3 rfl) ?_
      refine va_calli (va_runV (As := [.int (nI j)]) (rest := [.int (fi 2 (a + j))]) ⟨hx, hb, hml, hown, hts⟩ (j_charAt l hl0 D A sad τ fi fr ol i w hi j (by omega)) (cwV 1 hts gX7_takesWord_J0_charAt_5068e rfl rfl rfl (by decide +kernel) ⟨Nat.le_of_ble_eq_true rfl, Nat.le_of_ble_eq_true rfl⟩) ⟨zQc_bl, vk_recv (i := 0) hE (by decide) hS, zQc_at hz hS hA hH⟩ rfl rfl hl.1 rfl (lv_room (Nat.le_of_ble_eq_true rfl)) dX7_takesWord_52 ⟨Nat.le_of_ble_eq_true rfl, Nat.le_of_ble_eq_true rfl⟩) hS (fun q _ h => h) (fun q h => h) (fun r17 u9 t9 H1 locs ht9 hvm9 hw hB hz1 hk1 hS => ?_)
      have hH := zMv ht9 hvm9 hB
      generalize H1 = H at hH hS ⊢
      obtain rfl : r17 = w.2.2.getD j 0 := hw
      refine lv_icmp_eq (tgt := 60) hx hb dX7_takesWord_55 (by decide) (fun c18 => ?_) (fun c18 => ?_)
      · have zc18 := c18
        replace zc18 := zc_eq (rfl) (rfl) zc18
        refine lv_iinc (v := nI (j + 1)) (lv' := [(3, .int (nI (j + 1))), (0, .ref (τ.1 1)), (1, .ref (sad i)), (2, .int (nI w.2.2.length))]) hx hb dX7_takesWord_60 hl (k := 3) rfl (by rw [show (Int32.ofInt 1 : Int32) = nI 1 from by decide, nI_add]) (by decide) rfl (fun ls hl => ?_)
        refine lv_goto (tgt := 21) hx hb dX7_takesWord_63 (by decide) ?_
        exact ih6 _ (by omega) (j + 1) _ _ _ ⟨rfl, ⟨by omega, fun x h => by by_cases h7 : x = j; (subst h7; exact c18); exact hj x (by omega)⟩, hH, hS, lv_sub hl [1, 2, 3, 0] rfl⟩
      · have zc18 := c18
        replace zc18 := zc_neq (rfl) (rfl) zc18
        refine lv_iconst (v := nI 0) hx hb dX7_takesWord_58 (by decide) ?_
        refine W.widen (k := 0) (n := 0) (by decide) (by decide) ?_
        exact W.zret (v := nI 0) hx hb hr (by decide) (fun t9 ht9 hW9 => ⟨⟨nI 0, fi, rfl, Or.inr ⟨rfl, fun h9 => c18 (h9.2 j (by omega)), rfl⟩, zEnd1 hH ht9 hW9⟩, hS.F ht9⟩) hS.2.2 dX7_takesWord_59
  · have zc5 := c5
    replace zc5 := zc_neq (nI_toInt (by omega)) (nI_toInt (by omega)) zc5
    refine lv_iconst (v := nI 0) hx hb dX7_takesWord_17 (by decide) ?_
    refine W.widen (k := 0) (n := 0) (by decide) (by decide) ?_
    exact W.zret (v := nI 0) hx hb hr (by decide) (fun t9 ht9 hW9 => ⟨⟨nI 0, fi, rfl, Or.inr ⟨rfl, fun h9 => by have h8 := zRun_one hrun4 h9.1; omega, rfl⟩, zEnd1 hH ht9 hW9⟩, hS.F ht9⟩) hS.2.2 dX7_takesWord_18
set_option maxHeartbeats 4000000 in
set_option maxRecDepth 100000 in
/-- Tape.needWord -/
theorem t_needWord (l : Launch) (hl0 : l.stackTraces = false) (D : va_G) (A : Nat → Prop) (sad : Nat → Nat) (τ : zTy) (fi : zFi) (fr : zFr) (ol : Int64) (n a : Nat) (hF : zFix τ fr) (hn : fi 1 1 = nI n) (ha : fi 1 2 = nI a) (hn4 : n ≤ 400) (han : a ≤ n) (i : Nat) (w : Nat × String × List Int32) (hi : zWd[i]? = some w) : Met l yX7_needWord wsX7_needWord ({ frames := 5, cells := 0, slots := 0, locals := 108 }) (va_Pc [.ref (τ.1 1), .ref (sad i)] (zQc D A sad τ fi fr ol)) (va_Qv (fun (u : zFi) => (zWordAt (fi 2) a n w.2.2 ∧ ∃ b, u = zu fi 1 2 (nI b) ∧ zSkip (fi 2) (a + w.2.2.length) n b) ∨ (¬ zWordAt (fi 2) a n w.2.2 ∧ zRef fi (nI a) u)) (fun (u : zFi) (t : State) => zH D A τ u fr ol t t.heap) A) 0 0 A := by
  refine Met.ofW (cc := cX7_needWord) (maxL := 2) (ret := none) (by decide) rfl ?_
  intro p e s m args below meth c s₁ B hml hv
  obtain ⟨rfl, hz, hH, hA⟩ := hv
  have hx := B.exec
  have hb := B.bytes
  have hr := B.returns
  have hts := atoms_spec (ws := wsX7_needWord) B.pre
  have hown : s.vm.findClass RX7 = some m.cls := findClass_of_methodNamed B.named
  have hlocks := B.notSynchronized
  have hS : va_S A s.heap s.heap [] := va_S.rf
  have hl := lv_entry ([.ref (τ.1 1), .ref (sad i)]) (n := 2) (Nat.le_of_ble_eq_true rfl)
  rw [lg_entry_eq]
  generalize (lg_sl ([.ref (τ.1 1), .ref (sad i)]) ++ List.replicate (2 - (lg_sl ([.ref (τ.1 1), .ref (sad i)])).length) Slot.unset).toArray = ls at hl ⊢
  have hl : lv_has ls 2 [(0, .ref (τ.1 1)), (1, .ref (sad i))] := hl
  have hiX7 : ∀ w ∈ u_ws RX7 TX7 4, w ∈ wsX7_needWord := fun _ h => List.mem_cons_of_mem _ (List.mem_append_right _ h)
  have hw1 := hts (.fieldLink RX7 22 "PostHouse$Tape" "next" "I") (by decide +kernel)
  refine lv_aload_n hx hb dX7_needWord_0 rfl (lv_at hl 0 rfl) ?_
  refine lv_aload_n hx hb dX7_needWord_1 rfl (lv_at hl 1 rfl) ?_
  refine va_calli (va_runV (As := [.ref (sad i)]) (rest := []) ⟨hx, hb, hml, hown, hts⟩ (t_takesWord l hl0 D A sad τ fi fr ol n a hF hn ha (by omega) (by omega) i w hi) (cwV 1 hts gX7_needWord_X7_takesWord rfl rfl rfl (by decide +kernel) ⟨Nat.le_of_ble_eq_true rfl, Nat.le_of_ble_eq_true rfl⟩) ⟨zQc_bl, zRecv hH (zk_1 hF) rfl, zQc_at hz hS hA hH⟩ rfl rfl hl.1 rfl (lv_room (Nat.le_of_ble_eq_true rfl)) dX7_needWord_2 ⟨Nat.le_of_ble_eq_true rfl, Nat.le_of_ble_eq_true rfl⟩) hS (fun q _ h => h) (fun q h => h) (fun r1 u9 t9 H1 locs ht9 hvm9 hw hB hz1 hk1 hS => ?_)
  have hH := zMv ht9 hvm9 hB
  clear hB
  generalize u9 = f2 at hw hH
  generalize H1 = H at hH hS ⊢
  rcases hw with ⟨rfl, hw3, b4, ef2, hs5⟩ | ⟨rfl, hn6, ef2⟩
  · have zhs5 := hs5.1
    have yhs5 := hs5.2.1
    have q7 : f2 1 1 = nI n := by rw [ef2, zu_n (fun h9 => absurd h9.2 (by decide))]; exact hn
    have q8 : f2 1 2 = nI b4 := by rw [ef2]; exact zu_s
    refine lv_if_ne (tgt := 16) hx hb dX7_needWord_5 (by decide) (fun c9 => ?_) (fun c9 => absurd c9 (by decide))
    refine W.widen (k := 0) (n := 0) (by decide) (by decide) ?_
    exact W.vret hx hb hr (fun t9 ht9 hW9 => ⟨⟨f2, rfl, Or.inl ⟨hw3, b4, ef2, hs5⟩, zEnd1 hH ht9 hW9⟩, hS.F ht9⟩) hS.2.2 dX7_needWord_16
  · subst ef2
    refine lv_if_ne (tgt := 16) hx hb dX7_needWord_5 (by decide) (fun c10 => absurd (by decide) c10) (fun c10 => ?_)
    refine lv_aload_n hx hb dX7_needWord_8 rfl (lv_at hl 0 rfl) ?_
    refine lv_aload_n hx hb dX7_needWord_9 rfl (lv_at hl 0 rfl) ?_
    refine zGetI (D := D) (ci := 7) (C := RX7) (T := TX7) (N := 4) hx hb hts hiX7 hown hH (zk_1 hF) rfl 2 (by decide) rfl hw1 (fun _ h9 => h9) dX7_needWord_10 ha ?_
    refine va_callv (va_runV (As := [.int (nI a)]) (rest := []) ⟨hx, hb, hml, hown, hts⟩ (t_refuse l hl0 D A sad τ fi fr ol hF (nI a)) (cwV 1 hts gX7_needWord_X7_refuse rfl rfl rfl (by decide +kernel) ⟨Nat.le_of_ble_eq_true rfl, Nat.le_of_ble_eq_true rfl⟩) ⟨zQc_bl, zRecv hH (zk_1 hF) rfl, zQc_at hz hS hA hH⟩ rfl rfl hl.1 rfl (lv_room (Nat.le_of_ble_eq_true rfl)) dX7_needWord_13 ⟨Nat.le_of_ble_eq_true rfl, Nat.le_of_ble_eq_true rfl⟩) hS (fun q _ h => h) (fun q h => h) (fun u9 t9 H1 locs ht9 hvm9 hw hB hz1 hk1 hS => ?_)
    have hH := zMv ht9 hvm9 hB
    clear hB
    generalize u9 = f12 at hw hH
    generalize H1 = H at hH hS ⊢
    have hr13 := hw
    clear hw
    refine W.widen (k := 0) (n := 0) (by decide) (by decide) ?_
    exact W.vret hx hb hr (fun t9 ht9 hW9 => ⟨⟨f12, rfl, Or.inr ⟨hn6, hr13⟩, zEnd1 hH ht9 hW9⟩, hS.F ht9⟩) hS.2.2 dX7_needWord_16
