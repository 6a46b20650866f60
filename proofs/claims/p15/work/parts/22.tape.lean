/-! ===== THE TAPE ===== -/
/-- from a on, k bytes lie between lo and hi, and no more -/
def zRun (b : Nat → Int32) (lo hi : Int32) (a n k : Nat) : Prop := a + k ≤ n ∧ (∀ j, a ≤ j → j < a + k → lo.toInt ≤ (b j).toInt ∧ (b j).toInt ≤ hi.toInt) ∧ (a + k < n → ¬ (lo.toInt ≤ (b (a + k)).toInt ∧ (b (a + k)).toInt ≤ hi.toInt))
/-- from a on, blanks up to k -/
def zSkip (b : Nat → Int32) (a n k : Nat) : Prop := a ≤ k ∧ k ≤ n ∧ (∀ j, a ≤ j → j < k → (b j).toInt = 32) ∧ (k < n → (b k).toInt ≠ 32)
/-- the number of k digits from a on -/
def zDig (b : Nat → Int32) (a : Nat) : Nat → Int32
  | 0 => 0
  | k + 1 => zDig b a k * 10 + b (a + k) - 48
set_option maxHeartbeats 4000000 in
set_option maxRecDepth 100000 in
/-- Tape.run -/
theorem t_run (l : Launch) (hl0 : l.stackTraces = false) (D : va_G) (A : Nat → Prop) (sad : Nat → Nat) (τ : zTy) (fi : zFi) (fr : zFr) (ol : Int64) (n a : Nat) (hF : zFix τ fr) (hn : fi 1 1 = nI n) (ha : fi 1 2 = nI a) (hn4 : n ≤ 400) (han : a ≤ n) (x1 x2 : Int32) : Met l yX7_run wsX7_run ({ frames := 0, cells := 0, slots := 0, locals := 0 }) (va_Pc [.ref (τ.1 1), .int x1, .int x2] (zQc D A sad τ fi fr ol)) (va_Qi (fun (r : Int32) (u : Unit) => ∃ k, r = nI k ∧ zRun (fi 2) x1 x2 a n k) (fun (u : Unit) (t : State) => zH D A τ fi fr ol t t.heap) A) 0 0 A := by
  refine Met.ofW (cc := cX7_run) (maxL := 4) (ret := (some .int)) (by decide) rfl ?_
  intro p9 e9 s m args below meth c9 s₁ B hml hv
  obtain ⟨rfl, hz, hH, hA⟩ := hv
  have hx := B.exec
  have hb := B.bytes
  have hr := B.returns
  have hts := atoms_spec (ws := wsX7_run) B.pre
  have hown : s.vm.findClass RX7 = some m.cls := findClass_of_methodNamed B.named
  have hlocks := B.notSynchronized
  have hS : va_S A s.heap s.heap [] := va_S.rf
  have hl := lv_entry ([.ref (τ.1 1), .int x1, .int x2]) (n := 4) (Nat.le_of_ble_eq_true rfl)
  rw [lg_entry_eq]
  generalize (lg_sl ([.ref (τ.1 1), .int x1, .int x2]) ++ List.replicate (4 - (lg_sl ([.ref (τ.1 1), .int x1, .int x2])).length) Slot.unset).toArray = ls at hl ⊢
  have hl : lv_has ls 4 [(0, .ref (τ.1 1)), (1, .int x1), (2, .int x2)] := hl
  have hiX7 : ∀ w ∈ u_ws RX7 TX7 4, w ∈ wsX7_run := fun _ h => List.mem_cons_of_mem _ (List.mem_append_right _ h)
  have hw1 := hts (.fieldLink RX7 22 "PostHouse$Tape" "next" "I") (by decide +kernel)
  have hw2 := hts (.fieldLink RX7 19 "PostHouse$Tape" "length" "I") (by decide +kernel)
  have hw3 := hts (.fieldLink RX7 11 "PostHouse$Tape" "bytes" "[B") (by decide +kernel)
  refine lv_aload_n hx hb dX7_run_0 rfl (lv_at hl 0 rfl) ?_
  refine zGetI (D := D) (ci := 7) (C := RX7) (T := TX7) (N := 4) hx hb hts hiX7 hown hH (zk_1 hF) rfl 2 (by decide) rfl hw1 (fun _ h9 => h9) dX7_run_1 ha ?_
  refine lv_istore_n (lv' := [(3, .int (nI a)), (0, .ref (τ.1 1)), (1, .int x1), (2, .int x2)]) hx hb dX7_run_4 rfl hl (by decide) rfl (fun ls hl => ?_)
  refine zLp (σ := Nat) (fun x9 k9 H locs ls => (fun (i : Nat) => k9 = n - i ∧ (a ≤ i ∧ i ≤ n ∧ ∀ j, a ≤ j → j < i → x1.toInt ≤ (fi 2 j).toInt ∧ (fi 2 j).toInt ≤ x2.toInt) ∧ zH D A τ fi fr ol s H ∧ va_S A s.heap H locs ∧ lv_has ls 4 [(0, .ref (τ.1 1)), (1, .int x1), (2, .int x2), (3, .int (nI i))]) x9) a (n - a) (show n - a = n - a ∧ (a ≤ a ∧ a ≤ n ∧ ∀ j, a ≤ j → j < a → x1.toInt ≤ (fi 2 j).toInt ∧ (fi 2 j).toInt ≤ x2.toInt) ∧ zH D A τ fi fr ol s _ ∧ va_S A s.heap _ _ ∧ lv_has _ 4 [(0, .ref (τ.1 1)), (1, .int x1), (2, .int x2), (3, .int (nI a))] from ⟨rfl, ⟨Nat.le_refl _, han, fun j h1 h2 => absurd h2 (by omega)⟩, hH, hS, lv_sub hl [1, 2, 3, 0] rfl⟩) (fun k9 ih x9 H locs ls hv9 => ?_)
  generalize x9 = i at hv9
  have hv9 : k9 = n - i ∧ (a ≤ i ∧ i ≤ n ∧ ∀ j, a ≤ j → j < i → x1.toInt ≤ (fi 2 j).toInt ∧ (fi 2 j).toInt ≤ x2.toInt) ∧ zH D A τ fi fr ol s H ∧ va_S A s.heap H locs ∧ lv_has ls 4 [(0, .ref (τ.1 1)), (1, .int x1), (2, .int x2), (3, .int (nI i))] := hv9
  obtain ⟨hkih101, hv9, hH, hS, hl⟩ := hv9
  obtain ⟨h1, h2, hj⟩ := hv9
  have ih101 := ih
  clear ih
  refine lv_iload_n hx hb dX7_run_5 rfl (lv_at hl 3 rfl) ?_
  refine lv_aload_n hx hb dX7_run_6 rfl (lv_at hl 0 rfl) ?_
  refine zGetI (D := D) (ci := 7) (C := RX7) (T := TX7) (N := 4) hx hb hts hiX7 hown hH (zk_1 hF) rfl 1 (by decide) rfl hw2 (fun _ h9 => h9) dX7_run_7 hn ?_
  refine lv_icmp_ge (tgt := 39) hx hb dX7_run_10 (by decide) (fun c102 => ?_) (fun c102 => ?_)
  · have zc102 := c102
    replace zc102 := zc_le (nI_toInt (by omega)) (nI_toInt (by omega)) zc102
    refine lv_iload_n hx hb dX7_run_39 rfl (lv_at hl 3 rfl) ?_
    refine lv_aload_n hx hb dX7_run_40 rfl (lv_at hl 0 rfl) ?_
    refine zGetI (D := D) (ci := 7) (C := RX7) (T := TX7) (N := 4) hx hb hts hiX7 hown hH (zk_1 hF) rfl 2 (by decide) rfl hw1 (fun _ h9 => h9) dX7_run_41 ha ?_
    refine lv_isub hx hb dX7_run_44 ?_
    refine lv_topi (fun v103 ev103 => ?_)
    obtain rfl : v103 = nI (i - a) := ev103.trans (pk_sub (by omega))
    refine W.widen (k := 0) (n := 0) (by decide) (by decide) ?_
    exact W.iret (v := nI (i - a)) hx hb hr (fun t9 ht9 hW9 => ⟨⟨nI (i - a), (), rfl, ⟨i - a, rfl, ⟨by omega, fun j h1 h2 => hj j h1 (by omega), fun h => by first | exact absurd h (by omega) | (rw [show a + (i - a) = i by omega]; omega)⟩⟩, zEnd1 hH ht9 hW9⟩, hS.F ht9⟩) hS.2.2 dX7_run_45
  · have zc102 := c102
    replace zc102 := zc_nle (nI_toInt (by omega)) (nI_toInt (by omega)) zc102
    refine lv_aload_n hx hb dX7_run_13 rfl (lv_at hl 0 rfl) ?_
    refine zGetR (D := D) (ci := 7) (C := RX7) (T := TX7) (N := 4) hx hb hts hiX7 hown hH (zk_1 hF) rfl 0 (by decide) rfl hw3 (fun _ h9 => h9) dX7_run_14 (zr_1_0 hF) ?_
    refine lv_iload_n hx hb dX7_run_17 rfl (lv_at hl 3 rfl) ?_
    refine zBaldN (D := D) hx hb hH (zk_2 hF) (zn_2 hF) (by omega) (by omega) rfl dX7_run_18 ?_
    refine lv_iload_n hx hb dX7_run_19 rfl (lv_at hl 1 rfl) ?_
    refine lv_icmp_lt (tgt := 39) hx hb dX7_run_20 (by decide) (fun c104 => ?_) (fun c104 => ?_)
    · have zc104 := c104
      replace zc104 := zc_lt (rfl) (rfl) zc104
      refine lv_iload_n hx hb dX7_run_39 rfl (lv_at hl 3 rfl) ?_
      refine lv_aload_n hx hb dX7_run_40 rfl (lv_at hl 0 rfl) ?_
      refine zGetI (D := D) (ci := 7) (C := RX7) (T := TX7) (N := 4) hx hb hts hiX7 hown hH (zk_1 hF) rfl 2 (by decide) rfl hw1 (fun _ h9 => h9) dX7_run_41 ha ?_
      refine lv_isub hx hb dX7_run_44 ?_
      refine lv_topi (fun v105 ev105 => ?_)
      obtain rfl : v105 = nI (i - a) := ev105.trans (pk_sub (by omega))
      refine W.widen (k := 0) (n := 0) (by decide) (by decide) ?_
      exact W.iret (v := nI (i - a)) hx hb hr (fun t9 ht9 hW9 => ⟨⟨nI (i - a), (), rfl, ⟨i - a, rfl, ⟨by omega, fun j h1 h2 => hj j h1 (by omega), fun h => by first | exact absurd h (by omega) | (rw [show a + (i - a) = i by omega]; omega)⟩⟩, zEnd1 hH ht9 hW9⟩, hS.F ht9⟩) hS.2.2 dX7_run_45
    · have zc104 := c104
      replace zc104 := zc_nlt (rfl) (rfl) zc104
      refine lv_aload_n hx hb dX7_run_23 rfl (lv_at hl 0 rfl) ?_
      refine zGetR (D := D) (ci := 7) (C := RX7) (T := TX7) (N := 4) hx hb hts hiX7 hown hH (zk_1 hF) rfl 0 (by decide) rfl hw3 (fun _ h9 => h9) dX7_run_24 (zr_1_0 hF) ?_
      refine lv_iload_n hx hb dX7_run_27 rfl (lv_at hl 3 rfl) ?_
      refine zBaldN (D := D) hx hb hH (zk_2 hF) (zn_2 hF) (by omega) (by omega) rfl dX7_run_28 ?_
      refine lv_iload_n hx hb dX7_run_29 rfl (lv_at hl 2 rfl) ?_
      refine lv_icmp_gt (tgt := 39) hx hb dX7_run_30 (by decide) (fun c106 => ?_) (fun c106 => ?_)
      · have zc106 := c106
        replace zc106 := zc_lt (rfl) (rfl) zc106
        refine lv_iload_n hx hb dX7_run_39 rfl (lv_at hl 3 rfl) ?_
        refine lv_aload_n hx hb dX7_run_40 rfl (lv_at hl 0 rfl) ?_
        refine zGetI (D := D) (ci := 7) (C := RX7) (T := TX7) (N := 4) hx hb hts hiX7 hown hH (zk_1 hF) rfl 2 (by decide) rfl hw1 (fun _ h9 => h9) dX7_run_41 ha ?_
        refine lv_isub hx hb dX7_run_44 ?_
        refine lv_topi (fun v107 ev107 => ?_)
        obtain rfl : v107 = nI (i - a) := ev107.trans (pk_sub (by omega))
        refine W.widen (k := 0) (n := 0) (by decide) (by decide) ?_
        exact W.iret (v := nI (i - a)) hx hb hr (fun t9 ht9 hW9 => ⟨⟨nI (i - a), (), rfl, ⟨i - a, rfl, ⟨by omega, fun j h1 h2 => hj j h1 (by omega), fun h => by first | exact absurd h (by omega) | (rw [show a + (i - a) = i by omega]; omega)⟩⟩, zEnd1 hH ht9 hW9⟩, hS.F ht9⟩) hS.2.2 dX7_run_45
      · have zc106 := c106
        replace zc106 := zc_nlt (rfl) (rfl) zc106
        refine lv_iinc (v := nI (i + 1)) (lv' := [(3, .int (nI (i + 1))), (0, .ref (τ.1 1)), (1, .int x1), (2, .int x2)]) hx hb dX7_run_33 hl (k := 3) rfl (by rw [show (Int32.ofInt 1 : Int32) = nI 1 from by decide, nI_add]) (by decide) rfl (fun ls hl => ?_)
        refine lv_goto (tgt := 5) hx hb dX7_run_36 (by decide) ?_
        exact ih101 (n - (i + 1)) (by omega) (i + 1) _ _ _ (show n - (i + 1) = n - (i + 1) ∧ (a ≤ (i + 1) ∧ (i + 1) ≤ n ∧ ∀ j, a ≤ j → j < (i + 1) → x1.toInt ≤ (fi 2 j).toInt ∧ (fi 2 j).toInt ≤ x2.toInt) ∧ zH D A τ fi fr ol s _ ∧ va_S A s.heap _ _ ∧ lv_has _ 4 [(0, .ref (τ.1 1)), (1, .int x1), (2, .int x2), (3, .int (nI (i + 1)))] from ⟨rfl, ⟨by omega, by omega, fun j h5 h6 => by by_cases h7 : j = i; (subst h7; constructor <;> omega); exact hj j h5 (by omega)⟩, hH, hS, lv_sub hl [1, 2, 3, 0] rfl⟩)
set_option maxHeartbeats 4000000 in
set_option maxRecDepth 100000 in
/-- Tape.skip -/
theorem t_skip (l : Launch) (hl0 : l.stackTraces = false) (D : va_G) (A : Nat → Prop) (sad : Nat → Nat) (τ : zTy) (fi : zFi) (fr : zFr) (ol : Int64) (n a : Nat) (hF : zFix τ fr) (hn : fi 1 1 = nI n) (ha : fi 1 2 = nI a) (hn4 : n ≤ 400) (han : a ≤ n) (k : Nat) (hk : a + k ≤ n) : Met l yX7_skip wsX7_skip ({ frames := 0, cells := 0, slots := 0, locals := 0 }) (va_Pc [.ref (τ.1 1), .int (nI k)] (zQc D A sad τ fi fr ol)) (va_Qv (fun (u : zFi) => ∃ b, u = zu fi 1 2 (nI b) ∧ zSkip (fi 2) (a + k) n b) (fun (u : zFi) (t : State) => zH D A τ u fr ol t t.heap) A) 0 0 A := by
  refine Met.ofW (cc := cX7_skip) (maxL := 2) (ret := none) (by decide) rfl ?_
  intro p9 e9 s m args below meth c9 s₁ B hml hv
  obtain ⟨rfl, hz, hH, hA⟩ := hv
  have hx := B.exec
  have hb := B.bytes
  have hr := B.returns
  have hts := atoms_spec (ws := wsX7_skip) B.pre
  have hown : s.vm.findClass RX7 = some m.cls := findClass_of_methodNamed B.named
  have hlocks := B.notSynchronized
  have hS : va_S A s.heap s.heap [] := va_S.rf
  have hl := lv_entry ([.ref (τ.1 1), .int (nI k)]) (n := 2) (Nat.le_of_ble_eq_true rfl)
  rw [lg_entry_eq]
  generalize (lg_sl ([.ref (τ.1 1), .int (nI k)]) ++ List.replicate (2 - (lg_sl ([.ref (τ.1 1), .int (nI k)])).length) Slot.unset).toArray = ls at hl ⊢
  have hl : lv_has ls 2 [(0, .ref (τ.1 1)), (1, .int (nI k))] := hl
  have hiX7 : ∀ w ∈ u_ws RX7 TX7 4, w ∈ wsX7_skip := fun _ h => List.mem_cons_of_mem _ (List.mem_append_right _ h)
  have hw1 := hts (.fieldLink RX7 22 "PostHouse$Tape" "next" "I") (by decide +kernel)
  have hw2 := hts (.fieldLink RX7 19 "PostHouse$Tape" "length" "I") (by decide +kernel)
  have hw3 := hts (.fieldLink RX7 11 "PostHouse$Tape" "bytes" "[B") (by decide +kernel)
  refine lv_aload_n hx hb dX7_skip_0 rfl (lv_at hl 0 rfl) ?_
  refine lv_dup hx hb dX7_skip_1 rfl ?_
  refine zGetI (D := D) (ci := 7) (C := RX7) (T := TX7) (N := 4) hx hb hts hiX7 hown hH (zk_1 hF) rfl 2 (by decide) rfl hw1 (fun _ h9 => h9) dX7_skip_2 ha ?_
  refine lv_iload_n hx hb dX7_skip_5 rfl (lv_at hl 1 rfl) ?_
  refine lv_iadd hx hb dX7_skip_6 ?_
  refine lv_topi (fun v101 ev101 => ?_)
  obtain rfl : v101 = nI (a + k) := ev101.trans (nI_add _ _)
  refine zPutI (D := D) (ci := 7) (ty := .int) (C := RX7) (T := TX7) (N := 4) hx hb hts hiX7 tyX7 tyX7_ok nmX7 hown hH hS (zk_1 hF) rfl 2 (by decide) rfl hw1 (fun _ h9 => h9) rfl (by decide +kernel) rfl rfl dX7_skip_7 (fun H locs hH hS => ?_)
  obtain ⟨f102, ef102⟩ : ∃ f9 : zFi, f9 = zu fi 1 2 (nI (a + k)) := ⟨_, rfl⟩
  rw [← ef102] at hH
  have q103 : f102 1 1 = nI n := by rw [ef102, zu_n (fun h9 => absurd h9.2 (by decide))]; exact hn
  have q104 : f102 1 2 = nI (a + k) := by rw [ef102]; exact zu_s
  refine zLp (σ := Nat × zFi) (fun x9 k9 H locs ls => (fun (i : Nat) (f : zFi) => k9 = n - i ∧ (f = zu fi 1 2 (nI i) ∧ a + k ≤ i ∧ i ≤ n ∧ ∀ j, a + k ≤ j → j < i → (fi 2 j).toInt = 32) ∧ zH D A τ f fr ol s H ∧ va_S A s.heap H locs ∧ lv_has ls 2 [(0, .ref (τ.1 1)), (1, .int (nI k))]) x9.1 x9.2) (a + k, f102) (n - (a + k)) (show n - (a + k) = n - (a + k) ∧ (f102 = zu fi 1 2 (nI (a + k)) ∧ a + k ≤ (a + k) ∧ (a + k) ≤ n ∧ ∀ j, a + k ≤ j → j < (a + k) → (fi 2 j).toInt = 32) ∧ zH D A τ f102 fr ol s _ ∧ va_S A s.heap _ _ ∧ lv_has _ 2 [(0, .ref (τ.1 1)), (1, .int (nI k))] from ⟨rfl, ⟨ef102, Nat.le_refl _, hk, fun j h1 h2 => absurd h2 (by omega)⟩, hH, hS, lv_sub hl [0, 1] rfl⟩) (fun k9 ih x9 H locs ls hv9 => ?_)
  obtain ⟨i, f⟩ := x9
  have hv9 : k9 = n - i ∧ (f = zu fi 1 2 (nI i) ∧ a + k ≤ i ∧ i ≤ n ∧ ∀ j, a + k ≤ j → j < i → (fi 2 j).toInt = 32) ∧ zH D A τ f fr ol s H ∧ va_S A s.heap H locs ∧ lv_has ls 2 [(0, .ref (τ.1 1)), (1, .int (nI k))] := hv9
  obtain ⟨hkih105, hv9, hH, hS, hl⟩ := hv9
  obtain ⟨hf, h1, h2, hj⟩ := hv9
  have ih105 := ih
  clear ih
  have q1 : f 1 1 = nI n := by rw [hf, zu_n (fun h9 => absurd h9.2 (by decide))]; exact hn
  have q2 : f 1 2 = nI i := by rw [hf]; exact zu_s
  have q3 : f 2 = fi 2 := by rw [hf]; exact zu_r (by decide)
  refine lv_aload_n hx hb dX7_skip_10 rfl (lv_at hl 0 rfl) ?_
  refine zGetI (D := D) (ci := 7) (C := RX7) (T := TX7) (N := 4) hx hb hts hiX7 hown hH (zk_1 hF) rfl 2 (by decide) rfl hw1 (fun _ h9 => h9) dX7_skip_11 q2 ?_
  refine lv_aload_n hx hb dX7_skip_14 rfl (lv_at hl 0 rfl) ?_
  refine zGetI (D := D) (ci := 7) (C := RX7) (T := TX7) (N := 4) hx hb hts hiX7 hown hH (zk_1 hF) rfl 1 (by decide) rfl hw2 (fun _ h9 => h9) dX7_skip_15 q1 ?_
  refine lv_icmp_ge (tgt := 48) hx hb dX7_skip_18 (by decide) (fun c106 => ?_) (fun c106 => ?_)
  · have zc106 := c106
    replace zc106 := zc_le (nI_toInt (by omega)) (nI_toInt (by omega)) zc106
    refine W.widen (k := 0) (n := 0) (by decide) (by decide) ?_
    exact W.vret hx hb hr (fun t9 ht9 hW9 => ⟨⟨f, rfl, ⟨i, hf, h1, h2, hj, fun h => by first | exact absurd h (by omega) | (rw [q3] at zc106; exact zc106)⟩, zEnd1 hH ht9 hW9⟩, hS.F ht9⟩) hS.2.2 dX7_skip_48
  · have zc106 := c106
    replace zc106 := zc_nle (nI_toInt (by omega)) (nI_toInt (by omega)) zc106
    refine lv_aload_n hx hb dX7_skip_21 rfl (lv_at hl 0 rfl) ?_
    refine zGetR (D := D) (ci := 7) (C := RX7) (T := TX7) (N := 4) hx hb hts hiX7 hown hH (zk_1 hF) rfl 0 (by decide) rfl hw3 (fun _ h9 => h9) dX7_skip_22 (zr_1_0 hF) ?_
    refine lv_aload_n hx hb dX7_skip_25 rfl (lv_at hl 0 rfl) ?_
    refine zGetI (D := D) (ci := 7) (C := RX7) (T := TX7) (N := 4) hx hb hts hiX7 hown hH (zk_1 hF) rfl 2 (by decide) rfl hw1 (fun _ h9 => h9) dX7_skip_26 q2 ?_
    refine zBaldN (D := D) hx hb hH (zk_2 hF) (zn_2 hF) (by omega) (by omega) rfl dX7_skip_29 ?_
    refine lv_bipush (v := nI 32) hx hb dX7_skip_30 (by decide) ?_
    refine lv_icmp_ne (tgt := 48) hx hb dX7_skip_32 (by decide) (fun c107 => ?_) (fun c107 => ?_)
    · have zc107 := c107
      replace zc107 := zc_neq (rfl) (nI_toInt (by omega)) zc107
      refine W.widen (k := 0) (n := 0) (by decide) (by decide) ?_
      exact W.vret hx hb hr (fun t9 ht9 hW9 => ⟨⟨f, rfl, ⟨i, hf, h1, h2, hj, fun h => by first | exact absurd h (by omega) | (rw [q3] at zc107; exact zc107)⟩, zEnd1 hH ht9 hW9⟩, hS.F ht9⟩) hS.2.2 dX7_skip_48
    · have zc107 := c107
      replace zc107 := zc_eq (rfl) (nI_toInt (by omega)) zc107
      refine lv_aload_n hx hb dX7_skip_35 rfl (lv_at hl 0 rfl) ?_
      refine lv_dup hx hb dX7_skip_36 rfl ?_
      refine zGetI (D := D) (ci := 7) (C := RX7) (T := TX7) (N := 4) hx hb hts hiX7 hown hH (zk_1 hF) rfl 2 (by decide) rfl hw1 (fun _ h9 => h9) dX7_skip_37 q2 ?_
      refine lv_iconst (v := nI 1) hx hb dX7_skip_40 (by decide) ?_
      refine lv_iadd hx hb dX7_skip_41 ?_
      refine lv_topi (fun v108 ev108 => ?_)
      obtain rfl : v108 = nI (i + 1) := ev108.trans (nI_add _ _)
      refine zPutI (D := D) (ci := 7) (ty := .int) (C := RX7) (T := TX7) (N := 4) hx hb hts hiX7 tyX7 tyX7_ok nmX7 hown hH hS (zk_1 hF) rfl 2 (by decide) rfl hw1 (fun _ h9 => h9) rfl (by decide +kernel) rfl rfl dX7_skip_42 (fun H locs hH hS => ?_)
      obtain ⟨f109, ef109⟩ : ∃ f9 : zFi, f9 = zu f 1 2 (nI (i + 1)) := ⟨_, rfl⟩
      rw [← ef109] at hH
      have q110 : f109 1 1 = nI n := by rw [ef109, zu_n (fun h9 => absurd h9.2 (by decide))]; exact q1
      have q111 : f109 1 2 = nI (i + 1) := by rw [ef109]; exact zu_s
      refine lv_goto (tgt := 10) hx hb dX7_skip_45 (by decide) ?_
      exact ih105 (n - (i + 1)) (by omega) (i + 1, f109) _ _ _ (show n - (i + 1) = n - (i + 1) ∧ (f109 = zu fi 1 2 (nI (i + 1)) ∧ a + k ≤ (i + 1) ∧ (i + 1) ≤ n ∧ ∀ j, a + k ≤ j → j < (i + 1) → (fi 2 j).toInt = 32) ∧ zH D A τ f109 fr ol s _ ∧ va_S A s.heap _ _ ∧ lv_has _ 2 [(0, .ref (τ.1 1)), (1, .int (nI k))] from ⟨rfl, ⟨by rw [ef109, hf]; funext x9 y9; simp only [zu]; split <;> simp_all, by omega, by omega, fun j h5 h6 => by by_cases h7 : j = i; (subst h7; rw [q3] at zc107; omega); exact hj j h5 (by omega)⟩, hH, hS, lv_sub hl [0, 1] rfl⟩)
def zRef (fi : zFi) (x : Int32) (u : zFi) : Prop := (fi 1 3 = -1 ∧ u = zu fi 1 3 x) ∨ (¬ fi 1 3 = -1 ∧ u = fi)
def zWordAt (b : Nat → Int32) (a n : Nat) (ws : List Int32) : Prop := zRun b 97 122 a n ws.length ∧ ∀ j, j < ws.length → b (a + j) = ws.getD j 0
def zNumAt (b : Nat → Int32) (a n p q : Nat) (lo hi : Int32) (k : Nat) : Prop := zRun b 48 57 a n k ∧ p ≤ k ∧ k ≤ q ∧ lo.toInt ≤ (zDig b a k).toInt ∧ (zDig b a k).toInt ≤ hi.toInt
theorem zRun_one {b : Nat → Int32} {lo hi : Int32} {a n k k' : Nat} (h : zRun b lo hi a n k) (h' : zRun b lo hi a n k') : k = k' := by
  obtain ⟨a1, a2, a3⟩ := h
  obtain ⟨b1, b2, b3⟩ := h'
  rcases Nat.lt_trichotomy k k' with q | q | q
  · exact absurd (b2 (a + k) (by omega) (by omega)) (a3 (by omega))
  · exact q
  · exact absurd (a2 (a + k') (by omega) (by omega)) (b3 (by omega))
set_option maxHeartbeats 4000000 in
set_option maxRecDepth 100000 in
/-- Tape.refuse -/
theorem t_refuse (l : Launch) (hl0 : l.stackTraces = false) (D : va_G) (A : Nat → Prop) (sad : Nat → Nat) (τ : zTy) (fi : zFi) (fr : zFr) (ol : Int64) (hF : zFix τ fr) (x : Int32) : Met l yX7_refuse wsX7_refuse ({ frames := 0, cells := 0, slots := 0, locals := 0 }) (va_Pc [.ref (τ.1 1), .int x] (zQc D A sad τ fi fr ol)) (va_Qv (fun (u : zFi) => zRef fi x u) (fun (u : zFi) (t : State) => zH D A τ u fr ol t t.heap) A) 0 0 A := by
  refine Met.ofW (cc := cX7_refuse) (maxL := 2) (ret := none) (by decide) rfl ?_
  intro p9 e9 s m args below meth c9 s₁ B hml hv
  obtain ⟨rfl, hz, hH, hA⟩ := hv
  have hx := B.exec
  have hb := B.bytes
  have hr := B.returns
  have hts := atoms_spec (ws := wsX7_refuse) B.pre
  have hown : s.vm.findClass RX7 = some m.cls := findClass_of_methodNamed B.named
  have hlocks := B.notSynchronized
  have hS : va_S A s.heap s.heap [] := va_S.rf
  have hl := lv_entry ([.ref (τ.1 1), .int x]) (n := 2) (Nat.le_of_ble_eq_true rfl)
  rw [lg_entry_eq]
  generalize (lg_sl ([.ref (τ.1 1), .int x]) ++ List.replicate (2 - (lg_sl ([.ref (τ.1 1), .int x])).length) Slot.unset).toArray = ls at hl ⊢
  have hl : lv_has ls 2 [(0, .ref (τ.1 1)), (1, .int x)] := hl
  have hiX7 : ∀ w ∈ u_ws RX7 TX7 4, w ∈ wsX7_refuse := fun _ h => List.mem_cons_of_mem _ (List.mem_append_right _ h)
  have hw1 := hts (.fieldLink RX7 15 "PostHouse$Tape" "wrong" "I") (by decide +kernel)
  refine lv_aload_n hx hb dX7_refuse_0 rfl (lv_at hl 0 rfl) ?_
  refine zGetI (D := D) (ci := 7) (C := RX7) (T := TX7) (N := 4) hx hb hts hiX7 hown hH (zk_1 hF) rfl 3 (by decide) rfl hw1 (fun _ h9 => h9) dX7_refuse_1 rfl ?_
  refine lv_iconst (v := (-1)) hx hb dX7_refuse_4 (by decide) ?_
  refine lv_icmp_ne (tgt := 13) hx hb dX7_refuse_5 (by decide) (fun c101 => ?_) (fun c101 => ?_)
  · have zc101 := c101
    replace zc101 := zc_neq (rfl) ((by decide : ((-1) : Int32).toInt = (-1))) zc101
    refine W.widen (k := 0) (n := 0) (by decide) (by decide) ?_
    exact W.vret hx hb hr (fun t9 ht9 hW9 => ⟨⟨fi, rfl, Or.inr ⟨c101, rfl⟩, zEnd1 hH ht9 hW9⟩, hS.F ht9⟩) hS.2.2 dX7_refuse_13
  · have zc101 := c101
    replace zc101 := zc_eq (rfl) ((by decide : ((-1) : Int32).toInt = (-1))) zc101
    refine lv_aload_n hx hb dX7_refuse_8 rfl (lv_at hl 0 rfl) ?_
    refine lv_iload_n hx hb dX7_refuse_9 rfl (lv_at hl 1 rfl) ?_
    refine zPutI (D := D) (ci := 7) (ty := .int) (C := RX7) (T := TX7) (N := 4) hx hb hts hiX7 tyX7 tyX7_ok nmX7 hown hH hS (zk_1 hF) rfl 3 (by decide) rfl hw1 (fun _ h9 => h9) rfl (by decide +kernel) rfl rfl dX7_refuse_10 (fun H locs hH hS => ?_)
    obtain ⟨f102, ef102⟩ : ∃ f9 : zFi, f9 = zu fi 1 3 x := ⟨_, rfl⟩
    rw [← ef102] at hH
    have q103 : f102 1 3 = x := by rw [ef102]; exact zu_s
    refine W.widen (k := 0) (n := 0) (by decide) (by decide) ?_
    exact W.vret hx hb hr (fun t9 ht9 hW9 => ⟨⟨f102, rfl, Or.inl ⟨c101, ef102⟩, zEnd1 hH ht9 hW9⟩, hS.F ht9⟩) hS.2.2 dX7_refuse_13
set_option maxHeartbeats 4000000 in
set_option maxRecDepth 100000 in
/-- Tape.open -/
theorem t_open (l : Launch) (hl0 : l.stackTraces = false) (D : va_G) (A : Nat → Prop) (sad : Nat → Nat) (τ : zTy) (fi : zFi) (fr : zFr) (ol : Int64) (n : Nat) (hF : zFix τ fr) (hn : fi 1 1 = nI n) (hn4 : n ≤ 400) : Met l yX7_open wsX7_open ({ frames := 1, cells := 0, slots := 0, locals := 21 }) (va_Pc [.ref (τ.1 1)] (zQc D A sad τ fi fr ol)) (va_Qv (fun (u : zFi) => ∃ b, u = zu (zu fi 1 3 (-1)) 1 2 (nI b) ∧ zSkip (fi 2) 0 n b) (fun (u : zFi) (t : State) => zH D A τ u fr ol t t.heap) A) 0 0 A := by
  refine Met.ofW (cc := cX7_open) (maxL := 1) (ret := none) (by decide) rfl ?_
  intro p9 e9 s m args below meth c9 s₁ B hml hv
  obtain ⟨rfl, hz, hH, hA⟩ := hv
  have hx := B.exec
  have hb := B.bytes
  have hr := B.returns
  have hts := atoms_spec (ws := wsX7_open) B.pre
  have hown : s.vm.findClass RX7 = some m.cls := findClass_of_methodNamed B.named
  have hlocks := B.notSynchronized
  have hS : va_S A s.heap s.heap [] := va_S.rf
  have hl := lv_entry ([.ref (τ.1 1)]) (n := 1) (Nat.le_of_ble_eq_true rfl)
  rw [lg_entry_eq]
  generalize (lg_sl ([.ref (τ.1 1)]) ++ List.replicate (1 - (lg_sl ([.ref (τ.1 1)])).length) Slot.unset).toArray = ls at hl ⊢
  have hl : lv_has ls 1 [(0, .ref (τ.1 1))] := hl
  have hw0 := hts (.fieldLink RX7 15 "PostHouse$Tape" "wrong" "I") (by decide +kernel)
  have hiX7 : ∀ w ∈ u_ws RX7 TX7 4, w ∈ wsX7_open := fun _ h => List.mem_cons_of_mem _ (List.mem_append_right _ h)
  have hw2 := hts (.fieldLink RX7 22 "PostHouse$Tape" "next" "I") (by decide +kernel)
  refine lv_aload_n hx hb dX7_open_0 rfl (lv_at hl 0 rfl) ?_
  refine lv_iconst (v := (-1)) hx hb dX7_open_1 (by decide) ?_
  refine zPutI (D := D) (ci := 7) (ty := .int) (C := RX7) (T := TX7) (N := 4) hx hb hts hiX7 tyX7 tyX7_ok nmX7 hown hH hS (zk_1 hF) rfl 3 (by decide) rfl hw0 (fun _ h9 => h9) rfl (by decide +kernel) rfl rfl dX7_open_2 (fun H locs hH hS => ?_)
  obtain ⟨f101, ef101⟩ : ∃ f9 : zFi, f9 = zu fi 1 3 ((-1)) := ⟨_, rfl⟩
  rw [← ef101] at hH
  have q102 : f101 1 1 = nI n := by rw [ef101, zu_n (fun h9 => absurd h9.2 (by decide))]; exact hn
  have q103 : f101 1 3 = (-1) := by rw [ef101]; exact zu_s
  refine lv_aload_n hx hb dX7_open_5 rfl (lv_at hl 0 rfl) ?_
  refine lv_iconst (v := nI 0) hx hb dX7_open_6 (by decide) ?_
  refine zPutI (D := D) (ci := 7) (ty := .int) (C := RX7) (T := TX7) (N := 4) hx hb hts hiX7 tyX7 tyX7_ok nmX7 hown hH hS (zk_1 hF) rfl 2 (by decide) rfl hw2 (fun _ h9 => h9) rfl (by decide +kernel) rfl rfl dX7_open_7 (fun H locs hH hS => ?_)
  obtain ⟨f104, ef104⟩ : ∃ f9 : zFi, f9 = zu f101 1 2 (nI 0) := ⟨_, rfl⟩
  rw [← ef104] at hH
  have q105 : f104 1 1 = nI n := by rw [ef104, zu_n (fun h9 => absurd h9.2 (by decide))]; exact q102
  have q106 : f104 1 3 = (-1) := by rw [ef104, zu_n (fun h9 => absurd h9.2 (by decide))]; exact q103
  have q107 : f104 1 2 = nI 0 := by rw [ef104]; exact zu_s
  refine lv_aload_n hx hb dX7_open_10 rfl (lv_at hl 0 rfl) ?_
  refine lv_iconst (v := nI 0) hx hb dX7_open_11 (by decide) ?_
  refine va_callv (va_runV (As := [.int (nI 0)]) (rest := []) ⟨hx, hb, hml, hown, hts⟩ (t_skip l hl0 D A sad τ f104 fr ol n 0 hF q105 q107 (by omega) (by omega) 0 (by omega)) (cwV 1 hts gX7_open_X7_skip rfl rfl rfl (by decide +kernel) ⟨Nat.le_of_ble_eq_true rfl, Nat.le_of_ble_eq_true rfl⟩) ⟨zQc_bl, zRecv hH (zk_1 hF) rfl, zQc_at hz hS hA hH⟩ rfl rfl hl.1 rfl (lv_room (Nat.le_of_ble_eq_true rfl)) dX7_open_12 ⟨Nat.le_of_ble_eq_true rfl, Nat.le_of_ble_eq_true rfl⟩) hS (fun q _ h => h) (fun q h => h) (fun u9 t9 H1 locs ht9 hvm9 hw hB hz1 hk1 hS => ?_)
  have hH := zMv ht9 hvm9 hB
  clear hB
  generalize u9 = f109 at hw hH
  generalize H1 = H at hH hS ⊢
  obtain ⟨b110, ef109, hs111⟩ := hw
  have zhs111 := hs111.1
  have yhs111 := hs111.2.1
  have q112 : f109 1 1 = nI n := by rw [ef109, zu_n (fun h9 => absurd h9.2 (by decide))]; exact q105
  have q113 : f109 1 3 = (-1) := by rw [ef109, zu_n (fun h9 => absurd h9.2 (by decide))]; exact q106
  have q114 : f109 1 2 = nI b110 := by rw [ef109]; exact zu_s
  refine W.widen (k := 0) (n := 0) (by decide) (by decide) ?_
  exact W.vret hx hb hr (fun t9 ht9 hW9 => ⟨⟨f109, rfl, ⟨b110, by rw [ef109, ef104, ef101]; funext x9 y9; simp only [zu]; split <;> simp_all, by have h7 := hs111; rw [Nat.zero_add] at h7; rw [show f104 2 = fi 2 from by rw [ef104, zu_r (by decide), ef101, zu_r (by decide)]] at h7; exact h7⟩, zEnd1 hH ht9 hW9⟩, hS.F ht9⟩) hS.2.2 dX7_open_15
set_option maxHeartbeats 4000000 in
set_option maxRecDepth 100000 in
/-- Tape.needEnd -/
theorem t_needEnd (l : Launch) (hl0 : l.stackTraces = false) (D : va_G) (A : Nat → Prop) (sad : Nat → Nat) (τ : zTy) (fi : zFi) (fr : zFr) (ol : Int64) (n a : Nat) (hF : zFix τ fr) (hn : fi 1 1 = nI n) (ha : fi 1 2 = nI a) (hn4 : n ≤ 400) (han : a ≤ n) : Met l yX7_needEnd wsX7_needEnd ({ frames := 1, cells := 0, slots := 0, locals := 21 }) (va_Pc [.ref (τ.1 1)] (zQc D A sad τ fi fr ol)) (va_Qv (fun (u : zFi) => (a < n ∧ zRef fi (nI a) u) ∨ (a = n ∧ u = fi)) (fun (u : zFi) (t : State) => zH D A τ u fr ol t t.heap) A) 0 0 A := by
  refine Met.ofW (cc := cX7_needEnd) (maxL := 1) (ret := none) (by decide) rfl ?_
  intro p9 e9 s m args below meth c9 s₁ B hml hv
  obtain ⟨rfl, hz, hH, hA⟩ := hv
  have hx := B.exec
  have hb := B.bytes
  have hr := B.returns
  have hts := atoms_spec (ws := wsX7_needEnd) B.pre
  have hown : s.vm.findClass RX7 = some m.cls := findClass_of_methodNamed B.named
  have hlocks := B.notSynchronized
  have hS : va_S A s.heap s.heap [] := va_S.rf
  have hl := lv_entry ([.ref (τ.1 1)]) (n := 1) (Nat.le_of_ble_eq_true rfl)
  rw [lg_entry_eq]
  generalize (lg_sl ([.ref (τ.1 1)]) ++ List.replicate (1 - (lg_sl ([.ref (τ.1 1)])).length) Slot.unset).toArray = ls at hl ⊢
  have hl : lv_has ls 1 [(0, .ref (τ.1 1))] := hl
  have hiX7 : ∀ w ∈ u_ws RX7 TX7 4, w ∈ wsX7_needEnd := fun _ h => List.mem_cons_of_mem _ (List.mem_append_right _ h)
  have hw1 := hts (.fieldLink RX7 22 "PostHouse$Tape" "next" "I") (by decide +kernel)
  have hw2 := hts (.fieldLink RX7 19 "PostHouse$Tape" "length" "I") (by decide +kernel)
  refine lv_aload_n hx hb dX7_needEnd_0 rfl (lv_at hl 0 rfl) ?_
  refine zGetI (D := D) (ci := 7) (C := RX7) (T := TX7) (N := 4) hx hb hts hiX7 hown hH (zk_1 hF) rfl 2 (by decide) rfl hw1 (fun _ h9 => h9) dX7_needEnd_1 ha ?_
  refine lv_aload_n hx hb dX7_needEnd_4 rfl (lv_at hl 0 rfl) ?_
  refine zGetI (D := D) (ci := 7) (C := RX7) (T := TX7) (N := 4) hx hb hts hiX7 hown hH (zk_1 hF) rfl 1 (by decide) rfl hw2 (fun _ h9 => h9) dX7_needEnd_5 hn ?_
  refine lv_icmp_ge (tgt := 19) hx hb dX7_needEnd_8 (by decide) (fun c101 => ?_) (fun c101 => ?_)
  · have zc101 := c101
    replace zc101 := zc_le (nI_toInt (by omega)) (nI_toInt (by omega)) zc101
    refine W.widen (k := 0) (n := 0) (by decide) (by decide) ?_
    exact W.vret hx hb hr (fun t9 ht9 hW9 => ⟨⟨fi, rfl, Or.inr ⟨by omega, rfl⟩, zEnd1 hH ht9 hW9⟩, hS.F ht9⟩) hS.2.2 dX7_needEnd_19
  · have zc101 := c101
    replace zc101 := zc_nle (nI_toInt (by omega)) (nI_toInt (by omega)) zc101
    refine lv_aload_n hx hb dX7_needEnd_11 rfl (lv_at hl 0 rfl) ?_
    refine lv_aload_n hx hb dX7_needEnd_12 rfl (lv_at hl 0 rfl) ?_
    refine zGetI (D := D) (ci := 7) (C := RX7) (T := TX7) (N := 4) hx hb hts hiX7 hown hH (zk_1 hF) rfl 2 (by decide) rfl hw1 (fun _ h9 => h9) dX7_needEnd_13 ha ?_
    refine va_callv (va_runV (As := [.int (nI a)]) (rest := []) ⟨hx, hb, hml, hown, hts⟩ (t_refuse l hl0 D A sad τ fi fr ol hF (nI a)) (cwV 1 hts gX7_needEnd_X7_refuse rfl rfl rfl (by decide +kernel) ⟨Nat.le_of_ble_eq_true rfl, Nat.le_of_ble_eq_true rfl⟩) ⟨zQc_bl, zRecv hH (zk_1 hF) rfl, zQc_at hz hS hA hH⟩ rfl rfl hl.1 rfl (lv_room (Nat.le_of_ble_eq_true rfl)) dX7_needEnd_16 ⟨Nat.le_of_ble_eq_true rfl, Nat.le_of_ble_eq_true rfl⟩) hS (fun q _ h => h) (fun q h => h) (fun u9 t9 H1 locs ht9 hvm9 hw hB hz1 hk1 hS => ?_)
    have hH := zMv ht9 hvm9 hB
    clear hB
    generalize u9 = f103 at hw hH
    generalize H1 = H at hH hS ⊢
    have hr104 := hw
    clear hw
    refine W.widen (k := 0) (n := 0) (by decide) (by decide) ?_
    exact W.vret hx hb hr (fun t9 ht9 hW9 => ⟨⟨f103, rfl, Or.inl ⟨by omega, hr104⟩, zEnd1 hH ht9 hW9⟩, hS.F ht9⟩) hS.2.2 dX7_needEnd_19
set_option maxHeartbeats 4000000 in
set_option maxRecDepth 100000 in
/-- Tape.takesSign -/
theorem t_takesSign (l : Launch) (hl0 : l.stackTraces = false) (D : va_G) (A : Nat → Prop) (sad : Nat → Nat) (τ : zTy) (fi : zFi) (fr : zFr) (ol : Int64) (n a : Nat) (hF : zFix τ fr) (hn : fi 1 1 = nI n) (ha : fi 1 2 = nI a) (hn4 : n ≤ 400) (han : a ≤ n) (x : Int32) : Met l yX7_takesSign wsX7_takesSign ({ frames := 1, cells := 0, slots := 0, locals := 21 }) (va_Pc [.ref (τ.1 1), .int x] (zQc D A sad τ fi fr ol)) (va_Qi (fun (r : Int32) (u : zFi) => (r = 1 ∧ a < n ∧ fi 2 a = x ∧ ∃ b, u = zu fi 1 2 (nI b) ∧ zSkip (fi 2) (a + 1) n b) ∨ (r = 0 ∧ u = fi ∧ (a < n → ¬ fi 2 a = x))) (fun (u : zFi) (t : State) => zH D A τ u fr ol t t.heap) A) 0 0 A := by
  refine Met.ofW (cc := cX7_takesSign) (maxL := 2) (ret := (some .boolean)) (by decide) rfl ?_
  intro p9 e9 s m args below meth c9 s₁ B hml hv
  obtain ⟨rfl, hz, hH, hA⟩ := hv
  have hx := B.exec
  have hb := B.bytes
  have hr := B.returns
  have hts := atoms_spec (ws := wsX7_takesSign) B.pre
  have hown : s.vm.findClass RX7 = some m.cls := findClass_of_methodNamed B.named
  have hlocks := B.notSynchronized
  have hS : va_S A s.heap s.heap [] := va_S.rf
  have hl := lv_entry ([.ref (τ.1 1), .int x]) (n := 2) (Nat.le_of_ble_eq_true rfl)
  rw [lg_entry_eq]
  generalize (lg_sl ([.ref (τ.1 1), .int x]) ++ List.replicate (2 - (lg_sl ([.ref (τ.1 1), .int x])).length) Slot.unset).toArray = ls at hl ⊢
  have hl : lv_has ls 2 [(0, .ref (τ.1 1)), (1, .int x)] := hl
  have hiX7 : ∀ w ∈ u_ws RX7 TX7 4, w ∈ wsX7_takesSign := fun _ h => List.mem_cons_of_mem _ (List.mem_append_right _ h)
  have hw1 := hts (.fieldLink RX7 22 "PostHouse$Tape" "next" "I") (by decide +kernel)
  have hw2 := hts (.fieldLink RX7 19 "PostHouse$Tape" "length" "I") (by decide +kernel)
  have hw3 := hts (.fieldLink RX7 11 "PostHouse$Tape" "bytes" "[B") (by decide +kernel)
  refine lv_aload_n hx hb dX7_takesSign_0 rfl (lv_at hl 0 rfl) ?_
  refine zGetI (D := D) (ci := 7) (C := RX7) (T := TX7) (N := 4) hx hb hts hiX7 hown hH (zk_1 hF) rfl 2 (by decide) rfl hw1 (fun _ h9 => h9) dX7_takesSign_1 ha ?_
  refine lv_aload_n hx hb dX7_takesSign_4 rfl (lv_at hl 0 rfl) ?_
  refine zGetI (D := D) (ci := 7) (C := RX7) (T := TX7) (N := 4) hx hb hts hiX7 hown hH (zk_1 hF) rfl 1 (by decide) rfl hw2 (fun _ h9 => h9) dX7_takesSign_5 hn ?_
  refine lv_icmp_ge (tgt := 24) hx hb dX7_takesSign_8 (by decide) (fun c101 => ?_) (fun c101 => ?_)
  · have zc101 := c101
    replace zc101 := zc_le (nI_toInt (by omega)) (nI_toInt (by omega)) zc101
    refine lv_iconst (v := nI 0) hx hb dX7_takesSign_24 (by decide) ?_
    refine W.widen (k := 0) (n := 0) (by decide) (by decide) ?_
    exact W.zret (v := nI 0) hx hb hr (by decide) (fun t9 ht9 hW9 => ⟨⟨nI 0, fi, rfl, Or.inr ⟨rfl, rfl, fun h => by first | exact absurd h (by omega) | exact c101⟩, zEnd1 hH ht9 hW9⟩, hS.F ht9⟩) hS.2.2 dX7_takesSign_25
  · have zc101 := c101
    replace zc101 := zc_nle (nI_toInt (by omega)) (nI_toInt (by omega)) zc101
    refine lv_aload_n hx hb dX7_takesSign_11 rfl (lv_at hl 0 rfl) ?_
    refine zGetR (D := D) (ci := 7) (C := RX7) (T := TX7) (N := 4) hx hb hts hiX7 hown hH (zk_1 hF) rfl 0 (by decide) rfl hw3 (fun _ h9 => h9) dX7_takesSign_12 (zr_1_0 hF) ?_
    refine lv_aload_n hx hb dX7_takesSign_15 rfl (lv_at hl 0 rfl) ?_
    refine zGetI (D := D) (ci := 7) (C := RX7) (T := TX7) (N := 4) hx hb hts hiX7 hown hH (zk_1 hF) rfl 2 (by decide) rfl hw1 (fun _ h9 => h9) dX7_takesSign_16 ha ?_
    refine zBaldN (D := D) hx hb hH (zk_2 hF) (zn_2 hF) (by omega) (by omega) rfl dX7_takesSign_19 ?_
    refine lv_iload_n hx hb dX7_takesSign_20 rfl (lv_at hl 1 rfl) ?_
    refine lv_icmp_eq (tgt := 26) hx hb dX7_takesSign_21 (by decide) (fun c102 => ?_) (fun c102 => ?_)
    · have zc102 := c102
      replace zc102 := zc_eq (rfl) (rfl) zc102
      refine lv_aload_n hx hb dX7_takesSign_26 rfl (lv_at hl 0 rfl) ?_
      refine lv_iconst (v := nI 1) hx hb dX7_takesSign_27 (by decide) ?_
      refine va_callv (va_runV (As := [.int (nI 1)]) (rest := []) ⟨hx, hb, hml, hown, hts⟩ (t_skip l hl0 D A sad τ fi fr ol n a hF hn ha (by omega) (by omega) 1 (by omega)) (cwV 1 hts gX7_takesSign_X7_skip rfl rfl rfl (by decide +kernel) ⟨Nat.le_of_ble_eq_true rfl, Nat.le_of_ble_eq_true rfl⟩) ⟨zQc_bl, zRecv hH (zk_1 hF) rfl, zQc_at hz hS hA hH⟩ rfl rfl hl.1 rfl (lv_room (Nat.le_of_ble_eq_true rfl)) dX7_takesSign_28 ⟨Nat.le_of_ble_eq_true rfl, Nat.le_of_ble_eq_true rfl⟩) hS (fun q _ h => h) (fun q h => h) (fun u9 t9 H1 locs ht9 hvm9 hw hB hz1 hk1 hS => ?_)
      have hH := zMv ht9 hvm9 hB
      clear hB
      generalize u9 = f104 at hw hH
      generalize H1 = H at hH hS ⊢
      obtain ⟨b105, ef104, hs106⟩ := hw
      have zhs106 := hs106.1
      have yhs106 := hs106.2.1
      have q107 : f104 1 1 = nI n := by rw [ef104, zu_n (fun h9 => absurd h9.2 (by decide))]; exact hn
      have q108 : f104 1 2 = nI b105 := by rw [ef104]; exact zu_s
      refine lv_iconst (v := nI 1) hx hb dX7_takesSign_31 (by decide) ?_
      refine W.widen (k := 0) (n := 0) (by decide) (by decide) ?_
      exact W.zret (v := nI 1) hx hb hr (by decide) (fun t9 ht9 hW9 => ⟨⟨nI 1, f104, rfl, Or.inl ⟨rfl, by omega, c102, b105, ef104, hs106⟩, zEnd1 hH ht9 hW9⟩, hS.F ht9⟩) hS.2.2 dX7_takesSign_32
    · have zc102 := c102
      replace zc102 := zc_neq (rfl) (rfl) zc102
      refine lv_iconst (v := nI 0) hx hb dX7_takesSign_24 (by decide) ?_
      refine W.widen (k := 0) (n := 0) (by decide) (by decide) ?_
      exact W.zret (v := nI 0) hx hb hr (by decide) (fun t9 ht9 hW9 => ⟨⟨nI 0, fi, rfl, Or.inr ⟨rfl, rfl, fun h => by first | exact absurd h (by omega) | exact c102⟩, zEnd1 hH ht9 hW9⟩, hS.F ht9⟩) hS.2.2 dX7_takesSign_25
set_option maxHeartbeats 4000000 in
set_option maxRecDepth 100000 in
/-- Tape.value -/
theorem t_value (l : Launch) (hl0 : l.stackTraces = false) (D : va_G) (A : Nat → Prop) (sad : Nat → Nat) (τ : zTy) (fi : zFi) (fr : zFr) (ol : Int64) (n a : Nat) (hF : zFix τ fr) (hn : fi 1 1 = nI n) (ha : fi 1 2 = nI a) (hn4 : n ≤ 400) (han : a ≤ n) (k : Nat) (hk : a + k ≤ n) : Met l yX7_value wsX7_value ({ frames := 0, cells := 0, slots := 0, locals := 0 }) (va_Pc [.ref (τ.1 1), .int (nI k)] (zQc D A sad τ fi fr ol)) (va_Qi (fun (r : Int32) (u : Unit) => r = zDig (fi 2) a k) (fun (u : Unit) (t : State) => zH D A τ fi fr ol t t.heap) A) 0 0 A := by
  refine Met.ofW (cc := cX7_value) (maxL := 4) (ret := (some .int)) (by decide) rfl ?_
  intro p9 e9 s m args below meth c9 s₁ B hml hv
  obtain ⟨rfl, hz, hH, hA⟩ := hv
  have hx := B.exec
  have hb := B.bytes
  have hr := B.returns
  have hts := atoms_spec (ws := wsX7_value) B.pre
  have hown : s.vm.findClass RX7 = some m.cls := findClass_of_methodNamed B.named
  have hlocks := B.notSynchronized
  have hS : va_S A s.heap s.heap [] := va_S.rf
  have hl := lv_entry ([.ref (τ.1 1), .int (nI k)]) (n := 4) (Nat.le_of_ble_eq_true rfl)
  rw [lg_entry_eq]
  generalize (lg_sl ([.ref (τ.1 1), .int (nI k)]) ++ List.replicate (4 - (lg_sl ([.ref (τ.1 1), .int (nI k)])).length) Slot.unset).toArray = ls at hl ⊢
  have hl : lv_has ls 4 [(0, .ref (τ.1 1)), (1, .int (nI k))] := hl
  have hiX7 : ∀ w ∈ u_ws RX7 TX7 4, w ∈ wsX7_value := fun _ h => List.mem_cons_of_mem _ (List.mem_append_right _ h)
  have hw1 := hts (.fieldLink RX7 22 "PostHouse$Tape" "next" "I") (by decide +kernel)
  have hw2 := hts (.fieldLink RX7 19 "PostHouse$Tape" "length" "I") (by decide +kernel)
  have hw3 := hts (.fieldLink RX7 11 "PostHouse$Tape" "bytes" "[B") (by decide +kernel)
  refine lv_iconst (v := nI 0) hx hb dX7_value_0 (by decide) ?_
  refine lv_istore_n (lv' := [(2, .int (nI 0)), (0, .ref (τ.1 1)), (1, .int (nI k))]) hx hb dX7_value_1 rfl hl (by decide) rfl (fun ls hl => ?_)
  refine lv_aload_n hx hb dX7_value_2 rfl (lv_at hl 1 rfl) ?_
  refine zGetI (D := D) (ci := 7) (C := RX7) (T := TX7) (N := 4) hx hb hts hiX7 hown hH (zk_1 hF) rfl 2 (by decide) rfl hw1 (fun _ h9 => h9) dX7_value_3 ha ?_
  refine lv_istore_n (lv' := [(3, .int (nI a)), (2, .int (nI 0)), (0, .ref (τ.1 1)), (1, .int (nI k))]) hx hb dX7_value_6 rfl hl (by decide) rfl (fun ls hl => ?_)
  refine zLp (σ := Nat) (fun x9 k9 H locs ls => (fun (j : Nat) => k9 = k - j ∧ (j ≤ k) ∧ zH D A τ fi fr ol s H ∧ va_S A s.heap H locs ∧ lv_has ls 4 [(0, .ref (τ.1 1)), (1, .int (nI k)), (2, .int (zDig (fi 2) a j)), (3, .int (nI (a + j)))]) x9) 0 (k - 0) (show k - 0 = k - 0 ∧ (0 ≤ k) ∧ zH D A τ fi fr ol s _ ∧ va_S A s.heap _ _ ∧ lv_has _ 4 [(0, .ref (τ.1 1)), (1, .int (nI k)), (2, .int (zDig (fi 2) a 0)), (3, .int (nI (a + 0)))] from ⟨rfl, Nat.zero_le _, hH, hS, lv_sub hl [2, 3, 1, 0] rfl⟩) (fun k9 ih x9 H locs ls hv9 => ?_)
  generalize x9 = j at hv9
  have hv9 : k9 = k - j ∧ (j ≤ k) ∧ zH D A τ fi fr ol s H ∧ va_S A s.heap H locs ∧ lv_has ls 4 [(0, .ref (τ.1 1)), (1, .int (nI k)), (2, .int (zDig (fi 2) a j)), (3, .int (nI (a + j)))] := hv9
  obtain ⟨hkih101, hv9, hH, hS, hl⟩ := hv9
  obtain h1 := hv9
  have ih101 := ih
  clear ih
  refine lv_iload_n hx hb dX7_value_7 rfl (lv_at hl 3 rfl) ?_
  refine lv_aload_n hx hb dX7_value_8 rfl (lv_at hl 0 rfl) ?_
  refine zGetI (D := D) (ci := 7) (C := RX7) (T := TX7) (N := 4) hx hb hts hiX7 hown hH (zk_1 hF) rfl 2 (by decide) rfl hw1 (fun _ h9 => h9) dX7_value_9 ha ?_
  refine lv_iload_n hx hb dX7_value_12 rfl (lv_at hl 1 rfl) ?_
  refine lv_iadd hx hb dX7_value_13 ?_
  refine lv_topi (fun v102 ev102 => ?_)
  obtain rfl : v102 = nI (a + k) := ev102.trans (nI_add _ _)
  refine lv_icmp_ge (tgt := 46) hx hb dX7_value_14 (by decide) (fun c103 => ?_) (fun c103 => ?_)
  · have zc103 := c103
    replace zc103 := zc_le (nI_toInt (by omega)) (nI_toInt (by omega)) zc103
    refine lv_iload_n hx hb dX7_value_46 rfl (lv_at hl 2 rfl) ?_
    refine W.widen (k := 0) (n := 0) (by decide) (by decide) ?_
    exact W.iret (v := zDig (fi 2) a j) hx hb hr (fun t9 ht9 hW9 => ⟨⟨zDig (fi 2) a j, (), rfl, by rw [show j = k by omega], zEnd1 hH ht9 hW9⟩, hS.F ht9⟩) hS.2.2 dX7_value_47
  · have zc103 := c103
    replace zc103 := zc_nle (nI_toInt (by omega)) (nI_toInt (by omega)) zc103
    refine lv_iload_n hx hb dX7_value_17 rfl (lv_at hl 3 rfl) ?_
    refine lv_aload_n hx hb dX7_value_18 rfl (lv_at hl 0 rfl) ?_
    refine zGetI (D := D) (ci := 7) (C := RX7) (T := TX7) (N := 4) hx hb hts hiX7 hown hH (zk_1 hF) rfl 1 (by decide) rfl hw2 (fun _ h9 => h9) dX7_value_19 hn ?_
    refine lv_icmp_ge (tgt := 46) hx hb dX7_value_22 (by decide) (fun c104 => ?_) (fun c104 => ?_)
    · have zc104 := c104
      replace zc104 := zc_le (nI_toInt (by omega)) (nI_toInt (by omega)) zc104
      refine lv_iload_n hx hb dX7_value_46 rfl (lv_at hl 2 rfl) ?_
      refine W.widen (k := 0) (n := 0) (by decide) (by decide) ?_
      exact W.iret (v := zDig (fi 2) a j) hx hb hr (fun t9 ht9 hW9 => ⟨⟨zDig (fi 2) a j, (), rfl, by rw [show j = k by omega], zEnd1 hH ht9 hW9⟩, hS.F ht9⟩) hS.2.2 dX7_value_47
    · have zc104 := c104
      replace zc104 := zc_nle (nI_toInt (by omega)) (nI_toInt (by omega)) zc104
      refine lv_iload_n hx hb dX7_value_25 rfl (lv_at hl 2 rfl) ?_
      refine lv_bipush (v := nI 10) hx hb dX7_value_26 (by decide) ?_
      refine lv_imul hx hb dX7_value_28 ?_
      refine lv_topi (fun v105 ev105 => ?_)
      refine lv_aload_n hx hb dX7_value_29 rfl (lv_at hl 0 rfl) ?_
      refine zGetR (D := D) (ci := 7) (C := RX7) (T := TX7) (N := 4) hx hb hts hiX7 hown hH (zk_1 hF) rfl 0 (by decide) rfl hw3 (fun _ h9 => h9) dX7_value_30 (zr_1_0 hF) ?_
      refine lv_iload_n hx hb dX7_value_33 rfl (lv_at hl 3 rfl) ?_
      refine zBaldN (D := D) hx hb hH (zk_2 hF) (zn_2 hF) (by omega) (by omega) rfl dX7_value_34 ?_
      refine lv_iadd hx hb dX7_value_35 ?_
      refine lv_topi (fun v106 ev106 => ?_)
      refine lv_bipush (v := nI 48) hx hb dX7_value_36 (by decide) ?_
      refine lv_isub hx hb dX7_value_38 ?_
      refine lv_topi (fun v107 ev107 => ?_)
      refine lv_istore_n (lv' := [(2, .int v107), (0, .ref (τ.1 1)), (1, .int (nI k)), (3, .int (nI (a + j)))]) hx hb dX7_value_39 rfl hl (by decide) rfl (fun ls hl => ?_)
      refine lv_iinc (v := nI (a + j + 1)) (lv' := [(3, .int (nI (a + j + 1))), (2, .int v107), (0, .ref (τ.1 1)), (1, .int (nI k))]) hx hb dX7_value_40 hl (k := 3) rfl (by rw [show (Int32.ofInt 1 : Int32) = nI 1 from by decide, nI_add]) (by decide) rfl (fun ls hl => ?_)
      refine lv_goto (tgt := 7) hx hb dX7_value_43 (by decide) ?_
      subst ev105 ev106 ev107
      exact ih101 (k - (j + 1)) (by omega) (j + 1) _ _ _ (show k - (j + 1) = k - (j + 1) ∧ ((j + 1) ≤ k) ∧ zH D A τ fi fr ol s _ ∧ va_S A s.heap _ _ ∧ lv_has _ 4 [(0, .ref (τ.1 1)), (1, .int (nI k)), (2, .int (zDig (fi 2) a (j + 1))), (3, .int (nI (a + (j + 1))))] from ⟨rfl, (by omega), hH, hS, lv_sub hl [2, 3, 1, 0] rfl⟩)
set_option maxHeartbeats 4000000 in
set_option maxRecDepth 100000 in
/-- Tape.digits -/
theorem t_digits (l : Launch) (hl0 : l.stackTraces = false) (D : va_G) (A : Nat → Prop) (sad : Nat → Nat) (τ : zTy) (fi : zFi) (fr : zFr) (ol : Int64) (n a : Nat) (hF : zFix τ fr) (hn : fi 1 1 = nI n) (ha : fi 1 2 = nI a) (hn4 : n ≤ 400) (han : a ≤ n) (p q : Nat) (hp : p ≤ 6) (hq : q ≤ 6) (lo hi : Int32) (hlo : 0 ≤ lo.toInt) : Met l yX7_digits wsX7_digits ({ frames := 1, cells := 0, slots := 0, locals := 23 }) (va_Pc [.ref (τ.1 1), .int (nI p), .int (nI q), .int lo, .int hi] (zQc D A sad τ fi fr ol)) (va_Qi (fun (r : Int32) (u : zFi) => ∃ k, zRun (fi 2) 48 57 a n k ∧ (((p ≤ k ∧ k ≤ q ∧ lo.toInt ≤ (zDig (fi 2) a k).toInt ∧ (zDig (fi 2) a k).toInt ≤ hi.toInt) ∧ r = zDig (fi 2) a k ∧ ∃ b, u = zu fi 1 2 (nI b) ∧ zSkip (fi 2) (a + k) n b) ∨ (¬ (p ≤ k ∧ k ≤ q ∧ lo.toInt ≤ (zDig (fi 2) a k).toInt ∧ (zDig (fi 2) a k).toInt ≤ hi.toInt) ∧ r = -1 ∧ zRef fi (nI a) u))) (fun (u : zFi) (t : State) => zH D A τ u fr ol t t.heap) A) 0 0 A := by
  refine Met.ofW (cc := cX7_digits) (maxL := 7) (ret := (some .int)) (by decide) rfl ?_
  intro p9 e9 s m args below meth c9 s₁ B hml hv
  obtain ⟨rfl, hz, hH, hA⟩ := hv
  have hx := B.exec
  have hb := B.bytes
  have hr := B.returns
  have hts := atoms_spec (ws := wsX7_digits) B.pre
  have hown : s.vm.findClass RX7 = some m.cls := findClass_of_methodNamed B.named
  have hlocks := B.notSynchronized
  have hS : va_S A s.heap s.heap [] := va_S.rf
  have hl := lv_entry ([.ref (τ.1 1), .int (nI p), .int (nI q), .int lo, .int hi]) (n := 7) (Nat.le_of_ble_eq_true rfl)
  rw [lg_entry_eq]
  generalize (lg_sl ([.ref (τ.1 1), .int (nI p), .int (nI q), .int lo, .int hi]) ++ List.replicate (7 - (lg_sl ([.ref (τ.1 1), .int (nI p), .int (nI q), .int lo, .int hi])).length) Slot.unset).toArray = ls at hl ⊢
  have hl : lv_has ls 7 [(0, .ref (τ.1 1)), (1, .int (nI p)), (2, .int (nI q)), (3, .int lo), (4, .int hi)] := hl
  have hiX7 : ∀ w ∈ u_ws RX7 TX7 4, w ∈ wsX7_digits := fun _ h => List.mem_cons_of_mem _ (List.mem_append_right _ h)
  have hw1 := hts (.fieldLink RX7 22 "PostHouse$Tape" "next" "I") (by decide +kernel)
  refine lv_aload_n hx hb dX7_digits_0 rfl (lv_at hl 0 rfl) ?_
  refine lv_bipush (v := nI 48) hx hb dX7_digits_1 (by decide) ?_
  refine lv_bipush (v := nI 57) hx hb dX7_digits_3 (by decide) ?_
  refine va_calli (va_runV (As := [.int (nI 48), .int (nI 57)]) (rest := []) ⟨hx, hb, hml, hown, hts⟩ (t_run l hl0 D A sad τ fi fr ol n a hF hn ha (by omega) (by omega) (nI 48) (nI 57)) (cwV 2 hts gX7_digits_X7_run rfl rfl rfl (by decide +kernel) ⟨Nat.le_of_ble_eq_true rfl, Nat.le_of_ble_eq_true rfl⟩) ⟨zQc_bl, zRecv hH (zk_1 hF) rfl, zQc_at hz hS hA hH⟩ rfl rfl hl.1 rfl (lv_room (Nat.le_of_ble_eq_true rfl)) dX7_digits_5 ⟨Nat.le_of_ble_eq_true rfl, Nat.le_of_ble_eq_true rfl⟩) hS (fun q _ h => h) (fun q h => h) (fun r101 u9 t9 H1 locs ht9 hvm9 hw hB hz1 hk1 hS => ?_)
  have hH := zMv ht9 hvm9 hB
  generalize H1 = H at hH hS ⊢
  obtain ⟨k102, rfl, hrun103⟩ := hw
  have zhrun103 := hrun103.1
  refine lv_istore (lv' := [(5, .int (nI k102)), (0, .ref (τ.1 1)), (1, .int (nI p)), (2, .int (nI q)), (3, .int lo), (4, .int hi)]) hx hb dX7_digits_8 hl (by decide) rfl (fun ls hl => ?_)
  refine lv_iload hx hb dX7_digits_10 (lv_at hl 0 rfl) ?_
  refine lv_iload_n hx hb dX7_digits_12 rfl (lv_at hl 2 rfl) ?_
  refine lv_icmp_lt (tgt := 22) hx hb dX7_digits_13 (by decide) (fun c104 => ?_) (fun c104 => ?_)
  · have zc104 := c104
    replace zc104 := zc_lt (nI_toInt (by omega)) (nI_toInt (by omega)) zc104
    refine lv_iconst (v := (-1)) hx hb dX7_digits_22 (by decide) ?_
    refine lv_goto (tgt := 32) hx hb dX7_digits_23 (by decide) ?_
    refine lv_istore (lv' := [(6, .int ((-1))), (5, .int (nI k102)), (0, .ref (τ.1 1)), (1, .int (nI p)), (2, .int (nI q)), (3, .int lo), (4, .int hi)]) hx hb dX7_digits_32 hl (by decide) rfl (fun ls hl => ?_)
    refine lv_iload hx hb dX7_digits_34 (lv_at hl 0 rfl) ?_
    refine lv_iload_n hx hb dX7_digits_36 rfl (lv_at hl 5 rfl) ?_
    refine lv_icmp_lt (tgt := 47) hx hb dX7_digits_37 (by decide) (fun c105 => ?_) (fun c105 => False.elim (by have zc105 := zc_nlt ((by decide : ((-1) : Int32).toInt = (-1))) (rfl) c105; omega))
    refine lv_aload_n hx hb dX7_digits_47 rfl (lv_at hl 2 rfl) ?_
    refine lv_aload_n hx hb dX7_digits_48 rfl (lv_at hl 2 rfl) ?_
    refine zGetI (D := D) (ci := 7) (C := RX7) (T := TX7) (N := 4) hx hb hts hiX7 hown hH (zk_1 hF) rfl 2 (by decide) rfl hw1 (fun _ h9 => h9) dX7_digits_49 ha ?_
    refine va_callv (va_runV (As := [.int (nI a)]) (rest := []) ⟨hx, hb, hml, hown, hts⟩ (t_refuse l hl0 D A sad τ fi fr ol hF (nI a)) (cwV 1 hts gX7_digits_X7_refuse rfl rfl rfl (by decide +kernel) ⟨Nat.le_of_ble_eq_true rfl, Nat.le_of_ble_eq_true rfl⟩) ⟨zQc_bl, zRecv hH (zk_1 hF) rfl, zQc_at hz hS hA hH⟩ rfl rfl hl.1 rfl (lv_room (Nat.le_of_ble_eq_true rfl)) dX7_digits_52 ⟨Nat.le_of_ble_eq_true rfl, Nat.le_of_ble_eq_true rfl⟩) hS (fun q _ h => h) (fun q h => h) (fun u9 t9 H1 locs ht9 hvm9 hw hB hz1 hk1 hS => ?_)
    have hH := zMv ht9 hvm9 hB
    clear hB
    generalize u9 = f107 at hw hH
    generalize H1 = H at hH hS ⊢
    have hr108 := hw
    clear hw
    refine lv_iconst (v := (-1)) hx hb dX7_digits_55 (by decide) ?_
    refine W.widen (k := 0) (n := 0) (by decide) (by decide) ?_
    exact W.iret (v := (-1)) hx hb hr (fun t9 ht9 hW9 => ⟨⟨(-1), f107, rfl, ⟨k102, hrun103, Or.inr ⟨fun h9 => by have h91 := h9.1; have h92 := h9.2.1; have h93 := h9.2.2.1; have h94 := h9.2.2.2; omega, rfl, hr108⟩⟩, zEnd1 hH ht9 hW9⟩, hS.F ht9⟩) hS.2.2 dX7_digits_56
  · have zc104 := c104
    replace zc104 := zc_nlt (nI_toInt (by omega)) (nI_toInt (by omega)) zc104
    refine lv_iload hx hb dX7_digits_16 (lv_at hl 0 rfl) ?_
    refine lv_iload_n hx hb dX7_digits_18 rfl (lv_at hl 3 rfl) ?_
    refine lv_icmp_le (tgt := 26) hx hb dX7_digits_19 (by decide) (fun c109 => ?_) (fun c109 => ?_)
    · have zc109 := c109
      replace zc109 := zc_le (nI_toInt (by omega)) (nI_toInt (by omega)) zc109
      refine lv_aload_n hx hb dX7_digits_26 rfl (lv_at hl 1 rfl) ?_
      refine lv_iload hx hb dX7_digits_27 (lv_at hl 0 rfl) ?_
      refine va_calli (va_runV (As := [.int (nI k102)]) (rest := []) ⟨hx, hb, hml, hown, hts⟩ (t_value l hl0 D A sad τ fi fr ol n a hF hn ha (by omega) (by omega) k102 (by omega)) (cwV 1 hts gX7_digits_X7_value rfl rfl rfl (by decide +kernel) ⟨Nat.le_of_ble_eq_true rfl, Nat.le_of_ble_eq_true rfl⟩) ⟨zQc_bl, zRecv hH (zk_1 hF) rfl, zQc_at hz hS hA hH⟩ rfl rfl hl.1 rfl (lv_room (Nat.le_of_ble_eq_true rfl)) dX7_digits_29 ⟨Nat.le_of_ble_eq_true rfl, Nat.le_of_ble_eq_true rfl⟩) hS (fun q _ h => h) (fun q h => h) (fun r110 u9 t9 H1 locs ht9 hvm9 hw hB hz1 hk1 hS => ?_)
      have hH := zMv ht9 hvm9 hB
      generalize H1 = H at hH hS ⊢
      obtain rfl : r110 = zDig (fi 2) a k102 := hw
      refine lv_istore (lv' := [(6, .int (zDig (fi 2) a k102)), (5, .int (nI k102)), (0, .ref (τ.1 1)), (1, .int (nI p)), (2, .int (nI q)), (3, .int lo), (4, .int hi)]) hx hb dX7_digits_32 hl (by decide) rfl (fun ls hl => ?_)
      refine lv_iload hx hb dX7_digits_34 (lv_at hl 0 rfl) ?_
      refine lv_iload_n hx hb dX7_digits_36 rfl (lv_at hl 5 rfl) ?_
      refine lv_icmp_lt (tgt := 47) hx hb dX7_digits_37 (by decide) (fun c111 => ?_) (fun c111 => ?_)
      · have zc111 := c111
        replace zc111 := zc_lt (rfl) (rfl) zc111
        refine lv_aload_n hx hb dX7_digits_47 rfl (lv_at hl 2 rfl) ?_
        refine lv_aload_n hx hb dX7_digits_48 rfl (lv_at hl 2 rfl) ?_
        refine zGetI (D := D) (ci := 7) (C := RX7) (T := TX7) (N := 4) hx hb hts hiX7 hown hH (zk_1 hF) rfl 2 (by decide) rfl hw1 (fun _ h9 => h9) dX7_digits_49 ha ?_
        refine va_callv (va_runV (As := [.int (nI a)]) (rest := []) ⟨hx, hb, hml, hown, hts⟩ (t_refuse l hl0 D A sad τ fi fr ol hF (nI a)) (cwV 1 hts gX7_digits_X7_refuse rfl rfl rfl (by decide +kernel) ⟨Nat.le_of_ble_eq_true rfl, Nat.le_of_ble_eq_true rfl⟩) ⟨zQc_bl, zRecv hH (zk_1 hF) rfl, zQc_at hz hS hA hH⟩ rfl rfl hl.1 rfl (lv_room (Nat.le_of_ble_eq_true rfl)) dX7_digits_52 ⟨Nat.le_of_ble_eq_true rfl, Nat.le_of_ble_eq_true rfl⟩) hS (fun q _ h => h) (fun q h => h) (fun u9 t9 H1 locs ht9 hvm9 hw hB hz1 hk1 hS => ?_)
        have hH := zMv ht9 hvm9 hB
        clear hB
        generalize u9 = f113 at hw hH
        generalize H1 = H at hH hS ⊢
        have hr114 := hw
        clear hw
        refine lv_iconst (v := (-1)) hx hb dX7_digits_55 (by decide) ?_
        refine W.widen (k := 0) (n := 0) (by decide) (by decide) ?_
        exact W.iret (v := (-1)) hx hb hr (fun t9 ht9 hW9 => ⟨⟨(-1), f113, rfl, ⟨k102, hrun103, Or.inr ⟨fun h9 => by have h91 := h9.1; have h92 := h9.2.1; have h93 := h9.2.2.1; have h94 := h9.2.2.2; omega, rfl, hr114⟩⟩, zEnd1 hH ht9 hW9⟩, hS.F ht9⟩) hS.2.2 dX7_digits_56
      · have zc111 := c111
        replace zc111 := zc_nlt (rfl) (rfl) zc111
        refine lv_iload hx hb dX7_digits_40 (lv_at hl 0 rfl) ?_
        refine lv_iload hx hb dX7_digits_42 (lv_at hl 6 rfl) ?_
        refine lv_icmp_le (tgt := 57) hx hb dX7_digits_44 (by decide) (fun c115 => ?_) (fun c115 => ?_)
        · have zc115 := c115
          replace zc115 := zc_le (rfl) (rfl) zc115
          refine lv_aload_n hx hb dX7_digits_57 rfl (lv_at hl 2 rfl) ?_
          refine lv_iload hx hb dX7_digits_58 (lv_at hl 1 rfl) ?_
          refine va_callv (va_runV (As := [.int (nI k102)]) (rest := []) ⟨hx, hb, hml, hown, hts⟩ (t_skip l hl0 D A sad τ fi fr ol n a hF hn ha (by omega) (by omega) k102 (by omega)) (cwV 1 hts gX7_digits_X7_skip rfl rfl rfl (by decide +kernel) ⟨Nat.le_of_ble_eq_true rfl, Nat.le_of_ble_eq_true rfl⟩) ⟨zQc_bl, zRecv hH (zk_1 hF) rfl, zQc_at hz hS hA hH⟩ rfl rfl hl.1 rfl (lv_room (Nat.le_of_ble_eq_true rfl)) dX7_digits_60 ⟨Nat.le_of_ble_eq_true rfl, Nat.le_of_ble_eq_true rfl⟩) hS (fun q _ h => h) (fun q h => h) (fun u9 t9 H1 locs ht9 hvm9 hw hB hz1 hk1 hS => ?_)
          have hH := zMv ht9 hvm9 hB
          clear hB
          generalize u9 = f117 at hw hH
          generalize H1 = H at hH hS ⊢
          obtain ⟨b118, ef117, hs119⟩ := hw
          have zhs119 := hs119.1
          have yhs119 := hs119.2.1
          have q120 : f117 1 1 = nI n := by rw [ef117, zu_n (fun h9 => absurd h9.2 (by decide))]; exact hn
          have q121 : f117 1 2 = nI b118 := by rw [ef117]; exact zu_s
          refine lv_iload hx hb dX7_digits_63 (lv_at hl 0 rfl) ?_
          refine W.widen (k := 0) (n := 0) (by decide) (by decide) ?_
          exact W.iret (v := zDig (fi 2) a k102) hx hb hr (fun t9 ht9 hW9 => ⟨⟨zDig (fi 2) a k102, f117, rfl, ⟨k102, hrun103, Or.inl ⟨⟨by omega, by omega, by omega, by omega⟩, rfl, b118, ef117, hs119⟩⟩, zEnd1 hH ht9 hW9⟩, hS.F ht9⟩) hS.2.2 dX7_digits_65
        · have zc115 := c115
          replace zc115 := zc_nle (rfl) (rfl) zc115
          refine lv_aload_n hx hb dX7_digits_47 rfl (lv_at hl 2 rfl) ?_
          refine lv_aload_n hx hb dX7_digits_48 rfl (lv_at hl 2 rfl) ?_
          refine zGetI (D := D) (ci := 7) (C := RX7) (T := TX7) (N := 4) hx hb hts hiX7 hown hH (zk_1 hF) rfl 2 (by decide) rfl hw1 (fun _ h9 => h9) dX7_digits_49 ha ?_
          refine va_callv (va_runV (As := [.int (nI a)]) (rest := []) ⟨hx, hb, hml, hown, hts⟩ (t_refuse l hl0 D A sad τ fi fr ol hF (nI a)) (cwV 1 hts gX7_digits_X7_refuse rfl rfl rfl (by decide +kernel) ⟨Nat.le_of_ble_eq_true rfl, Nat.le_of_ble_eq_true rfl⟩) ⟨zQc_bl, zRecv hH (zk_1 hF) rfl, zQc_at hz hS hA hH⟩ rfl rfl hl.1 rfl (lv_room (Nat.le_of_ble_eq_true rfl)) dX7_digits_52 ⟨Nat.le_of_ble_eq_true rfl, Nat.le_of_ble_eq_true rfl⟩) hS (fun q _ h => h) (fun q h => h) (fun u9 t9 H1 locs ht9 hvm9 hw hB hz1 hk1 hS => ?_)
          have hH := zMv ht9 hvm9 hB
          clear hB
          generalize u9 = f123 at hw hH
          generalize H1 = H at hH hS ⊢
          have hr124 := hw
          clear hw
          refine lv_iconst (v := (-1)) hx hb dX7_digits_55 (by decide) ?_
          refine W.widen (k := 0) (n := 0) (by decide) (by decide) ?_
          exact W.iret (v := (-1)) hx hb hr (fun t9 ht9 hW9 => ⟨⟨(-1), f123, rfl, ⟨k102, hrun103, Or.inr ⟨fun h9 => by have h91 := h9.1; have h92 := h9.2.1; have h93 := h9.2.2.1; have h94 := h9.2.2.2; omega, rfl, hr124⟩⟩, zEnd1 hH ht9 hW9⟩, hS.F ht9⟩) hS.2.2 dX7_digits_56
    · have zc109 := c109
      replace zc109 := zc_nle (nI_toInt (by omega)) (nI_toInt (by omega)) zc109
      refine lv_iconst (v := (-1)) hx hb dX7_digits_22 (by decide) ?_
      refine lv_goto (tgt := 32) hx hb dX7_digits_23 (by decide) ?_
      refine lv_istore (lv' := [(6, .int ((-1))), (5, .int (nI k102)), (0, .ref (τ.1 1)), (1, .int (nI p)), (2, .int (nI q)), (3, .int lo), (4, .int hi)]) hx hb dX7_digits_32 hl (by decide) rfl (fun ls hl => ?_)
      refine lv_iload hx hb dX7_digits_34 (lv_at hl 0 rfl) ?_
      refine lv_iload_n hx hb dX7_digits_36 rfl (lv_at hl 5 rfl) ?_
      refine lv_icmp_lt (tgt := 47) hx hb dX7_digits_37 (by decide) (fun c125 => ?_) (fun c125 => False.elim (by have zc125 := zc_nlt ((by decide : ((-1) : Int32).toInt = (-1))) (rfl) c125; omega))
      refine lv_aload_n hx hb dX7_digits_47 rfl (lv_at hl 2 rfl) ?_
      refine lv_aload_n hx hb dX7_digits_48 rfl (lv_at hl 2 rfl) ?_
      refine zGetI (D := D) (ci := 7) (C := RX7) (T := TX7) (N := 4) hx hb hts hiX7 hown hH (zk_1 hF) rfl 2 (by decide) rfl hw1 (fun _ h9 => h9) dX7_digits_49 ha ?_
      refine va_callv (va_runV (As := [.int (nI a)]) (rest := []) ⟨hx, hb, hml, hown, hts⟩ (t_refuse l hl0 D A sad τ fi fr ol hF (nI a)) (cwV 1 hts gX7_digits_X7_refuse rfl rfl rfl (by decide +kernel) ⟨Nat.le_of_ble_eq_true rfl, Nat.le_of_ble_eq_true rfl⟩) ⟨zQc_bl, zRecv hH (zk_1 hF) rfl, zQc_at hz hS hA hH⟩ rfl rfl hl.1 rfl (lv_room (Nat.le_of_ble_eq_true rfl)) dX7_digits_52 ⟨Nat.le_of_ble_eq_true rfl, Nat.le_of_ble_eq_true rfl⟩) hS (fun q _ h => h) (fun q h => h) (fun u9 t9 H1 locs ht9 hvm9 hw hB hz1 hk1 hS => ?_)
      have hH := zMv ht9 hvm9 hB
      clear hB
      generalize u9 = f127 at hw hH
      generalize H1 = H at hH hS ⊢
      have hr128 := hw
      clear hw
      refine lv_iconst (v := (-1)) hx hb dX7_digits_55 (by decide) ?_
      refine W.widen (k := 0) (n := 0) (by decide) (by decide) ?_
      exact W.iret (v := (-1)) hx hb hr (fun t9 ht9 hW9 => ⟨⟨(-1), f127, rfl, ⟨k102, hrun103, Or.inr ⟨fun h9 => by have h91 := h9.1; have h92 := h9.2.1; have h93 := h9.2.2.1; have h94 := h9.2.2.2; omega, rfl, hr128⟩⟩, zEnd1 hH ht9 hW9⟩, hS.F ht9⟩) hS.2.2 dX7_digits_56
set_option maxHeartbeats 4000000 in
set_option maxRecDepth 100000 in
/-- Tape.code -/
theorem t_code (l : Launch) (hl0 : l.stackTraces = false) (D : va_G) (A : Nat → Prop) (sad : Nat → Nat) (τ : zTy) (fi : zFi) (fr : zFr) (ol : Int64) (n a : Nat) (hF : zFix τ fr) (hn : fi 1 1 = nI n) (ha : fi 1 2 = nI a) (hn4 : n ≤ 400) (han : a ≤ n) : Met l yX7_code wsX7_code ({ frames := 2, cells := 0, slots := 0, locals := 49 }) (va_Pc [.ref (τ.1 1)] (zQc D A sad τ fi fr ol)) (va_Qi (fun (r : Int32) (u : zFi) => ∃ k, zRun (fi 2) 48 57 a n k ∧ (((4 ≤ k ∧ k ≤ 4 ∧ (nI 0 : Int32).toInt ≤ (zDig (fi 2) a k).toInt ∧ (zDig (fi 2) a k).toInt ≤ (nI 9999 : Int32).toInt) ∧ r = zDig (fi 2) a k ∧ ∃ b, u = zu fi 1 2 (nI b) ∧ zSkip (fi 2) (a + k) n b) ∨ (¬ (4 ≤ k ∧ k ≤ 4 ∧ (nI 0 : Int32).toInt ≤ (zDig (fi 2) a k).toInt ∧ (zDig (fi 2) a k).toInt ≤ (nI 9999 : Int32).toInt) ∧ r = -1 ∧ zRef fi (nI a) u))) (fun (u : zFi) (t : State) => zH D A τ u fr ol t t.heap) A) 0 0 A := by
  refine Met.ofW (cc := cX7_code) (maxL := 1) (ret := (some .int)) (by decide) rfl ?_
  intro p9 e9 s m args below meth c9 s₁ B hml hv
  obtain ⟨rfl, hz, hH, hA⟩ := hv
  have hx := B.exec
  have hb := B.bytes
  have hr := B.returns
  have hts := atoms_spec (ws := wsX7_code) B.pre
  have hown : s.vm.findClass RX7 = some m.cls := findClass_of_methodNamed B.named
  have hlocks := B.notSynchronized
  have hS : va_S A s.heap s.heap [] := va_S.rf
  have hl := lv_entry ([.ref (τ.1 1)]) (n := 1) (Nat.le_of_ble_eq_true rfl)
  rw [lg_entry_eq]
  generalize (lg_sl ([.ref (τ.1 1)]) ++ List.replicate (1 - (lg_sl ([.ref (τ.1 1)])).length) Slot.unset).toArray = ls at hl ⊢
  have hl : lv_has ls 1 [(0, .ref (τ.1 1))] := hl
  refine lv_aload_n hx hb dX7_code_0 rfl (lv_at hl 0 rfl) ?_
  refine lv_iconst (v := nI 4) hx hb dX7_code_1 (by decide) ?_
  refine lv_iconst (v := nI 4) hx hb dX7_code_2 (by decide) ?_
  refine lv_iconst (v := nI 0) hx hb dX7_code_3 (by decide) ?_
  refine lv_sipush (v := nI 9999) hx hb dX7_code_4 (by decide) ?_
  refine va_calli (va_runV (As := [.int (nI 4), .int (nI 4), .int (nI 0), .int (nI 9999)]) (rest := []) ⟨hx, hb, hml, hown, hts⟩ (t_digits l hl0 D A sad τ fi fr ol n a hF hn ha (by omega) (by omega) 4 4 (by omega) (by omega) (nI 0) (nI 9999) (by decide)) (cwV 4 hts gX7_code_X7_digits rfl rfl rfl (by decide +kernel) ⟨Nat.le_of_ble_eq_true rfl, Nat.le_of_ble_eq_true rfl⟩) ⟨zQc_bl, zRecv hH (zk_1 hF) rfl, zQc_at hz hS hA hH⟩ rfl rfl hl.1 rfl (lv_room (Nat.le_of_ble_eq_true rfl)) dX7_code_7 ⟨Nat.le_of_ble_eq_true rfl, Nat.le_of_ble_eq_true rfl⟩) hS (fun q _ h => h) (fun q h => h) (fun r101 u9 t9 H1 locs ht9 hvm9 hw hB hz1 hk1 hS => ?_)
  have hH := zMv ht9 hvm9 hB
  clear hB
  generalize u9 = f102 at hw hH
  generalize H1 = H at hH hS ⊢
  have hdg := hw
  refine W.widen (k := 0) (n := 0) (by decide) (by decide) ?_
  exact W.iret (v := r101) hx hb hr (fun t9 ht9 hW9 => ⟨⟨r101, f102, rfl, hdg, zEnd1 hH ht9 hW9⟩, hS.F ht9⟩) hS.2.2 dX7_code_10
set_option maxHeartbeats 4000000 in
set_option maxRecDepth 100000 in
/-- Tape.number -/
theorem t_number (l : Launch) (hl0 : l.stackTraces = false) (D : va_G) (A : Nat → Prop) (sad : Nat → Nat) (τ : zTy) (fi : zFi) (fr : zFr) (ol : Int64) (n a : Nat) (hF : zFix τ fr) (hn : fi 1 1 = nI n) (ha : fi 1 2 = nI a) (hn4 : n ≤ 400) (han : a ≤ n) (lo hi : Int32) (hlo : 0 ≤ lo.toInt) : Met l yX7_number wsX7_number ({ frames := 2, cells := 0, slots := 0, locals := 49 }) (va_Pc [.ref (τ.1 1), .int lo, .int hi] (zQc D A sad τ fi fr ol)) (va_Qi (fun (r : Int32) (u : zFi) => ∃ k, zRun (fi 2) 48 57 a n k ∧ (((1 ≤ k ∧ k ≤ 6 ∧ (lo : Int32).toInt ≤ (zDig (fi 2) a k).toInt ∧ (zDig (fi 2) a k).toInt ≤ (hi : Int32).toInt) ∧ r = zDig (fi 2) a k ∧ ∃ b, u = zu fi 1 2 (nI b) ∧ zSkip (fi 2) (a + k) n b) ∨ (¬ (1 ≤ k ∧ k ≤ 6 ∧ (lo : Int32).toInt ≤ (zDig (fi 2) a k).toInt ∧ (zDig (fi 2) a k).toInt ≤ (hi : Int32).toInt) ∧ r = -1 ∧ zRef fi (nI a) u))) (fun (u : zFi) (t : State) => zH D A τ u fr ol t t.heap) A) 0 0 A := by
  refine Met.ofW (cc := cX7_number) (maxL := 3) (ret := (some .int)) (by decide) rfl ?_
  intro p9 e9 s m args below meth c9 s₁ B hml hv
  obtain ⟨rfl, hz, hH, hA⟩ := hv
  have hx := B.exec
  have hb := B.bytes
  have hr := B.returns
  have hts := atoms_spec (ws := wsX7_number) B.pre
  have hown : s.vm.findClass RX7 = some m.cls := findClass_of_methodNamed B.named
  have hlocks := B.notSynchronized
  have hS : va_S A s.heap s.heap [] := va_S.rf
  have hl := lv_entry ([.ref (τ.1 1), .int lo, .int hi]) (n := 3) (Nat.le_of_ble_eq_true rfl)
  rw [lg_entry_eq]
  generalize (lg_sl ([.ref (τ.1 1), .int lo, .int hi]) ++ List.replicate (3 - (lg_sl ([.ref (τ.1 1), .int lo, .int hi])).length) Slot.unset).toArray = ls at hl ⊢
  have hl : lv_has ls 3 [(0, .ref (τ.1 1)), (1, .int lo), (2, .int hi)] := hl
  refine lv_aload_n hx hb dX7_number_0 rfl (lv_at hl 0 rfl) ?_
  refine lv_iconst (v := nI 1) hx hb dX7_number_1 (by decide) ?_
  refine lv_bipush (v := nI 6) hx hb dX7_number_2 (by decide) ?_
  refine lv_iload_n hx hb dX7_number_4 rfl (lv_at hl 1 rfl) ?_
  refine lv_iload_n hx hb dX7_number_5 rfl (lv_at hl 2 rfl) ?_
  refine va_calli (va_runV (As := [.int (nI 1), .int (nI 6), .int lo, .int hi]) (rest := []) ⟨hx, hb, hml, hown, hts⟩ (t_digits l hl0 D A sad τ fi fr ol n a hF hn ha (by omega) (by omega) 1 6 (by omega) (by omega) lo hi hlo) (cwV 4 hts gX7_number_X7_digits rfl rfl rfl (by decide +kernel) ⟨Nat.le_of_ble_eq_true rfl, Nat.le_of_ble_eq_true rfl⟩) ⟨zQc_bl, zRecv hH (zk_1 hF) rfl, zQc_at hz hS hA hH⟩ rfl rfl hl.1 rfl (lv_room (Nat.le_of_ble_eq_true rfl)) dX7_number_6 ⟨Nat.le_of_ble_eq_true rfl, Nat.le_of_ble_eq_true rfl⟩) hS (fun q _ h => h) (fun q h => h) (fun r101 u9 t9 H1 locs ht9 hvm9 hw hB hz1 hk1 hS => ?_)
  have hH := zMv ht9 hvm9 hB
  clear hB
  generalize u9 = f102 at hw hH
  generalize H1 = H at hH hS ⊢
  have hdg := hw
  refine W.widen (k := 0) (n := 0) (by decide) (by decide) ?_
  exact W.iret (v := r101) hx hb hr (fun t9 ht9 hW9 => ⟨⟨r101, f102, rfl, hdg, zEnd1 hH ht9 hW9⟩, hS.F ht9⟩) hS.2.2 dX7_number_9
set_option maxHeartbeats 4000000 in
set_option maxRecDepth 100000 in
/-- Tape.hasRoom -/
theorem t_hasRoom (l : Launch) (hl0 : l.stackTraces = false) (D : va_G) (A : Nat → Prop) (sad : Nat → Nat) (τ : zTy) (fi : zFi) (fr : zFr) (ol : Int64) (n : Nat) (hF : zFix τ fr) (hn : fi 1 1 = nI n) (hn4 : n ≤ 400) : Met l yX7_hasRoom wsX7_hasRoom ({ frames := 0, cells := 0, slots := 0, locals := 0 }) (va_Pc [.ref (τ.1 1)] (zQc D A sad τ fi fr ol)) (va_Qi (fun (r : Int32) (u : Unit) => (r = 1 ∧ n + 20 ≤ 400) ∨ (r = 0 ∧ 400 < n + 20)) (fun (u : Unit) (t : State) => zH D A τ fi fr ol t t.heap) A) 0 0 A := by
  refine Met.ofW (cc := cX7_hasRoom) (maxL := 1) (ret := (some .boolean)) (by decide) rfl ?_
  intro p9 e9 s m args below meth c9 s₁ B hml hv
  obtain ⟨rfl, hz, hH, hA⟩ := hv
  have hx := B.exec
  have hb := B.bytes
  have hr := B.returns
  have hts := atoms_spec (ws := wsX7_hasRoom) B.pre
  have hown : s.vm.findClass RX7 = some m.cls := findClass_of_methodNamed B.named
  have hlocks := B.notSynchronized
  have hS : va_S A s.heap s.heap [] := va_S.rf
  have hl := lv_entry ([.ref (τ.1 1)]) (n := 1) (Nat.le_of_ble_eq_true rfl)
  rw [lg_entry_eq]
  generalize (lg_sl ([.ref (τ.1 1)]) ++ List.replicate (1 - (lg_sl ([.ref (τ.1 1)])).length) Slot.unset).toArray = ls at hl ⊢
  have hl : lv_has ls 1 [(0, .ref (τ.1 1))] := hl
  have hiX7 : ∀ w ∈ u_ws RX7 TX7 4, w ∈ wsX7_hasRoom := fun _ h => List.mem_cons_of_mem _ (List.mem_append_right _ h)
  have hw1 := hts (.fieldLink RX7 19 "PostHouse$Tape" "length" "I") (by decide +kernel)
  refine lv_aload_n hx hb dX7_hasRoom_0 rfl (lv_at hl 0 rfl) ?_
  refine zGetI (D := D) (ci := 7) (C := RX7) (T := TX7) (N := 4) hx hb hts hiX7 hown hH (zk_1 hF) rfl 1 (by decide) rfl hw1 (fun _ h9 => h9) dX7_hasRoom_1 hn ?_
  refine lv_bipush (v := nI 20) hx hb dX7_hasRoom_4 (by decide) ?_
  refine lv_iadd hx hb dX7_hasRoom_6 ?_
  refine lv_topi (fun v101 ev101 => ?_)
  obtain rfl : v101 = nI (n + 20) := ev101.trans (nI_add _ _)
  refine lv_sipush (v := nI 400) hx hb dX7_hasRoom_7 (by decide) ?_
  refine lv_icmp_gt (tgt := 17) hx hb dX7_hasRoom_10 (by decide) (fun c102 => ?_) (fun c102 => ?_)
  · have zc102 := c102
    replace zc102 := zc_lt (nI_toInt (by omega)) (nI_toInt (by omega)) zc102
    refine lv_iconst (v := nI 0) hx hb dX7_hasRoom_17 (by decide) ?_
    refine W.widen (k := 0) (n := 0) (by decide) (by decide) ?_
    exact W.zret (v := nI 0) hx hb hr (by decide) (fun t9 ht9 hW9 => ⟨⟨nI 0, (), rfl, Or.inr ⟨rfl, by omega⟩, zEnd1 hH ht9 hW9⟩, hS.F ht9⟩) hS.2.2 dX7_hasRoom_18
  · have zc102 := c102
    replace zc102 := zc_nlt (nI_toInt (by omega)) (nI_toInt (by omega)) zc102
    refine lv_iconst (v := nI 1) hx hb dX7_hasRoom_13 (by decide) ?_
    refine lv_goto (tgt := 18) hx hb dX7_hasRoom_14 (by decide) ?_
    refine W.widen (k := 0) (n := 0) (by decide) (by decide) ?_
    exact W.zret (v := nI 1) hx hb hr (by decide) (fun t9 ht9 hW9 => ⟨⟨nI 1, (), rfl, Or.inl ⟨rfl, by omega⟩, zEnd1 hH ht9 hW9⟩, hS.F ht9⟩) hS.2.2 dX7_hasRoom_18
def zB8 (x k : Int32) : Int32 := (x >>> (k &&& 31)).toInt8.toInt32
set_option maxHeartbeats 4000000 in
set_option maxRecDepth 100000 in
/-- Tape.put -/
theorem t_put (l : Launch) (hl0 : l.stackTraces = false) (D : va_G) (A : Nat → Prop) (sad : Nat → Nat) (τ : zTy) (fi : zFi) (fr : zFr) (ol : Int64) (n : Nat) (hF : zFix τ fr) (hn : fi 1 1 = nI n) (hn4 : n + 4 ≤ 400) (x : Int32) : Met l yX7_put wsX7_put ({ frames := 0, cells := 0, slots := 0, locals := 0 }) (va_Pc [.ref (τ.1 1), .int x] (zQc D A sad τ fi fr ol)) (va_Qv (fun (u : zFi) => u 1 1 = nI (n + 4) ∧ (∀ i, i ≠ 1 → i ≠ 2 → u i = fi i) ∧ (∀ b, b ≠ 1 → u 1 b = fi 1 b) ∧ (∀ b, b < n → u 2 b = fi 2 b) ∧ u 2 n = zB8 x 24 ∧ u 2 (n + 1) = zB8 x 16 ∧ u 2 (n + 2) = zB8 x 8 ∧ u 2 (n + 3) = zB8 x 0) (fun (u : zFi) (t : State) => zH D A τ u fr ol t t.heap) A) 0 0 A := by
  refine Met.ofW (cc := cX7_put) (maxL := 3) (ret := none) (by decide) rfl ?_
  intro p9 e9 s m args below meth c9 s₁ B hml hv
  obtain ⟨rfl, hz, hH, hA⟩ := hv
  have hx := B.exec
  have hb := B.bytes
  have hr := B.returns
  have hts := atoms_spec (ws := wsX7_put) B.pre
  have hown : s.vm.findClass RX7 = some m.cls := findClass_of_methodNamed B.named
  have hlocks := B.notSynchronized
  have hS : va_S A s.heap s.heap [] := va_S.rf
  have hl := lv_entry ([.ref (τ.1 1), .int x]) (n := 3) (Nat.le_of_ble_eq_true rfl)
  rw [lg_entry_eq]
  generalize (lg_sl ([.ref (τ.1 1), .int x]) ++ List.replicate (3 - (lg_sl ([.ref (τ.1 1), .int x])).length) Slot.unset).toArray = ls at hl ⊢
  have hl : lv_has ls 3 [(0, .ref (τ.1 1)), (1, .int x)] := hl
  have hiX7 : ∀ w ∈ u_ws RX7 TX7 4, w ∈ wsX7_put := fun _ h => List.mem_cons_of_mem _ (List.mem_append_right _ h)
  have hw1 := hts (.fieldLink RX7 19 "PostHouse$Tape" "length" "I") (by decide +kernel)
  have hw2 := hts (.fieldLink RX7 11 "PostHouse$Tape" "bytes" "[B") (by decide +kernel)
  refine lv_bipush (v := nI 24) hx hb dX7_put_0 (by decide) ?_
  refine lv_istore_n (lv' := [(2, .int (nI 24)), (0, .ref (τ.1 1)), (1, .int x)]) hx hb dX7_put_2 rfl hl (by decide) rfl (fun ls hl => ?_)
  refine lv_iload_n hx hb dX7_put_3 rfl (lv_at hl 0 rfl) ?_
  refine lv_if_lt (tgt := 46) hx hb dX7_put_4 (by decide) (fun c101 => absurd c101 (by decide)) (fun c101 => ?_)
  refine lv_aload_n hx hb dX7_put_7 rfl (lv_at hl 1 rfl) ?_
  refine zGetI (D := D) (ci := 7) (C := RX7) (T := TX7) (N := 4) hx hb hts hiX7 hown hH (zk_1 hF) rfl 1 (by decide) rfl hw1 (fun _ h9 => h9) dX7_put_8 hn ?_
  refine lv_sipush (v := nI 400) hx hb dX7_put_11 (by decide) ?_
  refine lv_icmp_ge (tgt := 46) hx hb dX7_put_14 (by decide) (fun c102 => False.elim (by have zc102 := zc_le (nI_toInt (by omega)) (nI_toInt (by omega)) c102; omega)) (fun c102 => ?_)
  refine lv_aload_n hx hb dX7_put_17 rfl (lv_at hl 1 rfl) ?_
  refine zGetR (D := D) (ci := 7) (C := RX7) (T := TX7) (N := 4) hx hb hts hiX7 hown hH (zk_1 hF) rfl 0 (by decide) rfl hw2 (fun _ h9 => h9) dX7_put_18 (zr_1_0 hF) ?_
  refine lv_aload_n hx hb dX7_put_21 rfl (lv_at hl 1 rfl) ?_
  refine zGetI (D := D) (ci := 7) (C := RX7) (T := TX7) (N := 4) hx hb hts hiX7 hown hH (zk_1 hF) rfl 1 (by decide) rfl hw1 (fun _ h9 => h9) dX7_put_22 hn ?_
  refine lv_iload_n hx hb dX7_put_25 rfl (lv_at hl 2 rfl) ?_
  refine lv_iload_n hx hb dX7_put_26 rfl (lv_at hl 0 rfl) ?_
  refine lv_ishr hx hb dX7_put_27 ?_
  refine lv_topi (fun v103 ev103 => ?_)
  refine lv_i2b hx hb dX7_put_28 rfl ?_
  refine lv_topi (fun v104 ev104 => ?_)
  refine zBastN (D := D) hx hb hH hS (zk_2 hF) (zn_2 hF) (by omega) (by omega) dX7_put_29 (fun H locs hH hS => ?_)
  obtain ⟨f105, ef105⟩ : ∃ f9 : zFi, f9 = zu fi 2 n (vp_nar .byte v104) := ⟨_, rfl⟩
  rw [← ef105] at hH
  have q106 : f105 1 1 = nI n := by rw [ef105, zu_n (fun h9 => absurd h9.1 (by decide))]; exact hn
  have q107 : f105 2 n = (vp_nar .byte v104) := by rw [ef105]; exact zu_s
  refine lv_aload_n hx hb dX7_put_30 rfl (lv_at hl 1 rfl) ?_
  refine lv_dup hx hb dX7_put_31 rfl ?_
  refine zGetI (D := D) (ci := 7) (C := RX7) (T := TX7) (N := 4) hx hb hts hiX7 hown hH (zk_1 hF) rfl 1 (by decide) rfl hw1 (fun _ h9 => h9) dX7_put_32 q106 ?_
  refine lv_iconst (v := nI 1) hx hb dX7_put_35 (by decide) ?_
  refine lv_iadd hx hb dX7_put_36 ?_
  refine lv_topi (fun v108 ev108 => ?_)
  obtain rfl : v108 = nI (n + 1) := ev108.trans (nI_add _ _)
  refine zPutI (D := D) (ci := 7) (ty := .int) (C := RX7) (T := TX7) (N := 4) hx hb hts hiX7 tyX7 tyX7_ok nmX7 hown hH hS (zk_1 hF) rfl 1 (by decide) rfl hw1 (fun _ h9 => h9) rfl (by decide +kernel) rfl rfl dX7_put_37 (fun H locs hH hS => ?_)
  obtain ⟨f109, ef109⟩ : ∃ f9 : zFi, f9 = zu f105 1 1 (nI (n + 1)) := ⟨_, rfl⟩
  rw [← ef109] at hH
  have q110 : f109 2 n = (vp_nar .byte v104) := by rw [ef109, zu_n (fun h9 => absurd h9.1 (by decide))]; exact q107
  have q111 : f109 1 1 = nI (n + 1) := by rw [ef109]; exact zu_s
  refine lv_iinc (v := nI 16) (lv' := [(2, .int (nI 16)), (0, .ref (τ.1 1)), (1, .int x)]) hx hb dX7_put_40 hl (k := 0) rfl (by decide) (by decide) rfl (fun ls hl => ?_)
  refine lv_goto (tgt := 3) hx hb dX7_put_43 (by decide) ?_
  refine lv_iload_n hx hb dX7_put_3 rfl (lv_at hl 0 rfl) ?_
  refine lv_if_lt (tgt := 46) hx hb dX7_put_4 (by decide) (fun c112 => absurd c112 (by decide)) (fun c112 => ?_)
  refine lv_aload_n hx hb dX7_put_7 rfl (lv_at hl 1 rfl) ?_
  refine zGetI (D := D) (ci := 7) (C := RX7) (T := TX7) (N := 4) hx hb hts hiX7 hown hH (zk_1 hF) rfl 1 (by decide) rfl hw1 (fun _ h9 => h9) dX7_put_8 q111 ?_
  refine lv_sipush (v := nI 400) hx hb dX7_put_11 (by decide) ?_
  refine lv_icmp_ge (tgt := 46) hx hb dX7_put_14 (by decide) (fun c113 => False.elim (by have zc113 := zc_le (nI_toInt (by omega)) (nI_toInt (by omega)) c113; omega)) (fun c113 => ?_)
  refine lv_aload_n hx hb dX7_put_17 rfl (lv_at hl 1 rfl) ?_
  refine zGetR (D := D) (ci := 7) (C := RX7) (T := TX7) (N := 4) hx hb hts hiX7 hown hH (zk_1 hF) rfl 0 (by decide) rfl hw2 (fun _ h9 => h9) dX7_put_18 (zr_1_0 hF) ?_
  refine lv_aload_n hx hb dX7_put_21 rfl (lv_at hl 1 rfl) ?_
  refine zGetI (D := D) (ci := 7) (C := RX7) (T := TX7) (N := 4) hx hb hts hiX7 hown hH (zk_1 hF) rfl 1 (by decide) rfl hw1 (fun _ h9 => h9) dX7_put_22 q111 ?_
  refine lv_iload_n hx hb dX7_put_25 rfl (lv_at hl 2 rfl) ?_
  refine lv_iload_n hx hb dX7_put_26 rfl (lv_at hl 0 rfl) ?_
  refine lv_ishr hx hb dX7_put_27 ?_
  refine lv_topi (fun v114 ev114 => ?_)
  refine lv_i2b hx hb dX7_put_28 rfl ?_
  refine lv_topi (fun v115 ev115 => ?_)
  refine zBastN (D := D) hx hb hH hS (zk_2 hF) (zn_2 hF) (by omega) (by omega) dX7_put_29 (fun H locs hH hS => ?_)
  obtain ⟨f116, ef116⟩ : ∃ f9 : zFi, f9 = zu f109 2 (n + 1) (vp_nar .byte v115) := ⟨_, rfl⟩
  rw [← ef116] at hH
  have q117 : f116 1 1 = nI (n + 1) := by rw [ef116, zu_n (fun h9 => absurd h9.1 (by decide))]; exact q111
  have q118 : f116 2 (n + 1) = (vp_nar .byte v115) := by rw [ef116]; exact zu_s
  refine lv_aload_n hx hb dX7_put_30 rfl (lv_at hl 1 rfl) ?_
  refine lv_dup hx hb dX7_put_31 rfl ?_
  refine zGetI (D := D) (ci := 7) (C := RX7) (T := TX7) (N := 4) hx hb hts hiX7 hown hH (zk_1 hF) rfl 1 (by decide) rfl hw1 (fun _ h9 => h9) dX7_put_32 q117 ?_
  refine lv_iconst (v := nI 1) hx hb dX7_put_35 (by decide) ?_
  refine lv_iadd hx hb dX7_put_36 ?_
  refine lv_topi (fun v119 ev119 => ?_)
  obtain rfl : v119 = nI (n + 1 + 1) := ev119.trans (nI_add _ _)
  refine zPutI (D := D) (ci := 7) (ty := .int) (C := RX7) (T := TX7) (N := 4) hx hb hts hiX7 tyX7 tyX7_ok nmX7 hown hH hS (zk_1 hF) rfl 1 (by decide) rfl hw1 (fun _ h9 => h9) rfl (by decide +kernel) rfl rfl dX7_put_37 (fun H locs hH hS => ?_)
  obtain ⟨f120, ef120⟩ : ∃ f9 : zFi, f9 = zu f116 1 1 (nI (n + 1 + 1)) := ⟨_, rfl⟩
  rw [← ef120] at hH
  have q121 : f120 2 (n + 1) = (vp_nar .byte v115) := by rw [ef120, zu_n (fun h9 => absurd h9.1 (by decide))]; exact q118
  have q122 : f120 1 1 = nI (n + 1 + 1) := by rw [ef120]; exact zu_s
  refine lv_iinc (v := nI 8) (lv' := [(2, .int (nI 8)), (0, .ref (τ.1 1)), (1, .int x)]) hx hb dX7_put_40 hl (k := 0) rfl (by decide) (by decide) rfl (fun ls hl => ?_)
  refine lv_goto (tgt := 3) hx hb dX7_put_43 (by decide) ?_
  refine lv_iload_n hx hb dX7_put_3 rfl (lv_at hl 0 rfl) ?_
  refine lv_if_lt (tgt := 46) hx hb dX7_put_4 (by decide) (fun c123 => absurd c123 (by decide)) (fun c123 => ?_)
  refine lv_aload_n hx hb dX7_put_7 rfl (lv_at hl 1 rfl) ?_
  refine zGetI (D := D) (ci := 7) (C := RX7) (T := TX7) (N := 4) hx hb hts hiX7 hown hH (zk_1 hF) rfl 1 (by decide) rfl hw1 (fun _ h9 => h9) dX7_put_8 q122 ?_
  refine lv_sipush (v := nI 400) hx hb dX7_put_11 (by decide) ?_
  refine lv_icmp_ge (tgt := 46) hx hb dX7_put_14 (by decide) (fun c124 => False.elim (by have zc124 := zc_le (nI_toInt (by omega)) (nI_toInt (by omega)) c124; omega)) (fun c124 => ?_)
  refine lv_aload_n hx hb dX7_put_17 rfl (lv_at hl 1 rfl) ?_
  refine zGetR (D := D) (ci := 7) (C := RX7) (T := TX7) (N := 4) hx hb hts hiX7 hown hH (zk_1 hF) rfl 0 (by decide) rfl hw2 (fun _ h9 => h9) dX7_put_18 (zr_1_0 hF) ?_
  refine lv_aload_n hx hb dX7_put_21 rfl (lv_at hl 1 rfl) ?_
  refine zGetI (D := D) (ci := 7) (C := RX7) (T := TX7) (N := 4) hx hb hts hiX7 hown hH (zk_1 hF) rfl 1 (by decide) rfl hw1 (fun _ h9 => h9) dX7_put_22 q122 ?_
  refine lv_iload_n hx hb dX7_put_25 rfl (lv_at hl 2 rfl) ?_
  refine lv_iload_n hx hb dX7_put_26 rfl (lv_at hl 0 rfl) ?_
  refine lv_ishr hx hb dX7_put_27 ?_
  refine lv_topi (fun v125 ev125 => ?_)
  refine lv_i2b hx hb dX7_put_28 rfl ?_
  refine lv_topi (fun v126 ev126 => ?_)
  refine zBastN (D := D) hx hb hH hS (zk_2 hF) (zn_2 hF) (by omega) (by omega) dX7_put_29 (fun H locs hH hS => ?_)
  obtain ⟨f127, ef127⟩ : ∃ f9 : zFi, f9 = zu f120 2 (n + 1 + 1) (vp_nar .byte v126) := ⟨_, rfl⟩
  rw [← ef127] at hH
  have q128 : f127 1 1 = nI (n + 1 + 1) := by rw [ef127, zu_n (fun h9 => absurd h9.1 (by decide))]; exact q122
  have q129 : f127 2 (n + 1 + 1) = (vp_nar .byte v126) := by rw [ef127]; exact zu_s
  refine lv_aload_n hx hb dX7_put_30 rfl (lv_at hl 1 rfl) ?_
  refine lv_dup hx hb dX7_put_31 rfl ?_
  refine zGetI (D := D) (ci := 7) (C := RX7) (T := TX7) (N := 4) hx hb hts hiX7 hown hH (zk_1 hF) rfl 1 (by decide) rfl hw1 (fun _ h9 => h9) dX7_put_32 q128 ?_
  refine lv_iconst (v := nI 1) hx hb dX7_put_35 (by decide) ?_
  refine lv_iadd hx hb dX7_put_36 ?_
  refine lv_topi (fun v130 ev130 => ?_)
  obtain rfl : v130 = nI (n + 1 + 1 + 1) := ev130.trans (nI_add _ _)
  refine zPutI (D := D) (ci := 7) (ty := .int) (C := RX7) (T := TX7) (N := 4) hx hb hts hiX7 tyX7 tyX7_ok nmX7 hown hH hS (zk_1 hF) rfl 1 (by decide) rfl hw1 (fun _ h9 => h9) rfl (by decide +kernel) rfl rfl dX7_put_37 (fun H locs hH hS => ?_)
  obtain ⟨f131, ef131⟩ : ∃ f9 : zFi, f9 = zu f127 1 1 (nI (n + 1 + 1 + 1)) := ⟨_, rfl⟩
  rw [← ef131] at hH
  have q132 : f131 2 (n + 1 + 1) = (vp_nar .byte v126) := by rw [ef131, zu_n (fun h9 => absurd h9.1 (by decide))]; exact q129
  have q133 : f131 1 1 = nI (n + 1 + 1 + 1) := by rw [ef131]; exact zu_s
  refine lv_iinc (v := nI 0) (lv' := [(2, .int (nI 0)), (0, .ref (τ.1 1)), (1, .int x)]) hx hb dX7_put_40 hl (k := 0) rfl (by decide) (by decide) rfl (fun ls hl => ?_)
  refine lv_goto (tgt := 3) hx hb dX7_put_43 (by decide) ?_
  refine lv_iload_n hx hb dX7_put_3 rfl (lv_at hl 0 rfl) ?_
  refine lv_if_lt (tgt := 46) hx hb dX7_put_4 (by decide) (fun c134 => absurd c134 (by decide)) (fun c134 => ?_)
  refine lv_aload_n hx hb dX7_put_7 rfl (lv_at hl 1 rfl) ?_
  refine zGetI (D := D) (ci := 7) (C := RX7) (T := TX7) (N := 4) hx hb hts hiX7 hown hH (zk_1 hF) rfl 1 (by decide) rfl hw1 (fun _ h9 => h9) dX7_put_8 q133 ?_
  refine lv_sipush (v := nI 400) hx hb dX7_put_11 (by decide) ?_
  refine lv_icmp_ge (tgt := 46) hx hb dX7_put_14 (by decide) (fun c135 => False.elim (by have zc135 := zc_le (nI_toInt (by omega)) (nI_toInt (by omega)) c135; omega)) (fun c135 => ?_)
  refine lv_aload_n hx hb dX7_put_17 rfl (lv_at hl 1 rfl) ?_
  refine zGetR (D := D) (ci := 7) (C := RX7) (T := TX7) (N := 4) hx hb hts hiX7 hown hH (zk_1 hF) rfl 0 (by decide) rfl hw2 (fun _ h9 => h9) dX7_put_18 (zr_1_0 hF) ?_
  refine lv_aload_n hx hb dX7_put_21 rfl (lv_at hl 1 rfl) ?_
  refine zGetI (D := D) (ci := 7) (C := RX7) (T := TX7) (N := 4) hx hb hts hiX7 hown hH (zk_1 hF) rfl 1 (by decide) rfl hw1 (fun _ h9 => h9) dX7_put_22 q133 ?_
  refine lv_iload_n hx hb dX7_put_25 rfl (lv_at hl 2 rfl) ?_
  refine lv_iload_n hx hb dX7_put_26 rfl (lv_at hl 0 rfl) ?_
  refine lv_ishr hx hb dX7_put_27 ?_
  refine lv_topi (fun v136 ev136 => ?_)
  refine lv_i2b hx hb dX7_put_28 rfl ?_
  refine lv_topi (fun v137 ev137 => ?_)
  refine zBastN (D := D) hx hb hH hS (zk_2 hF) (zn_2 hF) (by omega) (by omega) dX7_put_29 (fun H locs hH hS => ?_)
  obtain ⟨f138, ef138⟩ : ∃ f9 : zFi, f9 = zu f131 2 (n + 1 + 1 + 1) (vp_nar .byte v137) := ⟨_, rfl⟩
  rw [← ef138] at hH
  have q139 : f138 1 1 = nI (n + 1 + 1 + 1) := by rw [ef138, zu_n (fun h9 => absurd h9.1 (by decide))]; exact q133
  have q140 : f138 2 (n + 1 + 1 + 1) = (vp_nar .byte v137) := by rw [ef138]; exact zu_s
  refine lv_aload_n hx hb dX7_put_30 rfl (lv_at hl 1 rfl) ?_
  refine lv_dup hx hb dX7_put_31 rfl ?_
  refine zGetI (D := D) (ci := 7) (C := RX7) (T := TX7) (N := 4) hx hb hts hiX7 hown hH (zk_1 hF) rfl 1 (by decide) rfl hw1 (fun _ h9 => h9) dX7_put_32 q139 ?_
  refine lv_iconst (v := nI 1) hx hb dX7_put_35 (by decide) ?_
  refine lv_iadd hx hb dX7_put_36 ?_
  refine lv_topi (fun v141 ev141 => ?_)
  obtain rfl : v141 = nI (n + 1 + 1 + 1 + 1) := ev141.trans (nI_add _ _)
  refine zPutI (D := D) (ci := 7) (ty := .int) (C := RX7) (T := TX7) (N := 4) hx hb hts hiX7 tyX7 tyX7_ok nmX7 hown hH hS (zk_1 hF) rfl 1 (by decide) rfl hw1 (fun _ h9 => h9) rfl (by decide +kernel) rfl rfl dX7_put_37 (fun H locs hH hS => ?_)
  obtain ⟨f142, ef142⟩ : ∃ f9 : zFi, f9 = zu f138 1 1 (nI (n + 1 + 1 + 1 + 1)) := ⟨_, rfl⟩
  rw [← ef142] at hH
  have q143 : f142 2 (n + 1 + 1 + 1) = (vp_nar .byte v137) := by rw [ef142, zu_n (fun h9 => absurd h9.1 (by decide))]; exact q140
  have q144 : f142 1 1 = nI (n + 1 + 1 + 1 + 1) := by rw [ef142]; exact zu_s
  refine lv_iinc (v := (-8)) (lv' := [(2, .int ((-8))), (0, .ref (τ.1 1)), (1, .int x)]) hx hb dX7_put_40 hl (k := 0) rfl (by decide) (by decide) rfl (fun ls hl => ?_)
  refine lv_goto (tgt := 3) hx hb dX7_put_43 (by decide) ?_
  refine lv_iload_n hx hb dX7_put_3 rfl (lv_at hl 0 rfl) ?_
  refine lv_if_lt (tgt := 46) hx hb dX7_put_4 (by decide) (fun c145 => ?_) (fun c145 => absurd (by decide) c145)
  refine W.widen (k := 0) (n := 0) (by decide) (by decide) ?_
  exact W.vret hx hb hr (fun t9 ht9 hW9 => ⟨⟨f142, rfl, ⟨by rw [ef142, zu_s], fun i h1 h2 => by funext b; rw [ef142, zu_n (by omega), ef138, zu_n (by omega), ef131, zu_n (by omega), ef127, zu_n (by omega), ef120, zu_n (by omega), ef116, zu_n (by omega), ef109, zu_n (by omega), ef105, zu_n (by omega)], fun b h => by rw [ef142, zu_n (by omega), ef138, zu_n (by omega), ef131, zu_n (by omega), ef127, zu_n (by omega), ef120, zu_n (by omega), ef116, zu_n (by omega), ef109, zu_n (by omega), ef105, zu_n (by omega)], fun b h => by rw [ef142, zu_n (by omega), ef138, zu_n (by omega), ef131, zu_n (by omega), ef127, zu_n (by omega), ef120, zu_n (by omega), ef116, zu_n (by omega), ef109, zu_n (by omega), ef105, zu_n (by omega)], by rw [ef142, zu_n (by omega), ef138, zu_n (by omega), ef131, zu_n (by omega), ef127, zu_n (by omega), ef120, zu_n (by omega), ef116, zu_n (by omega), ef109, zu_n (by omega), ef105, zu_s, ev104, pk_vb, ev103]; rfl, by rw [ef142, zu_n (by omega), ef138, zu_n (by omega), ef131, zu_n (by omega), ef127, zu_n (by omega), ef120, zu_n (by omega), ef116, zu_s, ev115, pk_vb, ev114]; rfl, by rw [ef142, zu_n (by omega), ef138, zu_n (by omega), ef131, zu_n (by omega), ef127, zu_s, ev126, pk_vb, ev125]; rfl, by rw [ef142, zu_n (by omega), ef138, zu_s, ev137, pk_vb, ev136]; rfl⟩, zEnd1 hH ht9 hW9⟩, hS.F ht9⟩) hS.2.2 dX7_put_46
set_option maxHeartbeats 4000000 in
set_option maxRecDepth 100000 in
/-- Tape.takesWord -/
theorem t_takesWord (l : Launch) (hl0 : l.stackTraces = false) (D : va_G) (A : Nat → Prop) (sad : Nat → Nat) (τ : zTy) (fi : zFi) (fr : zFr) (ol : Int64) (n a : Nat) (hF : zFix τ fr) (hn : fi 1 1 = nI n) (ha : fi 1 2 = nI a) (hn4 : n ≤ 400) (han : a ≤ n) (i : Nat) (w : Nat × String × List Int32) (hi : zWd[i]? = some w) : Met l yX7_takesWord wsX7_takesWord ({ frames := 4, cells := 0, slots := 0, locals := 85 }) (va_Pc [.ref (τ.1 1), .ref (sad i)] (zQc D A sad τ fi fr ol)) (va_Qi (fun (r : Int32) (u : zFi) => (r = 1 ∧ zWordAt (fi 2) a n w.2.2 ∧ ∃ b, u = zu fi 1 2 (nI b) ∧ zSkip (fi 2) (a + w.2.2.length) n b) ∨ (r = 0 ∧ ¬ zWordAt (fi 2) a n w.2.2 ∧ u = fi)) (fun (u : zFi) (t : State) => zH D A τ u fr ol t t.heap) A) 0 0 A := by
  refine Met.ofW (cc := cX7_takesWord) (maxL := 4) (ret := (some .boolean)) (by decide) rfl ?_
  intro p9 e9 s m args below meth c9 s₁ B hml hv
  obtain ⟨rfl, hz, hH, hA⟩ := hv
  have hx := B.exec
  have hb := B.bytes
  have hr := B.returns
  have hts := atoms_spec (ws := wsX7_takesWord) B.pre
  have hown : s.vm.findClass RX7 = some m.cls := findClass_of_methodNamed B.named
  have hlocks := B.notSynchronized
  have hS : va_S A s.heap s.heap [] := va_S.rf
  have hl := lv_entry ([.ref (τ.1 1), .ref (sad i)]) (n := 4) (Nat.le_of_ble_eq_true rfl)
  rw [lg_entry_eq]
  generalize (lg_sl ([.ref (τ.1 1), .ref (sad i)]) ++ List.replicate (4 - (lg_sl ([.ref (τ.1 1), .ref (sad i)])).length) Slot.unset).toArray = ls at hl ⊢
  have hl : lv_has ls 4 [(0, .ref (τ.1 1)), (1, .ref (sad i))] := hl
  have hw6 := zWd_len hi
  obtain ⟨⟨v0, hE⟩, hR⟩ := hz.1.2.2.2.1 i w hi
  have hiX7 : ∀ w ∈ u_ws RX7 TX7 4, w ∈ wsX7_takesWord := fun _ h => List.mem_cons_of_mem _ (List.mem_append_right _ h)
  have hw1 := hts (.fieldLink RX7 22 "PostHouse$Tape" "next" "I") (by decide +kernel)
  have hw2 := hts (.fieldLink RX7 19 "PostHouse$Tape" "length" "I") (by decide +kernel)
  have hw3 := hts (.fieldLink RX7 11 "PostHouse$Tape" "bytes" "[B") (by decide +kernel)
  refine lv_aload_n hx hb dX7_takesWord_0 rfl (lv_at hl 1 rfl) ?_
  refine va_calli (va_runV (As := []) (rest := []) ⟨hx, hb, hml, hown, hts⟩ (j_length l hl0 D A sad τ fi fr ol i w hi) (cwV 0 hts gX7_takesWord_J0_length_8abf5 rfl rfl rfl (by decide +kernel) ⟨Nat.le_of_ble_eq_true rfl, Nat.le_of_ble_eq_true rfl⟩) ⟨zQc_bl, vk_recv (i := 0) hE (by decide) hS, zQc_at hz hS hA hH⟩ rfl rfl hl.1 rfl (lv_room (Nat.le_of_ble_eq_true rfl)) dX7_takesWord_1 ⟨Nat.le_of_ble_eq_true rfl, Nat.le_of_ble_eq_true rfl⟩) hS (fun q _ h => h) (fun q h => h) (fun r101 u9 t9 H1 locs ht9 hvm9 hw hB hz1 hk1 hS => ?_)
  have hH := zMv ht9 hvm9 hB
  generalize H1 = H at hH hS ⊢
  obtain rfl : r101 = nI w.2.2.length := hw
  refine lv_istore_n (lv' := [(2, .int (nI w.2.2.length)), (0, .ref (τ.1 1)), (1, .ref (sad i))]) hx hb dX7_takesWord_4 rfl hl (by decide) rfl (fun ls hl => ?_)
  refine lv_aload_n hx hb dX7_takesWord_5 rfl (lv_at hl 1 rfl) ?_
  refine lv_bipush (v := nI 97) hx hb dX7_takesWord_6 (by decide) ?_
  refine lv_bipush (v := nI 122) hx hb dX7_takesWord_8 (by decide) ?_
  refine va_calli (va_runV (As := [.int (nI 97), .int (nI 122)]) (rest := []) ⟨hx, hb, hml, hown, hts⟩ (t_run l hl0 D A sad τ fi fr ol n a hF hn ha (by omega) (by omega) (nI 97) (nI 122)) (cwV 2 hts gX7_takesWord_X7_run rfl rfl rfl (by decide +kernel) ⟨Nat.le_of_ble_eq_true rfl, Nat.le_of_ble_eq_true rfl⟩) ⟨zQc_bl, zRecv hH (zk_1 hF) rfl, zQc_at hz hS hA hH⟩ rfl rfl hl.1 rfl (lv_room (Nat.le_of_ble_eq_true rfl)) dX7_takesWord_10 ⟨Nat.le_of_ble_eq_true rfl, Nat.le_of_ble_eq_true rfl⟩) hS (fun q _ h => h) (fun q h => h) (fun r102 u9 t9 H1 locs ht9 hvm9 hw hB hz1 hk1 hS => ?_)
  have hH := zMv ht9 hvm9 hB
  generalize H1 = H at hH hS ⊢
  obtain ⟨k103, rfl, hrun104⟩ := hw
  have zhrun104 := hrun104.1
  refine lv_iload_n hx hb dX7_takesWord_13 rfl (lv_at hl 0 rfl) ?_
  refine lv_icmp_eq (tgt := 19) hx hb dX7_takesWord_14 (by decide) (fun c105 => ?_) (fun c105 => ?_)
  · have zc105 := c105
    replace zc105 := zc_eq (nI_toInt (by omega)) (nI_toInt (by omega)) zc105
    refine lv_iconst (v := nI 0) hx hb dX7_takesWord_19 (by decide) ?_
    refine lv_istore_n (lv' := [(3, .int (nI 0)), (2, .int (nI w.2.2.length)), (0, .ref (τ.1 1)), (1, .ref (sad i))]) hx hb dX7_takesWord_20 rfl hl (by decide) rfl (fun ls hl => ?_)
    refine zLp (σ := Nat) (fun x9 k9 H locs ls => (fun (j : Nat) => k9 = w.2.2.length - j ∧ (j ≤ w.2.2.length ∧ ∀ x, x < j → fi 2 (a + x) = w.2.2.getD x 0) ∧ zH D A τ fi fr ol s H ∧ va_S A s.heap H locs ∧ lv_has ls 4 [(0, .ref (τ.1 1)), (1, .ref (sad i)), (2, .int (nI w.2.2.length)), (3, .int (nI j))]) x9) 0 (w.2.2.length - 0) (show w.2.2.length - 0 = w.2.2.length - 0 ∧ (0 ≤ w.2.2.length ∧ ∀ x, x < 0 → fi 2 (a + x) = w.2.2.getD x 0) ∧ zH D A τ fi fr ol s _ ∧ va_S A s.heap _ _ ∧ lv_has _ 4 [(0, .ref (τ.1 1)), (1, .ref (sad i)), (2, .int (nI w.2.2.length)), (3, .int (nI 0))] from ⟨rfl, ⟨Nat.zero_le _, fun x h => absurd h (by omega)⟩, hH, hS, lv_sub hl [2, 3, 1, 0] rfl⟩) (fun k9 ih x9 H locs ls hv9 => ?_)
    generalize x9 = j at hv9
    have hv9 : k9 = w.2.2.length - j ∧ (j ≤ w.2.2.length ∧ ∀ x, x < j → fi 2 (a + x) = w.2.2.getD x 0) ∧ zH D A τ fi fr ol s H ∧ va_S A s.heap H locs ∧ lv_has ls 4 [(0, .ref (τ.1 1)), (1, .ref (sad i)), (2, .int (nI w.2.2.length)), (3, .int (nI j))] := hv9
    obtain ⟨hkih106, hv9, hH, hS, hl⟩ := hv9
    obtain ⟨h1, hj⟩ := hv9
    have ih106 := ih
    clear ih
    refine lv_iload_n hx hb dX7_takesWord_21 rfl (lv_at hl 3 rfl) ?_
    refine lv_iload_n hx hb dX7_takesWord_22 rfl (lv_at hl 2 rfl) ?_
    refine lv_icmp_ge (tgt := 66) hx hb dX7_takesWord_23 (by decide) (fun c107 => ?_) (fun c107 => ?_)
    · have zc107 := c107
      replace zc107 := zc_le (nI_toInt (by omega)) (nI_toInt (by omega)) zc107
      refine lv_aload_n hx hb dX7_takesWord_66 rfl (lv_at hl 0 rfl) ?_
      refine lv_iload_n hx hb dX7_takesWord_67 rfl (lv_at hl 2 rfl) ?_
      refine va_callv (va_runV (As := [.int (nI w.2.2.length)]) (rest := []) ⟨hx, hb, hml, hown, hts⟩ (t_skip l hl0 D A sad τ fi fr ol n a hF hn ha (by omega) (by omega) w.2.2.length (by omega)) (cwV 1 hts gX7_takesWord_X7_skip rfl rfl rfl (by decide +kernel) ⟨Nat.le_of_ble_eq_true rfl, Nat.le_of_ble_eq_true rfl⟩) ⟨zQc_bl, zRecv hH (zk_1 hF) rfl, zQc_at hz hS hA hH⟩ rfl rfl hl.1 rfl (lv_room (Nat.le_of_ble_eq_true rfl)) dX7_takesWord_68 ⟨Nat.le_of_ble_eq_true rfl, Nat.le_of_ble_eq_true rfl⟩) hS (fun q _ h => h) (fun q h => h) (fun u9 t9 H1 locs ht9 hvm9 hw hB hz1 hk1 hS => ?_)
      have hH := zMv ht9 hvm9 hB
      clear hB
      generalize u9 = f109 at hw hH
      generalize H1 = H at hH hS ⊢
      obtain ⟨b110, ef109, hs111⟩ := hw
      have zhs111 := hs111.1
      have yhs111 := hs111.2.1
      have q112 : f109 1 1 = nI n := by rw [ef109, zu_n (fun h9 => absurd h9.2 (by decide))]; exact hn
      have q113 : f109 1 2 = nI b110 := by rw [ef109]; exact zu_s
      refine lv_iconst (v := nI 1) hx hb dX7_takesWord_71 (by decide) ?_
      refine W.widen (k := 0) (n := 0) (by decide) (by decide) ?_
      exact W.zret (v := nI 1) hx hb hr (by decide) (fun t9 ht9 hW9 => ⟨⟨nI 1, f109, rfl, Or.inl ⟨rfl, ⟨by have h7 := hrun104; rw [show k103 = w.2.2.length by omega] at h7; exact h7, fun j9 h8 => hj j9 (by omega)⟩, b110, ef109, hs111⟩, zEnd1 hH ht9 hW9⟩, hS.F ht9⟩) hS.2.2 dX7_takesWord_72
    · have zc107 := c107
      replace zc107 := zc_nle (nI_toInt (by omega)) (nI_toInt (by omega)) zc107
      refine lv_aload_n hx hb dX7_takesWord_26 rfl (lv_at hl 0 rfl) ?_
      refine zGetI (D := D) (ci := 7) (C := RX7) (T := TX7) (N := 4) hx hb hts hiX7 hown hH (zk_1 hF) rfl 2 (by decide) rfl hw1 (fun _ h9 => h9) dX7_takesWord_27 ha ?_
      refine lv_iload_n hx hb dX7_takesWord_30 rfl (lv_at hl 3 rfl) ?_
      refine lv_iadd hx hb dX7_takesWord_31 ?_
      refine lv_topi (fun v114 ev114 => ?_)
      obtain rfl : v114 = nI (a + j) := ev114.trans (nI_add _ _)
      refine lv_aload_n hx hb dX7_takesWord_32 rfl (lv_at hl 0 rfl) ?_
      refine zGetI (D := D) (ci := 7) (C := RX7) (T := TX7) (N := 4) hx hb hts hiX7 hown hH (zk_1 hF) rfl 1 (by decide) rfl hw2 (fun _ h9 => h9) dX7_takesWord_33 hn ?_
      refine lv_icmp_ge (tgt := 66) hx hb dX7_takesWord_36 (by decide) (fun c115 => False.elim (by have zc115 := zc_le (nI_toInt (by omega)) (nI_toInt (by omega)) c115; omega)) (fun c115 => ?_)
      refine lv_aload_n hx hb dX7_takesWord_39 rfl (lv_at hl 0 rfl) ?_
      refine zGetR (D := D) (ci := 7) (C := RX7) (T := TX7) (N := 4) hx hb hts hiX7 hown hH (zk_1 hF) rfl 0 (by decide) rfl hw3 (fun _ h9 => h9) dX7_takesWord_40 (zr_1_0 hF) ?_
      refine lv_aload_n hx hb dX7_takesWord_43 rfl (lv_at hl 0 rfl) ?_
      refine zGetI (D := D) (ci := 7) (C := RX7) (T := TX7) (N := 4) hx hb hts hiX7 hown hH (zk_1 hF) rfl 2 (by decide) rfl hw1 (fun _ h9 => h9) dX7_takesWord_44 ha ?_
      refine lv_iload_n hx hb dX7_takesWord_47 rfl (lv_at hl 3 rfl) ?_
      refine lv_iadd hx hb dX7_takesWord_48 ?_
      refine lv_topi (fun v116 ev116 => ?_)
      obtain rfl : v116 = nI (a + j) := ev116.trans (nI_add _ _)
      refine zBaldN (D := D) hx hb hH (zk_2 hF) (zn_2 hF) (by omega) (by omega) rfl dX7_takesWord_49 ?_
      refine lv_aload_n hx hb dX7_takesWord_50 rfl (lv_at hl 1 rfl) ?_
      refine lv_iload_n hx hb dX7_takesWord_51 rfl (lv_at hl 3 rfl) ?_
      refine va_calli (va_runV (As := [.int (nI j)]) (rest := [.int (fi 2 (a + j))]) ⟨hx, hb, hml, hown, hts⟩ (j_charAt l hl0 D A sad τ fi fr ol i w hi j (by omega)) (cwV 1 hts gX7_takesWord_J0_charAt_5068e rfl rfl rfl (by decide +kernel) ⟨Nat.le_of_ble_eq_true rfl, Nat.le_of_ble_eq_true rfl⟩) ⟨zQc_bl, vk_recv (i := 0) hE (by decide) hS, zQc_at hz hS hA hH⟩ rfl rfl hl.1 rfl (lv_room (Nat.le_of_ble_eq_true rfl)) dX7_takesWord_52 ⟨Nat.le_of_ble_eq_true rfl, Nat.le_of_ble_eq_true rfl⟩) hS (fun q _ h => h) (fun q h => h) (fun r117 u9 t9 H1 locs ht9 hvm9 hw hB hz1 hk1 hS => ?_)
      have hH := zMv ht9 hvm9 hB
      generalize H1 = H at hH hS ⊢
      obtain rfl : r117 = w.2.2.getD j 0 := hw
      refine lv_icmp_eq (tgt := 60) hx hb dX7_takesWord_55 (by decide) (fun c118 => ?_) (fun c118 => ?_)
      · have zc118 := c118
        replace zc118 := zc_eq (rfl) (rfl) zc118
        refine lv_iinc (v := nI (j + 1)) (lv' := [(3, .int (nI (j + 1))), (0, .ref (τ.1 1)), (1, .ref (sad i)), (2, .int (nI w.2.2.length))]) hx hb dX7_takesWord_60 hl (k := 3) rfl (by rw [show (Int32.ofInt 1 : Int32) = nI 1 from by decide, nI_add]) (by decide) rfl (fun ls hl => ?_)
        refine lv_goto (tgt := 21) hx hb dX7_takesWord_63 (by decide) ?_
        exact ih106 (w.2.2.length - (j + 1)) (by omega) (j + 1) _ _ _ (show w.2.2.length - (j + 1) = w.2.2.length - (j + 1) ∧ ((j + 1) ≤ w.2.2.length ∧ ∀ x, x < (j + 1) → fi 2 (a + x) = w.2.2.getD x 0) ∧ zH D A τ fi fr ol s _ ∧ va_S A s.heap _ _ ∧ lv_has _ 4 [(0, .ref (τ.1 1)), (1, .ref (sad i)), (2, .int (nI w.2.2.length)), (3, .int (nI (j + 1)))] from ⟨rfl, ⟨by omega, fun x h => by by_cases h7 : x = j; (subst h7; exact c118); exact hj x (by omega)⟩, hH, hS, lv_sub hl [1, 2, 3, 0] rfl⟩)
      · have zc118 := c118
        replace zc118 := zc_neq (rfl) (rfl) zc118
        refine lv_iconst (v := nI 0) hx hb dX7_takesWord_58 (by decide) ?_
        refine W.widen (k := 0) (n := 0) (by decide) (by decide) ?_
        exact W.zret (v := nI 0) hx hb hr (by decide) (fun t9 ht9 hW9 => ⟨⟨nI 0, fi, rfl, Or.inr ⟨rfl, fun h9 => c118 (h9.2 j (by omega)), rfl⟩, zEnd1 hH ht9 hW9⟩, hS.F ht9⟩) hS.2.2 dX7_takesWord_59
  · have zc105 := c105
    replace zc105 := zc_neq (nI_toInt (by omega)) (nI_toInt (by omega)) zc105
    refine lv_iconst (v := nI 0) hx hb dX7_takesWord_17 (by decide) ?_
    refine W.widen (k := 0) (n := 0) (by decide) (by decide) ?_
    exact W.zret (v := nI 0) hx hb hr (by decide) (fun t9 ht9 hW9 => ⟨⟨nI 0, fi, rfl, Or.inr ⟨rfl, fun h9 => by have h8 := zRun_one hrun104 h9.1; omega, rfl⟩, zEnd1 hH ht9 hW9⟩, hS.F ht9⟩) hS.2.2 dX7_takesWord_18
set_option maxHeartbeats 4000000 in
set_option maxRecDepth 100000 in
/-- Tape.needWord -/
theorem t_needWord (l : Launch) (hl0 : l.stackTraces = false) (D : va_G) (A : Nat → Prop) (sad : Nat → Nat) (τ : zTy) (fi : zFi) (fr : zFr) (ol : Int64) (n a : Nat) (hF : zFix τ fr) (hn : fi 1 1 = nI n) (ha : fi 1 2 = nI a) (hn4 : n ≤ 400) (han : a ≤ n) (i : Nat) (w : Nat × String × List Int32) (hi : zWd[i]? = some w) : Met l yX7_needWord wsX7_needWord ({ frames := 5, cells := 0, slots := 0, locals := 108 }) (va_Pc [.ref (τ.1 1), .ref (sad i)] (zQc D A sad τ fi fr ol)) (va_Qv (fun (u : zFi) => (zWordAt (fi 2) a n w.2.2 ∧ ∃ b, u = zu fi 1 2 (nI b) ∧ zSkip (fi 2) (a + w.2.2.length) n b) ∨ (¬ zWordAt (fi 2) a n w.2.2 ∧ zRef fi (nI a) u)) (fun (u : zFi) (t : State) => zH D A τ u fr ol t t.heap) A) 0 0 A := by
  refine Met.ofW (cc := cX7_needWord) (maxL := 2) (ret := none) (by decide) rfl ?_
  intro p9 e9 s m args below meth c9 s₁ B hml hv
  obtain ⟨rfl, hz, hH, hA⟩ := hv
  have hx := B.exec
  have hb := B.bytes
  have hr := B.returns
  have hts := atoms_spec (ws := wsX7_needWord) B.pre
  have hown : s.vm.findClass RX7 = some m.cls := findClass_of_methodNamed B.named
  have hlocks := B.notSynchronized
  have hS : va_S A s.heap s.heap [] := va_S.rf
  have hl := lv_entry ([.ref (τ.1 1), .ref (sad i)]) (n := 2) (Nat.le_of_ble_eq_true rfl)
  rw [lg_entry_eq]
  generalize (lg_sl ([.ref (τ.1 1), .ref (sad i)]) ++ List.replicate (2 - (lg_sl ([.ref (τ.1 1), .ref (sad i)])).length) Slot.unset).toArray = ls at hl ⊢
  have hl : lv_has ls 2 [(0, .ref (τ.1 1)), (1, .ref (sad i))] := hl
  have hiX7 : ∀ w ∈ u_ws RX7 TX7 4, w ∈ wsX7_needWord := fun _ h => List.mem_cons_of_mem _ (List.mem_append_right _ h)
  have hw1 := hts (.fieldLink RX7 22 "PostHouse$Tape" "next" "I") (by decide +kernel)
  refine lv_aload_n hx hb dX7_needWord_0 rfl (lv_at hl 0 rfl) ?_
  refine lv_aload_n hx hb dX7_needWord_1 rfl (lv_at hl 1 rfl) ?_
  refine va_calli (va_runV (As := [.ref (sad i)]) (rest := []) ⟨hx, hb, hml, hown, hts⟩ (t_takesWord l hl0 D A sad τ fi fr ol n a hF hn ha (by omega) (by omega) i w hi) (cwV 1 hts gX7_needWord_X7_takesWord rfl rfl rfl (by decide +kernel) ⟨Nat.le_of_ble_eq_true rfl, Nat.le_of_ble_eq_true rfl⟩) ⟨zQc_bl, zRecv hH (zk_1 hF) rfl, zQc_at hz hS hA hH⟩ rfl rfl hl.1 rfl (lv_room (Nat.le_of_ble_eq_true rfl)) dX7_needWord_2 ⟨Nat.le_of_ble_eq_true rfl, Nat.le_of_ble_eq_true rfl⟩) hS (fun q _ h => h) (fun q h => h) (fun r101 u9 t9 H1 locs ht9 hvm9 hw hB hz1 hk1 hS => ?_)
  have hH := zMv ht9 hvm9 hB
  clear hB
  generalize u9 = f102 at hw hH
  generalize H1 = H at hH hS ⊢
  rcases hw with ⟨rfl, hw103, b104, ef102, hs105⟩ | ⟨rfl, hn106, ef102⟩
  · have zhs105 := hs105.1
    have yhs105 := hs105.2.1
    have q107 : f102 1 1 = nI n := by rw [ef102, zu_n (fun h9 => absurd h9.2 (by decide))]; exact hn
    have q108 : f102 1 2 = nI b104 := by rw [ef102]; exact zu_s
    refine lv_if_ne (tgt := 16) hx hb dX7_needWord_5 (by decide) (fun c109 => ?_) (fun c109 => absurd c109 (by decide))
    refine W.widen (k := 0) (n := 0) (by decide) (by decide) ?_
    exact W.vret hx hb hr (fun t9 ht9 hW9 => ⟨⟨f102, rfl, Or.inl ⟨hw103, b104, ef102, hs105⟩, zEnd1 hH ht9 hW9⟩, hS.F ht9⟩) hS.2.2 dX7_needWord_16
  · have ef102 := ef102.symm
    subst ef102
    refine lv_if_ne (tgt := 16) hx hb dX7_needWord_5 (by decide) (fun c110 => absurd (by decide) c110) (fun c110 => ?_)
    refine lv_aload_n hx hb dX7_needWord_8 rfl (lv_at hl 0 rfl) ?_
    refine lv_aload_n hx hb dX7_needWord_9 rfl (lv_at hl 0 rfl) ?_
    refine zGetI (D := D) (ci := 7) (C := RX7) (T := TX7) (N := 4) hx hb hts hiX7 hown hH (zk_1 hF) rfl 2 (by decide) rfl hw1 (fun _ h9 => h9) dX7_needWord_10 ha ?_
    refine va_callv (va_runV (As := [.int (nI a)]) (rest := []) ⟨hx, hb, hml, hown, hts⟩ (t_refuse l hl0 D A sad τ fi fr ol hF (nI a)) (cwV 1 hts gX7_needWord_X7_refuse rfl rfl rfl (by decide +kernel) ⟨Nat.le_of_ble_eq_true rfl, Nat.le_of_ble_eq_true rfl⟩) ⟨zQc_bl, zRecv hH (zk_1 hF) rfl, zQc_at hz hS hA hH⟩ rfl rfl hl.1 rfl (lv_room (Nat.le_of_ble_eq_true rfl)) dX7_needWord_13 ⟨Nat.le_of_ble_eq_true rfl, Nat.le_of_ble_eq_true rfl⟩) hS (fun q _ h => h) (fun q h => h) (fun u9 t9 H1 locs ht9 hvm9 hw hB hz1 hk1 hS => ?_)
    have hH := zMv ht9 hvm9 hB
    clear hB
    generalize u9 = f112 at hw hH
    generalize H1 = H at hH hS ⊢
    have hr113 := hw
    clear hw
    refine W.widen (k := 0) (n := 0) (by decide) (by decide) ?_
    exact W.vret hx hb hr (fun t9 ht9 hW9 => ⟨⟨f112, rfl, Or.inr ⟨hn106, hr113⟩, zEnd1 hH ht9 hW9⟩, hS.F ht9⟩) hS.2.2 dX7_needWord_16
