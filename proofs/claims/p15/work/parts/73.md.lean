def zCok (fi : zFi) (n j : Nat) : Prop := (∃ t, t < n ∧ fi 41 j = nI t) ∧ ∃ k, k ≤ 10000 ∧ fi 43 j = nI k
theorem zCok.ci {fi fi' : zFi} {n j : Nat} (h : zCok fi n j) (h1 : fi' 41 j = fi 41 j) (h2 : fi' 43 j = fi 43 j) : zCok fi' n j := by unfold zCok; rw [h1, h2]; exact h
theorem zShl1 : ∀ p : Fin 11, ((1 : Int32) <<< (nI p.val &&& 31)) = nI (2 ^ p.val) := by decide
theorem zAndB {n : Nat} (h : n < 2147483648) (y : Int32) : ∃ r, r ≤ n ∧ nI n &&& y = nI r := by
  have hb : ∀ k : Nat, k < 2147483648 → (nI k).toBitVec = BitVec.ofNat 32 k := fun k _ => rfl
  have hle : ((nI n).toBitVec &&& y.toBitVec).toNat ≤ n := by
    rw [BitVec.toNat_and, hb n h]
    exact Nat.le_trans Nat.and_le_left (by rw [BitVec.toNat_ofNat]; exact Nat.mod_le _ _)
  refine ⟨((nI n).toBitVec &&& y.toBitVec).toNat, hle, ?_⟩
  apply Int32.toBitVec_inj.mp
  rw [hb _ (by omega)]
  show (nI n).toBitVec &&& y.toBitVec = _
  exact (BitVec.ofNat_toNat _ _).symm ▸ rfl
set_option maxHeartbeats 4000000 in
set_option maxRecDepth 100000 in
/-- day -/
theorem m_day (l : Launch) (hl0 : l.stackTraces = false) (D : va_G) (A : Nat → Prop) (sad : Nat → Nat) (τ : zTy) (fi : zFi) (fr : zFr) (ol : Int64) (hF : zFix τ fr) (n : Nat) (hMt : zMt fi n) (o : Nat) (hMo : zMo fi n o) (hMx : zMx fi n) (c : Nat) (hMc : zMc fi n c) (Bd : Nat) (hMs : zMs fi Bd) (hBd : Bd + 600000 ≤ 2000000000) (sn : Nat) (hsn : fi 30 61 = nI sn) (hs3 : sn ≤ 300) (td : Nat) (htd : fi 30 1 = nI td) (htd9 : td ≤ 999) : Met l yX12_day wsX12_day ({ frames := 2, cells := 0, slots := 0, locals := 52 }) (va_Pc [.ref (τ.1 30)] (zQc D A sad τ fi fr ol)) (va_Qv (fun (u : zFi) => u 30 1 = nI (td + 1) ∧ zMo u n o ∧ (zMc u n (zKp (fi 42) (nI (td + 1)) c) ∧ ∀ b, b < c → ¬ fi 42 b = nI (td + 1) → u 42 (zKp (fi 42) (nI (td + 1)) b) = fi 42 b) ∧ zMs u (Bd + 600000) ∧ (∃ s2, s2 ≤ 300 ∧ u 30 61 = nI s2) ∧ ∀ a b, ¬ (a = 35 ∨ a = 52 ∨ (58 ≤ a ∧ a ≤ 60) ∨ a = 63 ∨ a = 64 ∨ (65 ≤ a ∧ a ≤ 70) ∨ (41 ≤ a ∧ a ≤ 43) ∨ (a = 30 ∧ (b = 61 ∨ b = 1 ∨ b = 13))) → u a b = fi a b) (fun (u : zFi) (t : State) => zH D A τ u fr ol t t.heap) A) 0 0 A := by
  refine Met.ofW (cc := cX12_day) (maxL := 3) (ret := none) (by decide) rfl ?_
  intro p9 e9 s m args below meth c9 s₁ B hml hv
  obtain ⟨rfl, hz, hH, hA⟩ := hv
  have hx := B.exec
  have hb := B.bytes
  have hr := B.returns
  have hts := atoms_spec (ws := wsX12_day) B.pre
  have hown : s.vm.findClass RX12 = some m.cls := findClass_of_methodNamed B.named
  have hlocks := B.notSynchronized
  have hS : va_S A s.heap s.heap [] := va_S.rf
  have hl := lv_entry ([.ref (τ.1 30)]) (n := 3) (Nat.le_of_ble_eq_true rfl)
  rw [lg_entry_eq]
  generalize (lg_sl ([.ref (τ.1 30)]) ++ List.replicate (3 - (lg_sl ([.ref (τ.1 30)])).length) Slot.unset).toArray = ls at hl ⊢
  have hl : lv_has ls 3 [(0, .ref (τ.1 30))] := hl
  have hm30 := hMt.1
  have ho60 := hMo.1
  have hc60 := hMc.1
  have hMt0 := hMt
  have hMo0 := hMo
  have hMx0 := hMx
  have hMs0 := hMs
  have hMc0 := hMc
  have hiX12 : ∀ w ∈ u_ws RX12 TX12 71, w ∈ wsX12_day := fun _ h => List.mem_cons_of_mem _ (List.mem_append_right _ h)
  have hw1 := hts (.fieldLink RX12 200 "PostHouseModel" "today" "I") (by decide +kernel)
  have hw2 := hts (.fieldLink RX12 203 "PostHouseModel" "comings" "I") (by decide +kernel)
  have hw3 := hts (.fieldLink RX12 171 "PostHouseModel" "orders" "I") (by decide +kernel)
  have hw4 := hts (.fieldLink RX12 43 "PostHouseModel" "comingDay" "[I") (by decide +kernel)
  have hw5 := hts (.fieldLink RX12 40 "PostHouseModel" "comingThing" "[I") (by decide +kernel)
  have hw6 := hts (.fieldLink RX12 46 "PostHouseModel" "comingMany" "[I") (by decide +kernel)
  have hw7 := hts (.fieldLink RX12 22 "PostHouseModel" "stock" "[I") (by decide +kernel)
  refine lv_aload_n hx hb dX12_day_0 rfl (lv_at hl 0 rfl) ?_
  refine lv_dup hx hb dX12_day_1 rfl ?_
  refine zGetI (D := D) (ci := 12) (C := RX12) (T := TX12) (N := 71) hx hb hts hiX12 hown hH (zk_30 hF) rfl 1 (by decide) rfl hw1 (fun _ h9 => h9) dX12_day_2 htd ?_
  refine lv_iconst (v := nI 1) hx hb dX12_day_5 (by decide) ?_
  refine lv_iadd hx hb dX12_day_6 ?_
  refine lv_topi (fun v101 ev101 => ?_)
  obtain rfl : v101 = nI (td + 1) := ev101.trans (nI_add _ _)
  refine zPutI (D := D) (ci := 12) (ty := .int) (C := RX12) (T := TX12) (N := 71) hx hb hts hiX12 tyX12 tyX12_ok nmX12 hown hH hS (zk_30 hF) rfl 1 (by decide) rfl hw1 (fun _ h9 => h9) rfl (by decide +kernel) rfl rfl dX12_day_7 (fun H locs hH hS => ?_)
  obtain ⟨f102, ef102⟩ : ∃ f9 : zFi, f9 = zu fi 30 1 (nI (td + 1)) := ⟨_, rfl⟩
  rw [← ef102] at hH
  have q103 : f102 30 13 = nI c := by rw [ef102, zu_n (fun h9 => absurd h9.2 (by decide))]; exact hMc.2.1
  have q104 : f102 30 1 = nI (td + 1) := by rw [ef102]; exact zu_s
  have hMs := zMs.ci (fi' := f102) hMs (fun i9 k9 h9 => by rw [ef102]; exact zu_n (by omega))
  refine lv_iconst (v := nI 0) hx hb dX12_day_10 (by decide) ?_
  refine lv_istore_n (lv' := [(1, .int (nI 0)), (0, .ref (τ.1 30))]) hx hb dX12_day_11 rfl hl (by decide) rfl (fun ls hl => ?_)
  refine lv_iconst (v := nI 0) hx hb dX12_day_12 (by decide) ?_
  refine lv_istore_n (lv' := [(2, .int (nI 0)), (1, .int (nI 0)), (0, .ref (τ.1 30))]) hx hb dX12_day_13 rfl hl (by decide) rfl (fun ls hl => ?_)
  refine zLp (σ := Nat × Nat × zFi) (fun x9 k9 H locs ls => (fun (i : Nat) (st : Nat) (f : zFi) => k9 = c - i ∧ (i ≤ c ∧ st ≤ i ∧ f 30 13 = nI c ∧ f 30 1 = nI (td + 1) ∧ (∀ j, j < st ∨ (i ≤ j ∧ j < c) → zCok f n j) ∧ zMs f (Bd + 10000 * i) ∧ st = zKp (fi 42) (nI (td + 1)) i ∧ (∀ b, b < i → ¬ fi 42 b = nI (td + 1) → f 42 (zKp (fi 42) (nI (td + 1)) b) = fi 42 b) ∧ (∀ b, i ≤ b → f 42 b = fi 42 b) ∧ ∀ a b, ¬ (a = 35 ∨ (41 ≤ a ∧ a ≤ 43) ∨ (a = 30 ∧ b = 1)) → f a b = fi a b) ∧ zH D A τ f fr ol s H ∧ va_S A s.heap H locs ∧ lv_has ls 3 [(0, .ref (τ.1 30)), (1, .int (nI st)), (2, .int (nI i))]) x9.1 x9.2.1 x9.2.2) (0, 0, f102) (c - 0) (show c - 0 = c - 0 ∧ (0 ≤ c ∧ 0 ≤ 0 ∧ f102 30 13 = nI c ∧ f102 30 1 = nI (td + 1) ∧ (∀ j, j < 0 ∨ (0 ≤ j ∧ j < c) → zCok f102 n j) ∧ zMs f102 (Bd + 10000 * 0) ∧ 0 = zKp (fi 42) (nI (td + 1)) 0 ∧ (∀ b, b < 0 → ¬ fi 42 b = nI (td + 1) → f102 42 (zKp (fi 42) (nI (td + 1)) b) = fi 42 b) ∧ (∀ b, 0 ≤ b → f102 42 b = fi 42 b) ∧ ∀ a b, ¬ (a = 35 ∨ (41 ≤ a ∧ a ≤ 43) ∨ (a = 30 ∧ b = 1)) → f102 a b = fi a b) ∧ zH D A τ f102 fr ol s _ ∧ va_S A s.heap _ _ ∧ lv_has _ 3 [(0, .ref (τ.1 30)), (1, .int (nI 0)), (2, .int (nI 0))] from ⟨rfl, ⟨Nat.zero_le _, Nat.le_refl _, q103, q104, fun j h => by have h7 := hMc0.2.2 j (by omega); exact zCok.ci (fi := fi) h7 (by rw [ef102, zu_n (by omega)]) (by rw [ef102, zu_n (by omega)]), zMs.mono hMs (by omega), rfl, fun b h => absurd h (by omega), fun b _ => by rw [ef102, zu_n (by omega)], fun a b h => by rw [ef102, zu_n (by omega)]⟩, hH, hS, lv_sub hl [2, 1, 0] rfl⟩) (fun k9 ih x9 H locs ls hv9 => ?_)
  obtain ⟨i, st, f⟩ := x9
  have hv9 : k9 = c - i ∧ (i ≤ c ∧ st ≤ i ∧ f 30 13 = nI c ∧ f 30 1 = nI (td + 1) ∧ (∀ j, j < st ∨ (i ≤ j ∧ j < c) → zCok f n j) ∧ zMs f (Bd + 10000 * i) ∧ st = zKp (fi 42) (nI (td + 1)) i ∧ (∀ b, b < i → ¬ fi 42 b = nI (td + 1) → f 42 (zKp (fi 42) (nI (td + 1)) b) = fi 42 b) ∧ (∀ b, i ≤ b → f 42 b = fi 42 b) ∧ ∀ a b, ¬ (a = 35 ∨ (41 ≤ a ∧ a ≤ 43) ∨ (a = 30 ∧ b = 1)) → f a b = fi a b) ∧ zH D A τ f fr ol s H ∧ va_S A s.heap H locs ∧ lv_has ls 3 [(0, .ref (τ.1 30)), (1, .int (nI st)), (2, .int (nI i))] := hv9
  obtain ⟨hkih105, hv9, hH, hS, hl⟩ := hv9
  obtain ⟨h1, h2, p13, p1, hok, hMs, hst, hkp, hun, hfr⟩ := hv9
  have ih105 := ih
  clear ih
  refine lv_iload_n hx hb dX12_day_14 rfl (lv_at hl 2 rfl) ?_
  refine lv_aload_n hx hb dX12_day_15 rfl (lv_at hl 0 rfl) ?_
  refine zGetI (D := D) (ci := 12) (C := RX12) (T := TX12) (N := 71) hx hb hts hiX12 hown hH (zk_30 hF) rfl 13 (by decide) rfl hw2 (fun _ h9 => h9) dX12_day_16 p13 ?_
  refine lv_icmp_ge (tgt := 103) hx hb dX12_day_19 (by decide) (fun c106 => ?_) (fun c106 => ?_)
  · have zc106 := c106
    replace zc106 := zc_le (nI_toInt (by omega)) (nI_toInt (by omega)) zc106
    refine lv_aload_n hx hb dX12_day_103 rfl (lv_at hl 0 rfl) ?_
    refine lv_iload_n hx hb dX12_day_104 rfl (lv_at hl 1 rfl) ?_
    refine zPutI (D := D) (ci := 12) (ty := .int) (C := RX12) (T := TX12) (N := 71) hx hb hts hiX12 tyX12 tyX12_ok nmX12 hown hH hS (zk_30 hF) rfl 13 (by decide) rfl hw2 (fun _ h9 => h9) rfl (by decide +kernel) rfl rfl dX12_day_105 (fun H locs hH hS => ?_)
    obtain ⟨f107, ef107⟩ : ∃ f9 : zFi, f9 = zu f 30 13 (nI st) := ⟨_, rfl⟩
    rw [← ef107] at hH
    have q108 : f107 30 1 = nI (td + 1) := by rw [ef107, zu_n (fun h9 => absurd h9.2 (by decide))]; exact p1
    have q109 : f107 30 13 = nI st := by rw [ef107]; exact zu_s
    have hMs := zMs.ci (fi' := f107) hMs (fun i9 k9 h9 => by rw [ef107]; exact zu_n (by omega))
    have hfA : ∀ a b, ¬ (a = 35 ∨ (41 ≤ a ∧ a ≤ 43) ∨ (a = 30 ∧ (b = 1 ∨ b = 13))) → f107 a b = fi a b := fun a b h => by rw [ef107, zu_n (by omega)]; exact hfr a b (by omega)
    have hcA : zMc f107 n st := ⟨by omega, q109, fun j h => by have h7 := hok j (by omega); exact h7.ci (by rw [ef107, zu_n (by omega)]) (by rw [ef107, zu_n (by omega)])⟩
    have htA := q108
    have hcA2 : st = zKp (fi 42) (nI (td + 1)) c := by rw [hst, show i = c by omega]
    have hkA : ∀ b, b < c → ¬ fi 42 b = nI (td + 1) → f107 42 (zKp (fi 42) (nI (td + 1)) b) = fi 42 b := fun b p9 q9 => by rw [ef107, zu_n (by omega)]; exact hkp b (by omega) q9
    refine lv_iconst (v := nI 0) hx hb dX12_day_108 (by decide) ?_
    refine lv_istore_n (lv' := [(2, .int (nI 0)), (0, .ref (τ.1 30)), (1, .int (nI st))]) hx hb dX12_day_109 rfl hl (by decide) rfl (fun ls hl => ?_)
    refine zLp (σ := Nat × Nat × zFi) (fun x9 k9 H locs ls => (fun (i2 : Nat) (s2 : Nat) (f2 : zFi) => k9 = o - i2 ∧ (i2 ≤ o ∧ zMo f2 n o ∧ zMs f2 (Bd + 600000) ∧ s2 ≤ 300 ∧ f2 30 61 = nI s2 ∧ ∀ a b, ¬ (a = 35 ∨ a = 52 ∨ (58 ≤ a ∧ a ≤ 60) ∨ a = 63 ∨ a = 64 ∨ (65 ≤ a ∧ a ≤ 70) ∨ (a = 30 ∧ b = 61)) → f2 a b = f107 a b) ∧ zH D A τ f2 fr ol s H ∧ va_S A s.heap H locs ∧ lv_has ls 3 [(0, .ref (τ.1 30)), (2, .int (nI i2))]) x9.1 x9.2.1 x9.2.2) (0, sn, f107) (o - 0) (show o - 0 = o - 0 ∧ (0 ≤ o ∧ zMo f107 n o ∧ zMs f107 (Bd + 600000) ∧ sn ≤ 300 ∧ f107 30 61 = nI sn ∧ ∀ a b, ¬ (a = 35 ∨ a = 52 ∨ (58 ≤ a ∧ a ≤ 60) ∨ a = 63 ∨ a = 64 ∨ (65 ≤ a ∧ a ≤ 70) ∨ (a = 30 ∧ b = 61)) → f107 a b = f107 a b) ∧ zH D A τ f107 fr ol s _ ∧ va_S A s.heap _ _ ∧ lv_has _ 3 [(0, .ref (τ.1 30)), (2, .int (nI 0))] from ⟨rfl, ⟨Nat.zero_le _, zMo.ci hMo0 (fun i9 k9 h9 => hfA _ _ (by omega)), zMs.mono hMs (by omega), hs3, by rw [hfA _ _ (by omega)]; exact hsn, fun _ _ _ => rfl⟩, hH, hS, lv_sub hl [1, 0] rfl⟩) (fun k9 ih x9 H locs ls hv9 => ?_)
    obtain ⟨i2, s2, f2⟩ := x9
    have hv9 : k9 = o - i2 ∧ (i2 ≤ o ∧ zMo f2 n o ∧ zMs f2 (Bd + 600000) ∧ s2 ≤ 300 ∧ f2 30 61 = nI s2 ∧ ∀ a b, ¬ (a = 35 ∨ a = 52 ∨ (58 ≤ a ∧ a ≤ 60) ∨ a = 63 ∨ a = 64 ∨ (65 ≤ a ∧ a ≤ 70) ∨ (a = 30 ∧ b = 61)) → f2 a b = f107 a b) ∧ zH D A τ f2 fr ol s H ∧ va_S A s.heap H locs ∧ lv_has ls 3 [(0, .ref (τ.1 30)), (2, .int (nI i2))] := hv9
    obtain ⟨hkih110, hv9, hH, hS, hl⟩ := hv9
    obtain ⟨h3, hMo, hMs, hs2, p61, hfr2⟩ := hv9
    have ih110 := ih
    clear ih
    have hMt := zMt.ci (fi' := f2) hMt0 (fun i9 k9 h9 => by rw [hfr2 i9 k9 (by omega)]; exact hfA _ _ (by omega))
    have hMx := zMx.ci (fi' := f2) hMx0 (fun i9 k9 h9 => by rw [hfr2 i9 k9 (by omega)]; exact hfA _ _ (by omega))
    have p45 := hMo.2.1
    refine lv_iload_n hx hb dX12_day_110 rfl (lv_at hl 1 rfl) ?_
    refine lv_aload_n hx hb dX12_day_111 rfl (lv_at hl 0 rfl) ?_
    refine zGetI (D := D) (ci := 12) (C := RX12) (T := TX12) (N := 71) hx hb hts hiX12 hown hH (zk_30 hF) rfl 45 (by decide) rfl hw3 (fun _ h9 => h9) dX12_day_112 p45 ?_
    refine lv_icmp_ge (tgt := 129) hx hb dX12_day_115 (by decide) (fun c111 => ?_) (fun c111 => ?_)
    · have zc111 := c111
      replace zc111 := zc_le (nI_toInt (by omega)) (nI_toInt (by omega)) zc111
      refine W.widen (k := 0) (n := 0) (by decide) (by decide) ?_
      exact W.vret hx hb hr (fun t9 ht9 hW9 => ⟨⟨f2, rfl, ⟨by rw [hfr2 _ _ (by omega)]; exact htA, hMo, ⟨by rw [← hcA2]; exact zMc.ci hcA (fun i9 k9 h9 => hfr2 _ _ (by omega)), fun b p9 q9 => by rw [hfr2 _ _ (by omega)]; exact hkA b p9 q9⟩, hMs, ⟨s2, hs2, p61⟩, fun a b h => by rw [hfr2 a b (by omega)]; exact hfA a b (by omega)⟩, zEnd1 hH ht9 hW9⟩, hS.F ht9⟩) hS.2.2 dX12_day_129
    · have zc111 := c111
      replace zc111 := zc_nle (nI_toInt (by omega)) (nI_toInt (by omega)) zc111
      refine lv_aload_n hx hb dX12_day_118 rfl (lv_at hl 0 rfl) ?_
      refine lv_iload_n hx hb dX12_day_119 rfl (lv_at hl 1 rfl) ?_
      refine va_callv (va_runV (As := [.int (nI i2)]) (rest := []) ⟨hx, hb, hml, hown, hts⟩ (m_serve l hl0 D A sad τ f2 fr ol hF n hMt o hMo hMx (Bd + 600000) hMs (by omega) s2 p61 hs2 i2 (by omega)) (cwV 1 hts gX12_day_X12_serve rfl rfl rfl (by decide +kernel) ⟨Nat.le_of_ble_eq_true rfl, Nat.le_of_ble_eq_true rfl⟩) ⟨zQc_bl, zRecv hH (zk_30 hF) rfl, zQc_at hz hS hA hH⟩ rfl rfl hl.1 rfl (lv_room (Nat.le_of_ble_eq_true rfl)) dX12_day_120 ⟨Nat.le_of_ble_eq_true rfl, Nat.le_of_ble_eq_true rfl⟩) hS (fun q _ h => h) (fun q h => h) (fun u9 t9 H1 locs ht9 hvm9 hw hB hz1 hk1 hS => ?_)
      have hH := zMv ht9 hvm9 hB
      clear hB
      generalize u9 = f113 at hw hH
      generalize H1 = H at hH hS ⊢
      obtain ⟨hMo7, hMs7, ⟨s7, hs7, p7⟩, hf7⟩ := hw
      refine lv_iinc (v := nI (i2 + 1)) (lv' := [(2, .int (nI (i2 + 1))), (0, .ref (τ.1 30))]) hx hb dX12_day_123 hl (k := 1) rfl (by rw [show (Int32.ofInt 1 : Int32) = nI 1 from by decide, nI_add]) (by decide) rfl (fun ls hl => ?_)
      refine lv_goto (tgt := 110) hx hb dX12_day_126 (by decide) ?_
      exact ih110 (o - (i2 + 1)) (by omega) (i2 + 1, s7, f113) _ _ _ (show o - (i2 + 1) = o - (i2 + 1) ∧ ((i2 + 1) ≤ o ∧ zMo f113 n o ∧ zMs f113 (Bd + 600000) ∧ s7 ≤ 300 ∧ f113 30 61 = nI s7 ∧ ∀ a b, ¬ (a = 35 ∨ a = 52 ∨ (58 ≤ a ∧ a ≤ 60) ∨ a = 63 ∨ a = 64 ∨ (65 ≤ a ∧ a ≤ 70) ∨ (a = 30 ∧ b = 61)) → f113 a b = f107 a b) ∧ zH D A τ f113 fr ol s _ ∧ va_S A s.heap _ _ ∧ lv_has _ 3 [(0, .ref (τ.1 30)), (2, .int (nI (i2 + 1)))] from ⟨rfl, ⟨by omega, hMo7, hMs7, hs7, p7, fun a b h => by rw [hf7 a b h]; exact hfr2 a b h⟩, hH, hS, lv_sub hl [1, 0] rfl⟩)
  · have zc106 := c106
    replace zc106 := zc_nle (nI_toInt (by omega)) (nI_toInt (by omega)) zc106
    obtain ⟨⟨t, ht, e41⟩, k, hk, e43⟩ := hok i (by omega)
    refine lv_aload_n hx hb dX12_day_22 rfl (lv_at hl 0 rfl) ?_
    refine zGetR (D := D) (ci := 12) (C := RX12) (T := TX12) (N := 71) hx hb hts hiX12 hown hH (zk_30 hF) rfl 15 (by decide) rfl hw4 (fun _ h9 => h9) dX12_day_23 (zr_30_15 hF) ?_
    refine lv_iload_n hx hb dX12_day_26 rfl (lv_at hl 2 rfl) ?_
    refine zIaldN (D := D) hx hb hH (zk_42 hF) (zn_42 hF) (by omega) (by omega) rfl dX12_day_27 ?_
    refine lv_aload_n hx hb dX12_day_28 rfl (lv_at hl 0 rfl) ?_
    refine zGetI (D := D) (ci := 12) (C := RX12) (T := TX12) (N := 71) hx hb hts hiX12 hown hH (zk_30 hF) rfl 1 (by decide) rfl hw1 (fun _ h9 => h9) dX12_day_29 p1 ?_
    refine lv_icmp_ne (tgt := 58) hx hb dX12_day_32 (by decide) (fun c114 => ?_) (fun c114 => ?_)
    · have zc114 := c114
      replace zc114 := zc_neq (rfl) (nI_toInt (by omega)) zc114
      refine lv_aload_n hx hb dX12_day_58 rfl (lv_at hl 0 rfl) ?_
      refine zGetR (D := D) (ci := 12) (C := RX12) (T := TX12) (N := 71) hx hb hts hiX12 hown hH (zk_30 hF) rfl 14 (by decide) rfl hw5 (fun _ h9 => h9) dX12_day_59 (zr_30_14 hF) ?_
      refine lv_iload_n hx hb dX12_day_62 rfl (lv_at hl 1 rfl) ?_
      refine lv_aload_n hx hb dX12_day_63 rfl (lv_at hl 0 rfl) ?_
      refine zGetR (D := D) (ci := 12) (C := RX12) (T := TX12) (N := 71) hx hb hts hiX12 hown hH (zk_30 hF) rfl 14 (by decide) rfl hw5 (fun _ h9 => h9) dX12_day_64 (zr_30_14 hF) ?_
      refine lv_iload_n hx hb dX12_day_67 rfl (lv_at hl 2 rfl) ?_
      refine zIaldN (D := D) hx hb hH (zk_41 hF) (zn_41 hF) (by omega) (by omega) e41 dX12_day_68 ?_
      refine zIastN (D := D) hx hb hH hS (zk_41 hF) (zn_41 hF) (by omega) (by omega) dX12_day_69 (fun H locs hH hS => ?_)
      obtain ⟨f115, ef115⟩ : ∃ f9 : zFi, f9 = zu f 41 st (nI t) := ⟨_, rfl⟩
      rw [← ef115] at hH
      have q116 : f115 30 13 = nI c := by rw [ef115, zu_n (fun h9 => absurd h9.1 (by decide))]; exact p13
      have q117 : f115 30 1 = nI (td + 1) := by rw [ef115, zu_n (fun h9 => absurd h9.1 (by decide))]; exact p1
      have q118 : f115 43 i = nI k := by rw [ef115, zu_n (fun h9 => absurd h9.1 (by decide))]; exact e43
      have q119 : f115 41 st = nI t := by rw [ef115]; exact zu_s
      have hMs := zMs.ci (fi' := f115) hMs (fun i9 k9 h9 => by rw [ef115]; exact zu_n (by omega))
      refine lv_aload_n hx hb dX12_day_70 rfl (lv_at hl 0 rfl) ?_
      refine zGetR (D := D) (ci := 12) (C := RX12) (T := TX12) (N := 71) hx hb hts hiX12 hown hH (zk_30 hF) rfl 15 (by decide) rfl hw4 (fun _ h9 => h9) dX12_day_71 (zr_30_15 hF) ?_
      refine lv_iload_n hx hb dX12_day_74 rfl (lv_at hl 1 rfl) ?_
      refine lv_aload_n hx hb dX12_day_75 rfl (lv_at hl 0 rfl) ?_
      refine zGetR (D := D) (ci := 12) (C := RX12) (T := TX12) (N := 71) hx hb hts hiX12 hown hH (zk_30 hF) rfl 15 (by decide) rfl hw4 (fun _ h9 => h9) dX12_day_76 (zr_30_15 hF) ?_
      refine lv_iload_n hx hb dX12_day_79 rfl (lv_at hl 2 rfl) ?_
      refine zIaldN (D := D) hx hb hH (zk_42 hF) (zn_42 hF) (by omega) (by omega) rfl dX12_day_80 ?_
      refine zIastN (D := D) hx hb hH hS (zk_42 hF) (zn_42 hF) (by omega) (by omega) dX12_day_81 (fun H locs hH hS => ?_)
      obtain ⟨f120, ef120⟩ : ∃ f9 : zFi, f9 = zu f115 42 st (f115 42 i) := ⟨_, rfl⟩
      rw [← ef120] at hH
      have q121 : f120 30 13 = nI c := by rw [ef120, zu_n (fun h9 => absurd h9.1 (by decide))]; exact q116
      have q122 : f120 30 1 = nI (td + 1) := by rw [ef120, zu_n (fun h9 => absurd h9.1 (by decide))]; exact q117
      have q123 : f120 43 i = nI k := by rw [ef120, zu_n (fun h9 => absurd h9.1 (by decide))]; exact q118
      have q124 : f120 41 st = nI t := by rw [ef120, zu_n (fun h9 => absurd h9.1 (by decide))]; exact q119
      have q125 : f120 42 st = f115 42 i := by rw [ef120]; exact zu_s
      have hMs := zMs.ci (fi' := f120) hMs (fun i9 k9 h9 => by rw [ef120]; exact zu_n (by omega))
      refine lv_aload_n hx hb dX12_day_82 rfl (lv_at hl 0 rfl) ?_
      refine zGetR (D := D) (ci := 12) (C := RX12) (T := TX12) (N := 71) hx hb hts hiX12 hown hH (zk_30 hF) rfl 16 (by decide) rfl hw6 (fun _ h9 => h9) dX12_day_83 (zr_30_16 hF) ?_
      refine lv_iload_n hx hb dX12_day_86 rfl (lv_at hl 1 rfl) ?_
      refine lv_aload_n hx hb dX12_day_87 rfl (lv_at hl 0 rfl) ?_
      refine zGetR (D := D) (ci := 12) (C := RX12) (T := TX12) (N := 71) hx hb hts hiX12 hown hH (zk_30 hF) rfl 16 (by decide) rfl hw6 (fun _ h9 => h9) dX12_day_88 (zr_30_16 hF) ?_
      refine lv_iload_n hx hb dX12_day_91 rfl (lv_at hl 2 rfl) ?_
      refine zIaldN (D := D) hx hb hH (zk_43 hF) (zn_43 hF) (by omega) (by omega) q123 dX12_day_92 ?_
      refine zIastN (D := D) hx hb hH hS (zk_43 hF) (zn_43 hF) (by omega) (by omega) dX12_day_93 (fun H locs hH hS => ?_)
      obtain ⟨f126, ef126⟩ : ∃ f9 : zFi, f9 = zu f120 43 st (nI k) := ⟨_, rfl⟩
      rw [← ef126] at hH
      have q127 : f126 30 13 = nI c := by rw [ef126, zu_n (fun h9 => absurd h9.1 (by decide))]; exact q121
      have q128 : f126 30 1 = nI (td + 1) := by rw [ef126, zu_n (fun h9 => absurd h9.1 (by decide))]; exact q122
      have q129 : f126 41 st = nI t := by rw [ef126, zu_n (fun h9 => absurd h9.1 (by decide))]; exact q124
      have q130 : f126 42 st = f115 42 i := by rw [ef126, zu_n (fun h9 => absurd h9.1 (by decide))]; exact q125
      have q131 : f126 43 st = nI k := by rw [ef126]; exact zu_s
      have hMs := zMs.ci (fi' := f126) hMs (fun i9 k9 h9 => by rw [ef126]; exact zu_n (by omega))
      refine lv_iinc (v := nI (st + 1)) (lv' := [(1, .int (nI (st + 1))), (0, .ref (τ.1 30)), (2, .int (nI i))]) hx hb dX12_day_94 hl (k := 1) rfl (by rw [show (Int32.ofInt 1 : Int32) = nI 1 from by decide, nI_add]) (by decide) rfl (fun ls hl => ?_)
      refine lv_iinc (v := nI (i + 1)) (lv' := [(2, .int (nI (i + 1))), (1, .int (nI (st + 1))), (0, .ref (τ.1 30))]) hx hb dX12_day_97 hl (k := 2) rfl (by rw [show (Int32.ofInt 1 : Int32) = nI 1 from by decide, nI_add]) (by decide) rfl (fun ls hl => ?_)
      refine lv_goto (tgt := 14) hx hb dX12_day_100 (by decide) ?_
      exact ih105 (c - (i + 1)) (by omega) (i + 1, st + 1, f126) _ _ _ (show c - (i + 1) = c - (i + 1) ∧ ((i + 1) ≤ c ∧ (st + 1) ≤ (i + 1) ∧ f126 30 13 = nI c ∧ f126 30 1 = nI (td + 1) ∧ (∀ j, j < (st + 1) ∨ ((i + 1) ≤ j ∧ j < c) → zCok f126 n j) ∧ zMs f126 (Bd + 10000 * (i + 1)) ∧ (st + 1) = zKp (fi 42) (nI (td + 1)) (i + 1) ∧ (∀ b, b < (i + 1) → ¬ fi 42 b = nI (td + 1) → f126 42 (zKp (fi 42) (nI (td + 1)) b) = fi 42 b) ∧ (∀ b, (i + 1) ≤ b → f126 42 b = fi 42 b) ∧ ∀ a b, ¬ (a = 35 ∨ (41 ≤ a ∧ a ≤ 43) ∨ (a = 30 ∧ b = 1)) → f126 a b = fi a b) ∧ zH D A τ f126 fr ol s _ ∧ va_S A s.heap _ _ ∧ lv_has _ 3 [(0, .ref (τ.1 30)), (1, .int (nI (st + 1))), (2, .int (nI (i + 1)))] from ⟨rfl, ⟨by omega, by omega, q127, q128, fun j h => by by_cases h7 : j = st; (subst h7; exact ⟨⟨t, ht, q129⟩, k, hk, q131⟩); exact (hok j (by omega)).ci (by rw [ef126, zu_n (by omega), ef120, zu_n (by omega), ef115, zu_n (by omega)]) (by rw [ef126, zu_n (by omega), ef120, zu_n (by omega), ef115, zu_n (by omega)]), zMs.mono hMs (by omega), by rw [zKp_n (by rw [← hun i (Nat.le_refl _)]; exact c114), ← hst], fun b h h8 => by by_cases h7 : b = i; (subst h7; rw [← hst, ef126, zu_n (by omega), ef120, zu_s, ef115, zu_n (by omega)]; exact hun b (Nat.le_refl _)); (have h6 := zKp_lt (show b < i by omega) h8; rw [← hst] at h6; rw [ef126, zu_n (by omega), ef120, zu_n (by omega), ef115, zu_n (by omega)]; exact hkp b (by omega) h8), fun b h => by rw [ef126, zu_n (by omega), ef120, zu_n (by omega), ef115, zu_n (by omega)]; exact hun b (by omega), fun a b h => by rw [ef126, zu_n (by omega), ef120, zu_n (by omega), ef115, zu_n (by omega)]; exact hfr a b h⟩, hH, hS, lv_sub hl [2, 1, 0] rfl⟩)
    · have zc114 := c114
      replace zc114 := zc_eq (rfl) (nI_toInt (by omega)) zc114
      obtain ⟨s1, hs1, e35⟩ := hMs t (by omega)
      refine lv_aload_n hx hb dX12_day_35 rfl (lv_at hl 0 rfl) ?_
      refine zGetR (D := D) (ci := 12) (C := RX12) (T := TX12) (N := 71) hx hb hts hiX12 hown hH (zk_30 hF) rfl 7 (by decide) rfl hw7 (fun _ h9 => h9) dX12_day_36 (zr_30_7 hF) ?_
      refine lv_aload_n hx hb dX12_day_39 rfl (lv_at hl 0 rfl) ?_
      refine zGetR (D := D) (ci := 12) (C := RX12) (T := TX12) (N := 71) hx hb hts hiX12 hown hH (zk_30 hF) rfl 14 (by decide) rfl hw5 (fun _ h9 => h9) dX12_day_40 (zr_30_14 hF) ?_
      refine lv_iload_n hx hb dX12_day_43 rfl (lv_at hl 2 rfl) ?_
      refine zIaldN (D := D) hx hb hH (zk_41 hF) (zn_41 hF) (by omega) (by omega) e41 dX12_day_44 ?_
      refine lv_dup2_11 hx hb dX12_day_45 rfl rfl ?_
      refine zIaldN (D := D) hx hb hH (zk_35 hF) (zn_35 hF) (by omega) (by omega) e35 dX12_day_46 ?_
      refine lv_aload_n hx hb dX12_day_47 rfl (lv_at hl 0 rfl) ?_
      refine zGetR (D := D) (ci := 12) (C := RX12) (T := TX12) (N := 71) hx hb hts hiX12 hown hH (zk_30 hF) rfl 16 (by decide) rfl hw6 (fun _ h9 => h9) dX12_day_48 (zr_30_16 hF) ?_
      refine lv_iload_n hx hb dX12_day_51 rfl (lv_at hl 2 rfl) ?_
      refine zIaldN (D := D) hx hb hH (zk_43 hF) (zn_43 hF) (by omega) (by omega) e43 dX12_day_52 ?_
      refine lv_iadd hx hb dX12_day_53 ?_
      refine lv_topi (fun v132 ev132 => ?_)
      obtain rfl : v132 = nI (s1 + k) := ev132.trans (nI_add _ _)
      refine zIastN (D := D) hx hb hH hS (zk_35 hF) (zn_35 hF) (by omega) (by omega) dX12_day_54 (fun H locs hH hS => ?_)
      obtain ⟨f133, ef133⟩ : ∃ f9 : zFi, f9 = zu f 35 t (nI (s1 + k)) := ⟨_, rfl⟩
      rw [← ef133] at hH
      have q134 : f133 30 13 = nI c := by rw [ef133, zu_n (fun h9 => absurd h9.1 (by decide))]; exact p13
      have q135 : f133 30 1 = nI (td + 1) := by rw [ef133, zu_n (fun h9 => absurd h9.1 (by decide))]; exact p1
      have q136 : f133 41 i = nI t := by rw [ef133, zu_n (fun h9 => absurd h9.1 (by decide))]; exact e41
      have q137 : f133 43 i = nI k := by rw [ef133, zu_n (fun h9 => absurd h9.1 (by decide))]; exact e43
      have q138 : f133 35 t = nI (s1 + k) := by rw [ef133]; exact zu_s
      have hMs := zMs.set (B2 := Bd + 10000 * (i + 1)) (v := s1 + k) hMs ef133 (by omega) (by omega)
      refine lv_goto (tgt := 97) hx hb dX12_day_55 (by decide) ?_
      refine lv_iinc (v := nI (i + 1)) (lv' := [(2, .int (nI (i + 1))), (0, .ref (τ.1 30)), (1, .int (nI st))]) hx hb dX12_day_97 hl (k := 2) rfl (by rw [show (Int32.ofInt 1 : Int32) = nI 1 from by decide, nI_add]) (by decide) rfl (fun ls hl => ?_)
      refine lv_goto (tgt := 14) hx hb dX12_day_100 (by decide) ?_
      exact ih105 (c - (i + 1)) (by omega) (i + 1, st, f133) _ _ _ (show c - (i + 1) = c - (i + 1) ∧ ((i + 1) ≤ c ∧ st ≤ (i + 1) ∧ f133 30 13 = nI c ∧ f133 30 1 = nI (td + 1) ∧ (∀ j, j < st ∨ ((i + 1) ≤ j ∧ j < c) → zCok f133 n j) ∧ zMs f133 (Bd + 10000 * (i + 1)) ∧ st = zKp (fi 42) (nI (td + 1)) (i + 1) ∧ (∀ b, b < (i + 1) → ¬ fi 42 b = nI (td + 1) → f133 42 (zKp (fi 42) (nI (td + 1)) b) = fi 42 b) ∧ (∀ b, (i + 1) ≤ b → f133 42 b = fi 42 b) ∧ ∀ a b, ¬ (a = 35 ∨ (41 ≤ a ∧ a ≤ 43) ∨ (a = 30 ∧ b = 1)) → f133 a b = fi a b) ∧ zH D A τ f133 fr ol s _ ∧ va_S A s.heap _ _ ∧ lv_has _ 3 [(0, .ref (τ.1 30)), (1, .int (nI st)), (2, .int (nI (i + 1)))] from ⟨rfl, ⟨by omega, by omega, q134, q135, fun j h => (hok j (by omega)).ci (by rw [ef133, zu_n (by omega)]) (by rw [ef133, zu_n (by omega)]), hMs, by rw [zKp_y (by rw [← hun i (Nat.le_refl _)]; exact c114)]; exact hst, fun b h h8 => by by_cases h7 : b = i; (subst h7; exact absurd (by rw [← hun b (Nat.le_refl _)]; exact c114) h8); (rw [ef133, zu_n (by omega)]; exact hkp b (by omega) h8), fun b h => by rw [ef133, zu_n (by omega)]; exact hun b (by omega), fun a b h => by rw [ef133, zu_n (by omega)]; exact hfr a b h⟩, hH, hS, lv_sub hl [1, 2, 0] rfl⟩)
set_option maxHeartbeats 4000000 in
set_option maxRecDepth 100000 in
/-- days -/
theorem m_days (l : Launch) (hl0 : l.stackTraces = false) (D : va_G) (A : Nat → Prop) (sad : Nat → Nat) (τ : zTy) (fi : zFi) (fr : zFr) (ol : Int64) (x : Int32) (hF : zFix τ fr) (n : Nat) (hMt : zMt fi n) (o : Nat) (hMo : zMo fi n o) (hMx : zMx fi n) (c : Nat) (hMc : zMc fi n c) (Bd : Nat) (hMs : zMs fi Bd) (sn : Nat) (hsn : fi 30 61 = nI sn) (hs3 : sn ≤ 300) (td : Nat) (htd : fi 30 1 = nI td) (htd9 : td ≤ 999) (hBd : Bd + 600000 * (1000 - td) ≤ 2000000000) : Met l yX12_days wsX12_days ({ frames := 3, cells := 0, slots := 0, locals := 74 }) (va_Pc [.ref (τ.1 30), .int x] (zQc D A sad τ fi fr ol)) (va_Qi (fun (r : Int32) (u : zFi) => ∃ t2, td ≤ t2 ∧ t2 ≤ 999 ∧ u 30 1 = nI t2 ∧ (((0 ≤ x.toInt ∧ x.toInt ≤ 100) ∧ t2 = min (td + x.toInt.toNat) 999 ∧ r = nI t2 ∧ u 30 0 = nI 0) ∨ (¬ (0 ≤ x.toInt ∧ x.toInt ≤ 100) ∧ t2 = td ∧ r = nI 0 ∧ u 30 0 = nI 1)) ∧ zMo u n o ∧ (∃ c2, c2 ≤ c ∧ zMc u n c2) ∧ zMs u (Bd + 600000 * (t2 - td)) ∧ (∃ s2, s2 ≤ 300 ∧ u 30 61 = nI s2) ∧ (∀ Ld : List Int32, Ld.length = c → zLs fi 42 Ld → zLs u 42 (zIt Ld td (t2 - td)) ∧ u 30 13 = nI (zIt Ld td (t2 - td)).length) ∧ ∀ a b, ¬ (a = 35 ∨ a = 52 ∨ (58 ≤ a ∧ a ≤ 60) ∨ a = 63 ∨ a = 64 ∨ (65 ≤ a ∧ a ≤ 70) ∨ (41 ≤ a ∧ a ≤ 43) ∨ (a = 30 ∧ (b = 61 ∨ b = 1 ∨ b = 13 ∨ b = 0))) → u a b = fi a b) (fun (u : zFi) (t : State) => zH D A τ u fr ol t t.heap) A) 0 0 A := by
  refine Met.ofW (cc := cX12_days) (maxL := 3) (ret := (some .int)) (by decide) rfl ?_
  intro p9 e9 s m args below meth c9 s₁ B hml hv
  obtain ⟨rfl, hz, hH, hA⟩ := hv
  have hx := B.exec
  have hb := B.bytes
  have hr := B.returns
  have hts := atoms_spec (ws := wsX12_days) B.pre
  have hown : s.vm.findClass RX12 = some m.cls := findClass_of_methodNamed B.named
  have hlocks := B.notSynchronized
  have hS : va_S A s.heap s.heap [] := va_S.rf
  have hl := lv_entry ([.ref (τ.1 30), .int x]) (n := 3) (Nat.le_of_ble_eq_true rfl)
  rw [lg_entry_eq]
  generalize (lg_sl ([.ref (τ.1 30), .int x]) ++ List.replicate (3 - (lg_sl ([.ref (τ.1 30), .int x])).length) Slot.unset).toArray = ls at hl ⊢
  have hl : lv_has ls 3 [(0, .ref (τ.1 30)), (1, .int x)] := hl
  have hm30 := hMt.1
  have hMt0 := hMt
  have hMx0 := hMx
  have hMc0 := hMc
  have hw0 := hts (.fieldLink RX12 165 "PostHouseModel" "thrown" "I") (by decide +kernel)
  have hiX12 : ∀ w ∈ u_ws RX12 TX12 71, w ∈ wsX12_days := fun _ h => List.mem_cons_of_mem _ (List.mem_append_right _ h)
  have hw2 := hts (.fieldLink RX12 200 "PostHouseModel" "today" "I") (by decide +kernel)
  refine lv_aload_n hx hb dX12_days_0 rfl (lv_at hl 0 rfl) ?_
  refine lv_iload_n hx hb dX12_days_1 rfl (lv_at hl 1 rfl) ?_
  refine lv_iconst (v := nI 0) hx hb dX12_days_2 (by decide) ?_
  refine lv_bipush (v := nI 100) hx hb dX12_days_3 (by decide) ?_
  refine va_calli (va_runS (As := [.int x, .int (nI 0), .int (nI 100)]) (rest := [.ref (τ.1 30)]) ⟨hx, hb, hml, hown, hts⟩ (m_isIn l hl0 D A sad τ fi fr ol x (nI 0) (nI 100)) (cwS 3 hts gX12_days_X12_isIn rfl rfl rfl (by decide +kernel) ⟨Nat.le_of_ble_eq_true rfl, Nat.le_of_ble_eq_true rfl⟩) ⟨zQc_bl, zQc_at hz hS hA hH⟩ rfl rfl hl.1 rfl (lv_room (Nat.le_of_ble_eq_true rfl)) dX12_days_5 ⟨Nat.le_of_ble_eq_true rfl, Nat.le_of_ble_eq_true rfl⟩) hS (fun q _ h => h) (fun q h => h) (fun r101 u9 t9 H1 locs ht9 hvm9 hw hB hz1 hk1 hS => ?_)
  have hH := zMv ht9 hvm9 hB
  generalize H1 = H at hH hS ⊢
  rcases hw with ⟨rfl, hy102⟩ | ⟨rfl, hn103⟩
  · skip
    replace hy102 := zWi1 (rfl) (nI_toInt (by omega)) (nI_toInt (by omega)) hy102
    refine lv_if_ne (tgt := 15) hx hb dX12_days_8 (by decide) (fun c104 => ?_) (fun c104 => absurd c104 (by decide))
    refine lv_iconst (v := nI 0) hx hb dX12_days_15 (by decide) ?_
    refine zPutI (D := D) (ci := 12) (ty := .int) (C := RX12) (T := TX12) (N := 71) hx hb hts hiX12 tyX12 tyX12_ok nmX12 hown hH hS (zk_30 hF) rfl 0 (by decide) rfl hw0 (fun _ h9 => h9) rfl (by decide +kernel) rfl rfl dX12_days_16 (fun H locs hH hS => ?_)
    obtain ⟨f105, ef105⟩ : ∃ f9 : zFi, f9 = zu fi 30 0 (nI 0) := ⟨_, rfl⟩
    rw [← ef105] at hH
    have q106 : f105 30 1 = nI td := by rw [ef105, zu_n (fun h9 => absurd h9.2 (by decide))]; exact htd
    have q107 : f105 30 61 = nI sn := by rw [ef105, zu_n (fun h9 => absurd h9.2 (by decide))]; exact hsn
    have q108 : f105 30 0 = nI 0 := by rw [ef105]; exact zu_s
    have hMt := zMt.ci (fi' := f105) hMt (fun i9 k9 h9 => by rw [ef105]; exact zu_n (by omega))
    have hMo := zMo.ci (fi' := f105) hMo (fun i9 k9 h9 => by rw [ef105]; exact zu_n (by omega))
    have hMc := zMc.ci (fi' := f105) hMc (fun i9 k9 h9 => by rw [ef105]; exact zu_n (by omega))
    have hMs := zMs.ci (fi' := f105) hMs (fun i9 k9 h9 => by rw [ef105]; exact zu_n (by omega))
    refine lv_aload_n hx hb dX12_days_19 rfl (lv_at hl 0 rfl) ?_
    refine zGetI (D := D) (ci := 12) (C := RX12) (T := TX12) (N := 71) hx hb hts hiX12 hown hH (zk_30 hF) rfl 0 (by decide) rfl hw0 (fun _ h9 => h9) dX12_days_20 q108 ?_
    refine lv_if_le (tgt := 28) hx hb dX12_days_23 (by decide) (fun c109 => ?_) (fun c109 => absurd (by decide) c109)
    refine lv_iconst (v := nI 0) hx hb dX12_days_28 (by decide) ?_
    refine lv_istore_n (lv' := [(2, .int (nI 0)), (0, .ref (τ.1 30)), (1, .int x)]) hx hb dX12_days_29 rfl hl (by decide) rfl (fun ls hl => ?_)
    refine zLp (σ := Nat × Nat × Nat × Nat × zFi) (fun x9 k9 H locs ls => (fun (k : Nat) (t2 : Nat) (c2 : Nat) (s2 : Nat) (f : zFi) => k9 = 1000 - k ∧ ((k : Int) ≤ x.toInt ∧ k ≤ 100 ∧ t2 = min (td + k) 999 ∧ f 30 1 = nI t2 ∧ zMo f n o ∧ (c2 ≤ c ∧ zMc f n c2) ∧ zMs f (Bd + 600000 * (t2 - td)) ∧ (s2 ≤ 300 ∧ f 30 61 = nI s2) ∧ f 30 0 = nI 0 ∧ (t2 = td + k ∧ ∀ Ld : List Int32, Ld.length = c → zLs fi 42 Ld → zLs f 42 (zIt Ld td k) ∧ (zIt Ld td k).length = c2) ∧ ∀ a b, ¬ (a = 35 ∨ a = 52 ∨ (58 ≤ a ∧ a ≤ 60) ∨ a = 63 ∨ a = 64 ∨ (65 ≤ a ∧ a ≤ 70) ∨ (41 ≤ a ∧ a ≤ 43) ∨ (a = 30 ∧ (b = 61 ∨ b = 1 ∨ b = 13 ∨ b = 0))) → f a b = fi a b) ∧ zH D A τ f fr ol s H ∧ va_S A s.heap H locs ∧ lv_has ls 3 [(0, .ref (τ.1 30)), (1, .int x), (2, .int (nI k))]) x9.1 x9.2.1 x9.2.2.1 x9.2.2.2.1 x9.2.2.2.2) (0, td, c, sn, f105) (1000 - 0) (show 1000 - 0 = 1000 - 0 ∧ ((0 : Int) ≤ x.toInt ∧ 0 ≤ 100 ∧ td = min (td + 0) 999 ∧ f105 30 1 = nI td ∧ zMo f105 n o ∧ (c ≤ c ∧ zMc f105 n c) ∧ zMs f105 (Bd + 600000 * (td - td)) ∧ (sn ≤ 300 ∧ f105 30 61 = nI sn) ∧ f105 30 0 = nI 0 ∧ (td = td + 0 ∧ ∀ Ld : List Int32, Ld.length = c → zLs fi 42 Ld → zLs f105 42 (zIt Ld td 0) ∧ (zIt Ld td 0).length = c) ∧ ∀ a b, ¬ (a = 35 ∨ a = 52 ∨ (58 ≤ a ∧ a ≤ 60) ∨ a = 63 ∨ a = 64 ∨ (65 ≤ a ∧ a ≤ 70) ∨ (41 ≤ a ∧ a ≤ 43) ∨ (a = 30 ∧ (b = 61 ∨ b = 1 ∨ b = 13 ∨ b = 0))) → f105 a b = fi a b) ∧ zH D A τ f105 fr ol s _ ∧ va_S A s.heap _ _ ∧ lv_has _ 3 [(0, .ref (τ.1 30)), (1, .int x), (2, .int (nI 0))] from ⟨rfl, ⟨by have h8 := hy102; omega, by omega, by show td = min (td + 0) 999; omega, q106, hMo, ⟨Nat.le_refl _, hMc⟩, zMs.mono hMs (by omega), ⟨hs3, q107⟩, q108, ⟨rfl, fun Ld q1 q2 => ⟨fun j hj => by rw [ef105, zu_n (by omega)]; exact q2 j hj, q1⟩⟩, fun a b h => by rw [ef105, zu_n (by omega)]⟩, hH, hS, lv_sub hl [1, 2, 0] rfl⟩) (fun k9 ih x9 H locs ls hv9 => ?_)
    obtain ⟨k, t2, c2, s2, f⟩ := x9
    have hv9 : k9 = 1000 - k ∧ ((k : Int) ≤ x.toInt ∧ k ≤ 100 ∧ t2 = min (td + k) 999 ∧ f 30 1 = nI t2 ∧ zMo f n o ∧ (c2 ≤ c ∧ zMc f n c2) ∧ zMs f (Bd + 600000 * (t2 - td)) ∧ (s2 ≤ 300 ∧ f 30 61 = nI s2) ∧ f 30 0 = nI 0 ∧ (t2 = td + k ∧ ∀ Ld : List Int32, Ld.length = c → zLs fi 42 Ld → zLs f 42 (zIt Ld td k) ∧ (zIt Ld td k).length = c2) ∧ ∀ a b, ¬ (a = 35 ∨ a = 52 ∨ (58 ≤ a ∧ a ≤ 60) ∨ a = 63 ∨ a = 64 ∨ (65 ≤ a ∧ a ≤ 70) ∨ (41 ≤ a ∧ a ≤ 43) ∨ (a = 30 ∧ (b = 61 ∨ b = 1 ∨ b = 13 ∨ b = 0))) → f a b = fi a b) ∧ zH D A τ f fr ol s H ∧ va_S A s.heap H locs ∧ lv_has ls 3 [(0, .ref (τ.1 30)), (1, .int x), (2, .int (nI k))] := hv9
    obtain ⟨hkih110, hv9, hH, hS, hl⟩ := hv9
    obtain ⟨hkx, hk1, ht2, p1, hMo, ⟨hc2, hMc⟩, hMs, ⟨hs2, p61⟩, p0, ⟨htk, hit⟩, hfr⟩ := hv9
    have ih110 := ih
    clear ih
    have hMt := zMt.ci (fi' := f) hMt0 (fun i9 k9 h9 => hfr _ _ (by omega))
    have hMx := zMx.ci (fi' := f) hMx0 (fun i9 k9 h9 => hfr _ _ (by omega))
    refine lv_iload_n hx hb dX12_days_30 rfl (lv_at hl 2 rfl) ?_
    refine lv_iload_n hx hb dX12_days_31 rfl (lv_at hl 1 rfl) ?_
    refine lv_icmp_ge (tgt := 55) hx hb dX12_days_32 (by decide) (fun c111 => ?_) (fun c111 => ?_)
    · have zc111 := c111
      replace zc111 := zc_le (rfl) (nI_toInt (by omega)) zc111
      refine lv_aload_n hx hb dX12_days_55 rfl (lv_at hl 0 rfl) ?_
      refine zGetI (D := D) (ci := 12) (C := RX12) (T := TX12) (N := 71) hx hb hts hiX12 hown hH (zk_30 hF) rfl 1 (by decide) rfl hw2 (fun _ h9 => h9) dX12_days_56 p1 ?_
      refine W.widen (k := 0) (n := 0) (by decide) (by decide) ?_
      exact W.iret (v := nI t2) hx hb hr (fun t9 ht9 hW9 => ⟨⟨nI t2, f, rfl, ⟨t2, by omega, by omega, p1, Or.inl ⟨hy102, by omega, rfl, p0⟩, hMo, ⟨c2, hc2, hMc⟩, hMs, ⟨s2, hs2, p61⟩, fun Ld q1 q2 => by rw [show t2 - td = k by omega]; obtain ⟨r1, r2⟩ := hit Ld q1 q2; exact ⟨r1, by rw [hMc.2.1, r2]⟩, hfr⟩, zEnd1 hH ht9 hW9⟩, hS.F ht9⟩) hS.2.2 dX12_days_59
    · have zc111 := c111
      replace zc111 := zc_nle (rfl) (nI_toInt (by omega)) zc111
      refine lv_aload_n hx hb dX12_days_35 rfl (lv_at hl 0 rfl) ?_
      refine zGetI (D := D) (ci := 12) (C := RX12) (T := TX12) (N := 71) hx hb hts hiX12 hown hH (zk_30 hF) rfl 1 (by decide) rfl hw2 (fun _ h9 => h9) dX12_days_36 p1 ?_
      refine lv_sipush (v := nI 999) hx hb dX12_days_39 (by decide) ?_
      refine lv_icmp_ge (tgt := 55) hx hb dX12_days_42 (by decide) (fun c112 => ?_) (fun c112 => ?_)
      · have zc112 := c112
        replace zc112 := zc_le (nI_toInt (by omega)) (nI_toInt (by omega)) zc112
        refine lv_aload_n hx hb dX12_days_55 rfl (lv_at hl 0 rfl) ?_
        refine zGetI (D := D) (ci := 12) (C := RX12) (T := TX12) (N := 71) hx hb hts hiX12 hown hH (zk_30 hF) rfl 1 (by decide) rfl hw2 (fun _ h9 => h9) dX12_days_56 p1 ?_
        refine W.widen (k := 0) (n := 0) (by decide) (by decide) ?_
        exact W.iret (v := nI t2) hx hb hr (fun t9 ht9 hW9 => ⟨⟨nI t2, f, rfl, ⟨t2, by omega, by omega, p1, Or.inl ⟨hy102, by omega, rfl, p0⟩, hMo, ⟨c2, hc2, hMc⟩, hMs, ⟨s2, hs2, p61⟩, fun Ld q1 q2 => by rw [show t2 - td = k by omega]; obtain ⟨r1, r2⟩ := hit Ld q1 q2; exact ⟨r1, by rw [hMc.2.1, r2]⟩, hfr⟩, zEnd1 hH ht9 hW9⟩, hS.F ht9⟩) hS.2.2 dX12_days_59
      · have zc112 := c112
        replace zc112 := zc_nle (nI_toInt (by omega)) (nI_toInt (by omega)) zc112
        refine lv_aload_n hx hb dX12_days_45 rfl (lv_at hl 0 rfl) ?_
        refine va_callv (va_runV (As := []) (rest := []) ⟨hx, hb, hml, hown, hts⟩ (m_day l hl0 D A sad τ f fr ol hF n hMt o hMo hMx c2 hMc (Bd + 600000 * (t2 - td)) hMs (by omega) s2 p61 hs2 t2 p1 (by omega)) (cwV 0 hts gX12_days_X12_day rfl rfl rfl (by decide +kernel) ⟨Nat.le_of_ble_eq_true rfl, Nat.le_of_ble_eq_true rfl⟩) ⟨zQc_bl, zRecv hH (zk_30 hF) rfl, zQc_at hz hS hA hH⟩ rfl rfl hl.1 rfl (lv_room (Nat.le_of_ble_eq_true rfl)) dX12_days_46 ⟨Nat.le_of_ble_eq_true rfl, Nat.le_of_ble_eq_true rfl⟩) hS (fun q _ h => h) (fun q h => h) (fun u9 t9 H1 locs ht9 hvm9 hw hB hz1 hk1 hS => ?_)
        have hH := zMv ht9 hvm9 hB
        clear hB
        generalize u9 = f114 at hw hH
        generalize H1 = H at hH hS ⊢
        obtain ⟨p7, hMo7, ⟨hMc7, hkp7⟩, hMs7, ⟨s7, hs7, q7⟩, hf7⟩ := hw
        have hc7 := zKp_le (f 42) (nI (t2 + 1)) c2
        refine lv_iinc (v := nI (k + 1)) (lv' := [(2, .int (nI (k + 1))), (0, .ref (τ.1 30)), (1, .int x)]) hx hb dX12_days_49 hl (k := 2) rfl (by rw [show (Int32.ofInt 1 : Int32) = nI 1 from by decide, nI_add]) (by decide) rfl (fun ls hl => ?_)
        refine lv_goto (tgt := 30) hx hb dX12_days_52 (by decide) ?_
        exact ih110 (1000 - (k + 1)) (by omega) (k + 1, t2 + 1, zKp (f 42) (nI (t2 + 1)) c2, s7, f114) _ _ _ (show 1000 - (k + 1) = 1000 - (k + 1) ∧ (((k + 1) : Int) ≤ x.toInt ∧ (k + 1) ≤ 100 ∧ (t2 + 1) = min (td + (k + 1)) 999 ∧ f114 30 1 = nI (t2 + 1) ∧ zMo f114 n o ∧ ((zKp (f 42) (nI (t2 + 1)) c2) ≤ c ∧ zMc f114 n (zKp (f 42) (nI (t2 + 1)) c2)) ∧ zMs f114 (Bd + 600000 * ((t2 + 1) - td)) ∧ (s7 ≤ 300 ∧ f114 30 61 = nI s7) ∧ f114 30 0 = nI 0 ∧ ((t2 + 1) = td + (k + 1) ∧ ∀ Ld : List Int32, Ld.length = c → zLs fi 42 Ld → zLs f114 42 (zIt Ld td (k + 1)) ∧ (zIt Ld td (k + 1)).length = (zKp (f 42) (nI (t2 + 1)) c2)) ∧ ∀ a b, ¬ (a = 35 ∨ a = 52 ∨ (58 ≤ a ∧ a ≤ 60) ∨ a = 63 ∨ a = 64 ∨ (65 ≤ a ∧ a ≤ 70) ∨ (41 ≤ a ∧ a ≤ 43) ∨ (a = 30 ∧ (b = 61 ∨ b = 1 ∨ b = 13 ∨ b = 0))) → f114 a b = fi a b) ∧ zH D A τ f114 fr ol s _ ∧ va_S A s.heap _ _ ∧ lv_has _ 3 [(0, .ref (τ.1 30)), (1, .int x), (2, .int (nI (k + 1)))] from ⟨rfl, ⟨by omega, by have h8 := hy102; omega, by omega, p7, hMo7, ⟨by omega, hMc7⟩, zMs.mono hMs7 (by omega), ⟨hs7, q7⟩, by rw [hf7 _ _ (by omega)]; exact p0, ⟨by omega, fun Ld q1 q2 => by obtain ⟨r1, r2⟩ := hit Ld q1 q2; have r3 := zLs.arr (x := nI (t2 + 1)) r1 (fun b p9 q9 => hkp7 b (by rw [← r2]; exact p9) q9); rw [r2] at r3; show zLs _ 42 (zFt (zIt Ld td k) (nI (min (td + (k + 1)) 999))) ∧ (zFt (zIt Ld td k) (nI (min (td + (k + 1)) 999))).length = _; rw [show min (td + (k + 1)) 999 = t2 + 1 by omega]; exact r3⟩, fun a b h => by rw [hf7 a b (by omega)]; exact hfr a b h⟩, hH, hS, lv_sub hl [1, 2, 0] rfl⟩)
  · skip
    replace hn103 := zWi0 (rfl) (nI_toInt (by omega)) (nI_toInt (by omega)) hn103
    refine lv_if_ne (tgt := 15) hx hb dX12_days_8 (by decide) (fun c115 => absurd (by decide) c115) (fun c115 => ?_)
    refine lv_iconst (v := nI 1) hx hb dX12_days_11 (by decide) ?_
    refine lv_goto (tgt := 16) hx hb dX12_days_12 (by decide) ?_
    refine zPutI (D := D) (ci := 12) (ty := .int) (C := RX12) (T := TX12) (N := 71) hx hb hts hiX12 tyX12 tyX12_ok nmX12 hown hH hS (zk_30 hF) rfl 0 (by decide) rfl hw0 (fun _ h9 => h9) rfl (by decide +kernel) rfl rfl dX12_days_16 (fun H locs hH hS => ?_)
    obtain ⟨f116, ef116⟩ : ∃ f9 : zFi, f9 = zu fi 30 0 (nI 1) := ⟨_, rfl⟩
    rw [← ef116] at hH
    have q117 : f116 30 1 = nI td := by rw [ef116, zu_n (fun h9 => absurd h9.2 (by decide))]; exact htd
    have q118 : f116 30 61 = nI sn := by rw [ef116, zu_n (fun h9 => absurd h9.2 (by decide))]; exact hsn
    have q119 : f116 30 0 = nI 1 := by rw [ef116]; exact zu_s
    have hMt := zMt.ci (fi' := f116) hMt (fun i9 k9 h9 => by rw [ef116]; exact zu_n (by omega))
    have hMo := zMo.ci (fi' := f116) hMo (fun i9 k9 h9 => by rw [ef116]; exact zu_n (by omega))
    have hMc := zMc.ci (fi' := f116) hMc (fun i9 k9 h9 => by rw [ef116]; exact zu_n (by omega))
    have hMs := zMs.ci (fi' := f116) hMs (fun i9 k9 h9 => by rw [ef116]; exact zu_n (by omega))
    refine lv_aload_n hx hb dX12_days_19 rfl (lv_at hl 0 rfl) ?_
    refine zGetI (D := D) (ci := 12) (C := RX12) (T := TX12) (N := 71) hx hb hts hiX12 hown hH (zk_30 hF) rfl 0 (by decide) rfl hw0 (fun _ h9 => h9) dX12_days_20 q119 ?_
    refine lv_if_le (tgt := 28) hx hb dX12_days_23 (by decide) (fun c120 => absurd c120 (by decide)) (fun c120 => ?_)
    refine lv_iconst (v := nI 0) hx hb dX12_days_26 (by decide) ?_
    refine W.widen (k := 0) (n := 0) (by decide) (by decide) ?_
    exact W.iret (v := nI 0) hx hb hr (fun t9 ht9 hW9 => ⟨⟨nI 0, f116, rfl, ⟨td, Nat.le_refl _, htd9, q117, Or.inr ⟨fun h9 => by have h8 := hn103; omega, rfl, rfl, q119⟩, hMo, ⟨c, Nat.le_refl _, hMc⟩, zMs.mono hMs (by omega), ⟨sn, hs3, q118⟩, fun Ld p1 p2 => by rw [show td - td = 0 by omega]; exact ⟨fun j hj => by rw [ef116, zu_n (by omega)]; exact p2 j hj, by rw [ef116, zu_n (by omega), hMc0.2.1]; exact congrArg nI p1.symm⟩, fun a b h => by rw [ef116, zu_n (by omega)]⟩, zEnd1 hH ht9 hW9⟩, hS.F ht9⟩) hS.2.2 dX12_days_27
set_option maxHeartbeats 4000000 in
set_option maxRecDepth 100000 in
/-- back -/
theorem m_back (l : Launch) (hl0 : l.stackTraces = false) (D : va_G) (A : Nat → Prop) (sad : Nat → Nat) (τ : zTy) (fi : zFi) (fr : zFr) (ol : Int64) (x y z : Int32) (hF : zFix τ fr) (n : Nat) (hMt : zMt fi n) (o : Nat) (hMo : zMo fi n o) (Bd : Nat) (hMs : zMs fi Bd) (hBd : Bd ≤ 2000000000) : Met l yX12_back wsX12_back ({ frames := 2, cells := 0, slots := 0, locals := 43 }) (va_Pc [.ref (τ.1 30), .int x, .int y, .int z] (zQc D A sad τ fi fr ol)) (va_Qi (fun (r : Int32) (u : zFi) => zMo u n o ∧ zMs u (Bd + 99) ∧ ∀ a b, ¬ (a = 35 ∨ a = 52 ∨ a = 61 ∨ a = 62 ∨ (a = 30 ∧ b = 0)) → u a b = fi a b) (fun (u : zFi) (t : State) => zH D A τ u fr ol t t.heap) A) 0 0 A := by
  refine Met.ofW (cc := cX12_back) (maxL := 6) (ret := (some .boolean)) (by decide) rfl ?_
  intro p9 e9 s m args below meth c9 s₁ B hml hv
  obtain ⟨rfl, hz, hH, hA⟩ := hv
  have hx := B.exec
  have hb := B.bytes
  have hr := B.returns
  have hts := atoms_spec (ws := wsX12_back) B.pre
  have hown : s.vm.findClass RX12 = some m.cls := findClass_of_methodNamed B.named
  have hlocks := B.notSynchronized
  have hS : va_S A s.heap s.heap [] := va_S.rf
  have hl := lv_entry ([.ref (τ.1 30), .int x, .int y, .int z]) (n := 6) (Nat.le_of_ble_eq_true rfl)
  rw [lg_entry_eq]
  generalize (lg_sl ([.ref (τ.1 30), .int x, .int y, .int z]) ++ List.replicate (6 - (lg_sl ([.ref (τ.1 30), .int x, .int y, .int z])).length) Slot.unset).toArray = ls at hl ⊢
  have hl : lv_has ls 6 [(0, .ref (τ.1 30)), (1, .int x), (2, .int y), (3, .int z)] := hl
  have hm30 := hMt.1
  have ho60 := hMo.1
  have hw0 := hts (.fieldLink RX12 165 "PostHouseModel" "thrown" "I") (by decide +kernel)
  have hiX12 : ∀ w ∈ u_ws RX12 TX12 71, w ∈ wsX12_back := fun _ h => List.mem_cons_of_mem _ (List.mem_append_right _ h)
  have hw2 := hts (.fieldLink RX12 135 "PostHouseModel" "wantDay" "[I") (by decide +kernel)
  have hw3 := hts (.fieldLink RX12 200 "PostHouseModel" "today" "I") (by decide +kernel)
  have hw4 := hts (.fieldLink RX12 49 "PostHouseModel" "rule" "[I") (by decide +kernel)
  have hw5 := hts (.fieldLink RX12 120 "PostHouseModel" "wantSent" "[I") (by decide +kernel)
  have hw6 := hts (.fieldLink RX12 123 "PostHouseModel" "wantPlaced" "[I") (by decide +kernel)
  have hw7 := hts (.fieldLink RX12 129 "PostHouseModel" "wantReturned" "[I") (by decide +kernel)
  have hw8 := hts (.fieldLink RX12 132 "PostHouseModel" "wantPlacedBack" "[I") (by decide +kernel)
  have hw9 := hts (.fieldLink RX12 22 "PostHouseModel" "stock" "[I") (by decide +kernel)
  have hw10 := hts (.fieldLink RX12 111 "PostHouseModel" "wantThing" "[I") (by decide +kernel)
  have hw11 := hts (.fieldLink RX12 102 "PostHouseModel" "orderCredit" "[I") (by decide +kernel)
  have hw12 := hts (.fieldLink RX12 117 "PostHouseModel" "wantPrice" "[I") (by decide +kernel)
  have hw13 := hts (.fieldLink RX12 138 "PostHouseModel" "wantOther" "[I") (by decide +kernel)
  refine lv_aload_n hx hb dX12_back_0 rfl (lv_at hl 0 rfl) ?_
  refine lv_aload_n hx hb dX12_back_1 rfl (lv_at hl 0 rfl) ?_
  refine lv_iload_n hx hb dX12_back_2 rfl (lv_at hl 1 rfl) ?_
  refine lv_iload_n hx hb dX12_back_3 rfl (lv_at hl 2 rfl) ?_
  refine va_calli (va_runV (As := [.int x, .int y]) (rest := [.ref (τ.1 30)]) ⟨hx, hb, hml, hown, hts⟩ (m_isWant l hl0 D A sad τ fi fr ol x y hF n o hMo) (cwV 2 hts gX12_back_X12_isWant rfl rfl rfl (by decide +kernel) ⟨Nat.le_of_ble_eq_true rfl, Nat.le_of_ble_eq_true rfl⟩) ⟨zQc_bl, zRecv hH (zk_30 hF) rfl, zQc_at hz hS hA hH⟩ rfl rfl hl.1 rfl (lv_room (Nat.le_of_ble_eq_true rfl)) dX12_back_4 ⟨Nat.le_of_ble_eq_true rfl, Nat.le_of_ble_eq_true rfl⟩) hS (fun q _ h => h) (fun q h => h) (fun r101 u9 t9 H1 locs ht9 hvm9 hw hB hz1 hk1 hS => ?_)
  have hH := zMv ht9 hvm9 hB
  generalize H1 = H at hH hS ⊢
  rcases hw with ⟨o1, j1, wn, ho1, rfl, hvn8, hvn54, hj1, rfl, rfl⟩ | rfl
  · skip
    refine lv_if_ne (tgt := 14) hx hb dX12_back_7 (by decide) (fun c102 => ?_) (fun c102 => absurd c102 (by decide))
    refine lv_iload_n hx hb dX12_back_14 rfl (lv_at hl 3 rfl) ?_
    refine lv_iconst (v := nI 1) hx hb dX12_back_15 (by decide) ?_
    refine lv_bipush (v := nI 99) hx hb dX12_back_16 (by decide) ?_
    refine va_calli (va_runS (As := [.int z, .int (nI 1), .int (nI 99)]) (rest := [.ref (τ.1 30)]) ⟨hx, hb, hml, hown, hts⟩ (m_isIn l hl0 D A sad τ fi fr ol z (nI 1) (nI 99)) (cwS 3 hts gX12_back_X12_isIn rfl rfl rfl (by decide +kernel) ⟨Nat.le_of_ble_eq_true rfl, Nat.le_of_ble_eq_true rfl⟩) ⟨zQc_bl, zQc_at hz hS hA hH⟩ rfl rfl hl.1 rfl (lv_room (Nat.le_of_ble_eq_true rfl)) dX12_back_18 ⟨Nat.le_of_ble_eq_true rfl, Nat.le_of_ble_eq_true rfl⟩) hS (fun q _ h => h) (fun q h => h) (fun r103 u9 t9 H1 locs ht9 hvm9 hw hB hz1 hk1 hS => ?_)
    have hH := zMv ht9 hvm9 hB
    generalize H1 = H at hH hS ⊢
    rcases hw with ⟨rfl, hy104⟩ | ⟨rfl, hn105⟩
    · skip
      replace hy104 := zWi1 (rfl) (nI_toInt (by omega)) (nI_toInt (by omega)) hy104
      refine lv_if_ne (tgt := 28) hx hb dX12_back_21 (by decide) (fun c106 => ?_) (fun c106 => absurd c106 (by decide))
      refine lv_iconst (v := nI 0) hx hb dX12_back_28 (by decide) ?_
      refine zPutI (D := D) (ci := 12) (ty := .int) (C := RX12) (T := TX12) (N := 71) hx hb hts hiX12 tyX12 tyX12_ok nmX12 hown hH hS (zk_30 hF) rfl 0 (by decide) rfl hw0 (fun _ h9 => h9) rfl (by decide +kernel) rfl rfl dX12_back_29 (fun H locs hH hS => ?_)
      obtain ⟨f107, ef107⟩ : ∃ f9 : zFi, f9 = zu fi 30 0 (nI 0) := ⟨_, rfl⟩
      rw [← ef107] at hH
      have q108 : f107 30 45 = nI o := by rw [ef107, zu_n (fun h9 => absurd h9.2 (by decide))]; exact hMo.2.1
      have q109 : f107 54 o1 = nI wn := by rw [ef107, zu_n (fun h9 => absurd h9.1 (by decide))]; exact hvn54
      have q110 : f107 30 0 = nI 0 := by rw [ef107]; exact zu_s
      have hMo := zMo.ci (fi' := f107) hMo (fun i9 k9 h9 => by rw [ef107]; exact zu_n (by omega))
      have hMs := zMs.ci (fi' := f107) hMs (fun i9 k9 h9 => by rw [ef107]; exact zu_n (by omega))
      refine lv_aload_n hx hb dX12_back_32 rfl (lv_at hl 0 rfl) ?_
      refine zGetI (D := D) (ci := 12) (C := RX12) (T := TX12) (N := 71) hx hb hts hiX12 hown hH (zk_30 hF) rfl 0 (by decide) rfl hw0 (fun _ h9 => h9) dX12_back_33 q110 ?_
      refine lv_if_le (tgt := 41) hx hb dX12_back_36 (by decide) (fun c111 => ?_) (fun c111 => absurd (by decide) c111)
      obtain ⟨mz, hmz, rfl⟩ : ∃ mz : Nat, mz < 100 ∧ z = nI mz := zNatB (by have h8 := hy104; omega) (by have h8 := hy104; omega)
      obtain ⟨⟨t, ht, e55⟩, qm, sa, sp, sc, pb, ⟨e56, e58, e59, e60, e62⟩, b1, b2, b3, b4, b5⟩ := zMo.want hMo ho1 hvn8 q109 hj1
      have hMo1 := hMo
      have hf1 : ∀ a b, ¬ (a = 35 ∨ a = 52 ∨ a = 61 ∨ a = 62 ∨ (a = 30 ∧ b = 0)) → f107 a b = fi a b := fun a b h => by rw [ef107, zu_n (by omega)]
      have h54b := q109
      refine lv_bipush (v := nI 8) hx hb dX12_back_41 (by decide) ?_
      refine lv_iload_n hx hb dX12_back_43 rfl (lv_at hl 1 rfl) ?_
      refine lv_imul hx hb dX12_back_44 ?_
      refine lv_topi (fun v112 ev112 => ?_)
      obtain rfl : v112 = nI (8 * o1) := ev112.trans (pk_mul _ _)
      refine lv_iload_n hx hb dX12_back_45 rfl (lv_at hl 2 rfl) ?_
      refine lv_iadd hx hb dX12_back_46 ?_
      refine lv_topi (fun v113 ev113 => ?_)
      obtain rfl : v113 = nI (8 * o1 + j1) := ev113.trans (nI_add _ _)
      refine lv_istore (lv' := [(4, .int (nI (8 * o1 + j1))), (0, .ref (τ.1 30)), (1, .int (nI o1)), (2, .int (nI j1)), (3, .int (nI mz))]) hx hb dX12_back_47 hl (by decide) rfl (fun ls hl => ?_)
      refine lv_aload_n hx hb dX12_back_49 rfl (lv_at hl 1 rfl) ?_
      refine zGetR (D := D) (ci := 12) (C := RX12) (T := TX12) (N := 71) hx hb hts hiX12 hown hH (zk_30 hF) rfl 59 (by decide) rfl hw2 (fun _ h9 => h9) dX12_back_50 (zr_30_59 hF) ?_
      refine lv_iload hx hb dX12_back_53 (lv_at hl 0 rfl) ?_
      refine zIaldN (D := D) hx hb hH (zk_63 hF) (zn_63 hF) (by omega) (by omega) rfl dX12_back_55 ?_
      refine lv_iconst (v := (-1)) hx hb dX12_back_56 (by decide) ?_
      refine lv_icmp_eq (tgt := 108) hx hb dX12_back_57 (by decide) (fun c114 => ?_) (fun c114 => ?_)
      · have zc114 := c114
        replace zc114 := zc_eq (rfl) ((by decide : ((-1) : Int32).toInt = (-1))) zc114
        refine lv_iconst (v := nI 0) hx hb dX12_back_108 (by decide) ?_
        refine W.widen (k := 0) (n := 0) (by decide) (by decide) ?_
        exact W.zret (v := nI 0) hx hb hr (by decide) (fun t9 ht9 hW9 => ⟨⟨nI 0, f107, rfl, ⟨hMo1, zMs.mono hMs (by omega), hf1⟩, zEnd1 hH ht9 hW9⟩, hS.F ht9⟩) hS.2.2 dX12_back_109
      · have zc114 := c114
        replace zc114 := zc_neq (rfl) ((by decide : ((-1) : Int32).toInt = (-1))) zc114
        refine lv_aload_n hx hb dX12_back_60 rfl (lv_at hl 1 rfl) ?_
        refine zGetI (D := D) (ci := 12) (C := RX12) (T := TX12) (N := 71) hx hb hts hiX12 hown hH (zk_30 hF) rfl 1 (by decide) rfl hw3 (fun _ h9 => h9) dX12_back_61 rfl ?_
        refine lv_aload_n hx hb dX12_back_64 rfl (lv_at hl 1 rfl) ?_
        refine zGetR (D := D) (ci := 12) (C := RX12) (T := TX12) (N := 71) hx hb hts hiX12 hown hH (zk_30 hF) rfl 59 (by decide) rfl hw2 (fun _ h9 => h9) dX12_back_65 (zr_30_59 hF) ?_
        refine lv_iload hx hb dX12_back_68 (lv_at hl 0 rfl) ?_
        refine zIaldN (D := D) hx hb hH (zk_63 hF) (zn_63 hF) (by omega) (by omega) rfl dX12_back_70 ?_
        refine lv_isub hx hb dX12_back_71 ?_
        refine lv_topi (fun v115 ev115 => ?_)
        refine lv_aload_n hx hb dX12_back_72 rfl (lv_at hl 1 rfl) ?_
        refine zGetR (D := D) (ci := 12) (C := RX12) (T := TX12) (N := 71) hx hb hts hiX12 hown hH (zk_30 hF) rfl 17 (by decide) rfl hw4 (fun _ h9 => h9) dX12_back_73 (zr_30_17 hF) ?_
        refine lv_iconst (v := nI 3) hx hb dX12_back_76 (by decide) ?_
        refine zIaldN (D := D) hx hb hH (zk_44 hF) (zn_44 hF) (by omega) (by omega) rfl dX12_back_77 ?_
        refine lv_icmp_gt (tgt := 108) hx hb dX12_back_78 (by decide) (fun c116 => ?_) (fun c116 => ?_)
        · have zc116 := c116
          replace zc116 := zc_lt (rfl) (rfl) zc116
          refine lv_iconst (v := nI 0) hx hb dX12_back_108 (by decide) ?_
          refine W.widen (k := 0) (n := 0) (by decide) (by decide) ?_
          exact W.zret (v := nI 0) hx hb hr (by decide) (fun t9 ht9 hW9 => ⟨⟨nI 0, f107, rfl, ⟨hMo1, zMs.mono hMs (by omega), hf1⟩, zEnd1 hH ht9 hW9⟩, hS.F ht9⟩) hS.2.2 dX12_back_109
        · have zc116 := c116
          replace zc116 := zc_nlt (rfl) (rfl) zc116
          refine lv_iload_n hx hb dX12_back_81 rfl (lv_at hl 4 rfl) ?_
          refine lv_aload_n hx hb dX12_back_82 rfl (lv_at hl 1 rfl) ?_
          refine zGetR (D := D) (ci := 12) (C := RX12) (T := TX12) (N := 71) hx hb hts hiX12 hown hH (zk_30 hF) rfl 54 (by decide) rfl hw5 (fun _ h9 => h9) dX12_back_83 (zr_30_54 hF) ?_
          refine lv_iload hx hb dX12_back_86 (lv_at hl 0 rfl) ?_
          refine zIaldN (D := D) hx hb hH (zk_58 hF) (zn_58 hF) (by omega) (by omega) e58 dX12_back_88 ?_
          refine lv_aload_n hx hb dX12_back_89 rfl (lv_at hl 1 rfl) ?_
          refine zGetR (D := D) (ci := 12) (C := RX12) (T := TX12) (N := 71) hx hb hts hiX12 hown hH (zk_30 hF) rfl 55 (by decide) rfl hw6 (fun _ h9 => h9) dX12_back_90 (zr_30_55 hF) ?_
          refine lv_iload hx hb dX12_back_93 (lv_at hl 0 rfl) ?_
          refine zIaldN (D := D) hx hb hH (zk_59 hF) (zn_59 hF) (by omega) (by omega) e59 dX12_back_95 ?_
          refine lv_iadd hx hb dX12_back_96 ?_
          refine lv_topi (fun v117 ev117 => ?_)
          obtain rfl : v117 = nI (sa + sp) := ev117.trans (nI_add _ _)
          refine lv_aload_n hx hb dX12_back_97 rfl (lv_at hl 1 rfl) ?_
          refine zGetR (D := D) (ci := 12) (C := RX12) (T := TX12) (N := 71) hx hb hts hiX12 hown hH (zk_30 hF) rfl 57 (by decide) rfl hw7 (fun _ h9 => h9) dX12_back_98 (zr_30_57 hF) ?_
          refine lv_iload hx hb dX12_back_101 (lv_at hl 0 rfl) ?_
          refine zIaldN (D := D) hx hb hH (zk_61 hF) (zn_61 hF) (by omega) (by omega) rfl dX12_back_103 ?_
          refine lv_isub hx hb dX12_back_104 ?_
          refine lv_topi (fun v118 ev118 => ?_)
          refine lv_icmp_le (tgt := 110) hx hb dX12_back_105 (by decide) (fun c119 => ?_) (fun c119 => ?_)
          · have zc119 := c119
            replace zc119 := zc_le (nI_toInt (by omega)) (rfl) zc119
            refine lv_aload_n hx hb dX12_back_110 rfl (lv_at hl 1 rfl) ?_
            refine zGetR (D := D) (ci := 12) (C := RX12) (T := TX12) (N := 71) hx hb hts hiX12 hown hH (zk_30 hF) rfl 55 (by decide) rfl hw6 (fun _ h9 => h9) dX12_back_111 (zr_30_55 hF) ?_
            refine lv_iload hx hb dX12_back_114 (lv_at hl 0 rfl) ?_
            refine zIaldN (D := D) hx hb hH (zk_59 hF) (zn_59 hF) (by omega) (by omega) e59 dX12_back_116 ?_
            refine lv_aload_n hx hb dX12_back_117 rfl (lv_at hl 1 rfl) ?_
            refine zGetR (D := D) (ci := 12) (C := RX12) (T := TX12) (N := 71) hx hb hts hiX12 hown hH (zk_30 hF) rfl 58 (by decide) rfl hw8 (fun _ h9 => h9) dX12_back_118 (zr_30_58 hF) ?_
            refine lv_iload hx hb dX12_back_121 (lv_at hl 0 rfl) ?_
            refine zIaldN (D := D) hx hb hH (zk_62 hF) (zn_62 hF) (by omega) (by omega) e62 dX12_back_123 ?_
            refine lv_isub hx hb dX12_back_124 ?_
            refine lv_topi (fun v120 ev120 => ?_)
            obtain rfl : v120 = nI (sp - pb) := ev120.trans (pk_sub (by omega))
            refine lv_iload_n hx hb dX12_back_125 rfl (lv_at hl 4 rfl) ?_
            refine lv_icmp_ge (tgt := 147) hx hb dX12_back_126 (by decide) (fun c121 => ?_) (fun c121 => ?_)
            · have zc121 := c121
              replace zc121 := zc_le (nI_toInt (by omega)) (nI_toInt (by omega)) zc121
              refine lv_iload_n hx hb dX12_back_147 rfl (lv_at hl 4 rfl) ?_
              refine lv_istore (lv' := [(5, .int (nI mz)), (4, .int (nI (8 * o1 + j1))), (0, .ref (τ.1 30)), (1, .int (nI o1)), (2, .int (nI j1)), (3, .int (nI mz))]) hx hb dX12_back_148 hl (by decide) rfl (fun ls hl => ?_)
              refine lv_iload hx hb dX12_back_150 (lv_at hl 0 rfl) ?_
              refine lv_if_le (tgt := 172) hx hb dX12_back_152 (by decide) (fun c122 => ?_) (fun c122 => ?_)
              · have zc122 := c122
                replace zc122 := zc_le (nI_toInt (by omega)) ((by decide : (0 : Int32).toInt = 0)) zc122
                obtain ⟨s3, hs3, e35c⟩ := hMs t (by omega)
                refine lv_aload_n hx hb dX12_back_172 rfl (lv_at hl 2 rfl) ?_
                refine zGetR (D := D) (ci := 12) (C := RX12) (T := TX12) (N := 71) hx hb hts hiX12 hown hH (zk_30 hF) rfl 7 (by decide) rfl hw9 (fun _ h9 => h9) dX12_back_173 (zr_30_7 hF) ?_
                refine lv_aload_n hx hb dX12_back_176 rfl (lv_at hl 2 rfl) ?_
                refine zGetR (D := D) (ci := 12) (C := RX12) (T := TX12) (N := 71) hx hb hts hiX12 hown hH (zk_30 hF) rfl 51 (by decide) rfl hw10 (fun _ h9 => h9) dX12_back_177 (zr_30_51 hF) ?_
                refine lv_iload hx hb dX12_back_180 (lv_at hl 1 rfl) ?_
                refine zIaldN (D := D) hx hb hH (zk_55 hF) (zn_55 hF) (by omega) (by omega) e55 dX12_back_182 ?_
                refine lv_dup2_11 hx hb dX12_back_183 rfl rfl ?_
                refine zIaldN (D := D) hx hb hH (zk_35 hF) (zn_35 hF) (by omega) (by omega) e35c dX12_back_184 ?_
                refine lv_iload_n hx hb dX12_back_185 rfl (lv_at hl 5 rfl) ?_
                refine lv_iload hx hb dX12_back_186 (lv_at hl 0 rfl) ?_
                refine lv_isub hx hb dX12_back_188 ?_
                refine lv_topi (fun v123 ev123 => ?_)
                obtain rfl : v123 = nI (mz - mz) := ev123.trans (pk_sub (by omega))
                refine lv_iadd hx hb dX12_back_189 ?_
                refine lv_topi (fun v124 ev124 => ?_)
                obtain rfl : v124 = nI (s3 + (mz - mz)) := ev124.trans (nI_add _ _)
                refine zIastN (D := D) hx hb hH hS (zk_35 hF) (zn_35 hF) (by omega) (by omega) dX12_back_190 (fun H locs hH hS => ?_)
                obtain ⟨f125, ef125⟩ : ∃ f9 : zFi, f9 = zu f107 35 t (nI (s3 + (mz - mz))) := ⟨_, rfl⟩
                rw [← ef125] at hH
                have q126 : f125 30 45 = nI o := by rw [ef125, zu_n (fun h9 => absurd h9.1 (by decide))]; exact q108
                have q127 : f125 54 o1 = nI wn := by rw [ef125, zu_n (fun h9 => absurd h9.1 (by decide))]; exact q109
                have q128 : f125 30 0 = nI 0 := by rw [ef125, zu_n (fun h9 => absurd h9.1 (by decide))]; exact q110
                have q129 : f125 55 (8 * o1 + j1) = nI t := by rw [ef125, zu_n (fun h9 => absurd h9.1 (by decide))]; exact e55
                have q130 : f125 56 (8 * o1 + j1) = nI qm := by rw [ef125, zu_n (fun h9 => absurd h9.1 (by decide))]; exact e56
                have q131 : f125 58 (8 * o1 + j1) = nI sa := by rw [ef125, zu_n (fun h9 => absurd h9.1 (by decide))]; exact e58
                have q132 : f125 59 (8 * o1 + j1) = nI sp := by rw [ef125, zu_n (fun h9 => absurd h9.1 (by decide))]; exact e59
                have q133 : f125 60 (8 * o1 + j1) = nI sc := by rw [ef125, zu_n (fun h9 => absurd h9.1 (by decide))]; exact e60
                have q134 : f125 62 (8 * o1 + j1) = nI pb := by rw [ef125, zu_n (fun h9 => absurd h9.1 (by decide))]; exact e62
                have q135 : f125 35 t = nI (s3 + (mz - mz)) := by rw [ef125]; exact zu_s
                have hMs := zMs.set (B2 := Bd + 99) (v := s3 + (mz - mz)) hMs ef125 (by omega) (by omega)
                refine lv_aload_n hx hb dX12_back_191 rfl (lv_at hl 2 rfl) ?_
                refine zGetR (D := D) (ci := 12) (C := RX12) (T := TX12) (N := 71) hx hb hts hiX12 hown hH (zk_30 hF) rfl 58 (by decide) rfl hw8 (fun _ h9 => h9) dX12_back_192 (zr_30_58 hF) ?_
                refine lv_iload hx hb dX12_back_195 (lv_at hl 1 rfl) ?_
                refine lv_dup2_11 hx hb dX12_back_197 rfl rfl ?_
                refine zIaldN (D := D) hx hb hH (zk_62 hF) (zn_62 hF) (by omega) (by omega) q134 dX12_back_198 ?_
                refine lv_iload hx hb dX12_back_199 (lv_at hl 0 rfl) ?_
                refine lv_iadd hx hb dX12_back_201 ?_
                refine lv_topi (fun v136 ev136 => ?_)
                obtain rfl : v136 = nI (pb + mz) := ev136.trans (nI_add _ _)
                refine zIastN (D := D) hx hb hH hS (zk_62 hF) (zn_62 hF) (by omega) (by omega) dX12_back_202 (fun H locs hH hS => ?_)
                obtain ⟨f137, ef137⟩ : ∃ f9 : zFi, f9 = zu f125 62 (8 * o1 + j1) (nI (pb + mz)) := ⟨_, rfl⟩
                rw [← ef137] at hH
                have q138 : f137 30 45 = nI o := by rw [ef137, zu_n (fun h9 => absurd h9.1 (by decide))]; exact q126
                have q139 : f137 54 o1 = nI wn := by rw [ef137, zu_n (fun h9 => absurd h9.1 (by decide))]; exact q127
                have q140 : f137 30 0 = nI 0 := by rw [ef137, zu_n (fun h9 => absurd h9.1 (by decide))]; exact q128
                have q141 : f137 55 (8 * o1 + j1) = nI t := by rw [ef137, zu_n (fun h9 => absurd h9.1 (by decide))]; exact q129
                have q142 : f137 56 (8 * o1 + j1) = nI qm := by rw [ef137, zu_n (fun h9 => absurd h9.1 (by decide))]; exact q130
                have q143 : f137 58 (8 * o1 + j1) = nI sa := by rw [ef137, zu_n (fun h9 => absurd h9.1 (by decide))]; exact q131
                have q144 : f137 59 (8 * o1 + j1) = nI sp := by rw [ef137, zu_n (fun h9 => absurd h9.1 (by decide))]; exact q132
                have q145 : f137 60 (8 * o1 + j1) = nI sc := by rw [ef137, zu_n (fun h9 => absurd h9.1 (by decide))]; exact q133
                have q146 : f137 35 t = nI (s3 + (mz - mz)) := by rw [ef137, zu_n (fun h9 => absurd h9.1 (by decide))]; exact q135
                have q147 : f137 62 (8 * o1 + j1) = nI (pb + mz) := by rw [ef137]; exact zu_s
                have hMs := zMs.ci (fi' := f137) hMs (fun i9 k9 h9 => by rw [ef137]; exact zu_n (by omega))
                refine lv_aload_n hx hb dX12_back_203 rfl (lv_at hl 2 rfl) ?_
                refine zGetR (D := D) (ci := 12) (C := RX12) (T := TX12) (N := 71) hx hb hts hiX12 hown hH (zk_30 hF) rfl 57 (by decide) rfl hw7 (fun _ h9 => h9) dX12_back_204 (zr_30_57 hF) ?_
                refine lv_iload hx hb dX12_back_207 (lv_at hl 1 rfl) ?_
                refine lv_dup2_11 hx hb dX12_back_209 rfl rfl ?_
                refine zIaldN (D := D) hx hb hH (zk_61 hF) (zn_61 hF) (by omega) (by omega) rfl dX12_back_210 ?_
                refine lv_iload_n hx hb dX12_back_211 rfl (lv_at hl 5 rfl) ?_
                refine lv_iadd hx hb dX12_back_212 ?_
                refine lv_topi (fun v148 ev148 => ?_)
                refine zIastN (D := D) hx hb hH hS (zk_61 hF) (zn_61 hF) (by omega) (by omega) dX12_back_213 (fun H locs hH hS => ?_)
                obtain ⟨f149, ef149⟩ : ∃ f9 : zFi, f9 = zu f137 61 (8 * o1 + j1) v148 := ⟨_, rfl⟩
                rw [← ef149] at hH
                have q150 : f149 30 45 = nI o := by rw [ef149, zu_n (fun h9 => absurd h9.1 (by decide))]; exact q138
                have q151 : f149 54 o1 = nI wn := by rw [ef149, zu_n (fun h9 => absurd h9.1 (by decide))]; exact q139
                have q152 : f149 30 0 = nI 0 := by rw [ef149, zu_n (fun h9 => absurd h9.1 (by decide))]; exact q140
                have q153 : f149 55 (8 * o1 + j1) = nI t := by rw [ef149, zu_n (fun h9 => absurd h9.1 (by decide))]; exact q141
                have q154 : f149 56 (8 * o1 + j1) = nI qm := by rw [ef149, zu_n (fun h9 => absurd h9.1 (by decide))]; exact q142
                have q155 : f149 58 (8 * o1 + j1) = nI sa := by rw [ef149, zu_n (fun h9 => absurd h9.1 (by decide))]; exact q143
                have q156 : f149 59 (8 * o1 + j1) = nI sp := by rw [ef149, zu_n (fun h9 => absurd h9.1 (by decide))]; exact q144
                have q157 : f149 60 (8 * o1 + j1) = nI sc := by rw [ef149, zu_n (fun h9 => absurd h9.1 (by decide))]; exact q145
                have q158 : f149 35 t = nI (s3 + (mz - mz)) := by rw [ef149, zu_n (fun h9 => absurd h9.1 (by decide))]; exact q146
                have q159 : f149 62 (8 * o1 + j1) = nI (pb + mz) := by rw [ef149, zu_n (fun h9 => absurd h9.1 (by decide))]; exact q147
                have q160 : f149 61 (8 * o1 + j1) = v148 := by rw [ef149]; exact zu_s
                have hMs := zMs.ci (fi' := f149) hMs (fun i9 k9 h9 => by rw [ef149]; exact zu_n (by omega))
                refine lv_aload_n hx hb dX12_back_214 rfl (lv_at hl 2 rfl) ?_
                refine zGetR (D := D) (ci := 12) (C := RX12) (T := TX12) (N := 71) hx hb hts hiX12 hown hH (zk_30 hF) rfl 48 (by decide) rfl hw11 (fun _ h9 => h9) dX12_back_215 (zr_30_48 hF) ?_
                refine lv_iload_n hx hb dX12_back_218 rfl (lv_at hl 3 rfl) ?_
                refine lv_dup2_11 hx hb dX12_back_219 rfl rfl ?_
                refine zIaldN (D := D) hx hb hH (zk_52 hF) (zn_52 hF) (by omega) (by omega) rfl dX12_back_220 ?_
                refine lv_iload_n hx hb dX12_back_221 rfl (lv_at hl 5 rfl) ?_
                refine lv_aload_n hx hb dX12_back_222 rfl (lv_at hl 2 rfl) ?_
                refine zGetR (D := D) (ci := 12) (C := RX12) (T := TX12) (N := 71) hx hb hts hiX12 hown hH (zk_30 hF) rfl 53 (by decide) rfl hw12 (fun _ h9 => h9) dX12_back_223 (zr_30_53 hF) ?_
                refine lv_iload hx hb dX12_back_226 (lv_at hl 1 rfl) ?_
                refine zIaldN (D := D) hx hb hH (zk_57 hF) (zn_57 hF) (by omega) (by omega) rfl dX12_back_228 ?_
                refine lv_imul hx hb dX12_back_229 ?_
                refine lv_topi (fun v161 ev161 => ?_)
                refine lv_iadd hx hb dX12_back_230 ?_
                refine lv_topi (fun v162 ev162 => ?_)
                refine zIastN (D := D) hx hb hH hS (zk_52 hF) (zn_52 hF) (by omega) (by omega) dX12_back_231 (fun H locs hH hS => ?_)
                obtain ⟨f163, ef163⟩ : ∃ f9 : zFi, f9 = zu f149 52 o1 v162 := ⟨_, rfl⟩
                rw [← ef163] at hH
                have q164 : f163 30 45 = nI o := by rw [ef163, zu_n (fun h9 => absurd h9.1 (by decide))]; exact q150
                have q165 : f163 54 o1 = nI wn := by rw [ef163, zu_n (fun h9 => absurd h9.1 (by decide))]; exact q151
                have q166 : f163 30 0 = nI 0 := by rw [ef163, zu_n (fun h9 => absurd h9.1 (by decide))]; exact q152
                have q167 : f163 55 (8 * o1 + j1) = nI t := by rw [ef163, zu_n (fun h9 => absurd h9.1 (by decide))]; exact q153
                have q168 : f163 56 (8 * o1 + j1) = nI qm := by rw [ef163, zu_n (fun h9 => absurd h9.1 (by decide))]; exact q154
                have q169 : f163 58 (8 * o1 + j1) = nI sa := by rw [ef163, zu_n (fun h9 => absurd h9.1 (by decide))]; exact q155
                have q170 : f163 59 (8 * o1 + j1) = nI sp := by rw [ef163, zu_n (fun h9 => absurd h9.1 (by decide))]; exact q156
                have q171 : f163 60 (8 * o1 + j1) = nI sc := by rw [ef163, zu_n (fun h9 => absurd h9.1 (by decide))]; exact q157
                have q172 : f163 35 t = nI (s3 + (mz - mz)) := by rw [ef163, zu_n (fun h9 => absurd h9.1 (by decide))]; exact q158
                have q173 : f163 62 (8 * o1 + j1) = nI (pb + mz) := by rw [ef163, zu_n (fun h9 => absurd h9.1 (by decide))]; exact q159
                have q174 : f163 61 (8 * o1 + j1) = v148 := by rw [ef163, zu_n (fun h9 => absurd h9.1 (by decide))]; exact q160
                have q175 : f163 52 o1 = v162 := by rw [ef163]; exact zu_s
                have hMs := zMs.ci (fi' := f163) hMs (fun i9 k9 h9 => by rw [ef163]; exact zu_n (by omega))
                refine lv_iconst (v := nI 1) hx hb dX12_back_232 (by decide) ?_
                have hzw : zMw f163 n (8 * o1 + j1) := ⟨⟨t, ht, q167⟩, qm, sa, sp, sc, pb + mz, ⟨q168, q169, q170, q171, q173⟩, b1, b2, b3, by omega, by rcases b5 with h9 | ⟨t3, h91, h92⟩; (exact Or.inl h9); exact Or.inr ⟨t3, h91, by rw [ef163, zu_n (by omega), ef149, zu_n (by omega), ef137, zu_n (by omega), ef125, zu_n (by omega)]; exact h92⟩⟩
                refine W.widen (k := 0) (n := 0) (by decide) (by decide) ?_
                exact W.zret (v := nI 1) hx hb hr (by decide) (fun t9 ht9 hW9 => ⟨⟨nI 1, f163, rfl, ⟨zMo.upd (q := o1) (w := wn) hMo1 hvn8 h54b (fun j h => by by_cases h7 : j = j1; (subst h7; exact hzw); exact (zMo.want hMo1 ho1 hvn8 h54b h).ci (Nat.le_refl _) (fun a h8 h9 => by rw [ef163, zu_n (by omega), ef149, zu_n (by omega), ef137, zu_n (by omega), ef125, zu_n (by omega)])) (by rw [ef163, zu_n (by omega), ef149, zu_n (by omega), ef137, zu_n (by omega), ef125, zu_n (by omega)]) (fun b => by rw [ef163, zu_n (by omega), ef149, zu_n (by omega), ef137, zu_n (by omega), ef125, zu_n (by omega)]) (fun a b h7 h8 h9 => by rw [ef163, zu_n (by omega), ef149, zu_n (by omega), ef137, zu_n (by omega), ef125, zu_n (by omega)]), hMs, fun a b h => by rw [ef163, zu_n (by omega), ef149, zu_n (by omega), ef137, zu_n (by omega), ef125, zu_n (by omega)]; exact hf1 a b h⟩, zEnd1 hH ht9 hW9⟩, hS.F ht9⟩) hS.2.2 dX12_back_233
              · have zc122 := c122
                replace zc122 := zc_nle (nI_toInt (by omega)) ((by decide : (0 : Int32).toInt = 0)) zc122
                obtain ⟨t2, ht2, e64⟩ : ∃ t2, t2 < n ∧ f107 64 (8 * o1 + j1) = nI t2 := by rcases b5 with h9 | h9; exact absurd h9 (by omega); exact h9
                obtain ⟨s2, hs2, e35b⟩ := hMs t2 (by omega)
                refine lv_aload_n hx hb dX12_back_155 rfl (lv_at hl 2 rfl) ?_
                refine zGetR (D := D) (ci := 12) (C := RX12) (T := TX12) (N := 71) hx hb hts hiX12 hown hH (zk_30 hF) rfl 7 (by decide) rfl hw9 (fun _ h9 => h9) dX12_back_156 (zr_30_7 hF) ?_
                refine lv_aload_n hx hb dX12_back_159 rfl (lv_at hl 2 rfl) ?_
                refine zGetR (D := D) (ci := 12) (C := RX12) (T := TX12) (N := 71) hx hb hts hiX12 hown hH (zk_30 hF) rfl 60 (by decide) rfl hw13 (fun _ h9 => h9) dX12_back_160 (zr_30_60 hF) ?_
                refine lv_iload hx hb dX12_back_163 (lv_at hl 1 rfl) ?_
                refine zIaldN (D := D) hx hb hH (zk_64 hF) (zn_64 hF) (by omega) (by omega) e64 dX12_back_165 ?_
                refine lv_dup2_11 hx hb dX12_back_166 rfl rfl ?_
                refine zIaldN (D := D) hx hb hH (zk_35 hF) (zn_35 hF) (by omega) (by omega) e35b dX12_back_167 ?_
                refine lv_iload hx hb dX12_back_168 (lv_at hl 0 rfl) ?_
                refine lv_iadd hx hb dX12_back_170 ?_
                refine lv_topi (fun v176 ev176 => ?_)
                obtain rfl : v176 = nI (s2 + mz) := ev176.trans (nI_add _ _)
                refine zIastN (D := D) hx hb hH hS (zk_35 hF) (zn_35 hF) (by omega) (by omega) dX12_back_171 (fun H locs hH hS => ?_)
                obtain ⟨f177, ef177⟩ : ∃ f9 : zFi, f9 = zu f107 35 t2 (nI (s2 + mz)) := ⟨_, rfl⟩
                rw [← ef177] at hH
                have q178 : f177 30 45 = nI o := by rw [ef177, zu_n (fun h9 => absurd h9.1 (by decide))]; exact q108
                have q179 : f177 54 o1 = nI wn := by rw [ef177, zu_n (fun h9 => absurd h9.1 (by decide))]; exact q109
                have q180 : f177 30 0 = nI 0 := by rw [ef177, zu_n (fun h9 => absurd h9.1 (by decide))]; exact q110
                have q181 : f177 55 (8 * o1 + j1) = nI t := by rw [ef177, zu_n (fun h9 => absurd h9.1 (by decide))]; exact e55
                have q182 : f177 56 (8 * o1 + j1) = nI qm := by rw [ef177, zu_n (fun h9 => absurd h9.1 (by decide))]; exact e56
                have q183 : f177 58 (8 * o1 + j1) = nI sa := by rw [ef177, zu_n (fun h9 => absurd h9.1 (by decide))]; exact e58
                have q184 : f177 59 (8 * o1 + j1) = nI sp := by rw [ef177, zu_n (fun h9 => absurd h9.1 (by decide))]; exact e59
                have q185 : f177 60 (8 * o1 + j1) = nI sc := by rw [ef177, zu_n (fun h9 => absurd h9.1 (by decide))]; exact e60
                have q186 : f177 62 (8 * o1 + j1) = nI pb := by rw [ef177, zu_n (fun h9 => absurd h9.1 (by decide))]; exact e62
                have q187 : f177 64 (8 * o1 + j1) = nI t2 := by rw [ef177, zu_n (fun h9 => absurd h9.1 (by decide))]; exact e64
                have q188 : f177 35 t2 = nI (s2 + mz) := by rw [ef177]; exact zu_s
                have hMs := zMs.set (B2 := Bd + mz) (v := s2 + mz) hMs ef177 (by omega) (by omega)
                obtain ⟨s3, hs3, e35c⟩ := hMs t (by omega)
                refine lv_aload_n hx hb dX12_back_172 rfl (lv_at hl 2 rfl) ?_
                refine zGetR (D := D) (ci := 12) (C := RX12) (T := TX12) (N := 71) hx hb hts hiX12 hown hH (zk_30 hF) rfl 7 (by decide) rfl hw9 (fun _ h9 => h9) dX12_back_173 (zr_30_7 hF) ?_
                refine lv_aload_n hx hb dX12_back_176 rfl (lv_at hl 2 rfl) ?_
                refine zGetR (D := D) (ci := 12) (C := RX12) (T := TX12) (N := 71) hx hb hts hiX12 hown hH (zk_30 hF) rfl 51 (by decide) rfl hw10 (fun _ h9 => h9) dX12_back_177 (zr_30_51 hF) ?_
                refine lv_iload hx hb dX12_back_180 (lv_at hl 1 rfl) ?_
                refine zIaldN (D := D) hx hb hH (zk_55 hF) (zn_55 hF) (by omega) (by omega) q181 dX12_back_182 ?_
                refine lv_dup2_11 hx hb dX12_back_183 rfl rfl ?_
                refine zIaldN (D := D) hx hb hH (zk_35 hF) (zn_35 hF) (by omega) (by omega) e35c dX12_back_184 ?_
                refine lv_iload_n hx hb dX12_back_185 rfl (lv_at hl 5 rfl) ?_
                refine lv_iload hx hb dX12_back_186 (lv_at hl 0 rfl) ?_
                refine lv_isub hx hb dX12_back_188 ?_
                refine lv_topi (fun v189 ev189 => ?_)
                obtain rfl : v189 = nI (mz - mz) := ev189.trans (pk_sub (by omega))
                refine lv_iadd hx hb dX12_back_189 ?_
                refine lv_topi (fun v190 ev190 => ?_)
                obtain rfl : v190 = nI (s3 + (mz - mz)) := ev190.trans (nI_add _ _)
                refine zIastN (D := D) hx hb hH hS (zk_35 hF) (zn_35 hF) (by omega) (by omega) dX12_back_190 (fun H locs hH hS => ?_)
                obtain ⟨f191, ef191⟩ : ∃ f9 : zFi, f9 = zu f177 35 t (nI (s3 + (mz - mz))) := ⟨_, rfl⟩
                rw [← ef191] at hH
                have q192 : f191 30 45 = nI o := by rw [ef191, zu_n (fun h9 => absurd h9.1 (by decide))]; exact q178
                have q193 : f191 54 o1 = nI wn := by rw [ef191, zu_n (fun h9 => absurd h9.1 (by decide))]; exact q179
                have q194 : f191 30 0 = nI 0 := by rw [ef191, zu_n (fun h9 => absurd h9.1 (by decide))]; exact q180
                have q195 : f191 55 (8 * o1 + j1) = nI t := by rw [ef191, zu_n (fun h9 => absurd h9.1 (by decide))]; exact q181
                have q196 : f191 56 (8 * o1 + j1) = nI qm := by rw [ef191, zu_n (fun h9 => absurd h9.1 (by decide))]; exact q182
                have q197 : f191 58 (8 * o1 + j1) = nI sa := by rw [ef191, zu_n (fun h9 => absurd h9.1 (by decide))]; exact q183
                have q198 : f191 59 (8 * o1 + j1) = nI sp := by rw [ef191, zu_n (fun h9 => absurd h9.1 (by decide))]; exact q184
                have q199 : f191 60 (8 * o1 + j1) = nI sc := by rw [ef191, zu_n (fun h9 => absurd h9.1 (by decide))]; exact q185
                have q200 : f191 62 (8 * o1 + j1) = nI pb := by rw [ef191, zu_n (fun h9 => absurd h9.1 (by decide))]; exact q186
                have q201 : f191 64 (8 * o1 + j1) = nI t2 := by rw [ef191, zu_n (fun h9 => absurd h9.1 (by decide))]; exact q187
                have q202 : f191 35 t = nI (s3 + (mz - mz)) := by rw [ef191]; exact zu_s
                have hMs := zMs.set (B2 := Bd + 99) (v := s3 + (mz - mz)) hMs ef191 (by omega) (by omega)
                refine lv_aload_n hx hb dX12_back_191 rfl (lv_at hl 2 rfl) ?_
                refine zGetR (D := D) (ci := 12) (C := RX12) (T := TX12) (N := 71) hx hb hts hiX12 hown hH (zk_30 hF) rfl 58 (by decide) rfl hw8 (fun _ h9 => h9) dX12_back_192 (zr_30_58 hF) ?_
                refine lv_iload hx hb dX12_back_195 (lv_at hl 1 rfl) ?_
                refine lv_dup2_11 hx hb dX12_back_197 rfl rfl ?_
                refine zIaldN (D := D) hx hb hH (zk_62 hF) (zn_62 hF) (by omega) (by omega) q200 dX12_back_198 ?_
                refine lv_iload hx hb dX12_back_199 (lv_at hl 0 rfl) ?_
                refine lv_iadd hx hb dX12_back_201 ?_
                refine lv_topi (fun v203 ev203 => ?_)
                obtain rfl : v203 = nI (pb + mz) := ev203.trans (nI_add _ _)
                refine zIastN (D := D) hx hb hH hS (zk_62 hF) (zn_62 hF) (by omega) (by omega) dX12_back_202 (fun H locs hH hS => ?_)
                obtain ⟨f204, ef204⟩ : ∃ f9 : zFi, f9 = zu f191 62 (8 * o1 + j1) (nI (pb + mz)) := ⟨_, rfl⟩
                rw [← ef204] at hH
                have q205 : f204 30 45 = nI o := by rw [ef204, zu_n (fun h9 => absurd h9.1 (by decide))]; exact q192
                have q206 : f204 54 o1 = nI wn := by rw [ef204, zu_n (fun h9 => absurd h9.1 (by decide))]; exact q193
                have q207 : f204 30 0 = nI 0 := by rw [ef204, zu_n (fun h9 => absurd h9.1 (by decide))]; exact q194
                have q208 : f204 55 (8 * o1 + j1) = nI t := by rw [ef204, zu_n (fun h9 => absurd h9.1 (by decide))]; exact q195
                have q209 : f204 56 (8 * o1 + j1) = nI qm := by rw [ef204, zu_n (fun h9 => absurd h9.1 (by decide))]; exact q196
                have q210 : f204 58 (8 * o1 + j1) = nI sa := by rw [ef204, zu_n (fun h9 => absurd h9.1 (by decide))]; exact q197
                have q211 : f204 59 (8 * o1 + j1) = nI sp := by rw [ef204, zu_n (fun h9 => absurd h9.1 (by decide))]; exact q198
                have q212 : f204 60 (8 * o1 + j1) = nI sc := by rw [ef204, zu_n (fun h9 => absurd h9.1 (by decide))]; exact q199
                have q213 : f204 64 (8 * o1 + j1) = nI t2 := by rw [ef204, zu_n (fun h9 => absurd h9.1 (by decide))]; exact q201
                have q214 : f204 35 t = nI (s3 + (mz - mz)) := by rw [ef204, zu_n (fun h9 => absurd h9.1 (by decide))]; exact q202
                have q215 : f204 62 (8 * o1 + j1) = nI (pb + mz) := by rw [ef204]; exact zu_s
                have hMs := zMs.ci (fi' := f204) hMs (fun i9 k9 h9 => by rw [ef204]; exact zu_n (by omega))
                refine lv_aload_n hx hb dX12_back_203 rfl (lv_at hl 2 rfl) ?_
                refine zGetR (D := D) (ci := 12) (C := RX12) (T := TX12) (N := 71) hx hb hts hiX12 hown hH (zk_30 hF) rfl 57 (by decide) rfl hw7 (fun _ h9 => h9) dX12_back_204 (zr_30_57 hF) ?_
                refine lv_iload hx hb dX12_back_207 (lv_at hl 1 rfl) ?_
                refine lv_dup2_11 hx hb dX12_back_209 rfl rfl ?_
                refine zIaldN (D := D) hx hb hH (zk_61 hF) (zn_61 hF) (by omega) (by omega) rfl dX12_back_210 ?_
                refine lv_iload_n hx hb dX12_back_211 rfl (lv_at hl 5 rfl) ?_
                refine lv_iadd hx hb dX12_back_212 ?_
                refine lv_topi (fun v216 ev216 => ?_)
                refine zIastN (D := D) hx hb hH hS (zk_61 hF) (zn_61 hF) (by omega) (by omega) dX12_back_213 (fun H locs hH hS => ?_)
                obtain ⟨f217, ef217⟩ : ∃ f9 : zFi, f9 = zu f204 61 (8 * o1 + j1) v216 := ⟨_, rfl⟩
                rw [← ef217] at hH
                have q218 : f217 30 45 = nI o := by rw [ef217, zu_n (fun h9 => absurd h9.1 (by decide))]; exact q205
                have q219 : f217 54 o1 = nI wn := by rw [ef217, zu_n (fun h9 => absurd h9.1 (by decide))]; exact q206
                have q220 : f217 30 0 = nI 0 := by rw [ef217, zu_n (fun h9 => absurd h9.1 (by decide))]; exact q207
                have q221 : f217 55 (8 * o1 + j1) = nI t := by rw [ef217, zu_n (fun h9 => absurd h9.1 (by decide))]; exact q208
                have q222 : f217 56 (8 * o1 + j1) = nI qm := by rw [ef217, zu_n (fun h9 => absurd h9.1 (by decide))]; exact q209
                have q223 : f217 58 (8 * o1 + j1) = nI sa := by rw [ef217, zu_n (fun h9 => absurd h9.1 (by decide))]; exact q210
                have q224 : f217 59 (8 * o1 + j1) = nI sp := by rw [ef217, zu_n (fun h9 => absurd h9.1 (by decide))]; exact q211
                have q225 : f217 60 (8 * o1 + j1) = nI sc := by rw [ef217, zu_n (fun h9 => absurd h9.1 (by decide))]; exact q212
                have q226 : f217 64 (8 * o1 + j1) = nI t2 := by rw [ef217, zu_n (fun h9 => absurd h9.1 (by decide))]; exact q213
                have q227 : f217 35 t = nI (s3 + (mz - mz)) := by rw [ef217, zu_n (fun h9 => absurd h9.1 (by decide))]; exact q214
                have q228 : f217 62 (8 * o1 + j1) = nI (pb + mz) := by rw [ef217, zu_n (fun h9 => absurd h9.1 (by decide))]; exact q215
                have q229 : f217 61 (8 * o1 + j1) = v216 := by rw [ef217]; exact zu_s
                have hMs := zMs.ci (fi' := f217) hMs (fun i9 k9 h9 => by rw [ef217]; exact zu_n (by omega))
                refine lv_aload_n hx hb dX12_back_214 rfl (lv_at hl 2 rfl) ?_
                refine zGetR (D := D) (ci := 12) (C := RX12) (T := TX12) (N := 71) hx hb hts hiX12 hown hH (zk_30 hF) rfl 48 (by decide) rfl hw11 (fun _ h9 => h9) dX12_back_215 (zr_30_48 hF) ?_
                refine lv_iload_n hx hb dX12_back_218 rfl (lv_at hl 3 rfl) ?_
                refine lv_dup2_11 hx hb dX12_back_219 rfl rfl ?_
                refine zIaldN (D := D) hx hb hH (zk_52 hF) (zn_52 hF) (by omega) (by omega) rfl dX12_back_220 ?_
                refine lv_iload_n hx hb dX12_back_221 rfl (lv_at hl 5 rfl) ?_
                refine lv_aload_n hx hb dX12_back_222 rfl (lv_at hl 2 rfl) ?_
                refine zGetR (D := D) (ci := 12) (C := RX12) (T := TX12) (N := 71) hx hb hts hiX12 hown hH (zk_30 hF) rfl 53 (by decide) rfl hw12 (fun _ h9 => h9) dX12_back_223 (zr_30_53 hF) ?_
                refine lv_iload hx hb dX12_back_226 (lv_at hl 1 rfl) ?_
                refine zIaldN (D := D) hx hb hH (zk_57 hF) (zn_57 hF) (by omega) (by omega) rfl dX12_back_228 ?_
                refine lv_imul hx hb dX12_back_229 ?_
                refine lv_topi (fun v230 ev230 => ?_)
                refine lv_iadd hx hb dX12_back_230 ?_
                refine lv_topi (fun v231 ev231 => ?_)
                refine zIastN (D := D) hx hb hH hS (zk_52 hF) (zn_52 hF) (by omega) (by omega) dX12_back_231 (fun H locs hH hS => ?_)
                obtain ⟨f232, ef232⟩ : ∃ f9 : zFi, f9 = zu f217 52 o1 v231 := ⟨_, rfl⟩
                rw [← ef232] at hH
                have q233 : f232 30 45 = nI o := by rw [ef232, zu_n (fun h9 => absurd h9.1 (by decide))]; exact q218
                have q234 : f232 54 o1 = nI wn := by rw [ef232, zu_n (fun h9 => absurd h9.1 (by decide))]; exact q219
                have q235 : f232 30 0 = nI 0 := by rw [ef232, zu_n (fun h9 => absurd h9.1 (by decide))]; exact q220
                have q236 : f232 55 (8 * o1 + j1) = nI t := by rw [ef232, zu_n (fun h9 => absurd h9.1 (by decide))]; exact q221
                have q237 : f232 56 (8 * o1 + j1) = nI qm := by rw [ef232, zu_n (fun h9 => absurd h9.1 (by decide))]; exact q222
                have q238 : f232 58 (8 * o1 + j1) = nI sa := by rw [ef232, zu_n (fun h9 => absurd h9.1 (by decide))]; exact q223
                have q239 : f232 59 (8 * o1 + j1) = nI sp := by rw [ef232, zu_n (fun h9 => absurd h9.1 (by decide))]; exact q224
                have q240 : f232 60 (8 * o1 + j1) = nI sc := by rw [ef232, zu_n (fun h9 => absurd h9.1 (by decide))]; exact q225
                have q241 : f232 64 (8 * o1 + j1) = nI t2 := by rw [ef232, zu_n (fun h9 => absurd h9.1 (by decide))]; exact q226
                have q242 : f232 35 t = nI (s3 + (mz - mz)) := by rw [ef232, zu_n (fun h9 => absurd h9.1 (by decide))]; exact q227
                have q243 : f232 62 (8 * o1 + j1) = nI (pb + mz) := by rw [ef232, zu_n (fun h9 => absurd h9.1 (by decide))]; exact q228
                have q244 : f232 61 (8 * o1 + j1) = v216 := by rw [ef232, zu_n (fun h9 => absurd h9.1 (by decide))]; exact q229
                have q245 : f232 52 o1 = v231 := by rw [ef232]; exact zu_s
                have hMs := zMs.ci (fi' := f232) hMs (fun i9 k9 h9 => by rw [ef232]; exact zu_n (by omega))
                refine lv_iconst (v := nI 1) hx hb dX12_back_232 (by decide) ?_
                have hzw : zMw f232 n (8 * o1 + j1) := ⟨⟨t, ht, q236⟩, qm, sa, sp, sc, pb + mz, ⟨q237, q238, q239, q240, q243⟩, b1, b2, b3, by omega, by rcases b5 with h9 | ⟨t3, h91, h92⟩; (exact Or.inl h9); exact Or.inr ⟨t3, h91, by rw [ef232, zu_n (by omega), ef217, zu_n (by omega), ef204, zu_n (by omega), ef191, zu_n (by omega), ef177, zu_n (by omega)]; exact h92⟩⟩
                refine W.widen (k := 0) (n := 0) (by decide) (by decide) ?_
                exact W.zret (v := nI 1) hx hb hr (by decide) (fun t9 ht9 hW9 => ⟨⟨nI 1, f232, rfl, ⟨zMo.upd (q := o1) (w := wn) hMo1 hvn8 h54b (fun j h => by by_cases h7 : j = j1; (subst h7; exact hzw); exact (zMo.want hMo1 ho1 hvn8 h54b h).ci (Nat.le_refl _) (fun a h8 h9 => by rw [ef232, zu_n (by omega), ef217, zu_n (by omega), ef204, zu_n (by omega), ef191, zu_n (by omega), ef177, zu_n (by omega)])) (by rw [ef232, zu_n (by omega), ef217, zu_n (by omega), ef204, zu_n (by omega), ef191, zu_n (by omega), ef177, zu_n (by omega)]) (fun b => by rw [ef232, zu_n (by omega), ef217, zu_n (by omega), ef204, zu_n (by omega), ef191, zu_n (by omega), ef177, zu_n (by omega)]) (fun a b h7 h8 h9 => by rw [ef232, zu_n (by omega), ef217, zu_n (by omega), ef204, zu_n (by omega), ef191, zu_n (by omega), ef177, zu_n (by omega)]), hMs, fun a b h => by rw [ef232, zu_n (by omega), ef217, zu_n (by omega), ef204, zu_n (by omega), ef191, zu_n (by omega), ef177, zu_n (by omega)]; exact hf1 a b h⟩, zEnd1 hH ht9 hW9⟩, hS.F ht9⟩) hS.2.2 dX12_back_233
            · have zc121 := c121
              replace zc121 := zc_nle (nI_toInt (by omega)) (nI_toInt (by omega)) zc121
              refine lv_aload_n hx hb dX12_back_129 rfl (lv_at hl 1 rfl) ?_
              refine zGetR (D := D) (ci := 12) (C := RX12) (T := TX12) (N := 71) hx hb hts hiX12 hown hH (zk_30 hF) rfl 55 (by decide) rfl hw6 (fun _ h9 => h9) dX12_back_130 (zr_30_55 hF) ?_
              refine lv_iload hx hb dX12_back_133 (lv_at hl 0 rfl) ?_
              refine zIaldN (D := D) hx hb hH (zk_59 hF) (zn_59 hF) (by omega) (by omega) e59 dX12_back_135 ?_
              refine lv_aload_n hx hb dX12_back_136 rfl (lv_at hl 1 rfl) ?_
              refine zGetR (D := D) (ci := 12) (C := RX12) (T := TX12) (N := 71) hx hb hts hiX12 hown hH (zk_30 hF) rfl 58 (by decide) rfl hw8 (fun _ h9 => h9) dX12_back_137 (zr_30_58 hF) ?_
              refine lv_iload hx hb dX12_back_140 (lv_at hl 0 rfl) ?_
              refine zIaldN (D := D) hx hb hH (zk_62 hF) (zn_62 hF) (by omega) (by omega) e62 dX12_back_142 ?_
              refine lv_isub hx hb dX12_back_143 ?_
              refine lv_topi (fun v246 ev246 => ?_)
              obtain rfl : v246 = nI (sp - pb) := ev246.trans (pk_sub (by omega))
              refine lv_goto (tgt := 148) hx hb dX12_back_144 (by decide) ?_
              obtain ⟨ov, hov⟩ : ∃ ov : Nat, ov = sp - pb := ⟨_, rfl⟩
              rw [← hov]
              refine lv_istore (lv' := [(5, .int (nI ov)), (4, .int (nI (8 * o1 + j1))), (0, .ref (τ.1 30)), (1, .int (nI o1)), (2, .int (nI j1)), (3, .int (nI mz))]) hx hb dX12_back_148 hl (by decide) rfl (fun ls hl => ?_)
              refine lv_iload hx hb dX12_back_150 (lv_at hl 0 rfl) ?_
              refine lv_if_le (tgt := 172) hx hb dX12_back_152 (by decide) (fun c247 => ?_) (fun c247 => ?_)
              · have zc247 := c247
                replace zc247 := zc_le (nI_toInt (by omega)) ((by decide : (0 : Int32).toInt = 0)) zc247
                obtain ⟨s3, hs3, e35c⟩ := hMs t (by omega)
                refine lv_aload_n hx hb dX12_back_172 rfl (lv_at hl 2 rfl) ?_
                refine zGetR (D := D) (ci := 12) (C := RX12) (T := TX12) (N := 71) hx hb hts hiX12 hown hH (zk_30 hF) rfl 7 (by decide) rfl hw9 (fun _ h9 => h9) dX12_back_173 (zr_30_7 hF) ?_
                refine lv_aload_n hx hb dX12_back_176 rfl (lv_at hl 2 rfl) ?_
                refine zGetR (D := D) (ci := 12) (C := RX12) (T := TX12) (N := 71) hx hb hts hiX12 hown hH (zk_30 hF) rfl 51 (by decide) rfl hw10 (fun _ h9 => h9) dX12_back_177 (zr_30_51 hF) ?_
                refine lv_iload hx hb dX12_back_180 (lv_at hl 1 rfl) ?_
                refine zIaldN (D := D) hx hb hH (zk_55 hF) (zn_55 hF) (by omega) (by omega) e55 dX12_back_182 ?_
                refine lv_dup2_11 hx hb dX12_back_183 rfl rfl ?_
                refine zIaldN (D := D) hx hb hH (zk_35 hF) (zn_35 hF) (by omega) (by omega) e35c dX12_back_184 ?_
                refine lv_iload_n hx hb dX12_back_185 rfl (lv_at hl 5 rfl) ?_
                refine lv_iload hx hb dX12_back_186 (lv_at hl 0 rfl) ?_
                refine lv_isub hx hb dX12_back_188 ?_
                refine lv_topi (fun v248 ev248 => ?_)
                obtain rfl : v248 = nI (mz - ov) := ev248.trans (pk_sub (by omega))
                refine lv_iadd hx hb dX12_back_189 ?_
                refine lv_topi (fun v249 ev249 => ?_)
                obtain rfl : v249 = nI (s3 + (mz - ov)) := ev249.trans (nI_add _ _)
                refine zIastN (D := D) hx hb hH hS (zk_35 hF) (zn_35 hF) (by omega) (by omega) dX12_back_190 (fun H locs hH hS => ?_)
                obtain ⟨f250, ef250⟩ : ∃ f9 : zFi, f9 = zu f107 35 t (nI (s3 + (mz - ov))) := ⟨_, rfl⟩
                rw [← ef250] at hH
                have q251 : f250 30 45 = nI o := by rw [ef250, zu_n (fun h9 => absurd h9.1 (by decide))]; exact q108
                have q252 : f250 54 o1 = nI wn := by rw [ef250, zu_n (fun h9 => absurd h9.1 (by decide))]; exact q109
                have q253 : f250 30 0 = nI 0 := by rw [ef250, zu_n (fun h9 => absurd h9.1 (by decide))]; exact q110
                have q254 : f250 55 (8 * o1 + j1) = nI t := by rw [ef250, zu_n (fun h9 => absurd h9.1 (by decide))]; exact e55
                have q255 : f250 56 (8 * o1 + j1) = nI qm := by rw [ef250, zu_n (fun h9 => absurd h9.1 (by decide))]; exact e56
                have q256 : f250 58 (8 * o1 + j1) = nI sa := by rw [ef250, zu_n (fun h9 => absurd h9.1 (by decide))]; exact e58
                have q257 : f250 59 (8 * o1 + j1) = nI sp := by rw [ef250, zu_n (fun h9 => absurd h9.1 (by decide))]; exact e59
                have q258 : f250 60 (8 * o1 + j1) = nI sc := by rw [ef250, zu_n (fun h9 => absurd h9.1 (by decide))]; exact e60
                have q259 : f250 62 (8 * o1 + j1) = nI pb := by rw [ef250, zu_n (fun h9 => absurd h9.1 (by decide))]; exact e62
                have q260 : f250 35 t = nI (s3 + (mz - ov)) := by rw [ef250]; exact zu_s
                have hMs := zMs.set (B2 := Bd + 99) (v := s3 + (mz - ov)) hMs ef250 (by omega) (by omega)
                refine lv_aload_n hx hb dX12_back_191 rfl (lv_at hl 2 rfl) ?_
                refine zGetR (D := D) (ci := 12) (C := RX12) (T := TX12) (N := 71) hx hb hts hiX12 hown hH (zk_30 hF) rfl 58 (by decide) rfl hw8 (fun _ h9 => h9) dX12_back_192 (zr_30_58 hF) ?_
                refine lv_iload hx hb dX12_back_195 (lv_at hl 1 rfl) ?_
                refine lv_dup2_11 hx hb dX12_back_197 rfl rfl ?_
                refine zIaldN (D := D) hx hb hH (zk_62 hF) (zn_62 hF) (by omega) (by omega) q259 dX12_back_198 ?_
                refine lv_iload hx hb dX12_back_199 (lv_at hl 0 rfl) ?_
                refine lv_iadd hx hb dX12_back_201 ?_
                refine lv_topi (fun v261 ev261 => ?_)
                obtain rfl : v261 = nI (pb + ov) := ev261.trans (nI_add _ _)
                refine zIastN (D := D) hx hb hH hS (zk_62 hF) (zn_62 hF) (by omega) (by omega) dX12_back_202 (fun H locs hH hS => ?_)
                obtain ⟨f262, ef262⟩ : ∃ f9 : zFi, f9 = zu f250 62 (8 * o1 + j1) (nI (pb + ov)) := ⟨_, rfl⟩
                rw [← ef262] at hH
                have q263 : f262 30 45 = nI o := by rw [ef262, zu_n (fun h9 => absurd h9.1 (by decide))]; exact q251
                have q264 : f262 54 o1 = nI wn := by rw [ef262, zu_n (fun h9 => absurd h9.1 (by decide))]; exact q252
                have q265 : f262 30 0 = nI 0 := by rw [ef262, zu_n (fun h9 => absurd h9.1 (by decide))]; exact q253
                have q266 : f262 55 (8 * o1 + j1) = nI t := by rw [ef262, zu_n (fun h9 => absurd h9.1 (by decide))]; exact q254
                have q267 : f262 56 (8 * o1 + j1) = nI qm := by rw [ef262, zu_n (fun h9 => absurd h9.1 (by decide))]; exact q255
                have q268 : f262 58 (8 * o1 + j1) = nI sa := by rw [ef262, zu_n (fun h9 => absurd h9.1 (by decide))]; exact q256
                have q269 : f262 59 (8 * o1 + j1) = nI sp := by rw [ef262, zu_n (fun h9 => absurd h9.1 (by decide))]; exact q257
                have q270 : f262 60 (8 * o1 + j1) = nI sc := by rw [ef262, zu_n (fun h9 => absurd h9.1 (by decide))]; exact q258
                have q271 : f262 35 t = nI (s3 + (mz - ov)) := by rw [ef262, zu_n (fun h9 => absurd h9.1 (by decide))]; exact q260
                have q272 : f262 62 (8 * o1 + j1) = nI (pb + ov) := by rw [ef262]; exact zu_s
                have hMs := zMs.ci (fi' := f262) hMs (fun i9 k9 h9 => by rw [ef262]; exact zu_n (by omega))
                refine lv_aload_n hx hb dX12_back_203 rfl (lv_at hl 2 rfl) ?_
                refine zGetR (D := D) (ci := 12) (C := RX12) (T := TX12) (N := 71) hx hb hts hiX12 hown hH (zk_30 hF) rfl 57 (by decide) rfl hw7 (fun _ h9 => h9) dX12_back_204 (zr_30_57 hF) ?_
                refine lv_iload hx hb dX12_back_207 (lv_at hl 1 rfl) ?_
                refine lv_dup2_11 hx hb dX12_back_209 rfl rfl ?_
                refine zIaldN (D := D) hx hb hH (zk_61 hF) (zn_61 hF) (by omega) (by omega) rfl dX12_back_210 ?_
                refine lv_iload_n hx hb dX12_back_211 rfl (lv_at hl 5 rfl) ?_
                refine lv_iadd hx hb dX12_back_212 ?_
                refine lv_topi (fun v273 ev273 => ?_)
                refine zIastN (D := D) hx hb hH hS (zk_61 hF) (zn_61 hF) (by omega) (by omega) dX12_back_213 (fun H locs hH hS => ?_)
                obtain ⟨f274, ef274⟩ : ∃ f9 : zFi, f9 = zu f262 61 (8 * o1 + j1) v273 := ⟨_, rfl⟩
                rw [← ef274] at hH
                have q275 : f274 30 45 = nI o := by rw [ef274, zu_n (fun h9 => absurd h9.1 (by decide))]; exact q263
                have q276 : f274 54 o1 = nI wn := by rw [ef274, zu_n (fun h9 => absurd h9.1 (by decide))]; exact q264
                have q277 : f274 30 0 = nI 0 := by rw [ef274, zu_n (fun h9 => absurd h9.1 (by decide))]; exact q265
                have q278 : f274 55 (8 * o1 + j1) = nI t := by rw [ef274, zu_n (fun h9 => absurd h9.1 (by decide))]; exact q266
                have q279 : f274 56 (8 * o1 + j1) = nI qm := by rw [ef274, zu_n (fun h9 => absurd h9.1 (by decide))]; exact q267
                have q280 : f274 58 (8 * o1 + j1) = nI sa := by rw [ef274, zu_n (fun h9 => absurd h9.1 (by decide))]; exact q268
                have q281 : f274 59 (8 * o1 + j1) = nI sp := by rw [ef274, zu_n (fun h9 => absurd h9.1 (by decide))]; exact q269
                have q282 : f274 60 (8 * o1 + j1) = nI sc := by rw [ef274, zu_n (fun h9 => absurd h9.1 (by decide))]; exact q270
                have q283 : f274 35 t = nI (s3 + (mz - ov)) := by rw [ef274, zu_n (fun h9 => absurd h9.1 (by decide))]; exact q271
                have q284 : f274 62 (8 * o1 + j1) = nI (pb + ov) := by rw [ef274, zu_n (fun h9 => absurd h9.1 (by decide))]; exact q272
                have q285 : f274 61 (8 * o1 + j1) = v273 := by rw [ef274]; exact zu_s
                have hMs := zMs.ci (fi' := f274) hMs (fun i9 k9 h9 => by rw [ef274]; exact zu_n (by omega))
                refine lv_aload_n hx hb dX12_back_214 rfl (lv_at hl 2 rfl) ?_
                refine zGetR (D := D) (ci := 12) (C := RX12) (T := TX12) (N := 71) hx hb hts hiX12 hown hH (zk_30 hF) rfl 48 (by decide) rfl hw11 (fun _ h9 => h9) dX12_back_215 (zr_30_48 hF) ?_
                refine lv_iload_n hx hb dX12_back_218 rfl (lv_at hl 3 rfl) ?_
                refine lv_dup2_11 hx hb dX12_back_219 rfl rfl ?_
                refine zIaldN (D := D) hx hb hH (zk_52 hF) (zn_52 hF) (by omega) (by omega) rfl dX12_back_220 ?_
                refine lv_iload_n hx hb dX12_back_221 rfl (lv_at hl 5 rfl) ?_
                refine lv_aload_n hx hb dX12_back_222 rfl (lv_at hl 2 rfl) ?_
                refine zGetR (D := D) (ci := 12) (C := RX12) (T := TX12) (N := 71) hx hb hts hiX12 hown hH (zk_30 hF) rfl 53 (by decide) rfl hw12 (fun _ h9 => h9) dX12_back_223 (zr_30_53 hF) ?_
                refine lv_iload hx hb dX12_back_226 (lv_at hl 1 rfl) ?_
                refine zIaldN (D := D) hx hb hH (zk_57 hF) (zn_57 hF) (by omega) (by omega) rfl dX12_back_228 ?_
                refine lv_imul hx hb dX12_back_229 ?_
                refine lv_topi (fun v286 ev286 => ?_)
                refine lv_iadd hx hb dX12_back_230 ?_
                refine lv_topi (fun v287 ev287 => ?_)
                refine zIastN (D := D) hx hb hH hS (zk_52 hF) (zn_52 hF) (by omega) (by omega) dX12_back_231 (fun H locs hH hS => ?_)
                obtain ⟨f288, ef288⟩ : ∃ f9 : zFi, f9 = zu f274 52 o1 v287 := ⟨_, rfl⟩
                rw [← ef288] at hH
                have q289 : f288 30 45 = nI o := by rw [ef288, zu_n (fun h9 => absurd h9.1 (by decide))]; exact q275
                have q290 : f288 54 o1 = nI wn := by rw [ef288, zu_n (fun h9 => absurd h9.1 (by decide))]; exact q276
                have q291 : f288 30 0 = nI 0 := by rw [ef288, zu_n (fun h9 => absurd h9.1 (by decide))]; exact q277
                have q292 : f288 55 (8 * o1 + j1) = nI t := by rw [ef288, zu_n (fun h9 => absurd h9.1 (by decide))]; exact q278
                have q293 : f288 56 (8 * o1 + j1) = nI qm := by rw [ef288, zu_n (fun h9 => absurd h9.1 (by decide))]; exact q279
                have q294 : f288 58 (8 * o1 + j1) = nI sa := by rw [ef288, zu_n (fun h9 => absurd h9.1 (by decide))]; exact q280
                have q295 : f288 59 (8 * o1 + j1) = nI sp := by rw [ef288, zu_n (fun h9 => absurd h9.1 (by decide))]; exact q281
                have q296 : f288 60 (8 * o1 + j1) = nI sc := by rw [ef288, zu_n (fun h9 => absurd h9.1 (by decide))]; exact q282
                have q297 : f288 35 t = nI (s3 + (mz - ov)) := by rw [ef288, zu_n (fun h9 => absurd h9.1 (by decide))]; exact q283
                have q298 : f288 62 (8 * o1 + j1) = nI (pb + ov) := by rw [ef288, zu_n (fun h9 => absurd h9.1 (by decide))]; exact q284
                have q299 : f288 61 (8 * o1 + j1) = v273 := by rw [ef288, zu_n (fun h9 => absurd h9.1 (by decide))]; exact q285
                have q300 : f288 52 o1 = v287 := by rw [ef288]; exact zu_s
                have hMs := zMs.ci (fi' := f288) hMs (fun i9 k9 h9 => by rw [ef288]; exact zu_n (by omega))
                refine lv_iconst (v := nI 1) hx hb dX12_back_232 (by decide) ?_
                have hzw : zMw f288 n (8 * o1 + j1) := ⟨⟨t, ht, q292⟩, qm, sa, sp, sc, pb + ov, ⟨q293, q294, q295, q296, q298⟩, b1, b2, b3, by omega, by rcases b5 with h9 | ⟨t3, h91, h92⟩; (exact Or.inl h9); exact Or.inr ⟨t3, h91, by rw [ef288, zu_n (by omega), ef274, zu_n (by omega), ef262, zu_n (by omega), ef250, zu_n (by omega)]; exact h92⟩⟩
                refine W.widen (k := 0) (n := 0) (by decide) (by decide) ?_
                exact W.zret (v := nI 1) hx hb hr (by decide) (fun t9 ht9 hW9 => ⟨⟨nI 1, f288, rfl, ⟨zMo.upd (q := o1) (w := wn) hMo1 hvn8 h54b (fun j h => by by_cases h7 : j = j1; (subst h7; exact hzw); exact (zMo.want hMo1 ho1 hvn8 h54b h).ci (Nat.le_refl _) (fun a h8 h9 => by rw [ef288, zu_n (by omega), ef274, zu_n (by omega), ef262, zu_n (by omega), ef250, zu_n (by omega)])) (by rw [ef288, zu_n (by omega), ef274, zu_n (by omega), ef262, zu_n (by omega), ef250, zu_n (by omega)]) (fun b => by rw [ef288, zu_n (by omega), ef274, zu_n (by omega), ef262, zu_n (by omega), ef250, zu_n (by omega)]) (fun a b h7 h8 h9 => by rw [ef288, zu_n (by omega), ef274, zu_n (by omega), ef262, zu_n (by omega), ef250, zu_n (by omega)]), hMs, fun a b h => by rw [ef288, zu_n (by omega), ef274, zu_n (by omega), ef262, zu_n (by omega), ef250, zu_n (by omega)]; exact hf1 a b h⟩, zEnd1 hH ht9 hW9⟩, hS.F ht9⟩) hS.2.2 dX12_back_233
              · have zc247 := c247
                replace zc247 := zc_nle (nI_toInt (by omega)) ((by decide : (0 : Int32).toInt = 0)) zc247
                obtain ⟨t2, ht2, e64⟩ : ∃ t2, t2 < n ∧ f107 64 (8 * o1 + j1) = nI t2 := by rcases b5 with h9 | h9; exact absurd h9 (by omega); exact h9
                obtain ⟨s2, hs2, e35b⟩ := hMs t2 (by omega)
                refine lv_aload_n hx hb dX12_back_155 rfl (lv_at hl 2 rfl) ?_
                refine zGetR (D := D) (ci := 12) (C := RX12) (T := TX12) (N := 71) hx hb hts hiX12 hown hH (zk_30 hF) rfl 7 (by decide) rfl hw9 (fun _ h9 => h9) dX12_back_156 (zr_30_7 hF) ?_
                refine lv_aload_n hx hb dX12_back_159 rfl (lv_at hl 2 rfl) ?_
                refine zGetR (D := D) (ci := 12) (C := RX12) (T := TX12) (N := 71) hx hb hts hiX12 hown hH (zk_30 hF) rfl 60 (by decide) rfl hw13 (fun _ h9 => h9) dX12_back_160 (zr_30_60 hF) ?_
                refine lv_iload hx hb dX12_back_163 (lv_at hl 1 rfl) ?_
                refine zIaldN (D := D) hx hb hH (zk_64 hF) (zn_64 hF) (by omega) (by omega) e64 dX12_back_165 ?_
                refine lv_dup2_11 hx hb dX12_back_166 rfl rfl ?_
                refine zIaldN (D := D) hx hb hH (zk_35 hF) (zn_35 hF) (by omega) (by omega) e35b dX12_back_167 ?_
                refine lv_iload hx hb dX12_back_168 (lv_at hl 0 rfl) ?_
                refine lv_iadd hx hb dX12_back_170 ?_
                refine lv_topi (fun v301 ev301 => ?_)
                obtain rfl : v301 = nI (s2 + ov) := ev301.trans (nI_add _ _)
                refine zIastN (D := D) hx hb hH hS (zk_35 hF) (zn_35 hF) (by omega) (by omega) dX12_back_171 (fun H locs hH hS => ?_)
                obtain ⟨f302, ef302⟩ : ∃ f9 : zFi, f9 = zu f107 35 t2 (nI (s2 + ov)) := ⟨_, rfl⟩
                rw [← ef302] at hH
                have q303 : f302 30 45 = nI o := by rw [ef302, zu_n (fun h9 => absurd h9.1 (by decide))]; exact q108
                have q304 : f302 54 o1 = nI wn := by rw [ef302, zu_n (fun h9 => absurd h9.1 (by decide))]; exact q109
                have q305 : f302 30 0 = nI 0 := by rw [ef302, zu_n (fun h9 => absurd h9.1 (by decide))]; exact q110
                have q306 : f302 55 (8 * o1 + j1) = nI t := by rw [ef302, zu_n (fun h9 => absurd h9.1 (by decide))]; exact e55
                have q307 : f302 56 (8 * o1 + j1) = nI qm := by rw [ef302, zu_n (fun h9 => absurd h9.1 (by decide))]; exact e56
                have q308 : f302 58 (8 * o1 + j1) = nI sa := by rw [ef302, zu_n (fun h9 => absurd h9.1 (by decide))]; exact e58
                have q309 : f302 59 (8 * o1 + j1) = nI sp := by rw [ef302, zu_n (fun h9 => absurd h9.1 (by decide))]; exact e59
                have q310 : f302 60 (8 * o1 + j1) = nI sc := by rw [ef302, zu_n (fun h9 => absurd h9.1 (by decide))]; exact e60
                have q311 : f302 62 (8 * o1 + j1) = nI pb := by rw [ef302, zu_n (fun h9 => absurd h9.1 (by decide))]; exact e62
                have q312 : f302 64 (8 * o1 + j1) = nI t2 := by rw [ef302, zu_n (fun h9 => absurd h9.1 (by decide))]; exact e64
                have q313 : f302 35 t2 = nI (s2 + ov) := by rw [ef302]; exact zu_s
                have hMs := zMs.set (B2 := Bd + ov) (v := s2 + ov) hMs ef302 (by omega) (by omega)
                obtain ⟨s3, hs3, e35c⟩ := hMs t (by omega)
                refine lv_aload_n hx hb dX12_back_172 rfl (lv_at hl 2 rfl) ?_
                refine zGetR (D := D) (ci := 12) (C := RX12) (T := TX12) (N := 71) hx hb hts hiX12 hown hH (zk_30 hF) rfl 7 (by decide) rfl hw9 (fun _ h9 => h9) dX12_back_173 (zr_30_7 hF) ?_
                refine lv_aload_n hx hb dX12_back_176 rfl (lv_at hl 2 rfl) ?_
                refine zGetR (D := D) (ci := 12) (C := RX12) (T := TX12) (N := 71) hx hb hts hiX12 hown hH (zk_30 hF) rfl 51 (by decide) rfl hw10 (fun _ h9 => h9) dX12_back_177 (zr_30_51 hF) ?_
                refine lv_iload hx hb dX12_back_180 (lv_at hl 1 rfl) ?_
                refine zIaldN (D := D) hx hb hH (zk_55 hF) (zn_55 hF) (by omega) (by omega) q306 dX12_back_182 ?_
                refine lv_dup2_11 hx hb dX12_back_183 rfl rfl ?_
                refine zIaldN (D := D) hx hb hH (zk_35 hF) (zn_35 hF) (by omega) (by omega) e35c dX12_back_184 ?_
                refine lv_iload_n hx hb dX12_back_185 rfl (lv_at hl 5 rfl) ?_
                refine lv_iload hx hb dX12_back_186 (lv_at hl 0 rfl) ?_
                refine lv_isub hx hb dX12_back_188 ?_
                refine lv_topi (fun v314 ev314 => ?_)
                obtain rfl : v314 = nI (mz - ov) := ev314.trans (pk_sub (by omega))
                refine lv_iadd hx hb dX12_back_189 ?_
                refine lv_topi (fun v315 ev315 => ?_)
                obtain rfl : v315 = nI (s3 + (mz - ov)) := ev315.trans (nI_add _ _)
                refine zIastN (D := D) hx hb hH hS (zk_35 hF) (zn_35 hF) (by omega) (by omega) dX12_back_190 (fun H locs hH hS => ?_)
                obtain ⟨f316, ef316⟩ : ∃ f9 : zFi, f9 = zu f302 35 t (nI (s3 + (mz - ov))) := ⟨_, rfl⟩
                rw [← ef316] at hH
                have q317 : f316 30 45 = nI o := by rw [ef316, zu_n (fun h9 => absurd h9.1 (by decide))]; exact q303
                have q318 : f316 54 o1 = nI wn := by rw [ef316, zu_n (fun h9 => absurd h9.1 (by decide))]; exact q304
                have q319 : f316 30 0 = nI 0 := by rw [ef316, zu_n (fun h9 => absurd h9.1 (by decide))]; exact q305
                have q320 : f316 55 (8 * o1 + j1) = nI t := by rw [ef316, zu_n (fun h9 => absurd h9.1 (by decide))]; exact q306
                have q321 : f316 56 (8 * o1 + j1) = nI qm := by rw [ef316, zu_n (fun h9 => absurd h9.1 (by decide))]; exact q307
                have q322 : f316 58 (8 * o1 + j1) = nI sa := by rw [ef316, zu_n (fun h9 => absurd h9.1 (by decide))]; exact q308
                have q323 : f316 59 (8 * o1 + j1) = nI sp := by rw [ef316, zu_n (fun h9 => absurd h9.1 (by decide))]; exact q309
                have q324 : f316 60 (8 * o1 + j1) = nI sc := by rw [ef316, zu_n (fun h9 => absurd h9.1 (by decide))]; exact q310
                have q325 : f316 62 (8 * o1 + j1) = nI pb := by rw [ef316, zu_n (fun h9 => absurd h9.1 (by decide))]; exact q311
                have q326 : f316 64 (8 * o1 + j1) = nI t2 := by rw [ef316, zu_n (fun h9 => absurd h9.1 (by decide))]; exact q312
                have q327 : f316 35 t = nI (s3 + (mz - ov)) := by rw [ef316]; exact zu_s
                have hMs := zMs.set (B2 := Bd + 99) (v := s3 + (mz - ov)) hMs ef316 (by omega) (by omega)
                refine lv_aload_n hx hb dX12_back_191 rfl (lv_at hl 2 rfl) ?_
                refine zGetR (D := D) (ci := 12) (C := RX12) (T := TX12) (N := 71) hx hb hts hiX12 hown hH (zk_30 hF) rfl 58 (by decide) rfl hw8 (fun _ h9 => h9) dX12_back_192 (zr_30_58 hF) ?_
                refine lv_iload hx hb dX12_back_195 (lv_at hl 1 rfl) ?_
                refine lv_dup2_11 hx hb dX12_back_197 rfl rfl ?_
                refine zIaldN (D := D) hx hb hH (zk_62 hF) (zn_62 hF) (by omega) (by omega) q325 dX12_back_198 ?_
                refine lv_iload hx hb dX12_back_199 (lv_at hl 0 rfl) ?_
                refine lv_iadd hx hb dX12_back_201 ?_
                refine lv_topi (fun v328 ev328 => ?_)
                obtain rfl : v328 = nI (pb + ov) := ev328.trans (nI_add _ _)
                refine zIastN (D := D) hx hb hH hS (zk_62 hF) (zn_62 hF) (by omega) (by omega) dX12_back_202 (fun H locs hH hS => ?_)
                obtain ⟨f329, ef329⟩ : ∃ f9 : zFi, f9 = zu f316 62 (8 * o1 + j1) (nI (pb + ov)) := ⟨_, rfl⟩
                rw [← ef329] at hH
                have q330 : f329 30 45 = nI o := by rw [ef329, zu_n (fun h9 => absurd h9.1 (by decide))]; exact q317
                have q331 : f329 54 o1 = nI wn := by rw [ef329, zu_n (fun h9 => absurd h9.1 (by decide))]; exact q318
                have q332 : f329 30 0 = nI 0 := by rw [ef329, zu_n (fun h9 => absurd h9.1 (by decide))]; exact q319
                have q333 : f329 55 (8 * o1 + j1) = nI t := by rw [ef329, zu_n (fun h9 => absurd h9.1 (by decide))]; exact q320
                have q334 : f329 56 (8 * o1 + j1) = nI qm := by rw [ef329, zu_n (fun h9 => absurd h9.1 (by decide))]; exact q321
                have q335 : f329 58 (8 * o1 + j1) = nI sa := by rw [ef329, zu_n (fun h9 => absurd h9.1 (by decide))]; exact q322
                have q336 : f329 59 (8 * o1 + j1) = nI sp := by rw [ef329, zu_n (fun h9 => absurd h9.1 (by decide))]; exact q323
                have q337 : f329 60 (8 * o1 + j1) = nI sc := by rw [ef329, zu_n (fun h9 => absurd h9.1 (by decide))]; exact q324
                have q338 : f329 64 (8 * o1 + j1) = nI t2 := by rw [ef329, zu_n (fun h9 => absurd h9.1 (by decide))]; exact q326
                have q339 : f329 35 t = nI (s3 + (mz - ov)) := by rw [ef329, zu_n (fun h9 => absurd h9.1 (by decide))]; exact q327
                have q340 : f329 62 (8 * o1 + j1) = nI (pb + ov) := by rw [ef329]; exact zu_s
                have hMs := zMs.ci (fi' := f329) hMs (fun i9 k9 h9 => by rw [ef329]; exact zu_n (by omega))
                refine lv_aload_n hx hb dX12_back_203 rfl (lv_at hl 2 rfl) ?_
                refine zGetR (D := D) (ci := 12) (C := RX12) (T := TX12) (N := 71) hx hb hts hiX12 hown hH (zk_30 hF) rfl 57 (by decide) rfl hw7 (fun _ h9 => h9) dX12_back_204 (zr_30_57 hF) ?_
                refine lv_iload hx hb dX12_back_207 (lv_at hl 1 rfl) ?_
                refine lv_dup2_11 hx hb dX12_back_209 rfl rfl ?_
                refine zIaldN (D := D) hx hb hH (zk_61 hF) (zn_61 hF) (by omega) (by omega) rfl dX12_back_210 ?_
                refine lv_iload_n hx hb dX12_back_211 rfl (lv_at hl 5 rfl) ?_
                refine lv_iadd hx hb dX12_back_212 ?_
                refine lv_topi (fun v341 ev341 => ?_)
                refine zIastN (D := D) hx hb hH hS (zk_61 hF) (zn_61 hF) (by omega) (by omega) dX12_back_213 (fun H locs hH hS => ?_)
                obtain ⟨f342, ef342⟩ : ∃ f9 : zFi, f9 = zu f329 61 (8 * o1 + j1) v341 := ⟨_, rfl⟩
                rw [← ef342] at hH
                have q343 : f342 30 45 = nI o := by rw [ef342, zu_n (fun h9 => absurd h9.1 (by decide))]; exact q330
                have q344 : f342 54 o1 = nI wn := by rw [ef342, zu_n (fun h9 => absurd h9.1 (by decide))]; exact q331
                have q345 : f342 30 0 = nI 0 := by rw [ef342, zu_n (fun h9 => absurd h9.1 (by decide))]; exact q332
                have q346 : f342 55 (8 * o1 + j1) = nI t := by rw [ef342, zu_n (fun h9 => absurd h9.1 (by decide))]; exact q333
                have q347 : f342 56 (8 * o1 + j1) = nI qm := by rw [ef342, zu_n (fun h9 => absurd h9.1 (by decide))]; exact q334
                have q348 : f342 58 (8 * o1 + j1) = nI sa := by rw [ef342, zu_n (fun h9 => absurd h9.1 (by decide))]; exact q335
                have q349 : f342 59 (8 * o1 + j1) = nI sp := by rw [ef342, zu_n (fun h9 => absurd h9.1 (by decide))]; exact q336
                have q350 : f342 60 (8 * o1 + j1) = nI sc := by rw [ef342, zu_n (fun h9 => absurd h9.1 (by decide))]; exact q337
                have q351 : f342 64 (8 * o1 + j1) = nI t2 := by rw [ef342, zu_n (fun h9 => absurd h9.1 (by decide))]; exact q338
                have q352 : f342 35 t = nI (s3 + (mz - ov)) := by rw [ef342, zu_n (fun h9 => absurd h9.1 (by decide))]; exact q339
                have q353 : f342 62 (8 * o1 + j1) = nI (pb + ov) := by rw [ef342, zu_n (fun h9 => absurd h9.1 (by decide))]; exact q340
                have q354 : f342 61 (8 * o1 + j1) = v341 := by rw [ef342]; exact zu_s
                have hMs := zMs.ci (fi' := f342) hMs (fun i9 k9 h9 => by rw [ef342]; exact zu_n (by omega))
                refine lv_aload_n hx hb dX12_back_214 rfl (lv_at hl 2 rfl) ?_
                refine zGetR (D := D) (ci := 12) (C := RX12) (T := TX12) (N := 71) hx hb hts hiX12 hown hH (zk_30 hF) rfl 48 (by decide) rfl hw11 (fun _ h9 => h9) dX12_back_215 (zr_30_48 hF) ?_
                refine lv_iload_n hx hb dX12_back_218 rfl (lv_at hl 3 rfl) ?_
                refine lv_dup2_11 hx hb dX12_back_219 rfl rfl ?_
                refine zIaldN (D := D) hx hb hH (zk_52 hF) (zn_52 hF) (by omega) (by omega) rfl dX12_back_220 ?_
                refine lv_iload_n hx hb dX12_back_221 rfl (lv_at hl 5 rfl) ?_
                refine lv_aload_n hx hb dX12_back_222 rfl (lv_at hl 2 rfl) ?_
                refine zGetR (D := D) (ci := 12) (C := RX12) (T := TX12) (N := 71) hx hb hts hiX12 hown hH (zk_30 hF) rfl 53 (by decide) rfl hw12 (fun _ h9 => h9) dX12_back_223 (zr_30_53 hF) ?_
                refine lv_iload hx hb dX12_back_226 (lv_at hl 1 rfl) ?_
                refine zIaldN (D := D) hx hb hH (zk_57 hF) (zn_57 hF) (by omega) (by omega) rfl dX12_back_228 ?_
                refine lv_imul hx hb dX12_back_229 ?_
                refine lv_topi (fun v355 ev355 => ?_)
                refine lv_iadd hx hb dX12_back_230 ?_
                refine lv_topi (fun v356 ev356 => ?_)
                refine zIastN (D := D) hx hb hH hS (zk_52 hF) (zn_52 hF) (by omega) (by omega) dX12_back_231 (fun H locs hH hS => ?_)
                obtain ⟨f357, ef357⟩ : ∃ f9 : zFi, f9 = zu f342 52 o1 v356 := ⟨_, rfl⟩
                rw [← ef357] at hH
                have q358 : f357 30 45 = nI o := by rw [ef357, zu_n (fun h9 => absurd h9.1 (by decide))]; exact q343
                have q359 : f357 54 o1 = nI wn := by rw [ef357, zu_n (fun h9 => absurd h9.1 (by decide))]; exact q344
                have q360 : f357 30 0 = nI 0 := by rw [ef357, zu_n (fun h9 => absurd h9.1 (by decide))]; exact q345
                have q361 : f357 55 (8 * o1 + j1) = nI t := by rw [ef357, zu_n (fun h9 => absurd h9.1 (by decide))]; exact q346
                have q362 : f357 56 (8 * o1 + j1) = nI qm := by rw [ef357, zu_n (fun h9 => absurd h9.1 (by decide))]; exact q347
                have q363 : f357 58 (8 * o1 + j1) = nI sa := by rw [ef357, zu_n (fun h9 => absurd h9.1 (by decide))]; exact q348
                have q364 : f357 59 (8 * o1 + j1) = nI sp := by rw [ef357, zu_n (fun h9 => absurd h9.1 (by decide))]; exact q349
                have q365 : f357 60 (8 * o1 + j1) = nI sc := by rw [ef357, zu_n (fun h9 => absurd h9.1 (by decide))]; exact q350
                have q366 : f357 64 (8 * o1 + j1) = nI t2 := by rw [ef357, zu_n (fun h9 => absurd h9.1 (by decide))]; exact q351
                have q367 : f357 35 t = nI (s3 + (mz - ov)) := by rw [ef357, zu_n (fun h9 => absurd h9.1 (by decide))]; exact q352
                have q368 : f357 62 (8 * o1 + j1) = nI (pb + ov) := by rw [ef357, zu_n (fun h9 => absurd h9.1 (by decide))]; exact q353
                have q369 : f357 61 (8 * o1 + j1) = v341 := by rw [ef357, zu_n (fun h9 => absurd h9.1 (by decide))]; exact q354
                have q370 : f357 52 o1 = v356 := by rw [ef357]; exact zu_s
                have hMs := zMs.ci (fi' := f357) hMs (fun i9 k9 h9 => by rw [ef357]; exact zu_n (by omega))
                refine lv_iconst (v := nI 1) hx hb dX12_back_232 (by decide) ?_
                have hzw : zMw f357 n (8 * o1 + j1) := ⟨⟨t, ht, q361⟩, qm, sa, sp, sc, pb + ov, ⟨q362, q363, q364, q365, q368⟩, b1, b2, b3, by omega, by rcases b5 with h9 | ⟨t3, h91, h92⟩; (exact Or.inl h9); exact Or.inr ⟨t3, h91, by rw [ef357, zu_n (by omega), ef342, zu_n (by omega), ef329, zu_n (by omega), ef316, zu_n (by omega), ef302, zu_n (by omega)]; exact h92⟩⟩
                refine W.widen (k := 0) (n := 0) (by decide) (by decide) ?_
                exact W.zret (v := nI 1) hx hb hr (by decide) (fun t9 ht9 hW9 => ⟨⟨nI 1, f357, rfl, ⟨zMo.upd (q := o1) (w := wn) hMo1 hvn8 h54b (fun j h => by by_cases h7 : j = j1; (subst h7; exact hzw); exact (zMo.want hMo1 ho1 hvn8 h54b h).ci (Nat.le_refl _) (fun a h8 h9 => by rw [ef357, zu_n (by omega), ef342, zu_n (by omega), ef329, zu_n (by omega), ef316, zu_n (by omega), ef302, zu_n (by omega)])) (by rw [ef357, zu_n (by omega), ef342, zu_n (by omega), ef329, zu_n (by omega), ef316, zu_n (by omega), ef302, zu_n (by omega)]) (fun b => by rw [ef357, zu_n (by omega), ef342, zu_n (by omega), ef329, zu_n (by omega), ef316, zu_n (by omega), ef302, zu_n (by omega)]) (fun a b h7 h8 h9 => by rw [ef357, zu_n (by omega), ef342, zu_n (by omega), ef329, zu_n (by omega), ef316, zu_n (by omega), ef302, zu_n (by omega)]), hMs, fun a b h => by rw [ef357, zu_n (by omega), ef342, zu_n (by omega), ef329, zu_n (by omega), ef316, zu_n (by omega), ef302, zu_n (by omega)]; exact hf1 a b h⟩, zEnd1 hH ht9 hW9⟩, hS.F ht9⟩) hS.2.2 dX12_back_233
          · have zc119 := c119
            replace zc119 := zc_nle (nI_toInt (by omega)) (rfl) zc119
            refine lv_iconst (v := nI 0) hx hb dX12_back_108 (by decide) ?_
            refine W.widen (k := 0) (n := 0) (by decide) (by decide) ?_
            exact W.zret (v := nI 0) hx hb hr (by decide) (fun t9 ht9 hW9 => ⟨⟨nI 0, f107, rfl, ⟨hMo1, zMs.mono hMs (by omega), hf1⟩, zEnd1 hH ht9 hW9⟩, hS.F ht9⟩) hS.2.2 dX12_back_109
    · skip
      replace hn105 := zWi0 (rfl) (nI_toInt (by omega)) (nI_toInt (by omega)) hn105
      refine lv_if_ne (tgt := 28) hx hb dX12_back_21 (by decide) (fun c371 => absurd (by decide) c371) (fun c371 => ?_)
      refine lv_iconst (v := nI 2) hx hb dX12_back_24 (by decide) ?_
      refine lv_goto (tgt := 29) hx hb dX12_back_25 (by decide) ?_
      refine zPutI (D := D) (ci := 12) (ty := .int) (C := RX12) (T := TX12) (N := 71) hx hb hts hiX12 tyX12 tyX12_ok nmX12 hown hH hS (zk_30 hF) rfl 0 (by decide) rfl hw0 (fun _ h9 => h9) rfl (by decide +kernel) rfl rfl dX12_back_29 (fun H locs hH hS => ?_)
      obtain ⟨f372, ef372⟩ : ∃ f9 : zFi, f9 = zu fi 30 0 (nI 2) := ⟨_, rfl⟩
      rw [← ef372] at hH
      have q373 : f372 30 45 = nI o := by rw [ef372, zu_n (fun h9 => absurd h9.2 (by decide))]; exact hMo.2.1
      have q374 : f372 54 o1 = nI wn := by rw [ef372, zu_n (fun h9 => absurd h9.1 (by decide))]; exact hvn54
      have q375 : f372 30 0 = nI 2 := by rw [ef372]; exact zu_s
      have hMo := zMo.ci (fi' := f372) hMo (fun i9 k9 h9 => by rw [ef372]; exact zu_n (by omega))
      have hMs := zMs.ci (fi' := f372) hMs (fun i9 k9 h9 => by rw [ef372]; exact zu_n (by omega))
      refine lv_aload_n hx hb dX12_back_32 rfl (lv_at hl 0 rfl) ?_
      refine zGetI (D := D) (ci := 12) (C := RX12) (T := TX12) (N := 71) hx hb hts hiX12 hown hH (zk_30 hF) rfl 0 (by decide) rfl hw0 (fun _ h9 => h9) dX12_back_33 q375 ?_
      refine lv_if_le (tgt := 41) hx hb dX12_back_36 (by decide) (fun c376 => absurd c376 (by decide)) (fun c376 => ?_)
      refine lv_iconst (v := nI 0) hx hb dX12_back_39 (by decide) ?_
      refine W.widen (k := 0) (n := 0) (by decide) (by decide) ?_
      exact W.zret (v := nI 0) hx hb hr (by decide) (fun t9 ht9 hW9 => ⟨⟨nI 0, f372, rfl, ⟨hMo, zMs.mono hMs (by omega), fun a b h => by rw [ef372, zu_n (by omega)]⟩, zEnd1 hH ht9 hW9⟩, hS.F ht9⟩) hS.2.2 dX12_back_40
  · skip
    refine lv_if_ne (tgt := 14) hx hb dX12_back_7 (by decide) (fun c377 => absurd (by decide) c377) (fun c377 => ?_)
    refine lv_iconst (v := nI 1) hx hb dX12_back_10 (by decide) ?_
    refine lv_goto (tgt := 29) hx hb dX12_back_11 (by decide) ?_
    refine zPutI (D := D) (ci := 12) (ty := .int) (C := RX12) (T := TX12) (N := 71) hx hb hts hiX12 tyX12 tyX12_ok nmX12 hown hH hS (zk_30 hF) rfl 0 (by decide) rfl hw0 (fun _ h9 => h9) rfl (by decide +kernel) rfl rfl dX12_back_29 (fun H locs hH hS => ?_)
    obtain ⟨f378, ef378⟩ : ∃ f9 : zFi, f9 = zu fi 30 0 (nI 1) := ⟨_, rfl⟩
    rw [← ef378] at hH
    have q379 : f378 30 45 = nI o := by rw [ef378, zu_n (fun h9 => absurd h9.2 (by decide))]; exact hMo.2.1
    have q380 : f378 30 0 = nI 1 := by rw [ef378]; exact zu_s
    have hMo := zMo.ci (fi' := f378) hMo (fun i9 k9 h9 => by rw [ef378]; exact zu_n (by omega))
    have hMs := zMs.ci (fi' := f378) hMs (fun i9 k9 h9 => by rw [ef378]; exact zu_n (by omega))
    refine lv_aload_n hx hb dX12_back_32 rfl (lv_at hl 0 rfl) ?_
    refine zGetI (D := D) (ci := 12) (C := RX12) (T := TX12) (N := 71) hx hb hts hiX12 hown hH (zk_30 hF) rfl 0 (by decide) rfl hw0 (fun _ h9 => h9) dX12_back_33 q380 ?_
    refine lv_if_le (tgt := 41) hx hb dX12_back_36 (by decide) (fun c381 => absurd c381 (by decide)) (fun c381 => ?_)
    refine lv_iconst (v := nI 0) hx hb dX12_back_39 (by decide) ?_
    refine W.widen (k := 0) (n := 0) (by decide) (by decide) ?_
    exact W.zret (v := nI 0) hx hb hr (by decide) (fun t9 ht9 hW9 => ⟨⟨nI 0, f378, rfl, ⟨hMo, zMs.mono hMs (by omega), fun a b h => by rw [ef378, zu_n (by omega)]⟩, zEnd1 hH ht9 hW9⟩, hS.F ht9⟩) hS.2.2 dX12_back_40
set_option maxHeartbeats 4000000 in
set_option maxRecDepth 100000 in
/-- walk -/
theorem m_walk (l : Launch) (hl0 : l.stackTraces = false) (D : va_G) (A : Nat → Prop) (sad : Nat → Nat) (τ : zTy) (fi : zFi) (fr : zFr) (ol : Int64) (hF : zFix τ fr) (n : Nat) (hMt : zMt fi n) (p : Nat) (hMp : zMp fi n p) : Met l yX12_walk wsX12_walk ({ frames := 2, cells := 0, slots := 0, locals := 48 }) (va_Pc [.ref (τ.1 30)] (zQc D A sad τ fi fr ol)) (va_Qi (fun (r : Int32) (u : zFi) => u 30 68 = nI 0 ∧ ∀ a b, ¬ (a = 72 ∨ (a = 30 ∧ (b = 0 ∨ b = 68))) → u a b = fi a b) (fun (u : zFi) (t : State) => zH D A τ u fr ol t t.heap) A) 0 0 A := by
  refine Met.ofW (cc := cX12_walk) (maxL := 8) (ret := (some .int)) (by decide) rfl ?_
  intro p9 e9 s m args below meth c9 s₁ B hml hv
  obtain ⟨rfl, hz, hH, hA⟩ := hv
  have hx := B.exec
  have hb := B.bytes
  have hr := B.returns
  have hts := atoms_spec (ws := wsX12_walk) B.pre
  have hown : s.vm.findClass RX12 = some m.cls := findClass_of_methodNamed B.named
  have hlocks := B.notSynchronized
  have hS : va_S A s.heap s.heap [] := va_S.rf
  have hl := lv_entry ([.ref (τ.1 30)]) (n := 8) (Nat.le_of_ble_eq_true rfl)
  rw [lg_entry_eq]
  generalize (lg_sl ([.ref (τ.1 30)]) ++ List.replicate (8 - (lg_sl ([.ref (τ.1 30)])).length) Slot.unset).toArray = ls at hl ⊢
  have hl : lv_has ls 8 [(0, .ref (τ.1 30))] := hl
  have hm30 := hMt.1
  have hp10 := hMp.1
  have hw0 := hts (.fieldLink RX12 165 "PostHouseModel" "thrown" "I") (by decide +kernel)
  have hiX12 : ∀ w ∈ u_ws RX12 TX12 71, w ∈ wsX12_walk := fun _ h => List.mem_cons_of_mem _ (List.mem_append_right _ h)
  have hw2 := hts (.fieldLink RX12 351 "PostHouseModel" "picks" "I") (by decide +kernel)
  have hw3 := hts (.fieldLink RX12 162 "PostHouseModel" "way" "[I") (by decide +kernel)
  refine lv_aload_n hx hb dX12_walk_0 rfl (lv_at hl 0 rfl) ?_
  refine lv_iconst (v := nI 0) hx hb dX12_walk_1 (by decide) ?_
  refine zPutI (D := D) (ci := 12) (ty := .int) (C := RX12) (T := TX12) (N := 71) hx hb hts hiX12 tyX12 tyX12_ok nmX12 hown hH hS (zk_30 hF) rfl 0 (by decide) rfl hw0 (fun _ h9 => h9) rfl (by decide +kernel) rfl rfl dX12_walk_2 (fun H locs hH hS => ?_)
  obtain ⟨f101, ef101⟩ : ∃ f9 : zFi, f9 = zu fi 30 0 (nI 0) := ⟨_, rfl⟩
  rw [← ef101] at hH
  have q102 : f101 30 68 = nI p := by rw [ef101, zu_n (fun h9 => absurd h9.2 (by decide))]; exact hMp.2.1
  have q103 : f101 30 0 = nI 0 := by rw [ef101]; exact zu_s
  refine lv_aload_n hx hb dX12_walk_5 rfl (lv_at hl 0 rfl) ?_
  refine zGetI (D := D) (ci := 12) (C := RX12) (T := TX12) (N := 71) hx hb hts hiX12 hown hH (zk_30 hF) rfl 68 (by decide) rfl hw2 (fun _ h9 => h9) dX12_walk_6 q102 ?_
  refine lv_istore_n (lv' := [(1, .int (nI p)), (0, .ref (τ.1 30))]) hx hb dX12_walk_9 rfl hl (by decide) rfl (fun ls hl => ?_)
  refine lv_aload_n hx hb dX12_walk_10 rfl (lv_at hl 1 rfl) ?_
  refine lv_iconst (v := nI 0) hx hb dX12_walk_11 (by decide) ?_
  refine zPutI (D := D) (ci := 12) (ty := .int) (C := RX12) (T := TX12) (N := 71) hx hb hts hiX12 tyX12 tyX12_ok nmX12 hown hH hS (zk_30 hF) rfl 68 (by decide) rfl hw2 (fun _ h9 => h9) rfl (by decide +kernel) rfl rfl dX12_walk_12 (fun H locs hH hS => ?_)
  obtain ⟨f104, ef104⟩ : ∃ f9 : zFi, f9 = zu f101 30 68 (nI 0) := ⟨_, rfl⟩
  rw [← ef104] at hH
  have q105 : f104 30 0 = nI 0 := by rw [ef104, zu_n (fun h9 => absurd h9.2 (by decide))]; exact q103
  have q106 : f104 30 68 = nI 0 := by rw [ef104]; exact zu_s
  refine lv_iload_n hx hb dX12_walk_15 rfl (lv_at hl 0 rfl) ?_
  refine lv_if_ne (tgt := 21) hx hb dX12_walk_16 (by decide) (fun c107 => ?_) (fun c107 => ?_)
  · have zc107 := c107
    replace zc107 := zc_neq (nI_toInt (by omega)) ((by decide : (0 : Int32).toInt = 0)) zc107
    obtain ⟨P2, hP2⟩ : ∃ P2 : Nat, P2 = 2 ^ p := ⟨_, rfl⟩
    have hP2s : ((1 : Int32) <<< (nI p &&& 31)) = nI P2 := by rw [hP2]; exact zShl1 ⟨p, by omega⟩
    have hP2b : P2 ≤ 1024 := by rw [hP2]; exact Nat.le_trans (Nat.pow_le_pow_right (by omega) hp10) (by decide)
    have hP21 : 1 ≤ P2 := by rw [hP2]; exact Nat.one_le_two_pow
    have hfW : ∀ a b, ¬ (a = 72 ∨ (a = 30 ∧ (b = 0 ∨ b = 68))) → f104 a b = fi a b := fun a b h => by rw [ef104, zu_n (by omega), ef101, zu_n (by omega)]
    have q68 := q106
    refine lv_iconst (v := nI 1) hx hb dX12_walk_21 (by decide) ?_
    refine lv_istore_n (lv' := [(2, .int (nI 1)), (1, .int (nI p)), (0, .ref (τ.1 30))]) hx hb dX12_walk_22 rfl hl (by decide) rfl (fun ls hl => ?_)
    refine zLp (σ := Nat × zFi) (fun x9 k9 H locs ls => (fun (sN : Nat) (f : zFi) => k9 = P2 - sN ∧ (1 ≤ sN ∧ sN ≤ P2 ∧ f 30 68 = nI 0 ∧ ∀ a b, ¬ (a = 72 ∨ (a = 30 ∧ (b = 0 ∨ b = 68))) → f a b = fi a b) ∧ zH D A τ f fr ol s H ∧ va_S A s.heap H locs ∧ lv_has ls 8 [(0, .ref (τ.1 30)), (1, .int (nI p)), (2, .int (nI sN))]) x9.1 x9.2) (1, f104) (P2 - 1) (show P2 - 1 = P2 - 1 ∧ (1 ≤ 1 ∧ 1 ≤ P2 ∧ f104 30 68 = nI 0 ∧ ∀ a b, ¬ (a = 72 ∨ (a = 30 ∧ (b = 0 ∨ b = 68))) → f104 a b = fi a b) ∧ zH D A τ f104 fr ol s _ ∧ va_S A s.heap _ _ ∧ lv_has _ 8 [(0, .ref (τ.1 30)), (1, .int (nI p)), (2, .int (nI 1))] from ⟨rfl, ⟨Nat.le_refl _, hP21, q68, hfW⟩, hH, hS, lv_sub hl [2, 1, 0] rfl⟩) (fun k9 ih x9 H locs ls hv9 => ?_)
    obtain ⟨sN, f⟩ := x9
    have hv9 : k9 = P2 - sN ∧ (1 ≤ sN ∧ sN ≤ P2 ∧ f 30 68 = nI 0 ∧ ∀ a b, ¬ (a = 72 ∨ (a = 30 ∧ (b = 0 ∨ b = 68))) → f a b = fi a b) ∧ zH D A τ f fr ol s H ∧ va_S A s.heap H locs ∧ lv_has ls 8 [(0, .ref (τ.1 30)), (1, .int (nI p)), (2, .int (nI sN))] := hv9
    obtain ⟨hkih108, hv9, hH, hS, hl⟩ := hv9
    obtain ⟨h1, h2, p68, hfr⟩ := hv9
    have ih108 := ih
    clear ih
    refine lv_iload_n hx hb dX12_walk_23 rfl (lv_at hl 2 rfl) ?_
    refine lv_iconst (v := nI 1) hx hb dX12_walk_24 (by decide) ?_
    refine lv_iload_n hx hb dX12_walk_25 rfl (lv_at hl 1 rfl) ?_
    refine lv_ishl hx hb dX12_walk_26 ?_
    refine lv_topi (fun v109 ev109 => ?_)
    obtain rfl : v109 = nI P2 := ev109.trans hP2s
    refine lv_icmp_ge (tgt := 165) hx hb dX12_walk_27 (by decide) (fun c110 => ?_) (fun c110 => ?_)
    · have zc110 := c110
      replace zc110 := zc_le (nI_toInt (by omega)) (nI_toInt (by omega)) zc110
      refine lv_iconst (v := (-1)) hx hb dX12_walk_165 (by decide) ?_
      refine lv_istore_n (lv' := [(2, .int ((-1))), (0, .ref (τ.1 30)), (1, .int (nI p))]) hx hb dX12_walk_166 rfl hl (by decide) rfl (fun ls hl => ?_)
      refine lv_iconst (v := nI 0) hx hb dX12_walk_167 (by decide) ?_
      refine lv_istore_n (lv' := [(3, .int (nI 0)), (2, .int ((-1))), (0, .ref (τ.1 30)), (1, .int (nI p))]) hx hb dX12_walk_168 rfl hl (by decide) rfl (fun ls hl => ?_)
      refine zLp (σ := Nat × Int32) (fun x9 k9 H locs ls => (fun (lb : Nat) (y2 : Int32) => k9 = p - lb ∧ (lb ≤ p) ∧ zH D A τ f fr ol s H ∧ va_S A s.heap H locs ∧ lv_has ls 8 [(0, .ref (τ.1 30)), (1, .int (nI p)), (2, .int y2), (3, .int (nI lb))]) x9.1 x9.2) (0, (-1)) (p - 0) (show p - 0 = p - 0 ∧ (0 ≤ p) ∧ zH D A τ f fr ol s _ ∧ va_S A s.heap _ _ ∧ lv_has _ 8 [(0, .ref (τ.1 30)), (1, .int (nI p)), (2, .int ((-1))), (3, .int (nI 0))] from ⟨rfl, Nat.zero_le _, hH, hS, lv_sub hl [2, 3, 1, 0] rfl⟩) (fun k9 ih x9 H locs ls hv9 => ?_)
      obtain ⟨lb, y2⟩ := x9
      have hv9 : k9 = p - lb ∧ (lb ≤ p) ∧ zH D A τ f fr ol s H ∧ va_S A s.heap H locs ∧ lv_has ls 8 [(0, .ref (τ.1 30)), (1, .int (nI p)), (2, .int y2), (3, .int (nI lb))] := hv9
      obtain ⟨hkih111, hv9, hH, hS, hl⟩ := hv9
      obtain h6 := hv9
      have ih111 := ih
      clear ih
      refine lv_iload_n hx hb dX12_walk_169 rfl (lv_at hl 3 rfl) ?_
      refine lv_iload_n hx hb dX12_walk_170 rfl (lv_at hl 1 rfl) ?_
      refine lv_icmp_ge (tgt := 217) hx hb dX12_walk_171 (by decide) (fun c112 => ?_) (fun c112 => ?_)
      · have zc112 := c112
        replace zc112 := zc_le (nI_toInt (by omega)) (nI_toInt (by omega)) zc112
        refine lv_iload_n hx hb dX12_walk_217 rfl (lv_at hl 2 rfl) ?_
        refine W.widen (k := 0) (n := 0) (by decide) (by decide) ?_
        exact W.iret (v := y2) hx hb hr (fun t9 ht9 hW9 => ⟨⟨y2, f, rfl, ⟨p68, hfr⟩, zEnd1 hH ht9 hW9⟩, hS.F ht9⟩) hS.2.2 dX12_walk_218
      · have zc112 := c112
        replace zc112 := zc_nle (nI_toInt (by omega)) (nI_toInt (by omega)) zc112
        refine lv_aload_n hx hb dX12_walk_174 rfl (lv_at hl 0 rfl) ?_
        refine zGetR (D := D) (ci := 12) (C := RX12) (T := TX12) (N := 71) hx hb hts hiX12 hown hH (zk_30 hF) rfl 70 (by decide) rfl hw3 (fun _ h9 => h9) dX12_walk_175 (zr_30_70 hF) ?_
        refine lv_bipush (v := nI 10) hx hb dX12_walk_178 (by decide) ?_
        refine lv_iconst (v := nI 1) hx hb dX12_walk_180 (by decide) ?_
        refine lv_iload_n hx hb dX12_walk_181 rfl (lv_at hl 1 rfl) ?_
        refine lv_ishl hx hb dX12_walk_182 ?_
        refine lv_topi (fun v113 ev113 => ?_)
        obtain rfl : v113 = nI P2 := ev113.trans hP2s
        refine lv_iconst (v := nI 1) hx hb dX12_walk_183 (by decide) ?_
        refine lv_isub hx hb dX12_walk_184 ?_
        refine lv_topi (fun v114 ev114 => ?_)
        obtain rfl : v114 = nI (P2 - 1) := ev114.trans (pk_sub (by omega))
        refine lv_imul hx hb dX12_walk_185 ?_
        refine lv_topi (fun v115 ev115 => ?_)
        obtain rfl : v115 = nI (10 * (P2 - 1)) := ev115.trans (pk_mul _ _)
        refine lv_iload_n hx hb dX12_walk_186 rfl (lv_at hl 3 rfl) ?_
        refine lv_iadd hx hb dX12_walk_187 ?_
        refine lv_topi (fun v116 ev116 => ?_)
        obtain rfl : v116 = nI (10 * (P2 - 1) + lb) := ev116.trans (nI_add _ _)
        refine zIaldN (D := D) hx hb hH (zk_72 hF) (zn_72 hF) (by omega) (by omega) rfl dX12_walk_188 ?_
        refine lv_aload_n hx hb dX12_walk_189 rfl (lv_at hl 0 rfl) ?_
        refine lv_iload_n hx hb dX12_walk_190 rfl (lv_at hl 3 rfl) ?_
        refine va_calli (va_runV (As := [.int (nI lb)]) (rest := [.int (f 72 (10 * (P2 - 1) + lb))]) ⟨hx, hb, hml, hown, hts⟩ (m_home l hl0 D A sad τ f fr ol hF p hp10 n hm30 ((fun j h9 => by rw [hfr _ _ (by omega)]; exact hMp.2.2 j h9)) lb (by omega)) (cwV 1 hts gX12_walk_X12_home rfl rfl rfl (by decide +kernel) ⟨Nat.le_of_ble_eq_true rfl, Nat.le_of_ble_eq_true rfl⟩) ⟨zQc_bl, zRecv hH (zk_30 hF) rfl, zQc_at hz hS hA hH⟩ rfl rfl hl.1 rfl (lv_room (Nat.le_of_ble_eq_true rfl)) dX12_walk_191 ⟨Nat.le_of_ble_eq_true rfl, Nat.le_of_ble_eq_true rfl⟩) hS (fun q _ h => h) (fun q h => h) (fun r117 u9 t9 H1 locs ht9 hvm9 hw hB hz1 hk1 hS => ?_)
        have hH := zMv ht9 hvm9 hB
        generalize H1 = H at hH hS ⊢
        clear hw
        refine lv_iadd hx hb dX12_walk_194 ?_
        refine lv_topi (fun v118 ev118 => ?_)
        refine lv_istore (lv' := [(4, .int v118), (0, .ref (τ.1 30)), (1, .int (nI p)), (2, .int y2), (3, .int (nI lb))]) hx hb dX12_walk_195 hl (by decide) rfl (fun ls hl => ?_)
        refine lv_iload_n hx hb dX12_walk_197 rfl (lv_at hl 3 rfl) ?_
        refine lv_iconst (v := (-1)) hx hb dX12_walk_198 (by decide) ?_
        refine lv_icmp_eq (tgt := 208) hx hb dX12_walk_199 (by decide) (fun c119 => ?_) (fun c119 => ?_)
        · have zc119 := c119
          replace zc119 := zc_eq (rfl) ((by decide : ((-1) : Int32).toInt = (-1))) zc119
          refine lv_iload hx hb dX12_walk_208 (lv_at hl 0 rfl) ?_
          refine lv_istore_n (lv' := [(2, .int v118), (4, .int v118), (0, .ref (τ.1 30)), (1, .int (nI p)), (3, .int (nI lb))]) hx hb dX12_walk_210 rfl hl (by decide) rfl (fun ls hl => ?_)
          refine lv_iinc (v := nI (lb + 1)) (lv' := [(3, .int (nI (lb + 1))), (2, .int v118), (4, .int v118), (0, .ref (τ.1 30)), (1, .int (nI p))]) hx hb dX12_walk_211 hl (k := 4) rfl (by rw [show (Int32.ofInt 1 : Int32) = nI 1 from by decide, nI_add]) (by decide) rfl (fun ls hl => ?_)
          refine lv_goto (tgt := 169) hx hb dX12_walk_214 (by decide) ?_
          exact ih111 (p - (lb + 1)) (by omega) (lb + 1, _) _ _ _ (show p - (lb + 1) = p - (lb + 1) ∧ ((lb + 1) ≤ p) ∧ zH D A τ f fr ol s _ ∧ va_S A s.heap _ _ ∧ lv_has _ 8 [(0, .ref (τ.1 30)), (1, .int (nI p)), (2, .int _), (3, .int (nI (lb + 1)))] from ⟨rfl, (by omega), hH, hS, lv_sub hl [3, 4, 1, 0] rfl⟩)
        · have zc119 := c119
          replace zc119 := zc_neq (rfl) ((by decide : ((-1) : Int32).toInt = (-1))) zc119
          refine lv_iload hx hb dX12_walk_202 (lv_at hl 0 rfl) ?_
          refine lv_iload_n hx hb dX12_walk_204 rfl (lv_at hl 3 rfl) ?_
          refine lv_icmp_ge (tgt := 211) hx hb dX12_walk_205 (by decide) (fun c120 => ?_) (fun c120 => ?_)
          · have zc120 := c120
            replace zc120 := zc_le (rfl) (rfl) zc120
            refine lv_iinc (v := nI (lb + 1)) (lv' := [(3, .int (nI (lb + 1))), (4, .int v118), (0, .ref (τ.1 30)), (1, .int (nI p)), (2, .int y2)]) hx hb dX12_walk_211 hl (k := 4) rfl (by rw [show (Int32.ofInt 1 : Int32) = nI 1 from by decide, nI_add]) (by decide) rfl (fun ls hl => ?_)
            refine lv_goto (tgt := 169) hx hb dX12_walk_214 (by decide) ?_
            exact ih111 (p - (lb + 1)) (by omega) (lb + 1, _) _ _ _ (show p - (lb + 1) = p - (lb + 1) ∧ ((lb + 1) ≤ p) ∧ zH D A τ f fr ol s _ ∧ va_S A s.heap _ _ ∧ lv_has _ 8 [(0, .ref (τ.1 30)), (1, .int (nI p)), (2, .int _), (3, .int (nI (lb + 1)))] from ⟨rfl, (by omega), hH, hS, lv_sub hl [2, 3, 4, 0] rfl⟩)
          · have zc120 := c120
            replace zc120 := zc_nle (rfl) (rfl) zc120
            refine lv_iload hx hb dX12_walk_208 (lv_at hl 0 rfl) ?_
            refine lv_istore_n (lv' := [(2, .int v118), (4, .int v118), (0, .ref (τ.1 30)), (1, .int (nI p)), (3, .int (nI lb))]) hx hb dX12_walk_210 rfl hl (by decide) rfl (fun ls hl => ?_)
            refine lv_iinc (v := nI (lb + 1)) (lv' := [(3, .int (nI (lb + 1))), (2, .int v118), (4, .int v118), (0, .ref (τ.1 30)), (1, .int (nI p))]) hx hb dX12_walk_211 hl (k := 4) rfl (by rw [show (Int32.ofInt 1 : Int32) = nI 1 from by decide, nI_add]) (by decide) rfl (fun ls hl => ?_)
            refine lv_goto (tgt := 169) hx hb dX12_walk_214 (by decide) ?_
            exact ih111 (p - (lb + 1)) (by omega) (lb + 1, _) _ _ _ (show p - (lb + 1) = p - (lb + 1) ∧ ((lb + 1) ≤ p) ∧ zH D A τ f fr ol s _ ∧ va_S A s.heap _ _ ∧ lv_has _ 8 [(0, .ref (τ.1 30)), (1, .int (nI p)), (2, .int _), (3, .int (nI (lb + 1)))] from ⟨rfl, (by omega), hH, hS, lv_sub hl [3, 4, 1, 0] rfl⟩)
    · have zc110 := c110
      replace zc110 := zc_nle (nI_toInt (by omega)) (nI_toInt (by omega)) zc110
      refine lv_iconst (v := nI 0) hx hb dX12_walk_30 (by decide) ?_
      refine lv_istore_n (lv' := [(3, .int (nI 0)), (0, .ref (τ.1 30)), (1, .int (nI p)), (2, .int (nI sN))]) hx hb dX12_walk_31 rfl hl (by decide) rfl (fun ls hl => ?_)
      refine zLp (σ := Nat × zFi) (fun x9 k9 H locs ls => (fun (la : Nat) (f2 : zFi) => k9 = p - la ∧ (la ≤ p ∧ f2 30 68 = nI 0 ∧ ∀ a b, ¬ (a = 72 ∨ (a = 30 ∧ (b = 0 ∨ b = 68))) → f2 a b = fi a b) ∧ zH D A τ f2 fr ol s H ∧ va_S A s.heap H locs ∧ lv_has ls 8 [(0, .ref (τ.1 30)), (1, .int (nI p)), (2, .int (nI sN)), (3, .int (nI la))]) x9.1 x9.2) (0, f) (p - 0) (show p - 0 = p - 0 ∧ (0 ≤ p ∧ f 30 68 = nI 0 ∧ ∀ a b, ¬ (a = 72 ∨ (a = 30 ∧ (b = 0 ∨ b = 68))) → f a b = fi a b) ∧ zH D A τ f fr ol s _ ∧ va_S A s.heap _ _ ∧ lv_has _ 8 [(0, .ref (τ.1 30)), (1, .int (nI p)), (2, .int (nI sN)), (3, .int (nI 0))] from ⟨rfl, ⟨Nat.zero_le _, p68, hfr⟩, hH, hS, lv_sub hl [1, 2, 3, 0] rfl⟩) (fun k9 ih x9 H locs ls hv9 => ?_)
      obtain ⟨la, f2⟩ := x9
      have hv9 : k9 = p - la ∧ (la ≤ p ∧ f2 30 68 = nI 0 ∧ ∀ a b, ¬ (a = 72 ∨ (a = 30 ∧ (b = 0 ∨ b = 68))) → f2 a b = fi a b) ∧ zH D A τ f2 fr ol s H ∧ va_S A s.heap H locs ∧ lv_has ls 8 [(0, .ref (τ.1 30)), (1, .int (nI p)), (2, .int (nI sN)), (3, .int (nI la))] := hv9
      obtain ⟨hkih121, hv9, hH, hS, hl⟩ := hv9
      obtain ⟨h3, p682, hfr2⟩ := hv9
      have ih121 := ih
      clear ih
      refine lv_iload_n hx hb dX12_walk_32 rfl (lv_at hl 3 rfl) ?_
      refine lv_iload_n hx hb dX12_walk_33 rfl (lv_at hl 1 rfl) ?_
      refine lv_icmp_ge (tgt := 159) hx hb dX12_walk_34 (by decide) (fun c122 => ?_) (fun c122 => ?_)
      · have zc122 := c122
        replace zc122 := zc_le (nI_toInt (by omega)) (nI_toInt (by omega)) zc122
        refine lv_iinc (v := nI (sN + 1)) (lv' := [(2, .int (nI (sN + 1))), (0, .ref (τ.1 30)), (1, .int (nI p)), (3, .int (nI la))]) hx hb dX12_walk_159 hl (k := 2) rfl (by rw [show (Int32.ofInt 1 : Int32) = nI 1 from by decide, nI_add]) (by decide) rfl (fun ls hl => ?_)
        refine lv_goto (tgt := 23) hx hb dX12_walk_162 (by decide) ?_
        exact ih108 (P2 - (sN + 1)) (by omega) (sN + 1, f2) _ _ _ (show P2 - (sN + 1) = P2 - (sN + 1) ∧ (1 ≤ (sN + 1) ∧ (sN + 1) ≤ P2 ∧ f2 30 68 = nI 0 ∧ ∀ a b, ¬ (a = 72 ∨ (a = 30 ∧ (b = 0 ∨ b = 68))) → f2 a b = fi a b) ∧ zH D A τ f2 fr ol s _ ∧ va_S A s.heap _ _ ∧ lv_has _ 8 [(0, .ref (τ.1 30)), (1, .int (nI p)), (2, .int (nI (sN + 1)))] from ⟨rfl, ⟨by omega, by omega, p682, hfr2⟩, hH, hS, lv_sub hl [1, 2, 0] rfl⟩)
      · have zc122 := c122
        replace zc122 := zc_nle (nI_toInt (by omega)) (nI_toInt (by omega)) zc122
        refine lv_iconst (v := (-1)) hx hb dX12_walk_37 (by decide) ?_
        refine lv_istore (lv' := [(4, .int ((-1))), (0, .ref (τ.1 30)), (1, .int (nI p)), (2, .int (nI sN)), (3, .int (nI la))]) hx hb dX12_walk_38 hl (by decide) rfl (fun ls hl => ?_)
        refine lv_iload_n hx hb dX12_walk_40 rfl (lv_at hl 3 rfl) ?_
        refine lv_iconst (v := nI 1) hx hb dX12_walk_41 (by decide) ?_
        refine lv_iload_n hx hb dX12_walk_42 rfl (lv_at hl 4 rfl) ?_
        refine lv_ishl hx hb dX12_walk_43 ?_
        refine lv_topi (fun v123 ev123 => ?_)
        refine lv_iconst (v := (-1)) hx hb dX12_walk_44 (by decide) ?_
        refine lv_ixor hx hb dX12_walk_45 ?_
        refine lv_topi (fun v124 ev124 => ?_)
        obtain ⟨rs, hrs, ers⟩ := zAndB (n := sN) (by omega) v124
        refine lv_iand hx hb dX12_walk_46 ?_
        refine lv_topi (fun v125 ev125 => ?_)
        obtain rfl : v125 = nI rs := ev125.trans ers
        refine lv_istore (lv' := [(5, .int (nI rs)), (4, .int ((-1))), (0, .ref (τ.1 30)), (1, .int (nI p)), (2, .int (nI sN)), (3, .int (nI la))]) hx hb dX12_walk_47 hl (by decide) rfl (fun ls hl => ?_)
        refine lv_iload_n hx hb dX12_walk_49 rfl (lv_at hl 4 rfl) ?_
        refine lv_iload_n hx hb dX12_walk_50 rfl (lv_at hl 5 rfl) ?_
        refine lv_ishr hx hb dX12_walk_51 ?_
        refine lv_topi (fun v126 ev126 => ?_)
        refine lv_iconst (v := nI 1) hx hb dX12_walk_52 (by decide) ?_
        refine lv_iand hx hb dX12_walk_53 ?_
        refine lv_topi (fun v127 ev127 => ?_)
        refine lv_if_ne (tgt := 60) hx hb dX12_walk_54 (by decide) (fun c128 => ?_) (fun c128 => ?_)
        · have zc128 := c128
          replace zc128 := zc_neq (rfl) ((by decide : (0 : Int32).toInt = 0)) zc128
          refine lv_iload hx hb dX12_walk_60 (lv_at hl 0 rfl) ?_
          refine lv_if_ne (tgt := 72) hx hb dX12_walk_62 (by decide) (fun c129 => ?_) (fun c129 => ?_)
          · have zc129 := c129
            replace zc129 := zc_neq (nI_toInt (by omega)) ((by decide : (0 : Int32).toInt = 0)) zc129
            refine lv_iconst (v := nI 0) hx hb dX12_walk_72 (by decide) ?_
            refine lv_istore (lv' := [(6, .int (nI 0)), (5, .int (nI rs)), (4, .int ((-1))), (0, .ref (τ.1 30)), (1, .int (nI p)), (2, .int (nI sN)), (3, .int (nI la))]) hx hb dX12_walk_73 hl (by decide) rfl (fun ls hl => ?_)
            refine zLp (σ := Nat × Int32) (fun x9 k9 H locs ls => (fun (kk : Nat) (y4 : Int32) => k9 = p - kk ∧ (kk ≤ p) ∧ zH D A τ f2 fr ol s H ∧ va_S A s.heap H locs ∧ lv_has ls 8 [(0, .ref (τ.1 30)), (1, .int (nI p)), (2, .int (nI sN)), (3, .int (nI la)), (4, .int y4), (5, .int (nI rs)), (6, .int (nI kk))]) x9.1 x9.2) (0, (-1)) (p - 0) (show p - 0 = p - 0 ∧ (0 ≤ p) ∧ zH D A τ f2 fr ol s _ ∧ va_S A s.heap _ _ ∧ lv_has _ 8 [(0, .ref (τ.1 30)), (1, .int (nI p)), (2, .int (nI sN)), (3, .int (nI la)), (4, .int ((-1))), (5, .int (nI rs)), (6, .int (nI 0))] from ⟨rfl, Nat.zero_le _, hH, hS, lv_sub hl [3, 4, 5, 6, 2, 1, 0] rfl⟩) (fun k9 ih x9 H locs ls hv9 => ?_)
            obtain ⟨kk, y4⟩ := x9
            have hv9 : k9 = p - kk ∧ (kk ≤ p) ∧ zH D A τ f2 fr ol s H ∧ va_S A s.heap H locs ∧ lv_has ls 8 [(0, .ref (τ.1 30)), (1, .int (nI p)), (2, .int (nI sN)), (3, .int (nI la)), (4, .int y4), (5, .int (nI rs)), (6, .int (nI kk))] := hv9
            obtain ⟨hkih130, hv9, hH, hS, hl⟩ := hv9
            obtain h5 := hv9
            have ih130 := ih
            clear ih
            refine lv_iload hx hb dX12_walk_75 (lv_at hl 6 rfl) ?_
            refine lv_iload_n hx hb dX12_walk_77 rfl (lv_at hl 1 rfl) ?_
            refine lv_icmp_ge (tgt := 140) hx hb dX12_walk_78 (by decide) (fun c131 => ?_) (fun c131 => ?_)
            · have zc131 := c131
              replace zc131 := zc_le (nI_toInt (by omega)) (nI_toInt (by omega)) zc131
              refine lv_aload_n hx hb dX12_walk_140 rfl (lv_at hl 0 rfl) ?_
              refine zGetR (D := D) (ci := 12) (C := RX12) (T := TX12) (N := 71) hx hb hts hiX12 hown hH (zk_30 hF) rfl 70 (by decide) rfl hw3 (fun _ h9 => h9) dX12_walk_141 (zr_30_70 hF) ?_
              refine lv_bipush (v := nI 10) hx hb dX12_walk_144 (by decide) ?_
              refine lv_iload_n hx hb dX12_walk_146 rfl (lv_at hl 2 rfl) ?_
              refine lv_imul hx hb dX12_walk_147 ?_
              refine lv_topi (fun v132 ev132 => ?_)
              obtain rfl : v132 = nI (10 * sN) := ev132.trans (pk_mul _ _)
              refine lv_iload_n hx hb dX12_walk_148 rfl (lv_at hl 3 rfl) ?_
              refine lv_iadd hx hb dX12_walk_149 ?_
              refine lv_topi (fun v133 ev133 => ?_)
              obtain rfl : v133 = nI (10 * sN + la) := ev133.trans (nI_add _ _)
              refine lv_iload hx hb dX12_walk_150 (lv_at hl 4 rfl) ?_
              refine zIastN (D := D) hx hb hH hS (zk_72 hF) (zn_72 hF) (by omega) (by omega) dX12_walk_152 (fun H locs hH hS => ?_)
              obtain ⟨f134, ef134⟩ : ∃ f9 : zFi, f9 = zu f2 72 (10 * sN + la) y4 := ⟨_, rfl⟩
              rw [← ef134] at hH
              have q135 : f134 72 (10 * sN + la) = y4 := by rw [ef134]; exact zu_s
              refine lv_iinc (v := nI (la + 1)) (lv' := [(3, .int (nI (la + 1))), (0, .ref (τ.1 30)), (1, .int (nI p)), (2, .int (nI sN)), (4, .int y4), (5, .int (nI rs)), (6, .int (nI kk))]) hx hb dX12_walk_153 hl (k := 3) rfl (by rw [show (Int32.ofInt 1 : Int32) = nI 1 from by decide, nI_add]) (by decide) rfl (fun ls hl => ?_)
              refine lv_goto (tgt := 32) hx hb dX12_walk_156 (by decide) ?_
              exact ih121 (p - (la + 1)) (by omega) (la + 1, f134) _ _ _ (show p - (la + 1) = p - (la + 1) ∧ ((la + 1) ≤ p ∧ f134 30 68 = nI 0 ∧ ∀ a b, ¬ (a = 72 ∨ (a = 30 ∧ (b = 0 ∨ b = 68))) → f134 a b = fi a b) ∧ zH D A τ f134 fr ol s _ ∧ va_S A s.heap _ _ ∧ lv_has _ 8 [(0, .ref (τ.1 30)), (1, .int (nI p)), (2, .int (nI sN)), (3, .int (nI (la + 1)))] from ⟨rfl, ⟨by omega, by rw [ef134, zu_n (by omega)]; exact p682, fun a b h => by rw [ef134, zu_n (by omega)]; exact hfr2 a b h⟩, hH, hS, lv_sub hl [1, 2, 3, 0] rfl⟩)
            · have zc131 := c131
              replace zc131 := zc_nle (nI_toInt (by omega)) (nI_toInt (by omega)) zc131
              refine lv_iload hx hb dX12_walk_81 (lv_at hl 5 rfl) ?_
              refine lv_iload hx hb dX12_walk_83 (lv_at hl 6 rfl) ?_
              refine lv_ishr hx hb dX12_walk_85 ?_
              refine lv_topi (fun v136 ev136 => ?_)
              refine lv_iconst (v := nI 1) hx hb dX12_walk_86 (by decide) ?_
              refine lv_iand hx hb dX12_walk_87 ?_
              refine lv_topi (fun v137 ev137 => ?_)
              refine lv_if_ne (tgt := 94) hx hb dX12_walk_88 (by decide) (fun c138 => ?_) (fun c138 => ?_)
              · have zc138 := c138
                replace zc138 := zc_neq (rfl) ((by decide : (0 : Int32).toInt = 0)) zc138
                refine lv_aload_n hx hb dX12_walk_94 rfl (lv_at hl 0 rfl) ?_
                refine zGetR (D := D) (ci := 12) (C := RX12) (T := TX12) (N := 71) hx hb hts hiX12 hown hH (zk_30 hF) rfl 70 (by decide) rfl hw3 (fun _ h9 => h9) dX12_walk_95 (zr_30_70 hF) ?_
                refine lv_bipush (v := nI 10) hx hb dX12_walk_98 (by decide) ?_
                refine lv_iload hx hb dX12_walk_100 (lv_at hl 5 rfl) ?_
                refine lv_imul hx hb dX12_walk_102 ?_
                refine lv_topi (fun v139 ev139 => ?_)
                obtain rfl : v139 = nI (10 * rs) := ev139.trans (pk_mul _ _)
                refine lv_iload hx hb dX12_walk_103 (lv_at hl 6 rfl) ?_
                refine lv_iadd hx hb dX12_walk_105 ?_
                refine lv_topi (fun v140 ev140 => ?_)
                obtain rfl : v140 = nI (10 * rs + kk) := ev140.trans (nI_add _ _)
                refine zIaldN (D := D) hx hb hH (zk_72 hF) (zn_72 hF) (by omega) (by omega) rfl dX12_walk_106 ?_
                refine lv_aload_n hx hb dX12_walk_107 rfl (lv_at hl 0 rfl) ?_
                refine lv_iload hx hb dX12_walk_108 (lv_at hl 6 rfl) ?_
                refine lv_iload_n hx hb dX12_walk_110 rfl (lv_at hl 3 rfl) ?_
                refine va_calli (va_runV (As := [.int (nI kk), .int (nI la)]) (rest := [.int (f2 72 (10 * rs + kk))]) ⟨hx, hb, hml, hown, hts⟩ (m_between l hl0 D A sad τ f2 fr ol hF p hp10 n hm30 ((fun j h9 => by rw [hfr2 _ _ (by omega)]; exact hMp.2.2 j h9)) kk la (by omega) (by omega)) (cwV 2 hts gX12_walk_X12_between rfl rfl rfl (by decide +kernel) ⟨Nat.le_of_ble_eq_true rfl, Nat.le_of_ble_eq_true rfl⟩) ⟨zQc_bl, zRecv hH (zk_30 hF) rfl, zQc_at hz hS hA hH⟩ rfl rfl hl.1 rfl (lv_room (Nat.le_of_ble_eq_true rfl)) dX12_walk_111 ⟨Nat.le_of_ble_eq_true rfl, Nat.le_of_ble_eq_true rfl⟩) hS (fun q _ h => h) (fun q h => h) (fun r141 u9 t9 H1 locs ht9 hvm9 hw hB hz1 hk1 hS => ?_)
                have hH := zMv ht9 hvm9 hB
                generalize H1 = H at hH hS ⊢
                clear hw
                refine lv_iadd hx hb dX12_walk_114 ?_
                refine lv_topi (fun v142 ev142 => ?_)
                refine lv_istore (lv' := [(7, .int v142), (0, .ref (τ.1 30)), (1, .int (nI p)), (2, .int (nI sN)), (3, .int (nI la)), (4, .int y4), (5, .int (nI rs)), (6, .int (nI kk))]) hx hb dX12_walk_115 hl (by decide) rfl (fun ls hl => ?_)
                refine lv_iload hx hb dX12_walk_117 (lv_at hl 5 rfl) ?_
                refine lv_iconst (v := (-1)) hx hb dX12_walk_119 (by decide) ?_
                refine lv_icmp_eq (tgt := 130) hx hb dX12_walk_120 (by decide) (fun c143 => ?_) (fun c143 => ?_)
                · have zc143 := c143
                  replace zc143 := zc_eq (rfl) ((by decide : ((-1) : Int32).toInt = (-1))) zc143
                  refine lv_iload hx hb dX12_walk_130 (lv_at hl 0 rfl) ?_
                  refine lv_istore (lv' := [(4, .int v142), (7, .int v142), (0, .ref (τ.1 30)), (1, .int (nI p)), (2, .int (nI sN)), (3, .int (nI la)), (5, .int (nI rs)), (6, .int (nI kk))]) hx hb dX12_walk_132 hl (by decide) rfl (fun ls hl => ?_)
                  refine lv_iinc (v := nI (kk + 1)) (lv' := [(6, .int (nI (kk + 1))), (4, .int v142), (7, .int v142), (0, .ref (τ.1 30)), (1, .int (nI p)), (2, .int (nI sN)), (3, .int (nI la)), (5, .int (nI rs))]) hx hb dX12_walk_134 hl (k := 7) rfl (by rw [show (Int32.ofInt 1 : Int32) = nI 1 from by decide, nI_add]) (by decide) rfl (fun ls hl => ?_)
                  refine lv_goto (tgt := 75) hx hb dX12_walk_137 (by decide) ?_
                  exact ih130 (p - (kk + 1)) (by omega) (kk + 1, _) _ _ _ (show p - (kk + 1) = p - (kk + 1) ∧ ((kk + 1) ≤ p) ∧ zH D A τ f2 fr ol s _ ∧ va_S A s.heap _ _ ∧ lv_has _ 8 [(0, .ref (τ.1 30)), (1, .int (nI p)), (2, .int (nI sN)), (3, .int (nI la)), (4, .int _), (5, .int (nI rs)), (6, .int (nI (kk + 1)))] from ⟨rfl, (by omega), hH, hS, lv_sub hl [3, 4, 5, 6, 1, 7, 0] rfl⟩)
                · have zc143 := c143
                  replace zc143 := zc_neq (rfl) ((by decide : ((-1) : Int32).toInt = (-1))) zc143
                  refine lv_iload hx hb dX12_walk_123 (lv_at hl 0 rfl) ?_
                  refine lv_iload hx hb dX12_walk_125 (lv_at hl 5 rfl) ?_
                  refine lv_icmp_ge (tgt := 134) hx hb dX12_walk_127 (by decide) (fun c144 => ?_) (fun c144 => ?_)
                  · have zc144 := c144
                    replace zc144 := zc_le (rfl) (rfl) zc144
                    refine lv_iinc (v := nI (kk + 1)) (lv' := [(6, .int (nI (kk + 1))), (7, .int v142), (0, .ref (τ.1 30)), (1, .int (nI p)), (2, .int (nI sN)), (3, .int (nI la)), (4, .int y4), (5, .int (nI rs))]) hx hb dX12_walk_134 hl (k := 7) rfl (by rw [show (Int32.ofInt 1 : Int32) = nI 1 from by decide, nI_add]) (by decide) rfl (fun ls hl => ?_)
                    refine lv_goto (tgt := 75) hx hb dX12_walk_137 (by decide) ?_
                    exact ih130 (p - (kk + 1)) (by omega) (kk + 1, _) _ _ _ (show p - (kk + 1) = p - (kk + 1) ∧ ((kk + 1) ≤ p) ∧ zH D A τ f2 fr ol s _ ∧ va_S A s.heap _ _ ∧ lv_has _ 8 [(0, .ref (τ.1 30)), (1, .int (nI p)), (2, .int (nI sN)), (3, .int (nI la)), (4, .int _), (5, .int (nI rs)), (6, .int (nI (kk + 1)))] from ⟨rfl, (by omega), hH, hS, lv_sub hl [2, 3, 4, 5, 6, 7, 0] rfl⟩)
                  · have zc144 := c144
                    replace zc144 := zc_nle (rfl) (rfl) zc144
                    refine lv_iload hx hb dX12_walk_130 (lv_at hl 0 rfl) ?_
                    refine lv_istore (lv' := [(4, .int v142), (7, .int v142), (0, .ref (τ.1 30)), (1, .int (nI p)), (2, .int (nI sN)), (3, .int (nI la)), (5, .int (nI rs)), (6, .int (nI kk))]) hx hb dX12_walk_132 hl (by decide) rfl (fun ls hl => ?_)
                    refine lv_iinc (v := nI (kk + 1)) (lv' := [(6, .int (nI (kk + 1))), (4, .int v142), (7, .int v142), (0, .ref (τ.1 30)), (1, .int (nI p)), (2, .int (nI sN)), (3, .int (nI la)), (5, .int (nI rs))]) hx hb dX12_walk_134 hl (k := 7) rfl (by rw [show (Int32.ofInt 1 : Int32) = nI 1 from by decide, nI_add]) (by decide) rfl (fun ls hl => ?_)
                    refine lv_goto (tgt := 75) hx hb dX12_walk_137 (by decide) ?_
                    exact ih130 (p - (kk + 1)) (by omega) (kk + 1, _) _ _ _ (show p - (kk + 1) = p - (kk + 1) ∧ ((kk + 1) ≤ p) ∧ zH D A τ f2 fr ol s _ ∧ va_S A s.heap _ _ ∧ lv_has _ 8 [(0, .ref (τ.1 30)), (1, .int (nI p)), (2, .int (nI sN)), (3, .int (nI la)), (4, .int _), (5, .int (nI rs)), (6, .int (nI (kk + 1)))] from ⟨rfl, (by omega), hH, hS, lv_sub hl [3, 4, 5, 6, 1, 7, 0] rfl⟩)
              · have zc138 := c138
                replace zc138 := zc_eq (rfl) ((by decide : (0 : Int32).toInt = 0)) zc138
                refine lv_goto (tgt := 134) hx hb dX12_walk_91 (by decide) ?_
                refine lv_iinc (v := nI (kk + 1)) (lv' := [(6, .int (nI (kk + 1))), (0, .ref (τ.1 30)), (1, .int (nI p)), (2, .int (nI sN)), (3, .int (nI la)), (4, .int y4), (5, .int (nI rs))]) hx hb dX12_walk_134 hl (k := 6) rfl (by rw [show (Int32.ofInt 1 : Int32) = nI 1 from by decide, nI_add]) (by decide) rfl (fun ls hl => ?_)
                refine lv_goto (tgt := 75) hx hb dX12_walk_137 (by decide) ?_
                exact ih130 (p - (kk + 1)) (by omega) (kk + 1, _) _ _ _ (show p - (kk + 1) = p - (kk + 1) ∧ ((kk + 1) ≤ p) ∧ zH D A τ f2 fr ol s _ ∧ va_S A s.heap _ _ ∧ lv_has _ 8 [(0, .ref (τ.1 30)), (1, .int (nI p)), (2, .int (nI sN)), (3, .int (nI la)), (4, .int _), (5, .int (nI rs)), (6, .int (nI (kk + 1)))] from ⟨rfl, (by omega), hH, hS, lv_sub hl [1, 2, 3, 4, 5, 6, 0] rfl⟩)
          · have zc129 := c129
            replace zc129 := zc_eq (nI_toInt (by omega)) ((by decide : (0 : Int32).toInt = 0)) zc129
            refine lv_aload_n hx hb dX12_walk_65 rfl (lv_at hl 2 rfl) ?_
            refine lv_iload_n hx hb dX12_walk_66 rfl (lv_at hl 5 rfl) ?_
            refine va_calli (va_runV (As := [.int (nI la)]) (rest := []) ⟨hx, hb, hml, hown, hts⟩ (m_home l hl0 D A sad τ f2 fr ol hF p hp10 n hm30 ((fun j h9 => by rw [hfr2 _ _ (by omega)]; exact hMp.2.2 j h9)) la (by omega)) (cwV 1 hts gX12_walk_X12_home rfl rfl rfl (by decide +kernel) ⟨Nat.le_of_ble_eq_true rfl, Nat.le_of_ble_eq_true rfl⟩) ⟨zQc_bl, zRecv hH (zk_30 hF) rfl, zQc_at hz hS hA hH⟩ rfl rfl hl.1 rfl (lv_room (Nat.le_of_ble_eq_true rfl)) dX12_walk_67 ⟨Nat.le_of_ble_eq_true rfl, Nat.le_of_ble_eq_true rfl⟩) hS (fun q _ h => h) (fun q h => h) (fun r145 u9 t9 H1 locs ht9 hvm9 hw hB hz1 hk1 hS => ?_)
            have hH := zMv ht9 hvm9 hB
            generalize H1 = H at hH hS ⊢
            clear hw
            refine lv_istore (lv' := [(4, .int r145), (5, .int (nI rs)), (0, .ref (τ.1 30)), (1, .int (nI p)), (2, .int (nI sN)), (3, .int (nI la))]) hx hb dX12_walk_70 hl (by decide) rfl (fun ls hl => ?_)
            refine lv_iconst (v := nI 0) hx hb dX12_walk_72 (by decide) ?_
            refine lv_istore (lv' := [(6, .int (nI 0)), (4, .int r145), (5, .int (nI rs)), (0, .ref (τ.1 30)), (1, .int (nI p)), (2, .int (nI sN)), (3, .int (nI la))]) hx hb dX12_walk_73 hl (by decide) rfl (fun ls hl => ?_)
            refine zLp (σ := Nat × Int32) (fun x9 k9 H locs ls => (fun (kk : Nat) (y4 : Int32) => k9 = p - kk ∧ (kk ≤ p) ∧ zH D A τ f2 fr ol s H ∧ va_S A s.heap H locs ∧ lv_has ls 8 [(0, .ref (τ.1 30)), (1, .int (nI p)), (2, .int (nI sN)), (3, .int (nI la)), (4, .int y4), (5, .int (nI rs)), (6, .int (nI kk))]) x9.1 x9.2) (0, r145) (p - 0) (show p - 0 = p - 0 ∧ (0 ≤ p) ∧ zH D A τ f2 fr ol s _ ∧ va_S A s.heap _ _ ∧ lv_has _ 8 [(0, .ref (τ.1 30)), (1, .int (nI p)), (2, .int (nI sN)), (3, .int (nI la)), (4, .int r145), (5, .int (nI rs)), (6, .int (nI 0))] from ⟨rfl, Nat.zero_le _, hH, hS, lv_sub hl [3, 4, 5, 6, 1, 2, 0] rfl⟩) (fun k9 ih x9 H locs ls hv9 => ?_)
            obtain ⟨kk, y4⟩ := x9
            have hv9 : k9 = p - kk ∧ (kk ≤ p) ∧ zH D A τ f2 fr ol s H ∧ va_S A s.heap H locs ∧ lv_has ls 8 [(0, .ref (τ.1 30)), (1, .int (nI p)), (2, .int (nI sN)), (3, .int (nI la)), (4, .int y4), (5, .int (nI rs)), (6, .int (nI kk))] := hv9
            obtain ⟨hkih146, hv9, hH, hS, hl⟩ := hv9
            obtain h5 := hv9
            have ih146 := ih
            clear ih
            refine lv_iload hx hb dX12_walk_75 (lv_at hl 6 rfl) ?_
            refine lv_iload_n hx hb dX12_walk_77 rfl (lv_at hl 1 rfl) ?_
            refine lv_icmp_ge (tgt := 140) hx hb dX12_walk_78 (by decide) (fun c147 => ?_) (fun c147 => ?_)
            · have zc147 := c147
              replace zc147 := zc_le (nI_toInt (by omega)) (nI_toInt (by omega)) zc147
              refine lv_aload_n hx hb dX12_walk_140 rfl (lv_at hl 0 rfl) ?_
              refine zGetR (D := D) (ci := 12) (C := RX12) (T := TX12) (N := 71) hx hb hts hiX12 hown hH (zk_30 hF) rfl 70 (by decide) rfl hw3 (fun _ h9 => h9) dX12_walk_141 (zr_30_70 hF) ?_
              refine lv_bipush (v := nI 10) hx hb dX12_walk_144 (by decide) ?_
              refine lv_iload_n hx hb dX12_walk_146 rfl (lv_at hl 2 rfl) ?_
              refine lv_imul hx hb dX12_walk_147 ?_
              refine lv_topi (fun v148 ev148 => ?_)
              obtain rfl : v148 = nI (10 * sN) := ev148.trans (pk_mul _ _)
              refine lv_iload_n hx hb dX12_walk_148 rfl (lv_at hl 3 rfl) ?_
              refine lv_iadd hx hb dX12_walk_149 ?_
              refine lv_topi (fun v149 ev149 => ?_)
              obtain rfl : v149 = nI (10 * sN + la) := ev149.trans (nI_add _ _)
              refine lv_iload hx hb dX12_walk_150 (lv_at hl 4 rfl) ?_
              refine zIastN (D := D) hx hb hH hS (zk_72 hF) (zn_72 hF) (by omega) (by omega) dX12_walk_152 (fun H locs hH hS => ?_)
              obtain ⟨f150, ef150⟩ : ∃ f9 : zFi, f9 = zu f2 72 (10 * sN + la) y4 := ⟨_, rfl⟩
              rw [← ef150] at hH
              have q151 : f150 72 (10 * sN + la) = y4 := by rw [ef150]; exact zu_s
              refine lv_iinc (v := nI (la + 1)) (lv' := [(3, .int (nI (la + 1))), (0, .ref (τ.1 30)), (1, .int (nI p)), (2, .int (nI sN)), (4, .int y4), (5, .int (nI rs)), (6, .int (nI kk))]) hx hb dX12_walk_153 hl (k := 3) rfl (by rw [show (Int32.ofInt 1 : Int32) = nI 1 from by decide, nI_add]) (by decide) rfl (fun ls hl => ?_)
              refine lv_goto (tgt := 32) hx hb dX12_walk_156 (by decide) ?_
              exact ih121 (p - (la + 1)) (by omega) (la + 1, f150) _ _ _ (show p - (la + 1) = p - (la + 1) ∧ ((la + 1) ≤ p ∧ f150 30 68 = nI 0 ∧ ∀ a b, ¬ (a = 72 ∨ (a = 30 ∧ (b = 0 ∨ b = 68))) → f150 a b = fi a b) ∧ zH D A τ f150 fr ol s _ ∧ va_S A s.heap _ _ ∧ lv_has _ 8 [(0, .ref (τ.1 30)), (1, .int (nI p)), (2, .int (nI sN)), (3, .int (nI (la + 1)))] from ⟨rfl, ⟨by omega, by rw [ef150, zu_n (by omega)]; exact p682, fun a b h => by rw [ef150, zu_n (by omega)]; exact hfr2 a b h⟩, hH, hS, lv_sub hl [1, 2, 3, 0] rfl⟩)
            · have zc147 := c147
              replace zc147 := zc_nle (nI_toInt (by omega)) (nI_toInt (by omega)) zc147
              refine lv_iload hx hb dX12_walk_81 (lv_at hl 5 rfl) ?_
              refine lv_iload hx hb dX12_walk_83 (lv_at hl 6 rfl) ?_
              refine lv_ishr hx hb dX12_walk_85 ?_
              refine lv_topi (fun v152 ev152 => ?_)
              refine lv_iconst (v := nI 1) hx hb dX12_walk_86 (by decide) ?_
              refine lv_iand hx hb dX12_walk_87 ?_
              refine lv_topi (fun v153 ev153 => ?_)
              refine lv_if_ne (tgt := 94) hx hb dX12_walk_88 (by decide) (fun c154 => ?_) (fun c154 => ?_)
              · have zc154 := c154
                replace zc154 := zc_neq (rfl) ((by decide : (0 : Int32).toInt = 0)) zc154
                refine lv_aload_n hx hb dX12_walk_94 rfl (lv_at hl 0 rfl) ?_
                refine zGetR (D := D) (ci := 12) (C := RX12) (T := TX12) (N := 71) hx hb hts hiX12 hown hH (zk_30 hF) rfl 70 (by decide) rfl hw3 (fun _ h9 => h9) dX12_walk_95 (zr_30_70 hF) ?_
                refine lv_bipush (v := nI 10) hx hb dX12_walk_98 (by decide) ?_
                refine lv_iload hx hb dX12_walk_100 (lv_at hl 5 rfl) ?_
                refine lv_imul hx hb dX12_walk_102 ?_
                refine lv_topi (fun v155 ev155 => ?_)
                obtain rfl : v155 = nI (10 * rs) := ev155.trans (pk_mul _ _)
                refine lv_iload hx hb dX12_walk_103 (lv_at hl 6 rfl) ?_
                refine lv_iadd hx hb dX12_walk_105 ?_
                refine lv_topi (fun v156 ev156 => ?_)
                obtain rfl : v156 = nI (10 * rs + kk) := ev156.trans (nI_add _ _)
                refine zIaldN (D := D) hx hb hH (zk_72 hF) (zn_72 hF) (by omega) (by omega) rfl dX12_walk_106 ?_
                refine lv_aload_n hx hb dX12_walk_107 rfl (lv_at hl 0 rfl) ?_
                refine lv_iload hx hb dX12_walk_108 (lv_at hl 6 rfl) ?_
                refine lv_iload_n hx hb dX12_walk_110 rfl (lv_at hl 3 rfl) ?_
                refine va_calli (va_runV (As := [.int (nI kk), .int (nI la)]) (rest := [.int (f2 72 (10 * rs + kk))]) ⟨hx, hb, hml, hown, hts⟩ (m_between l hl0 D A sad τ f2 fr ol hF p hp10 n hm30 ((fun j h9 => by rw [hfr2 _ _ (by omega)]; exact hMp.2.2 j h9)) kk la (by omega) (by omega)) (cwV 2 hts gX12_walk_X12_between rfl rfl rfl (by decide +kernel) ⟨Nat.le_of_ble_eq_true rfl, Nat.le_of_ble_eq_true rfl⟩) ⟨zQc_bl, zRecv hH (zk_30 hF) rfl, zQc_at hz hS hA hH⟩ rfl rfl hl.1 rfl (lv_room (Nat.le_of_ble_eq_true rfl)) dX12_walk_111 ⟨Nat.le_of_ble_eq_true rfl, Nat.le_of_ble_eq_true rfl⟩) hS (fun q _ h => h) (fun q h => h) (fun r157 u9 t9 H1 locs ht9 hvm9 hw hB hz1 hk1 hS => ?_)
                have hH := zMv ht9 hvm9 hB
                generalize H1 = H at hH hS ⊢
                clear hw
                refine lv_iadd hx hb dX12_walk_114 ?_
                refine lv_topi (fun v158 ev158 => ?_)
                refine lv_istore (lv' := [(7, .int v158), (0, .ref (τ.1 30)), (1, .int (nI p)), (2, .int (nI sN)), (3, .int (nI la)), (4, .int y4), (5, .int (nI rs)), (6, .int (nI kk))]) hx hb dX12_walk_115 hl (by decide) rfl (fun ls hl => ?_)
                refine lv_iload hx hb dX12_walk_117 (lv_at hl 5 rfl) ?_
                refine lv_iconst (v := (-1)) hx hb dX12_walk_119 (by decide) ?_
                refine lv_icmp_eq (tgt := 130) hx hb dX12_walk_120 (by decide) (fun c159 => ?_) (fun c159 => ?_)
                · have zc159 := c159
                  replace zc159 := zc_eq (rfl) ((by decide : ((-1) : Int32).toInt = (-1))) zc159
                  refine lv_iload hx hb dX12_walk_130 (lv_at hl 0 rfl) ?_
                  refine lv_istore (lv' := [(4, .int v158), (7, .int v158), (0, .ref (τ.1 30)), (1, .int (nI p)), (2, .int (nI sN)), (3, .int (nI la)), (5, .int (nI rs)), (6, .int (nI kk))]) hx hb dX12_walk_132 hl (by decide) rfl (fun ls hl => ?_)
                  refine lv_iinc (v := nI (kk + 1)) (lv' := [(6, .int (nI (kk + 1))), (4, .int v158), (7, .int v158), (0, .ref (τ.1 30)), (1, .int (nI p)), (2, .int (nI sN)), (3, .int (nI la)), (5, .int (nI rs))]) hx hb dX12_walk_134 hl (k := 7) rfl (by rw [show (Int32.ofInt 1 : Int32) = nI 1 from by decide, nI_add]) (by decide) rfl (fun ls hl => ?_)
                  refine lv_goto (tgt := 75) hx hb dX12_walk_137 (by decide) ?_
                  exact ih146 (p - (kk + 1)) (by omega) (kk + 1, _) _ _ _ (show p - (kk + 1) = p - (kk + 1) ∧ ((kk + 1) ≤ p) ∧ zH D A τ f2 fr ol s _ ∧ va_S A s.heap _ _ ∧ lv_has _ 8 [(0, .ref (τ.1 30)), (1, .int (nI p)), (2, .int (nI sN)), (3, .int (nI la)), (4, .int _), (5, .int (nI rs)), (6, .int (nI (kk + 1)))] from ⟨rfl, (by omega), hH, hS, lv_sub hl [3, 4, 5, 6, 1, 7, 0] rfl⟩)
                · have zc159 := c159
                  replace zc159 := zc_neq (rfl) ((by decide : ((-1) : Int32).toInt = (-1))) zc159
                  refine lv_iload hx hb dX12_walk_123 (lv_at hl 0 rfl) ?_
                  refine lv_iload hx hb dX12_walk_125 (lv_at hl 5 rfl) ?_
                  refine lv_icmp_ge (tgt := 134) hx hb dX12_walk_127 (by decide) (fun c160 => ?_) (fun c160 => ?_)
                  · have zc160 := c160
                    replace zc160 := zc_le (rfl) (rfl) zc160
                    refine lv_iinc (v := nI (kk + 1)) (lv' := [(6, .int (nI (kk + 1))), (7, .int v158), (0, .ref (τ.1 30)), (1, .int (nI p)), (2, .int (nI sN)), (3, .int (nI la)), (4, .int y4), (5, .int (nI rs))]) hx hb dX12_walk_134 hl (k := 7) rfl (by rw [show (Int32.ofInt 1 : Int32) = nI 1 from by decide, nI_add]) (by decide) rfl (fun ls hl => ?_)
                    refine lv_goto (tgt := 75) hx hb dX12_walk_137 (by decide) ?_
                    exact ih146 (p - (kk + 1)) (by omega) (kk + 1, _) _ _ _ (show p - (kk + 1) = p - (kk + 1) ∧ ((kk + 1) ≤ p) ∧ zH D A τ f2 fr ol s _ ∧ va_S A s.heap _ _ ∧ lv_has _ 8 [(0, .ref (τ.1 30)), (1, .int (nI p)), (2, .int (nI sN)), (3, .int (nI la)), (4, .int _), (5, .int (nI rs)), (6, .int (nI (kk + 1)))] from ⟨rfl, (by omega), hH, hS, lv_sub hl [2, 3, 4, 5, 6, 7, 0] rfl⟩)
                  · have zc160 := c160
                    replace zc160 := zc_nle (rfl) (rfl) zc160
                    refine lv_iload hx hb dX12_walk_130 (lv_at hl 0 rfl) ?_
                    refine lv_istore (lv' := [(4, .int v158), (7, .int v158), (0, .ref (τ.1 30)), (1, .int (nI p)), (2, .int (nI sN)), (3, .int (nI la)), (5, .int (nI rs)), (6, .int (nI kk))]) hx hb dX12_walk_132 hl (by decide) rfl (fun ls hl => ?_)
                    refine lv_iinc (v := nI (kk + 1)) (lv' := [(6, .int (nI (kk + 1))), (4, .int v158), (7, .int v158), (0, .ref (τ.1 30)), (1, .int (nI p)), (2, .int (nI sN)), (3, .int (nI la)), (5, .int (nI rs))]) hx hb dX12_walk_134 hl (k := 7) rfl (by rw [show (Int32.ofInt 1 : Int32) = nI 1 from by decide, nI_add]) (by decide) rfl (fun ls hl => ?_)
                    refine lv_goto (tgt := 75) hx hb dX12_walk_137 (by decide) ?_
                    exact ih146 (p - (kk + 1)) (by omega) (kk + 1, _) _ _ _ (show p - (kk + 1) = p - (kk + 1) ∧ ((kk + 1) ≤ p) ∧ zH D A τ f2 fr ol s _ ∧ va_S A s.heap _ _ ∧ lv_has _ 8 [(0, .ref (τ.1 30)), (1, .int (nI p)), (2, .int (nI sN)), (3, .int (nI la)), (4, .int _), (5, .int (nI rs)), (6, .int (nI (kk + 1)))] from ⟨rfl, (by omega), hH, hS, lv_sub hl [3, 4, 5, 6, 1, 7, 0] rfl⟩)
              · have zc154 := c154
                replace zc154 := zc_eq (rfl) ((by decide : (0 : Int32).toInt = 0)) zc154
                refine lv_goto (tgt := 134) hx hb dX12_walk_91 (by decide) ?_
                refine lv_iinc (v := nI (kk + 1)) (lv' := [(6, .int (nI (kk + 1))), (0, .ref (τ.1 30)), (1, .int (nI p)), (2, .int (nI sN)), (3, .int (nI la)), (4, .int y4), (5, .int (nI rs))]) hx hb dX12_walk_134 hl (k := 6) rfl (by rw [show (Int32.ofInt 1 : Int32) = nI 1 from by decide, nI_add]) (by decide) rfl (fun ls hl => ?_)
                refine lv_goto (tgt := 75) hx hb dX12_walk_137 (by decide) ?_
                exact ih146 (p - (kk + 1)) (by omega) (kk + 1, _) _ _ _ (show p - (kk + 1) = p - (kk + 1) ∧ ((kk + 1) ≤ p) ∧ zH D A τ f2 fr ol s _ ∧ va_S A s.heap _ _ ∧ lv_has _ 8 [(0, .ref (τ.1 30)), (1, .int (nI p)), (2, .int (nI sN)), (3, .int (nI la)), (4, .int _), (5, .int (nI rs)), (6, .int (nI (kk + 1)))] from ⟨rfl, (by omega), hH, hS, lv_sub hl [1, 2, 3, 4, 5, 6, 0] rfl⟩)
        · have zc128 := c128
          replace zc128 := zc_eq (rfl) ((by decide : (0 : Int32).toInt = 0)) zc128
          refine lv_goto (tgt := 153) hx hb dX12_walk_57 (by decide) ?_
          refine lv_iinc (v := nI (la + 1)) (lv' := [(3, .int (nI (la + 1))), (5, .int (nI rs)), (4, .int ((-1))), (0, .ref (τ.1 30)), (1, .int (nI p)), (2, .int (nI sN))]) hx hb dX12_walk_153 hl (k := 5) rfl (by rw [show (Int32.ofInt 1 : Int32) = nI 1 from by decide, nI_add]) (by decide) rfl (fun ls hl => ?_)
          refine lv_goto (tgt := 32) hx hb dX12_walk_156 (by decide) ?_
          exact ih121 (p - (la + 1)) (by omega) (la + 1, f2) _ _ _ (show p - (la + 1) = p - (la + 1) ∧ ((la + 1) ≤ p ∧ f2 30 68 = nI 0 ∧ ∀ a b, ¬ (a = 72 ∨ (a = 30 ∧ (b = 0 ∨ b = 68))) → f2 a b = fi a b) ∧ zH D A τ f2 fr ol s _ ∧ va_S A s.heap _ _ ∧ lv_has _ 8 [(0, .ref (τ.1 30)), (1, .int (nI p)), (2, .int (nI sN)), (3, .int (nI (la + 1)))] from ⟨rfl, ⟨by omega, p682, fun a b h => hfr2 a b h⟩, hH, hS, lv_sub hl [3, 4, 5, 0] rfl⟩)
  · have zc107 := c107
    replace zc107 := zc_eq (nI_toInt (by omega)) ((by decide : (0 : Int32).toInt = 0)) zc107
    refine lv_iconst (v := nI 0) hx hb dX12_walk_19 (by decide) ?_
    refine W.widen (k := 0) (n := 0) (by decide) (by decide) ?_
    exact W.iret (v := nI 0) hx hb hr (fun t9 ht9 hW9 => ⟨⟨nI 0, f104, rfl, ⟨q106, fun a b h => by rw [ef104, zu_n (by omega), ef101, zu_n (by omega)]⟩, zEnd1 hH ht9 hW9⟩, hS.F ht9⟩) hS.2.2 dX12_walk_20
