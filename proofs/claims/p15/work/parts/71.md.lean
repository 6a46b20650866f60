theorem zMq.add {τ : zTy} {fi fi' : zFi} {fr : zFr} {g Ln d l0 : Nat} (h : zMq τ fi fr g Ln d) (hd : d < Ln) (hl : l0 ≤ 8) (e35 : fi' 30 35 = nI (d + 1)) (e2 : fi' (202 + 10 * g) d = nI l0) (e2o : ∀ k, k < d → fi' (202 + 10 * g) k = fi (202 + 10 * g) k) (e7 : ∀ k, k < l0 → 1 ≤ (fi' (207 + 10 * g) (8 * d + k)).toInt ∧ (fi' (207 + 10 * g) (8 * d + k)).toInt ≤ 99) (e7o : ∀ b, b < 8 * d → fi' (207 + 10 * g) b = fi (207 + 10 * g) b) : zMq τ fi' fr g Ln (d + 1) := by
  obtain ⟨h1, h2, h3, h4, h5, h6, h7⟩ := h
  refine ⟨h1, by omega, e35, h4, h5, fun k hk => ?_, h7⟩
  by_cases hkd : k = d
  · subst hkd; exact ⟨l0, hl, e2, e7⟩
  · obtain ⟨c, a1, a2, a3⟩ := h6 k (by omega)
    exact ⟨c, a1, by rw [e2o k (by omega)]; exact a2, fun j hj => by rw [e7o _ (by omega)]; exact a3 j hj⟩
set_option maxHeartbeats 4000000 in
set_option maxRecDepth 100000 in
/-- letter -/
theorem m_letter (l : Launch) (hl0 : l.stackTraces = false) (D : va_G) (A : Nat → Prop) (sad : Nat → Nat) (τ : zTy) (fi : zFi) (fr : zFr) (ol : Int64) (L : Nat) (hF : zFix τ fr) (hn : fi 30 21 = nI L) (hL4 : L ≤ 400) (n : Nat) (hMt : zMt fi n) (o : Nat) (hMo : zMo fi n o) (g Ln d : Nat) (hMq : zMq τ fi fr g Ln d) (hd5 : d < 512) : Met l yX12_letter wsX12_letter ({ frames := 5, cells := 8, slots := 11264, locals := 111 }) (va_Pc [.ref (τ.1 30)] (zQc D A sad τ fi fr ol)) (va_Qi (fun (r : Int32) (u : zTy × zFi × zFr) => (∃ o2, o ≤ o2 ∧ o2 ≤ o + 1 ∧ zMo u.2.1 n o2) ∧ (∃ g2 L2 d2, d2 ≤ d + 1 ∧ zMq u.1 u.2.1 u.2.2 g2 L2 d2) ∧ u.2.1 30 21 = nI 0 ∧ zGz τ fr u.1 u.2.2 ∧ ∀ a b, ¬ (a = 48 ∨ a = 49 ∨ (50 ≤ a ∧ a ≤ 64) ∨ (200 ≤ a ∧ a < 240) ∨ (a = 30 ∧ (b = 0 ∨ (21 ≤ b ∧ b ≤ 36) ∨ b = 45))) → u.2.1 a b = fi a b) (fun (u : zTy × zFi × zFr) (t : State) => zH D A u.1 u.2.1 u.2.2 ol t t.heap) A) 8 11264 A := by
  refine Met.ofW (cc := cX12_letter) (maxL := 6) (ret := (some .int)) (by decide) rfl ?_
  intro p9 e9 s m args below meth c9 s₁ B hml hv
  obtain ⟨rfl, hz, hH, hA⟩ := hv
  have hx := B.exec
  have hb := B.bytes
  have hr := B.returns
  have hts := atoms_spec (ws := wsX12_letter) B.pre
  have hown : s.vm.findClass RX12 = some m.cls := findClass_of_methodNamed B.named
  have hlocks := B.notSynchronized
  have hS : va_S A s.heap s.heap [] := va_S.rf
  have hl := lv_entry ([.ref (τ.1 30)]) (n := 6) (Nat.le_of_ble_eq_true rfl)
  rw [lg_entry_eq]
  generalize (lg_sl ([.ref (τ.1 30)]) ++ List.replicate (6 - (lg_sl ([.ref (τ.1 30)])).length) Slot.unset).toArray = ls at hl ⊢
  have hl : lv_has ls 6 [(0, .ref (τ.1 30))] := hl
  have hm30 := hMt.1
  have hLn : g ≤ 3 ∧ Ln ≤ 512 := by have := hMq.1; omega
  have hdL := hMq.2.1
  have ho60 := hMo.1
  have hw0 := hts (.fieldLink RX12 165 "PostHouseModel" "thrown" "I") (by decide +kernel)
  have hiX12 : ∀ w ∈ u_ws RX12 TX12 71, w ∈ wsX12_letter := fun _ h => List.mem_cons_of_mem _ (List.mem_append_right _ h)
  have hw2 := hts (.fieldLink RX12 71 "PostHouseModel" "doubtWaits" "[Z") (by decide +kernel)
  have hw3 := hts (.fieldLink RX12 320 "PostHouseModel" "doubts" "I") (by decide +kernel)
  have hw4 := hts (.fieldLink RX12 75 "PostHouseModel" "doubtMendings" "[I") (by decide +kernel)
  have hw5 := hts (.fieldLink RX12 283 "PostHouseModel" "mendings" "I") (by decide +kernel)
  have hw6 := hts (.fieldLink RX12 78 "PostHouseModel" "doubtLines" "[I") (by decide +kernel)
  have hw7 := hts (.fieldLink RX12 262 "PostHouseModel" "lines" "I") (by decide +kernel)
  have hw8 := hts (.fieldLink RX12 81 "PostHouseModel" "doubtKnown" "[I") (by decide +kernel)
  have hw9 := hts (.fieldLink RX12 84 "PostHouseModel" "doubtSum" "[I") (by decide +kernel)
  have hw10 := hts (.fieldLink RX12 272 "PostHouseModel" "sum" "I") (by decide +kernel)
  have hw11 := hts (.fieldLink RX12 87 "PostHouseModel" "doubtMoney" "[I") (by decide +kernel)
  have hw12 := hts (.fieldLink RX12 275 "PostHouseModel" "money" "I") (by decide +kernel)
  have hw13 := hts (.fieldLink RX12 311 "PostHouseModel" "waiting" "I") (by decide +kernel)
  have hw14 := hts (.fieldLink RX12 90 "PostHouseModel" "doubtCode" "[I") (by decide +kernel)
  have hw15 := hts (.fieldLink RX12 65 "PostHouseModel" "lineCode" "[I") (by decide +kernel)
  have hw16 := hts (.fieldLink RX12 93 "PostHouseModel" "doubtMany" "[I") (by decide +kernel)
  have hw17 := hts (.fieldLink RX12 68 "PostHouseModel" "lineMany" "[I") (by decide +kernel)
  have hw18 := hts (.fieldLink RX12 293 "PostHouseModel" "mendLine" "I") (by decide +kernel)
  have hw19 := hts (.fieldLink RX12 296 "PostHouseModel" "mendCode" "I") (by decide +kernel)
  have hw20 := hts (.fieldLink RX12 171 "PostHouseModel" "orders" "I") (by decide +kernel)
  have hw21 := hts (.fieldLink RX12 314 "PostHouseModel" "mended" "I") (by decide +kernel)
  refine lv_aload_n hx hb dX12_letter_0 rfl (lv_at hl 0 rfl) ?_
  refine va_callv (va_runV (As := []) (rest := []) ⟨hx, hb, hml, hown, hts⟩ (m_begin l hl0 D A sad τ fi fr ol L hF hn) (cwV 0 hts gX12_letter_X12_beginText rfl rfl rfl (by decide +kernel) ⟨Nat.le_of_ble_eq_true rfl, Nat.le_of_ble_eq_true rfl⟩) ⟨zQc_bl, zRecv hH (zk_30 hF) rfl, zQc_at hz hS hA hH⟩ rfl rfl hl.1 rfl (lv_room (Nat.le_of_ble_eq_true rfl)) dX12_letter_1 ⟨Nat.le_of_ble_eq_true rfl, Nat.le_of_ble_eq_true rfl⟩) hS (fun q _ h => h) (fun q h => h) (fun u9 t9 H1 locs ht9 hvm9 hw hB hz1 hk1 hS => ?_)
  have hH := zMv ht9 hvm9 hB
  clear hB
  generalize u9 = f102 at hw hH
  generalize H1 = H at hH hS ⊢
  obtain ⟨q21, q22, q23, hf21⟩ := hw
  have q103 : f102 30 45 = nI o := by rw [hf21 30 45 (by omega)]; exact hMo.2.1
  have q104 : f102 30 35 = nI d := by rw [hf21 30 35 (by omega)]; exact hMq.2.2.1
  have q105 : f102 30 2 = nI n := by rw [hf21 30 2 (by omega)]; exact hMt.2.1
  have hMt := zMt.ci (fi' := f102) hMt (fun i9 k9 h9 => hf21 i9 k9 (by omega))
  have hMo := zMo.ci (fi' := f102) hMo (fun i9 k9 h9 => hf21 i9 k9 (by omega))
  have hMq := zMq.ci (fi' := f102) hMq (fun i9 k9 h9 => hf21 i9 k9 (by omega))
  refine lv_aload_n hx hb dX12_letter_4 rfl (lv_at hl 0 rfl) ?_
  refine lv_iconst (v := nI 0) hx hb dX12_letter_5 (by decide) ?_
  refine zPutI (D := D) (ci := 12) (ty := .int) (C := RX12) (T := TX12) (N := 71) hx hb hts hiX12 tyX12 tyX12_ok nmX12 hown hH hS (zk_30 hF) rfl 0 (by decide) rfl hw0 (fun _ h9 => h9) rfl (by decide +kernel) rfl rfl dX12_letter_6 (fun H locs hH hS => ?_)
  obtain ⟨f106, ef106⟩ : ∃ f9 : zFi, f9 = zu f102 30 0 (nI 0) := ⟨_, rfl⟩
  rw [← ef106] at hH
  have q107 : f106 30 45 = nI o := by rw [ef106, zu_n (fun h9 => absurd h9.2 (by decide))]; exact q103
  have q108 : f106 30 35 = nI d := by rw [ef106, zu_n (fun h9 => absurd h9.2 (by decide))]; exact q104
  have q109 : f106 30 2 = nI n := by rw [ef106, zu_n (fun h9 => absurd h9.2 (by decide))]; exact q105
  have q110 : f106 30 21 = nI 0 := by rw [ef106, zu_n (fun h9 => absurd h9.2 (by decide))]; exact q21
  have q111 : f106 30 22 = nI L := by rw [ef106, zu_n (fun h9 => absurd h9.2 (by decide))]; exact q22
  have q112 : f106 30 23 = nI 0 := by rw [ef106, zu_n (fun h9 => absurd h9.2 (by decide))]; exact q23
  have q113 : f106 30 0 = nI 0 := by rw [ef106]; exact zu_s
  have hMt := zMt.ci (fi' := f106) hMt (fun i9 k9 h9 => by rw [ef106]; exact zu_n (by omega))
  have hMo := zMo.ci (fi' := f106) hMo (fun i9 k9 h9 => by rw [ef106]; exact zu_n (by omega))
  have hMq := zMq.ci (fi' := f106) hMq (fun i9 k9 h9 => by rw [ef106]; exact zu_n (by omega))
  refine lv_aload_n hx hb dX12_letter_9 rfl (lv_at hl 0 rfl) ?_
  refine va_calli (va_runV (As := []) (rest := []) ⟨hx, hb, hml, hown, hts⟩ (m_readLetter l hl0 D A sad τ f106 fr ol L 0 hF q111 q112 (by omega) (by omega)) (cwV 0 hts gX12_letter_X12_readLetter rfl rfl rfl (by decide +kernel) ⟨Nat.le_of_ble_eq_true rfl, Nat.le_of_ble_eq_true rfl⟩) ⟨zQc_bl, zRecv hH (zk_30 hF) rfl, zQc_at hz hS hA hH⟩ rfl rfl hl.1 rfl (lv_room (Nat.le_of_ble_eq_true rfl)) dX12_letter_10 ⟨Nat.le_of_ble_eq_true rfl, Nat.le_of_ble_eq_true rfl⟩) hS (fun q _ h => h) (fun q h => h) (fun r114 u9 t9 H1 locs ht9 hvm9 hw hB hz1 hk1 hS => ?_)
  have hH := zMv ht9 hvm9 hB
  clear hB
  generalize u9 = f115 at hw hH
  generalize H1 = H at hH hS ⊢
  obtain ⟨hr116, hf117⟩ := hw
  have q118 : f115 30 45 = nI o := by rw [hf117 30 45 (by omega)]; exact q107
  have q119 : f115 30 35 = nI d := by rw [hf117 30 35 (by omega)]; exact q108
  have q120 : f115 30 2 = nI n := by rw [hf117 30 2 (by omega)]; exact q109
  have q121 : f115 30 21 = nI 0 := by rw [hf117 30 21 (by omega)]; exact q110
  have q122 : f115 30 22 = nI L := by rw [hf117 30 22 (by omega)]; exact q111
  have q123 : f115 30 0 = nI 0 := by rw [hf117 30 0 (by omega)]; exact q113
  have hMt := zMt.ci (fi' := f115) hMt (fun i9 k9 h9 => hf117 i9 k9 (by omega))
  have hMo := zMo.ci (fi' := f115) hMo (fun i9 k9 h9 => hf117 i9 k9 (by omega))
  have hMq := zMq.ci (fi' := f115) hMq (fun i9 k9 h9 => hf117 i9 k9 (by omega))
  rcases hr116 with rfl | ⟨rfl, l0, hMl⟩
  · skip
    refine lv_if_ne (tgt := 23) hx hb dX12_letter_13 (by decide) (fun c124 => absurd (by decide) c124) (fun c124 => ?_)
    refine lv_aload_n hx hb dX12_letter_16 rfl (lv_at hl 0 rfl) ?_
    refine lv_iconst (v := nI 1) hx hb dX12_letter_17 (by decide) ?_
    refine zPutI (D := D) (ci := 12) (ty := .int) (C := RX12) (T := TX12) (N := 71) hx hb hts hiX12 tyX12 tyX12_ok nmX12 hown hH hS (zk_30 hF) rfl 0 (by decide) rfl hw0 (fun _ h9 => h9) rfl (by decide +kernel) rfl rfl dX12_letter_18 (fun H locs hH hS => ?_)
    obtain ⟨f125, ef125⟩ : ∃ f9 : zFi, f9 = zu f115 30 0 (nI 1) := ⟨_, rfl⟩
    rw [← ef125] at hH
    have q126 : f125 30 45 = nI o := by rw [ef125, zu_n (fun h9 => absurd h9.2 (by decide))]; exact q118
    have q127 : f125 30 35 = nI d := by rw [ef125, zu_n (fun h9 => absurd h9.2 (by decide))]; exact q119
    have q128 : f125 30 2 = nI n := by rw [ef125, zu_n (fun h9 => absurd h9.2 (by decide))]; exact q120
    have q129 : f125 30 21 = nI 0 := by rw [ef125, zu_n (fun h9 => absurd h9.2 (by decide))]; exact q121
    have q130 : f125 30 22 = nI L := by rw [ef125, zu_n (fun h9 => absurd h9.2 (by decide))]; exact q122
    have q131 : f125 30 0 = nI 1 := by rw [ef125]; exact zu_s
    have hMt := zMt.ci (fi' := f125) hMt (fun i9 k9 h9 => by rw [ef125]; exact zu_n (by omega))
    have hMo := zMo.ci (fi' := f125) hMo (fun i9 k9 h9 => by rw [ef125]; exact zu_n (by omega))
    have hMq := zMq.ci (fi' := f125) hMq (fun i9 k9 h9 => by rw [ef125]; exact zu_n (by omega))
    refine lv_iconst (v := nI 0) hx hb dX12_letter_21 (by decide) ?_
    refine W.widen (k := 8) (n := 11264) (by decide) (by decide) ?_
    exact W.iret (v := nI 0) hx hb hr (fun t9 ht9 hW9 => ⟨⟨nI 0, (τ, f125, fr), rfl, (show (∃ o2, o ≤ o2 ∧ o2 ≤ o + 1 ∧ zMo f125 n o2) ∧ (∃ g2 L2 d2, d2 ≤ d + 1 ∧ zMq τ f125 fr g2 L2 d2) ∧ f125 30 21 = nI 0 ∧ zGz τ fr τ fr ∧ ∀ a b, ¬ (a = 48 ∨ a = 49 ∨ (50 ≤ a ∧ a ≤ 64) ∨ (200 ≤ a ∧ a < 240) ∨ (a = 30 ∧ (b = 0 ∨ (21 ≤ b ∧ b ≤ 36) ∨ b = 45))) → f125 a b = fi a b from ⟨⟨o, by omega, by omega, hMo⟩, ⟨g, Ln, d, by omega, hMq⟩, q129, zGz.rf hF, fun a b h => by rw [ef125, zu_n (by omega), hf117 a b (by omega), ef106, zu_n (by omega), hf21 a b (by omega)]⟩), zEnd1 hH ht9 hW9⟩, hS.F ht9⟩) hS.2.2 dX12_letter_22
  · skip
    have hl8 := hMl.1
    refine lv_if_ne (tgt := 23) hx hb dX12_letter_13 (by decide) (fun c132 => ?_) (fun c132 => absurd c132 (by decide))
    refine zCut (σ := zFi × Int32 × Int32 × Int32) 186 (fun x9 => (fun (f6 : zFi) (y1 : Int32) (y2 : Int32) (y3 : Int32) => []) x9.1 x9.2.1 x9.2.2.1 x9.2.2.2) (fun x9 H locs ls => (fun (f6 : zFi) (y1 : Int32) (y2 : Int32) (y3 : Int32) => (zMl f6 l0 ∧ f6 30 21 = nI 0 ∧ zMo f6 n o ∧ zMq τ f6 fr g Ln d ∧ ∀ a b, ¬ (a = 48 ∨ a = 49 ∨ (a = 30 ∧ (b = 0 ∨ (21 ≤ b ∧ b ≤ 34)))) → f6 a b = fi a b) ∧ zH D A τ f6 fr ol s H ∧ va_S A s.heap H locs ∧ lv_has ls 6 [(0, .ref (τ.1 30)), (1, .int y1), (2, .int y2), (3, .int y3)]) x9.1 x9.2.1 x9.2.2.1 x9.2.2.2) (fun x9 H locs ls hv9 => ?_) (fun hJ133 => ?_)
    · skip
      obtain ⟨f6, y1, y2, y3⟩ := x9
      have hv9 : (zMl f6 l0 ∧ f6 30 21 = nI 0 ∧ zMo f6 n o ∧ zMq τ f6 fr g Ln d ∧ ∀ a b, ¬ (a = 48 ∨ a = 49 ∨ (a = 30 ∧ (b = 0 ∨ (21 ≤ b ∧ b ≤ 34)))) → f6 a b = fi a b) ∧ zH D A τ f6 fr ol s H ∧ va_S A s.heap H locs ∧ lv_has ls 6 [(0, .ref (τ.1 30)), (1, .int y1), (2, .int y2), (3, .int y3)] := hv9
      obtain ⟨hv9, hH, hS, hl⟩ := hv9
      obtain ⟨hMl, q21, hMo, hMq, hfr6⟩ := hv9
      show W _ _ _ _ _ _ _ _ _ _ _ _ _ _ _ (F0 m 186 ls [])
      have p26 := hMl.2.1
      have p45 := hMo.2.1
      have p35 := hMq.2.2.1
      refine zCutC (c2 := 8) (s2 := 11264) (σ := zTy × zFi × zFr × Nat × Nat) 202 (fun x9 => (fun (T : zTy) (f7 : zFi) (G : zFr) (g3 : Nat) (L3 : Nat) => []) x9.1 x9.2.1 x9.2.2.1 x9.2.2.2.1 x9.2.2.2.2) (fun x9 H locs ls => (fun (T : zTy) (f7 : zFi) (G : zFr) (g3 : Nat) (L3 : Nat) => (zGz τ fr T G ∧ zMq T f7 G g3 L3 d ∧ d < L3 ∧ zMl f7 l0 ∧ zMo f7 n o ∧ f7 30 21 = nI 0 ∧ ∀ a b, ¬ (a = 48 ∨ a = 49 ∨ (50 ≤ a ∧ a ≤ 64) ∨ (200 ≤ a ∧ a < 240) ∨ (a = 30 ∧ (b = 0 ∨ (21 ≤ b ∧ b ≤ 36) ∨ b = 45))) → f7 a b = fi a b) ∧ zH D A T f7 G ol s H ∧ va_S A s.heap H locs ∧ lv_has ls 6 [(0, .ref (T.1 30)), (3, .int y3)]) x9.1 x9.2.1 x9.2.2.1 x9.2.2.2.1 x9.2.2.2.2) (fun x9 H locs ls hv9 => ?_) (fun hJ134 => ?_)
      · skip
        obtain ⟨T, f7, G, g3, L3⟩ := x9
        have hv9 : (zGz τ fr T G ∧ zMq T f7 G g3 L3 d ∧ d < L3 ∧ zMl f7 l0 ∧ zMo f7 n o ∧ f7 30 21 = nI 0 ∧ ∀ a b, ¬ (a = 48 ∨ a = 49 ∨ (50 ≤ a ∧ a ≤ 64) ∨ (200 ≤ a ∧ a < 240) ∨ (a = 30 ∧ (b = 0 ∨ (21 ≤ b ∧ b ≤ 36) ∨ b = 45))) → f7 a b = fi a b) ∧ zH D A T f7 G ol s H ∧ va_S A s.heap H locs ∧ lv_has ls 6 [(0, .ref (T.1 30)), (3, .int y3)] := hv9
        obtain ⟨hv9, hH, hS, hl⟩ := hv9
        obtain ⟨hGz, hMq, hdL3, hMl, hMo, q21, hfr7⟩ := hv9
        show W _ _ _ _ _ _ _ _ _ _ _ _ _ _ _ (F0 m 202 ls [])
        have p26 := hMl.2.1
        have p35 := hMq.2.2.1
        have hLn3 : g3 ≤ 3 ∧ L3 ≤ 512 := by have := hMq.1; omega
        refine lv_aload_n hx hb dX12_letter_202 rfl (lv_at hl 0 rfl) ?_
        refine zGetR (D := D) (ci := 12) (C := RX12) (T := TX12) (N := 71) hx hb hts hiX12 hown hH (zk_30 hGz.2.2) rfl 37 (by decide) rfl hw2 (fun _ h9 => h9) dX12_letter_203 hMq.2.2.2.2.1.1 ?_
        refine lv_aload_n hx hb dX12_letter_206 rfl (lv_at hl 0 rfl) ?_
        refine zGetI (D := D) (ci := 12) (C := RX12) (T := TX12) (N := 71) hx hb hts hiX12 hown hH (zk_30 hGz.2.2) rfl 35 (by decide) rfl hw3 (fun _ h9 => h9) dX12_letter_207 p35 ?_
        refine lv_iconst (v := nI 1) hx hb dX12_letter_210 (by decide) ?_
        refine zZastN (D := D) hx hb hH hS hMq.2.2.2.1.1.1 hMq.2.2.2.1.1.2 (by omega) (by omega) dX12_letter_211 (fun H locs hH hS => ?_)
        obtain ⟨f135, ef135⟩ : ∃ f9 : zFi, f9 = zu f7 (200 + 10 * g3) d (vp_nar .boolean (nI 1)) := ⟨_, rfl⟩
        rw [← ef135] at hH
        have q136 : f135 30 26 = nI l0 := by rw [ef135, zu_n (fun h9 => by omega)]; exact p26
        have q137 : f135 30 35 = nI d := by rw [ef135, zu_n (fun h9 => by omega)]; exact p35
        have q138 : f135 (200 + 10 * g3) d = (vp_nar .boolean (nI 1)) := by rw [ef135]; exact zu_s
        refine lv_aload_n hx hb dX12_letter_212 rfl (lv_at hl 0 rfl) ?_
        refine zGetR (D := D) (ci := 12) (C := RX12) (T := TX12) (N := 71) hx hb hts hiX12 hown hH (zk_30 hGz.2.2) rfl 38 (by decide) rfl hw4 (fun _ h9 => h9) dX12_letter_213 hMq.2.2.2.2.1.2.1 ?_
        refine lv_aload_n hx hb dX12_letter_216 rfl (lv_at hl 0 rfl) ?_
        refine zGetI (D := D) (ci := 12) (C := RX12) (T := TX12) (N := 71) hx hb hts hiX12 hown hH (zk_30 hGz.2.2) rfl 35 (by decide) rfl hw3 (fun _ h9 => h9) dX12_letter_217 q137 ?_
        refine lv_aload_n hx hb dX12_letter_220 rfl (lv_at hl 0 rfl) ?_
        refine zGetI (D := D) (ci := 12) (C := RX12) (T := TX12) (N := 71) hx hb hts hiX12 hown hH (zk_30 hGz.2.2) rfl 31 (by decide) rfl hw5 (fun _ h9 => h9) dX12_letter_221 rfl ?_
        refine zIastN (D := D) hx hb hH hS hMq.2.2.2.1.2.1.1 hMq.2.2.2.1.2.1.2 (by omega) (by omega) dX12_letter_224 (fun H locs hH hS => ?_)
        obtain ⟨f139, ef139⟩ : ∃ f9 : zFi, f9 = zu f135 (201 + 10 * g3) d (f135 30 31) := ⟨_, rfl⟩
        rw [← ef139] at hH
        have q140 : f139 30 26 = nI l0 := by rw [ef139, zu_n (fun h9 => by omega)]; exact q136
        have q141 : f139 30 35 = nI d := by rw [ef139, zu_n (fun h9 => by omega)]; exact q137
        have q142 : f139 (200 + 10 * g3) d = (vp_nar .boolean (nI 1)) := by rw [ef139, zu_n (fun h9 => by omega)]; exact q138
        have q143 : f139 (201 + 10 * g3) d = f135 30 31 := by rw [ef139]; exact zu_s
        refine lv_aload_n hx hb dX12_letter_225 rfl (lv_at hl 0 rfl) ?_
        refine zGetR (D := D) (ci := 12) (C := RX12) (T := TX12) (N := 71) hx hb hts hiX12 hown hH (zk_30 hGz.2.2) rfl 39 (by decide) rfl hw6 (fun _ h9 => h9) dX12_letter_226 hMq.2.2.2.2.1.2.2.1 ?_
        refine lv_aload_n hx hb dX12_letter_229 rfl (lv_at hl 0 rfl) ?_
        refine zGetI (D := D) (ci := 12) (C := RX12) (T := TX12) (N := 71) hx hb hts hiX12 hown hH (zk_30 hGz.2.2) rfl 35 (by decide) rfl hw3 (fun _ h9 => h9) dX12_letter_230 q141 ?_
        refine lv_aload_n hx hb dX12_letter_233 rfl (lv_at hl 0 rfl) ?_
        refine zGetI (D := D) (ci := 12) (C := RX12) (T := TX12) (N := 71) hx hb hts hiX12 hown hH (zk_30 hGz.2.2) rfl 26 (by decide) rfl hw7 (fun _ h9 => h9) dX12_letter_234 q140 ?_
        refine zIastN (D := D) hx hb hH hS hMq.2.2.2.1.2.2.1.1 hMq.2.2.2.1.2.2.1.2 (by omega) (by omega) dX12_letter_237 (fun H locs hH hS => ?_)
        obtain ⟨f144, ef144⟩ : ∃ f9 : zFi, f9 = zu f139 (202 + 10 * g3) d (nI l0) := ⟨_, rfl⟩
        rw [← ef144] at hH
        have q145 : f144 30 26 = nI l0 := by rw [ef144, zu_n (fun h9 => by omega)]; exact q140
        have q146 : f144 30 35 = nI d := by rw [ef144, zu_n (fun h9 => by omega)]; exact q141
        have q147 : f144 (200 + 10 * g3) d = (vp_nar .boolean (nI 1)) := by rw [ef144, zu_n (fun h9 => by omega)]; exact q142
        have q148 : f144 (201 + 10 * g3) d = f135 30 31 := by rw [ef144, zu_n (fun h9 => by omega)]; exact q143
        have q149 : f144 (202 + 10 * g3) d = nI l0 := by rw [ef144]; exact zu_s
        refine lv_aload_n hx hb dX12_letter_238 rfl (lv_at hl 0 rfl) ?_
        refine zGetR (D := D) (ci := 12) (C := RX12) (T := TX12) (N := 71) hx hb hts hiX12 hown hH (zk_30 hGz.2.2) rfl 40 (by decide) rfl hw8 (fun _ h9 => h9) dX12_letter_239 hMq.2.2.2.2.1.2.2.2.1 ?_
        refine lv_aload_n hx hb dX12_letter_242 rfl (lv_at hl 0 rfl) ?_
        refine zGetI (D := D) (ci := 12) (C := RX12) (T := TX12) (N := 71) hx hb hts hiX12 hown hH (zk_30 hGz.2.2) rfl 35 (by decide) rfl hw3 (fun _ h9 => h9) dX12_letter_243 q146 ?_
        refine lv_iload_n hx hb dX12_letter_246 rfl (lv_at hl 1 rfl) ?_
        refine zIastN (D := D) hx hb hH hS hMq.2.2.2.1.2.2.2.1.1 hMq.2.2.2.1.2.2.2.1.2 (by omega) (by omega) dX12_letter_247 (fun H locs hH hS => ?_)
        obtain ⟨f150, ef150⟩ : ∃ f9 : zFi, f9 = zu f144 (203 + 10 * g3) d y3 := ⟨_, rfl⟩
        rw [← ef150] at hH
        have q151 : f150 30 26 = nI l0 := by rw [ef150, zu_n (fun h9 => by omega)]; exact q145
        have q152 : f150 30 35 = nI d := by rw [ef150, zu_n (fun h9 => by omega)]; exact q146
        have q153 : f150 (200 + 10 * g3) d = (vp_nar .boolean (nI 1)) := by rw [ef150, zu_n (fun h9 => by omega)]; exact q147
        have q154 : f150 (201 + 10 * g3) d = f135 30 31 := by rw [ef150, zu_n (fun h9 => by omega)]; exact q148
        have q155 : f150 (202 + 10 * g3) d = nI l0 := by rw [ef150, zu_n (fun h9 => by omega)]; exact q149
        have q156 : f150 (203 + 10 * g3) d = y3 := by rw [ef150]; exact zu_s
        refine lv_aload_n hx hb dX12_letter_248 rfl (lv_at hl 0 rfl) ?_
        refine zGetR (D := D) (ci := 12) (C := RX12) (T := TX12) (N := 71) hx hb hts hiX12 hown hH (zk_30 hGz.2.2) rfl 41 (by decide) rfl hw9 (fun _ h9 => h9) dX12_letter_249 hMq.2.2.2.2.1.2.2.2.2.1 ?_
        refine lv_aload_n hx hb dX12_letter_252 rfl (lv_at hl 0 rfl) ?_
        refine zGetI (D := D) (ci := 12) (C := RX12) (T := TX12) (N := 71) hx hb hts hiX12 hown hH (zk_30 hGz.2.2) rfl 35 (by decide) rfl hw3 (fun _ h9 => h9) dX12_letter_253 q152 ?_
        refine lv_aload_n hx hb dX12_letter_256 rfl (lv_at hl 0 rfl) ?_
        refine zGetI (D := D) (ci := 12) (C := RX12) (T := TX12) (N := 71) hx hb hts hiX12 hown hH (zk_30 hGz.2.2) rfl 29 (by decide) rfl hw10 (fun _ h9 => h9) dX12_letter_257 rfl ?_
        refine zIastN (D := D) hx hb hH hS hMq.2.2.2.1.2.2.2.2.1.1 hMq.2.2.2.1.2.2.2.2.1.2 (by omega) (by omega) dX12_letter_260 (fun H locs hH hS => ?_)
        obtain ⟨f157, ef157⟩ : ∃ f9 : zFi, f9 = zu f150 (204 + 10 * g3) d (f150 30 29) := ⟨_, rfl⟩
        rw [← ef157] at hH
        have q158 : f157 30 26 = nI l0 := by rw [ef157, zu_n (fun h9 => by omega)]; exact q151
        have q159 : f157 30 35 = nI d := by rw [ef157, zu_n (fun h9 => by omega)]; exact q152
        have q160 : f157 (200 + 10 * g3) d = (vp_nar .boolean (nI 1)) := by rw [ef157, zu_n (fun h9 => by omega)]; exact q153
        have q161 : f157 (201 + 10 * g3) d = f135 30 31 := by rw [ef157, zu_n (fun h9 => by omega)]; exact q154
        have q162 : f157 (202 + 10 * g3) d = nI l0 := by rw [ef157, zu_n (fun h9 => by omega)]; exact q155
        have q163 : f157 (203 + 10 * g3) d = y3 := by rw [ef157, zu_n (fun h9 => by omega)]; exact q156
        have q164 : f157 (204 + 10 * g3) d = f150 30 29 := by rw [ef157]; exact zu_s
        refine lv_aload_n hx hb dX12_letter_261 rfl (lv_at hl 0 rfl) ?_
        refine zGetR (D := D) (ci := 12) (C := RX12) (T := TX12) (N := 71) hx hb hts hiX12 hown hH (zk_30 hGz.2.2) rfl 42 (by decide) rfl hw11 (fun _ h9 => h9) dX12_letter_262 hMq.2.2.2.2.1.2.2.2.2.2.1 ?_
        refine lv_aload_n hx hb dX12_letter_265 rfl (lv_at hl 0 rfl) ?_
        refine zGetI (D := D) (ci := 12) (C := RX12) (T := TX12) (N := 71) hx hb hts hiX12 hown hH (zk_30 hGz.2.2) rfl 35 (by decide) rfl hw3 (fun _ h9 => h9) dX12_letter_266 q159 ?_
        refine lv_aload_n hx hb dX12_letter_269 rfl (lv_at hl 0 rfl) ?_
        refine zGetI (D := D) (ci := 12) (C := RX12) (T := TX12) (N := 71) hx hb hts hiX12 hown hH (zk_30 hGz.2.2) rfl 30 (by decide) rfl hw12 (fun _ h9 => h9) dX12_letter_270 rfl ?_
        refine zIastN (D := D) hx hb hH hS hMq.2.2.2.1.2.2.2.2.2.1.1 hMq.2.2.2.1.2.2.2.2.2.1.2 (by omega) (by omega) dX12_letter_273 (fun H locs hH hS => ?_)
        obtain ⟨f165, ef165⟩ : ∃ f9 : zFi, f9 = zu f157 (205 + 10 * g3) d (f157 30 30) := ⟨_, rfl⟩
        rw [← ef165] at hH
        have q166 : f165 30 26 = nI l0 := by rw [ef165, zu_n (fun h9 => by omega)]; exact q158
        have q167 : f165 30 35 = nI d := by rw [ef165, zu_n (fun h9 => by omega)]; exact q159
        have q168 : f165 (200 + 10 * g3) d = (vp_nar .boolean (nI 1)) := by rw [ef165, zu_n (fun h9 => by omega)]; exact q160
        have q169 : f165 (201 + 10 * g3) d = f135 30 31 := by rw [ef165, zu_n (fun h9 => by omega)]; exact q161
        have q170 : f165 (202 + 10 * g3) d = nI l0 := by rw [ef165, zu_n (fun h9 => by omega)]; exact q162
        have q171 : f165 (203 + 10 * g3) d = y3 := by rw [ef165, zu_n (fun h9 => by omega)]; exact q163
        have q172 : f165 (204 + 10 * g3) d = f150 30 29 := by rw [ef165, zu_n (fun h9 => by omega)]; exact q164
        have q173 : f165 (205 + 10 * g3) d = f157 30 30 := by rw [ef165]; exact zu_s
        refine lv_iconst (v := nI 0) hx hb dX12_letter_274 (by decide) ?_
        refine lv_istore (lv' := [(5, .int (nI 0)), (0, .ref (T.1 30)), (3, .int y3)]) hx hb dX12_letter_275 hl (by decide) rfl (fun ls hl => ?_)
        refine zLp (σ := Nat × zFi) (fun x9 k9 H locs ls => (fun (i : Nat) (f8 : zFi) => k9 = l0 - i ∧ (i ≤ l0 ∧ (∀ k, k < i → f8 (207 + 10 * g3) (8 * d + k) = f7 49 k) ∧ (∀ b, b < 8 * d → f8 (207 + 10 * g3) b = f7 (207 + 10 * g3) b) ∧ ∀ a b, ¬ (a = 206 + 10 * g3 ∨ a = 207 + 10 * g3) → f8 a b = f165 a b) ∧ zH D A T f8 G ol s H ∧ va_S A s.heap H locs ∧ lv_has ls 6 [(0, .ref (T.1 30)), (5, .int (nI i))]) x9.1 x9.2) (0, f165) (l0 - 0) (show l0 - 0 = l0 - 0 ∧ (0 ≤ l0 ∧ (∀ k, k < 0 → f165 (207 + 10 * g3) (8 * d + k) = f7 49 k) ∧ (∀ b, b < 8 * d → f165 (207 + 10 * g3) b = f7 (207 + 10 * g3) b) ∧ ∀ a b, ¬ (a = 206 + 10 * g3 ∨ a = 207 + 10 * g3) → f165 a b = f165 a b) ∧ zH D A T f165 G ol s _ ∧ va_S A s.heap _ _ ∧ lv_has _ 6 [(0, .ref (T.1 30)), (5, .int (nI 0))] from ⟨rfl, ⟨Nat.zero_le _, fun k h => absurd h (by omega), fun b h => by rw [ef165, zu_n (by omega), ef157, zu_n (by omega), ef150, zu_n (by omega), ef144, zu_n (by omega), ef139, zu_n (by omega), ef135, zu_n (by omega)], fun _ _ _ => rfl⟩, hH, hS, lv_sub hl [1, 0] rfl⟩) (fun k9 ih x9 H locs ls hv9 => ?_)
        obtain ⟨i, f8⟩ := x9
        have hv9 : k9 = l0 - i ∧ (i ≤ l0 ∧ (∀ k, k < i → f8 (207 + 10 * g3) (8 * d + k) = f7 49 k) ∧ (∀ b, b < 8 * d → f8 (207 + 10 * g3) b = f7 (207 + 10 * g3) b) ∧ ∀ a b, ¬ (a = 206 + 10 * g3 ∨ a = 207 + 10 * g3) → f8 a b = f165 a b) ∧ zH D A T f8 G ol s H ∧ va_S A s.heap H locs ∧ lv_has ls 6 [(0, .ref (T.1 30)), (5, .int (nI i))] := hv9
        obtain ⟨hkih174, hv9, hH, hS, hl⟩ := hv9
        obtain ⟨h1, hcp, hco, hfr8⟩ := hv9
        have ih174 := ih
        clear ih
        have p26 : f8 30 26 = nI l0 := by rw [hfr8 _ _ (by omega), ef165, zu_n (by omega), ef157, zu_n (by omega), ef150, zu_n (by omega), ef144, zu_n (by omega), ef139, zu_n (by omega), ef135, zu_n (by omega)]; exact hMl.2.1
        have p35 : f8 30 35 = nI d := by rw [hfr8 _ _ (by omega), ef165, zu_n (by omega), ef157, zu_n (by omega), ef150, zu_n (by omega), ef144, zu_n (by omega), ef139, zu_n (by omega), ef135, zu_n (by omega)]; exact hMq.2.2.1
        refine lv_iload hx hb dX12_letter_277 (lv_at hl 1 rfl) ?_
        refine lv_aload_n hx hb dX12_letter_279 rfl (lv_at hl 0 rfl) ?_
        refine zGetI (D := D) (ci := 12) (C := RX12) (T := TX12) (N := 71) hx hb hts hiX12 hown hH (zk_30 hGz.2.2) rfl 26 (by decide) rfl hw7 (fun _ h9 => h9) dX12_letter_280 p26 ?_
        refine lv_icmp_ge (tgt := 336) hx hb dX12_letter_283 (by decide) (fun c175 => ?_) (fun c175 => ?_)
        · have zc175 := c175
          replace zc175 := zc_le (nI_toInt (by omega)) (nI_toInt (by omega)) zc175
          refine lv_aload_n hx hb dX12_letter_336 rfl (lv_at hl 0 rfl) ?_
          refine lv_dup hx hb dX12_letter_337 rfl ?_
          refine zGetI (D := D) (ci := 12) (C := RX12) (T := TX12) (N := 71) hx hb hts hiX12 hown hH (zk_30 hGz.2.2) rfl 35 (by decide) rfl hw3 (fun _ h9 => h9) dX12_letter_338 p35 ?_
          refine lv_iconst (v := nI 1) hx hb dX12_letter_341 (by decide) ?_
          refine lv_iadd hx hb dX12_letter_342 ?_
          refine lv_topi (fun v176 ev176 => ?_)
          obtain rfl : v176 = nI (d + 1) := ev176.trans (nI_add _ _)
          refine zPutI (D := D) (ci := 12) (ty := .int) (C := RX12) (T := TX12) (N := 71) hx hb hts hiX12 tyX12 tyX12_ok nmX12 hown hH hS (zk_30 hGz.2.2) rfl 35 (by decide) rfl hw3 (fun _ h9 => h9) rfl (by decide +kernel) rfl rfl dX12_letter_343 (fun H locs hH hS => ?_)
          obtain ⟨f177, ef177⟩ : ∃ f9 : zFi, f9 = zu f8 30 35 (nI (d + 1)) := ⟨_, rfl⟩
          rw [← ef177] at hH
          have q178 : f177 30 26 = nI l0 := by rw [ef177, zu_n (fun h9 => absurd h9.2 (by decide))]; exact p26
          have q179 : f177 30 35 = nI (d + 1) := by rw [ef177]; exact zu_s
          refine lv_aload_n hx hb dX12_letter_346 rfl (lv_at hl 0 rfl) ?_
          refine lv_dup hx hb dX12_letter_347 rfl ?_
          refine zGetI (D := D) (ci := 12) (C := RX12) (T := TX12) (N := 71) hx hb hts hiX12 hown hH (zk_30 hGz.2.2) rfl 36 (by decide) rfl hw13 (fun _ h9 => h9) dX12_letter_348 rfl ?_
          refine lv_iconst (v := nI 1) hx hb dX12_letter_351 (by decide) ?_
          refine lv_iadd hx hb dX12_letter_352 ?_
          refine lv_topi (fun v180 ev180 => ?_)
          refine zPutI (D := D) (ci := 12) (ty := .int) (C := RX12) (T := TX12) (N := 71) hx hb hts hiX12 tyX12 tyX12_ok nmX12 hown hH hS (zk_30 hGz.2.2) rfl 36 (by decide) rfl hw13 (fun _ h9 => h9) rfl (by decide +kernel) rfl rfl dX12_letter_353 (fun H locs hH hS => ?_)
          obtain ⟨f181, ef181⟩ : ∃ f9 : zFi, f9 = zu f177 30 36 v180 := ⟨_, rfl⟩
          rw [← ef181] at hH
          have q182 : f181 30 26 = nI l0 := by rw [ef181, zu_n (fun h9 => absurd h9.2 (by decide))]; exact q178
          have q183 : f181 30 35 = nI (d + 1) := by rw [ef181, zu_n (fun h9 => absurd h9.2 (by decide))]; exact q179
          have q184 : f181 30 36 = v180 := by rw [ef181]; exact zu_s
          refine lv_iconst (v := (-1)) hx hb dX12_letter_356 (by decide) ?_
          refine lv_aload_n hx hb dX12_letter_357 rfl (lv_at hl 0 rfl) ?_
          refine zGetI (D := D) (ci := 12) (C := RX12) (T := TX12) (N := 71) hx hb hts hiX12 hown hH (zk_30 hGz.2.2) rfl 35 (by decide) rfl hw3 (fun _ h9 => h9) dX12_letter_358 q183 ?_
          refine lv_isub hx hb dX12_letter_361 ?_
          refine lv_topi (fun v185 ev185 => ?_)
          refine W.widen (k := 8) (n := 11264) (by decide) (by decide) ?_
          exact W.iret (v := v185) hx hb hr (fun t9 ht9 hW9 => ⟨⟨v185, (T, f181, G), rfl, (show (∃ o2, o ≤ o2 ∧ o2 ≤ o + 1 ∧ zMo f181 n o2) ∧ (∃ g2 L2 d2, d2 ≤ d + 1 ∧ zMq T f181 G g2 L2 d2) ∧ f181 30 21 = nI 0 ∧ zGz τ fr T G ∧ ∀ a b, ¬ (a = 48 ∨ a = 49 ∨ (50 ≤ a ∧ a ≤ 64) ∨ (200 ≤ a ∧ a < 240) ∨ (a = 30 ∧ (b = 0 ∨ (21 ≤ b ∧ b ≤ 36) ∨ b = 45))) → f181 a b = fi a b from ⟨⟨o, by omega, by omega, zMo.ci hMo (fun i9 k9 h9 => by rw [ef181, zu_n (by omega), ef177, zu_n (by omega), hfr8 _ _ (by omega), ef165, zu_n (by omega), ef157, zu_n (by omega), ef150, zu_n (by omega), ef144, zu_n (by omega), ef139, zu_n (by omega), ef135, zu_n (by omega)])⟩, ⟨g3, L3, d + 1, by omega, zMq.add (l0 := l0) hMq hdL3 hl8 q183 (by rw [ef181, zu_n (by omega), ef177, zu_n (by omega), hfr8 _ _ (by omega), ef165, zu_n (by omega), ef157, zu_n (by omega), ef150, zu_n (by omega), ef144, zu_s]) (fun k h => by rw [ef181, zu_n (by omega), ef177, zu_n (by omega), hfr8 _ _ (by omega), ef165, zu_n (by omega), ef157, zu_n (by omega), ef150, zu_n (by omega), ef144, zu_n (by omega), ef139, zu_n (by omega), ef135, zu_n (by omega)]) (fun k h => by rw [ef181, zu_n (by omega), ef177, zu_n (by omega), hcp k (by omega)]; exact hMl.2.2 k h) (fun k h => by rw [ef181, zu_n (by omega), ef177, zu_n (by omega), hco k h])⟩, by rw [ef181, zu_n (by omega), ef177, zu_n (by omega), hfr8 _ _ (by omega), ef165, zu_n (by omega), ef157, zu_n (by omega), ef150, zu_n (by omega), ef144, zu_n (by omega), ef139, zu_n (by omega), ef135, zu_n (by omega)]; exact q21, hGz, fun a b h => by rw [ef181, zu_n (by omega), ef177, zu_n (by omega), hfr8 _ _ (by omega), ef165, zu_n (by omega), ef157, zu_n (by omega), ef150, zu_n (by omega), ef144, zu_n (by omega), ef139, zu_n (by omega), ef135, zu_n (by omega)]; exact hfr7 a b h⟩), zEnd1 hH ht9 hW9⟩, hS.F ht9⟩) hS.2.2 dX12_letter_362
        · have zc175 := c175
          replace zc175 := zc_nle (nI_toInt (by omega)) (nI_toInt (by omega)) zc175
          refine lv_aload_n hx hb dX12_letter_286 rfl (lv_at hl 0 rfl) ?_
          refine zGetR (D := D) (ci := 12) (C := RX12) (T := TX12) (N := 71) hx hb hts hiX12 hown hH (zk_30 hGz.2.2) rfl 43 (by decide) rfl hw14 (fun _ h9 => h9) dX12_letter_287 hMq.2.2.2.2.1.2.2.2.2.2.2.1 ?_
          refine lv_bipush (v := nI 8) hx hb dX12_letter_290 (by decide) ?_
          refine lv_aload_n hx hb dX12_letter_292 rfl (lv_at hl 0 rfl) ?_
          refine zGetI (D := D) (ci := 12) (C := RX12) (T := TX12) (N := 71) hx hb hts hiX12 hown hH (zk_30 hGz.2.2) rfl 35 (by decide) rfl hw3 (fun _ h9 => h9) dX12_letter_293 p35 ?_
          refine lv_imul hx hb dX12_letter_296 ?_
          refine lv_topi (fun v186 ev186 => ?_)
          obtain rfl : v186 = nI (8 * d) := ev186.trans (pk_mul _ _)
          refine lv_iload hx hb dX12_letter_297 (lv_at hl 1 rfl) ?_
          refine lv_iadd hx hb dX12_letter_299 ?_
          refine lv_topi (fun v187 ev187 => ?_)
          obtain rfl : v187 = nI (8 * d + i) := ev187.trans (nI_add _ _)
          refine lv_aload_n hx hb dX12_letter_300 rfl (lv_at hl 0 rfl) ?_
          refine zGetR (D := D) (ci := 12) (C := RX12) (T := TX12) (N := 71) hx hb hts hiX12 hown hH (zk_30 hGz.2.2) rfl 27 (by decide) rfl hw15 (fun _ h9 => h9) dX12_letter_301 (zr_30_27 hGz.2.2) ?_
          refine lv_iload hx hb dX12_letter_304 (lv_at hl 1 rfl) ?_
          refine zIaldN (D := D) hx hb hH (zk_48 hGz.2.2) (zn_48 hGz.2.2) (by omega) (by omega) rfl dX12_letter_306 ?_
          refine zIastN (D := D) hx hb hH hS hMq.2.2.2.1.2.2.2.2.2.2.1.1 hMq.2.2.2.1.2.2.2.2.2.2.1.2 (by omega) (by omega) dX12_letter_307 (fun H locs hH hS => ?_)
          obtain ⟨f188, ef188⟩ : ∃ f9 : zFi, f9 = zu f8 (206 + 10 * g3) (8 * d + i) (f8 48 i) := ⟨_, rfl⟩
          rw [← ef188] at hH
          have q189 : f188 30 26 = nI l0 := by rw [ef188, zu_n (fun h9 => by omega)]; exact p26
          have q190 : f188 30 35 = nI d := by rw [ef188, zu_n (fun h9 => by omega)]; exact p35
          have q191 : f188 (206 + 10 * g3) (8 * d + i) = f8 48 i := by rw [ef188]; exact zu_s
          refine lv_aload_n hx hb dX12_letter_308 rfl (lv_at hl 0 rfl) ?_
          refine zGetR (D := D) (ci := 12) (C := RX12) (T := TX12) (N := 71) hx hb hts hiX12 hown hH (zk_30 hGz.2.2) rfl 44 (by decide) rfl hw16 (fun _ h9 => h9) dX12_letter_309 hMq.2.2.2.2.1.2.2.2.2.2.2.2 ?_
          refine lv_bipush (v := nI 8) hx hb dX12_letter_312 (by decide) ?_
          refine lv_aload_n hx hb dX12_letter_314 rfl (lv_at hl 0 rfl) ?_
          refine zGetI (D := D) (ci := 12) (C := RX12) (T := TX12) (N := 71) hx hb hts hiX12 hown hH (zk_30 hGz.2.2) rfl 35 (by decide) rfl hw3 (fun _ h9 => h9) dX12_letter_315 q190 ?_
          refine lv_imul hx hb dX12_letter_318 ?_
          refine lv_topi (fun v192 ev192 => ?_)
          obtain rfl : v192 = nI (8 * d) := ev192.trans (pk_mul _ _)
          refine lv_iload hx hb dX12_letter_319 (lv_at hl 1 rfl) ?_
          refine lv_iadd hx hb dX12_letter_321 ?_
          refine lv_topi (fun v193 ev193 => ?_)
          obtain rfl : v193 = nI (8 * d + i) := ev193.trans (nI_add _ _)
          refine lv_aload_n hx hb dX12_letter_322 rfl (lv_at hl 0 rfl) ?_
          refine zGetR (D := D) (ci := 12) (C := RX12) (T := TX12) (N := 71) hx hb hts hiX12 hown hH (zk_30 hGz.2.2) rfl 28 (by decide) rfl hw17 (fun _ h9 => h9) dX12_letter_323 (zr_30_28 hGz.2.2) ?_
          refine lv_iload hx hb dX12_letter_326 (lv_at hl 1 rfl) ?_
          refine zIaldN (D := D) hx hb hH (zk_49 hGz.2.2) (zn_49 hGz.2.2) (by omega) (by omega) rfl dX12_letter_328 ?_
          refine zIastN (D := D) hx hb hH hS hMq.2.2.2.1.2.2.2.2.2.2.2.1 hMq.2.2.2.1.2.2.2.2.2.2.2.2 (by omega) (by omega) dX12_letter_329 (fun H locs hH hS => ?_)
          obtain ⟨f194, ef194⟩ : ∃ f9 : zFi, f9 = zu f188 (207 + 10 * g3) (8 * d + i) (f188 49 i) := ⟨_, rfl⟩
          rw [← ef194] at hH
          have q195 : f194 30 26 = nI l0 := by rw [ef194, zu_n (fun h9 => by omega)]; exact q189
          have q196 : f194 30 35 = nI d := by rw [ef194, zu_n (fun h9 => by omega)]; exact q190
          have q197 : f194 (206 + 10 * g3) (8 * d + i) = f8 48 i := by rw [ef194, zu_n (fun h9 => by omega)]; exact q191
          have q198 : f194 (207 + 10 * g3) (8 * d + i) = f188 49 i := by rw [ef194]; exact zu_s
          refine lv_iinc (v := nI (i + 1)) (lv' := [(5, .int (nI (i + 1))), (0, .ref (T.1 30))]) hx hb dX12_letter_330 hl (k := 1) rfl (by rw [show (Int32.ofInt 1 : Int32) = nI 1 from by decide, nI_add]) (by decide) rfl (fun ls hl => ?_)
          refine lv_goto (tgt := 277) hx hb dX12_letter_333 (by decide) ?_
          exact ih174 (l0 - (i + 1)) (by omega) (i + 1, f194) _ _ _ (show l0 - (i + 1) = l0 - (i + 1) ∧ ((i + 1) ≤ l0 ∧ (∀ k, k < (i + 1) → f194 (207 + 10 * g3) (8 * d + k) = f7 49 k) ∧ (∀ b, b < 8 * d → f194 (207 + 10 * g3) b = f7 (207 + 10 * g3) b) ∧ ∀ a b, ¬ (a = 206 + 10 * g3 ∨ a = 207 + 10 * g3) → f194 a b = f165 a b) ∧ zH D A T f194 G ol s _ ∧ va_S A s.heap _ _ ∧ lv_has _ 6 [(0, .ref (T.1 30)), (5, .int (nI (i + 1)))] from ⟨rfl, ⟨by omega, fun k h => by by_cases h7 : k = i; (subst h7; rw [ef194, zu_s, ef188, zu_n (by omega), hfr8 _ _ (by omega), ef165, zu_n (by omega), ef157, zu_n (by omega), ef150, zu_n (by omega), ef144, zu_n (by omega), ef139, zu_n (by omega), ef135, zu_n (by omega)]); (rw [ef194, zu_n (by omega), ef188, zu_n (by omega)]; exact hcp k (by omega)), fun b h => by rw [ef194, zu_n (by omega), ef188, zu_n (by omega)]; exact hco b h, fun a b h => by rw [ef194, zu_n (by omega), ef188, zu_n (by omega)]; exact hfr8 a b h⟩, hH, hS, lv_sub hl [1, 0] rfl⟩)
      · skip
        refine lv_aload_n hx hb dX12_letter_186 rfl (lv_at hl 0 rfl) ?_
        refine zGetI (D := D) (ci := 12) (C := RX12) (T := TX12) (N := 71) hx hb hts hiX12 hown hH (zk_30 hF) rfl 35 (by decide) rfl hw3 (fun _ h9 => h9) dX12_letter_187 p35 ?_
        refine lv_aload_n hx hb dX12_letter_190 rfl (lv_at hl 0 rfl) ?_
        refine zGetR (D := D) (ci := 12) (C := RX12) (T := TX12) (N := 71) hx hb hts hiX12 hown hH (zk_30 hF) rfl 39 (by decide) rfl hw6 (fun _ h9 => h9) dX12_letter_191 hMq.2.2.2.2.1.2.2.1 ?_
        refine zAlen (D := D) hx hb hH hMq.2.2.2.1.2.2.1.1 (by decide) (by decide) hMq.2.2.2.1.2.2.1.2 dX12_letter_194 ?_
        refine lv_icmp_ne (tgt := 202) hx hb dX12_letter_195 (by decide) (fun c199 => ?_) (fun c199 => ?_)
        · have zc199 := c199
          replace zc199 := zc_neq (nI_toInt (by omega)) (nI_toInt (by omega)) zc199
          refine W.widen (k := 8) (n := 11264) (by decide) (by decide) ?_
          exact hJ134 (τ, f6, fr, g, Ln) _ _ _ (show (zGz τ fr τ fr ∧ zMq τ f6 fr g Ln d ∧ d < Ln ∧ zMl f6 l0 ∧ zMo f6 n o ∧ f6 30 21 = nI 0 ∧ ∀ a b, ¬ (a = 48 ∨ a = 49 ∨ (50 ≤ a ∧ a ≤ 64) ∨ (200 ≤ a ∧ a < 240) ∨ (a = 30 ∧ (b = 0 ∨ (21 ≤ b ∧ b ≤ 36) ∨ b = 45))) → f6 a b = fi a b) ∧ zH D A τ f6 fr ol s _ ∧ va_S A s.heap _ _ ∧ lv_has _ 6 [(0, .ref (τ.1 30)), (3, .int y3)] from ⟨⟨zGz.rf hF, hMq, by omega, hMl, hMo, q21, fun a b h => hfr6 a b (by omega)⟩, hH, hS, lv_sub hl [0, 3] rfl⟩)
        · have zc199 := c199
          replace zc199 := zc_eq (nI_toInt (by omega)) (nI_toInt (by omega)) zc199
          rcases hMq.1 with ⟨hg0, hL0⟩ | ⟨hg0, hL0⟩ | ⟨hg0, hL0⟩ | ⟨hg0, hL0⟩
          · skip
            refine lv_aload_n hx hb dX12_letter_198 rfl (lv_at hl 0 rfl) ?_
            refine va_callv (va_runV (As := []) (rest := []) ⟨hx, hb, hml, hown, hts⟩ (m_grow_0 l hl0 D A sad τ f6 fr ol hF (by have h9 := hMq; rw [hg0, hL0, show d = 64 by omega] at h9; exact h9)) (cwV 0 hts gX12_letter_X12_grow rfl rfl rfl (by decide +kernel) ⟨Nat.le_of_ble_eq_true rfl, Nat.le_of_ble_eq_true rfl⟩) ⟨zQc_bl, zRecv hH (zk_30 hF) rfl, zQc_at hz hS hA hH⟩ rfl rfl hl.1 rfl (lv_room (Nat.le_of_ble_eq_true rfl)) dX12_letter_199 ⟨Nat.le_of_ble_eq_true rfl, Nat.le_of_ble_eq_true rfl⟩) hS (fun q _ h => h) (fun q h => h) (fun u9 t9 H1 locs ht9 hvm9 hw hB hz1 hk1 hS => ?_)
            obtain ⟨τ201, f202, g203⟩ := u9
            have hH := zMv ht9 hvm9 hB
            clear hB
            simp only at hw hH
            generalize H1 = H at hH hS ⊢
            refine W.widen (k := 8) (n := 2816) (by decide) (by decide) ?_
            obtain ⟨hq7, hz7, hf7⟩ := hw
            have ha7 : ∀ i, ¬ (200 ≤ i ∧ i < 240) → τ201.1 i = τ.1 i := fun i h => (hz7.1 i h).1
            rw [show τ.1 30 = τ201.1 30 from (ha7 30 (by omega)).symm] at hl
            have q204 : f202 30 26 = nI l0 := by rw [hf7 30 26 (by omega)]; exact p26
            have q205 : f202 30 45 = nI o := by rw [hf7 30 45 (by omega)]; exact p45
            have q206 : f202 30 35 = nI d := by rw [hf7 30 35 (by omega)]; exact p35
            have q207 : f202 30 21 = nI 0 := by rw [hf7 30 21 (by omega)]; exact q21
            have hMl := zMl.ci (fi' := f202) hMl (fun i9 k9 h9 => hf7 i9 k9 (by omega))
            have hMo := zMo.ci (fi' := f202) hMo (fun i9 k9 h9 => hf7 i9 k9 (by omega))
            have hMq7 : zMq τ201 f202 g203 1 128 d := by have h9 := hq7; rw [show (64 : Nat) = d by omega] at h9; exact h9
            refine W.widen (k := 8) (n := 11264) (by decide) (by decide) ?_
            exact hJ134 (τ201, f202, g203, 1, 128) _ _ _ (show (zGz τ fr τ201 g203 ∧ zMq τ201 f202 g203 1 128 d ∧ d < 128 ∧ zMl f202 l0 ∧ zMo f202 n o ∧ f202 30 21 = nI 0 ∧ ∀ a b, ¬ (a = 48 ∨ a = 49 ∨ (50 ≤ a ∧ a ≤ 64) ∨ (200 ≤ a ∧ a < 240) ∨ (a = 30 ∧ (b = 0 ∨ (21 ≤ b ∧ b ≤ 36) ∨ b = 45))) → f202 a b = fi a b) ∧ zH D A τ201 f202 g203 ol s _ ∧ va_S A s.heap _ _ ∧ lv_has _ 6 [(0, .ref (τ201.1 30)), (3, .int y3)] from ⟨⟨hz7, hMq7, by omega, hMl, hMo, q207, fun a b h => by rw [hf7 a b (by omega)]; exact hfr6 a b (by omega)⟩, hH, hS, lv_sub hl [0, 3] rfl⟩)
          · skip
            refine lv_aload_n hx hb dX12_letter_198 rfl (lv_at hl 0 rfl) ?_
            refine va_callv (va_runV (As := []) (rest := []) ⟨hx, hb, hml, hown, hts⟩ (m_grow_1 l hl0 D A sad τ f6 fr ol hF (by have h9 := hMq; rw [hg0, hL0, show d = 128 by omega] at h9; exact h9)) (cwV 0 hts gX12_letter_X12_grow rfl rfl rfl (by decide +kernel) ⟨Nat.le_of_ble_eq_true rfl, Nat.le_of_ble_eq_true rfl⟩) ⟨zQc_bl, zRecv hH (zk_30 hF) rfl, zQc_at hz hS hA hH⟩ rfl rfl hl.1 rfl (lv_room (Nat.le_of_ble_eq_true rfl)) dX12_letter_199 ⟨Nat.le_of_ble_eq_true rfl, Nat.le_of_ble_eq_true rfl⟩) hS (fun q _ h => h) (fun q h => h) (fun u9 t9 H1 locs ht9 hvm9 hw hB hz1 hk1 hS => ?_)
            obtain ⟨τ209, f210, g211⟩ := u9
            have hH := zMv ht9 hvm9 hB
            clear hB
            simp only at hw hH
            generalize H1 = H at hH hS ⊢
            refine W.widen (k := 8) (n := 5632) (by decide) (by decide) ?_
            obtain ⟨hq7, hz7, hf7⟩ := hw
            have ha7 : ∀ i, ¬ (200 ≤ i ∧ i < 240) → τ209.1 i = τ.1 i := fun i h => (hz7.1 i h).1
            rw [show τ.1 30 = τ209.1 30 from (ha7 30 (by omega)).symm] at hl
            have q212 : f210 30 26 = nI l0 := by rw [hf7 30 26 (by omega)]; exact p26
            have q213 : f210 30 45 = nI o := by rw [hf7 30 45 (by omega)]; exact p45
            have q214 : f210 30 35 = nI d := by rw [hf7 30 35 (by omega)]; exact p35
            have q215 : f210 30 21 = nI 0 := by rw [hf7 30 21 (by omega)]; exact q21
            have hMl := zMl.ci (fi' := f210) hMl (fun i9 k9 h9 => hf7 i9 k9 (by omega))
            have hMo := zMo.ci (fi' := f210) hMo (fun i9 k9 h9 => hf7 i9 k9 (by omega))
            have hMq7 : zMq τ209 f210 g211 2 256 d := by have h9 := hq7; rw [show (128 : Nat) = d by omega] at h9; exact h9
            refine W.widen (k := 8) (n := 11264) (by decide) (by decide) ?_
            exact hJ134 (τ209, f210, g211, 2, 256) _ _ _ (show (zGz τ fr τ209 g211 ∧ zMq τ209 f210 g211 2 256 d ∧ d < 256 ∧ zMl f210 l0 ∧ zMo f210 n o ∧ f210 30 21 = nI 0 ∧ ∀ a b, ¬ (a = 48 ∨ a = 49 ∨ (50 ≤ a ∧ a ≤ 64) ∨ (200 ≤ a ∧ a < 240) ∨ (a = 30 ∧ (b = 0 ∨ (21 ≤ b ∧ b ≤ 36) ∨ b = 45))) → f210 a b = fi a b) ∧ zH D A τ209 f210 g211 ol s _ ∧ va_S A s.heap _ _ ∧ lv_has _ 6 [(0, .ref (τ209.1 30)), (3, .int y3)] from ⟨⟨hz7, hMq7, by omega, hMl, hMo, q215, fun a b h => by rw [hf7 a b (by omega)]; exact hfr6 a b (by omega)⟩, hH, hS, lv_sub hl [0, 3] rfl⟩)
          · skip
            refine lv_aload_n hx hb dX12_letter_198 rfl (lv_at hl 0 rfl) ?_
            refine va_callv (va_runV (As := []) (rest := []) ⟨hx, hb, hml, hown, hts⟩ (m_grow_2 l hl0 D A sad τ f6 fr ol hF (by have h9 := hMq; rw [hg0, hL0, show d = 256 by omega] at h9; exact h9)) (cwV 0 hts gX12_letter_X12_grow rfl rfl rfl (by decide +kernel) ⟨Nat.le_of_ble_eq_true rfl, Nat.le_of_ble_eq_true rfl⟩) ⟨zQc_bl, zRecv hH (zk_30 hF) rfl, zQc_at hz hS hA hH⟩ rfl rfl hl.1 rfl (lv_room (Nat.le_of_ble_eq_true rfl)) dX12_letter_199 ⟨Nat.le_of_ble_eq_true rfl, Nat.le_of_ble_eq_true rfl⟩) hS (fun q _ h => h) (fun q h => h) (fun u9 t9 H1 locs ht9 hvm9 hw hB hz1 hk1 hS => ?_)
            obtain ⟨τ217, f218, g219⟩ := u9
            have hH := zMv ht9 hvm9 hB
            clear hB
            simp only at hw hH
            generalize H1 = H at hH hS ⊢
            refine W.widen (k := 8) (n := 11264) (by decide) (by decide) ?_
            obtain ⟨hq7, hz7, hf7⟩ := hw
            have ha7 : ∀ i, ¬ (200 ≤ i ∧ i < 240) → τ217.1 i = τ.1 i := fun i h => (hz7.1 i h).1
            rw [show τ.1 30 = τ217.1 30 from (ha7 30 (by omega)).symm] at hl
            have q220 : f218 30 26 = nI l0 := by rw [hf7 30 26 (by omega)]; exact p26
            have q221 : f218 30 45 = nI o := by rw [hf7 30 45 (by omega)]; exact p45
            have q222 : f218 30 35 = nI d := by rw [hf7 30 35 (by omega)]; exact p35
            have q223 : f218 30 21 = nI 0 := by rw [hf7 30 21 (by omega)]; exact q21
            have hMl := zMl.ci (fi' := f218) hMl (fun i9 k9 h9 => hf7 i9 k9 (by omega))
            have hMo := zMo.ci (fi' := f218) hMo (fun i9 k9 h9 => hf7 i9 k9 (by omega))
            have hMq7 : zMq τ217 f218 g219 3 512 d := by have h9 := hq7; rw [show (256 : Nat) = d by omega] at h9; exact h9
            refine W.widen (k := 8) (n := 11264) (by decide) (by decide) ?_
            exact hJ134 (τ217, f218, g219, 3, 512) _ _ _ (show (zGz τ fr τ217 g219 ∧ zMq τ217 f218 g219 3 512 d ∧ d < 512 ∧ zMl f218 l0 ∧ zMo f218 n o ∧ f218 30 21 = nI 0 ∧ ∀ a b, ¬ (a = 48 ∨ a = 49 ∨ (50 ≤ a ∧ a ≤ 64) ∨ (200 ≤ a ∧ a < 240) ∨ (a = 30 ∧ (b = 0 ∨ (21 ≤ b ∧ b ≤ 36) ∨ b = 45))) → f218 a b = fi a b) ∧ zH D A τ217 f218 g219 ol s _ ∧ va_S A s.heap _ _ ∧ lv_has _ 6 [(0, .ref (τ217.1 30)), (3, .int y3)] from ⟨⟨hz7, hMq7, by omega, hMl, hMo, q223, fun a b h => by rw [hf7 a b (by omega)]; exact hfr6 a b (by omega)⟩, hH, hS, lv_sub hl [0, 3] rfl⟩)
          · exact absurd hd5 (by omega)
    · skip
      refine lv_aload_n hx hb dX12_letter_23 rfl (lv_at hl 0 rfl) ?_
      refine lv_iconst (v := (-1)) hx hb dX12_letter_24 (by decide) ?_
      refine lv_iconst (v := nI 0) hx hb dX12_letter_25 (by decide) ?_
      refine va_calli (va_runV (As := [.int ((-1)), .int (nI 0)]) (rest := []) ⟨hx, hb, hml, hown, hts⟩ (m_total l hl0 D A sad τ f115 fr ol ((-1)) (nI 0) hF n hMt l0 hMl) (cwV 2 hts gX12_letter_X12_total rfl rfl rfl (by decide +kernel) ⟨Nat.le_of_ble_eq_true rfl, Nat.le_of_ble_eq_true rfl⟩) ⟨zQc_bl, zRecv hH (zk_30 hF) rfl, zQc_at hz hS hA hH⟩ rfl rfl hl.1 rfl (lv_room (Nat.le_of_ble_eq_true rfl)) dX12_letter_26 ⟨Nat.le_of_ble_eq_true rfl, Nat.le_of_ble_eq_true rfl⟩) hS (fun q _ h => h) (fun q h => h) (fun r224 u9 t9 H1 locs ht9 hvm9 hw hB hz1 hk1 hS => ?_)
      have hH := zMv ht9 hvm9 hB
      generalize H1 = H at hH hS ⊢
      clear hw
      refine lv_aload_n hx hb dX12_letter_29 rfl (lv_at hl 0 rfl) ?_
      refine zGetI (D := D) (ci := 12) (C := RX12) (T := TX12) (N := 71) hx hb hts hiX12 hown hH (zk_30 hF) rfl 29 (by decide) rfl hw10 (fun _ h9 => h9) dX12_letter_30 rfl ?_
      refine lv_icmp_ne (tgt := 40) hx hb dX12_letter_33 (by decide) (fun c225 => ?_) (fun c225 => ?_)
      · have zc225 := c225
        replace zc225 := zc_neq (rfl) (rfl) zc225
        refine lv_iconst (v := nI 0) hx hb dX12_letter_40 (by decide) ?_
        refine lv_istore_n (lv' := [(1, .int (nI 0)), (0, .ref (τ.1 30))]) hx hb dX12_letter_41 rfl hl (by decide) rfl (fun ls hl => ?_)
        refine lv_aload_n hx hb dX12_letter_42 rfl (lv_at hl 1 rfl) ?_
        refine lv_iconst (v := nI 0) hx hb dX12_letter_43 (by decide) ?_
        refine zPutI (D := D) (ci := 12) (ty := .int) (C := RX12) (T := TX12) (N := 71) hx hb hts hiX12 tyX12 tyX12_ok nmX12 hown hH hS (zk_30 hF) rfl 31 (by decide) rfl hw5 (fun _ h9 => h9) rfl (by decide +kernel) rfl rfl dX12_letter_44 (fun H locs hH hS => ?_)
        obtain ⟨f226, ef226⟩ : ∃ f9 : zFi, f9 = zu f115 30 31 (nI 0) := ⟨_, rfl⟩
        rw [← ef226] at hH
        have q227 : f226 30 45 = nI o := by rw [ef226, zu_n (fun h9 => absurd h9.2 (by decide))]; exact q118
        have q228 : f226 30 35 = nI d := by rw [ef226, zu_n (fun h9 => absurd h9.2 (by decide))]; exact q119
        have q229 : f226 30 2 = nI n := by rw [ef226, zu_n (fun h9 => absurd h9.2 (by decide))]; exact q120
        have q230 : f226 30 21 = nI 0 := by rw [ef226, zu_n (fun h9 => absurd h9.2 (by decide))]; exact q121
        have q231 : f226 30 22 = nI L := by rw [ef226, zu_n (fun h9 => absurd h9.2 (by decide))]; exact q122
        have q232 : f226 30 0 = nI 0 := by rw [ef226, zu_n (fun h9 => absurd h9.2 (by decide))]; exact q123
        have q233 : f226 30 26 = nI l0 := by rw [ef226, zu_n (fun h9 => absurd h9.2 (by decide))]; exact hMl.2.1
        have q234 : f226 30 31 = nI 0 := by rw [ef226]; exact zu_s
        have hMt := zMt.ci (fi' := f226) hMt (fun i9 k9 h9 => by rw [ef226]; exact zu_n (by omega))
        have hMo := zMo.ci (fi' := f226) hMo (fun i9 k9 h9 => by rw [ef226]; exact zu_n (by omega))
        have hMq := zMq.ci (fi' := f226) hMq (fun i9 k9 h9 => by rw [ef226]; exact zu_n (by omega))
        have hMl := zMl.ci (fi' := f226) hMl (fun i9 k9 h9 => by rw [ef226]; exact zu_n (by omega))
        refine lv_iload_n hx hb dX12_letter_47 rfl (lv_at hl 0 rfl) ?_
        refine lv_if_ne (tgt := 55) hx hb dX12_letter_48 (by decide) (fun c235 => absurd (by decide) c235) (fun c235 => ?_)
        refine lv_aload_n hx hb dX12_letter_51 rfl (lv_at hl 1 rfl) ?_
        refine va_callv (va_runV (As := []) (rest := []) ⟨hx, hb, hml, hown, hts⟩ (m_findM l hl0 D A sad τ f226 fr ol hF n hMt l0 hMl) (cwV 0 hts gX12_letter_X12_findMendings rfl rfl rfl (by decide +kernel) ⟨Nat.le_of_ble_eq_true rfl, Nat.le_of_ble_eq_true rfl⟩) ⟨zQc_bl, zRecv hH (zk_30 hF) rfl, zQc_at hz hS hA hH⟩ rfl rfl hl.1 rfl (lv_room (Nat.le_of_ble_eq_true rfl)) dX12_letter_52 ⟨Nat.le_of_ble_eq_true rfl, Nat.le_of_ble_eq_true rfl⟩) hS (fun q _ h => h) (fun q h => h) (fun u9 t9 H1 locs ht9 hvm9 hw hB hz1 hk1 hS => ?_)
        have hH := zMv ht9 hvm9 hB
        clear hB
        generalize u9 = f237 at hw hH
        generalize H1 = H at hH hS ⊢
        obtain ⟨hfm, hf238⟩ := hw
        have q239 : f237 30 45 = nI o := by rw [hf238 30 45 (by omega)]; exact q227
        have q240 : f237 30 35 = nI d := by rw [hf238 30 35 (by omega)]; exact q228
        have q241 : f237 30 2 = nI n := by rw [hf238 30 2 (by omega)]; exact q229
        have q242 : f237 30 21 = nI 0 := by rw [hf238 30 21 (by omega)]; exact q230
        have q243 : f237 30 22 = nI L := by rw [hf238 30 22 (by omega)]; exact q231
        have q244 : f237 30 0 = nI 0 := by rw [hf238 30 0 (by omega)]; exact q232
        have q245 : f237 30 26 = nI l0 := by rw [hf238 30 26 (by omega)]; exact q233
        have hMt := zMt.ci (fi' := f237) hMt (fun i9 k9 h9 => hf238 i9 k9 (by omega))
        have hMo := zMo.ci (fi' := f237) hMo (fun i9 k9 h9 => hf238 i9 k9 (by omega))
        have hMq := zMq.ci (fi' := f237) hMq (fun i9 k9 h9 => hf238 i9 k9 (by omega))
        have hMl := zMl.ci (fi' := f237) hMl (fun i9 k9 h9 => hf238 i9 k9 (by omega))
        refine lv_iload_n hx hb dX12_letter_55 rfl (lv_at hl 0 rfl) ?_
        refine lv_if_ne (tgt := 71) hx hb dX12_letter_56 (by decide) (fun c246 => absurd (by decide) c246) (fun c246 => ?_)
        refine lv_aload_n hx hb dX12_letter_59 rfl (lv_at hl 1 rfl) ?_
        refine zGetI (D := D) (ci := 12) (C := RX12) (T := TX12) (N := 71) hx hb hts hiX12 hown hH (zk_30 hF) rfl 31 (by decide) rfl hw5 (fun _ h9 => h9) dX12_letter_60 rfl ?_
        refine lv_iconst (v := nI 1) hx hb dX12_letter_63 (by decide) ?_
        refine lv_icmp_ne (tgt := 71) hx hb dX12_letter_64 (by decide) (fun c247 => ?_) (fun c247 => ?_)
        · have zc247 := c247
          replace zc247 := zc_neq (rfl) (nI_toInt (by omega)) zc247
          refine lv_iconst (v := nI 0) hx hb dX12_letter_71 (by decide) ?_
          refine lv_istore_n (lv' := [(2, .int (nI 0)), (1, .int (nI 0)), (0, .ref (τ.1 30))]) hx hb dX12_letter_72 rfl hl (by decide) rfl (fun ls hl => ?_)
          refine lv_iload_n hx hb dX12_letter_73 rfl (lv_at hl 0 rfl) ?_
          refine lv_if_eq (tgt := 90) hx hb dX12_letter_74 (by decide) (fun c248 => ?_) (fun c248 => absurd (by decide) c248)
          refine lv_aload_n hx hb dX12_letter_90 rfl (lv_at hl 2 rfl) ?_
          refine va_calli (va_runV (As := []) (rest := []) ⟨hx, hb, hml, hown, hts⟩ (m_known l hl0 D A sad τ f237 fr ol hF n hMt l0 hMl) (cwV 0 hts gX12_letter_X12_known rfl rfl rfl (by decide +kernel) ⟨Nat.le_of_ble_eq_true rfl, Nat.le_of_ble_eq_true rfl⟩) ⟨zQc_bl, zRecv hH (zk_30 hF) rfl, zQc_at hz hS hA hH⟩ rfl rfl hl.1 rfl (lv_room (Nat.le_of_ble_eq_true rfl)) dX12_letter_91 ⟨Nat.le_of_ble_eq_true rfl, Nat.le_of_ble_eq_true rfl⟩) hS (fun q _ h => h) (fun q h => h) (fun r249 u9 t9 H1 locs ht9 hvm9 hw hB hz1 hk1 hS => ?_)
          have hH := zMv ht9 hvm9 hB
          generalize H1 = H at hH hS ⊢
          clear hw
          refine lv_istore_n (lv' := [(3, .int r249), (2, .int (nI 0)), (1, .int (nI 0)), (0, .ref (τ.1 30))]) hx hb dX12_letter_94 rfl hl (by decide) rfl (fun ls hl => ?_)
          refine lv_iload_n hx hb dX12_letter_95 rfl (lv_at hl 2 rfl) ?_
          refine lv_if_ne (tgt := 103) hx hb dX12_letter_96 (by decide) (fun c250 => absurd (by decide) c250) (fun c250 => ?_)
          refine lv_iload_n hx hb dX12_letter_99 rfl (lv_at hl 1 rfl) ?_
          refine lv_if_eq (tgt := 122) hx hb dX12_letter_100 (by decide) (fun c251 => ?_) (fun c251 => absurd (by decide) c251)
          refine lv_iconst (v := nI 0) hx hb dX12_letter_122 (by decide) ?_
          refine lv_istore (lv' := [(4, .int (nI 0)), (3, .int r249), (2, .int (nI 0)), (1, .int (nI 0)), (0, .ref (τ.1 30))]) hx hb dX12_letter_123 hl (by decide) rfl (fun ls hl => ?_)
          refine lv_iload hx hb dX12_letter_125 (lv_at hl 0 rfl) ?_
          refine lv_if_eq (tgt := 142) hx hb dX12_letter_127 (by decide) (fun c252 => ?_) (fun c252 => absurd (by decide) c252)
          refine lv_aload_n hx hb dX12_letter_142 rfl (lv_at hl 4 rfl) ?_
          refine zGetI (D := D) (ci := 12) (C := RX12) (T := TX12) (N := 71) hx hb hts hiX12 hown hH (zk_30 hF) rfl 36 (by decide) rfl hw13 (fun _ h9 => h9) dX12_letter_143 rfl ?_
          refine lv_bipush (v := nI 20) hx hb dX12_letter_146 (by decide) ?_
          refine lv_icmp_ne (tgt := 158) hx hb dX12_letter_148 (by decide) (fun c253 => ?_) (fun c253 => ?_)
          · have zc253 := c253
            replace zc253 := zc_neq (rfl) (nI_toInt (by omega)) zc253
            refine lv_iload hx hb dX12_letter_158 (lv_at hl 0 rfl) ?_
            refine lv_if_eq (tgt := 186) hx hb dX12_letter_160 (by decide) (fun c254 => ?_) (fun c254 => absurd (by decide) c254)
            exact hJ133 (f237, nI 0, nI 0, r249) _ _ _ (show (zMl f237 l0 ∧ f237 30 21 = nI 0 ∧ zMo f237 n o ∧ zMq τ f237 fr g Ln d ∧ ∀ a b, ¬ (a = 48 ∨ a = 49 ∨ (a = 30 ∧ (b = 0 ∨ (21 ≤ b ∧ b ≤ 34)))) → f237 a b = fi a b) ∧ zH D A τ f237 fr ol s _ ∧ va_S A s.heap _ _ ∧ lv_has _ 6 [(0, .ref (τ.1 30)), (1, .int (nI 0)), (2, .int (nI 0)), (3, .int r249)] from ⟨⟨hMl, q242, hMo, hMq, fun a b h => by rw [hf238 a b (by omega), ef226, zu_n (by omega), hf117 a b (by omega), ef106, zu_n (by omega), hf21 a b (by omega)]⟩, hH, hS, lv_sub hl [4, 3, 2, 1] rfl⟩)
          · have zc253 := c253
            replace zc253 := zc_eq (rfl) (nI_toInt (by omega)) zc253
            refine lv_aload_n hx hb dX12_letter_151 rfl (lv_at hl 4 rfl) ?_
            refine lv_iconst (v := nI 2) hx hb dX12_letter_152 (by decide) ?_
            refine zPutI (D := D) (ci := 12) (ty := .int) (C := RX12) (T := TX12) (N := 71) hx hb hts hiX12 tyX12 tyX12_ok nmX12 hown hH hS (zk_30 hF) rfl 0 (by decide) rfl hw0 (fun _ h9 => h9) rfl (by decide +kernel) rfl rfl dX12_letter_153 (fun H locs hH hS => ?_)
            obtain ⟨f255, ef255⟩ : ∃ f9 : zFi, f9 = zu f237 30 0 (nI 2) := ⟨_, rfl⟩
            rw [← ef255] at hH
            have q256 : f255 30 45 = nI o := by rw [ef255, zu_n (fun h9 => absurd h9.2 (by decide))]; exact q239
            have q257 : f255 30 35 = nI d := by rw [ef255, zu_n (fun h9 => absurd h9.2 (by decide))]; exact q240
            have q258 : f255 30 2 = nI n := by rw [ef255, zu_n (fun h9 => absurd h9.2 (by decide))]; exact q241
            have q259 : f255 30 21 = nI 0 := by rw [ef255, zu_n (fun h9 => absurd h9.2 (by decide))]; exact q242
            have q260 : f255 30 22 = nI L := by rw [ef255, zu_n (fun h9 => absurd h9.2 (by decide))]; exact q243
            have q261 : f255 30 26 = nI l0 := by rw [ef255, zu_n (fun h9 => absurd h9.2 (by decide))]; exact q245
            have q262 : f255 30 0 = nI 2 := by rw [ef255]; exact zu_s
            have hMt := zMt.ci (fi' := f255) hMt (fun i9 k9 h9 => by rw [ef255]; exact zu_n (by omega))
            have hMo := zMo.ci (fi' := f255) hMo (fun i9 k9 h9 => by rw [ef255]; exact zu_n (by omega))
            have hMq := zMq.ci (fi' := f255) hMq (fun i9 k9 h9 => by rw [ef255]; exact zu_n (by omega))
            have hMl := zMl.ci (fi' := f255) hMl (fun i9 k9 h9 => by rw [ef255]; exact zu_n (by omega))
            refine lv_iconst (v := nI 0) hx hb dX12_letter_156 (by decide) ?_
            refine W.widen (k := 8) (n := 11264) (by decide) (by decide) ?_
            exact W.iret (v := nI 0) hx hb hr (fun t9 ht9 hW9 => ⟨⟨nI 0, (τ, f255, fr), rfl, (show (∃ o2, o ≤ o2 ∧ o2 ≤ o + 1 ∧ zMo f255 n o2) ∧ (∃ g2 L2 d2, d2 ≤ d + 1 ∧ zMq τ f255 fr g2 L2 d2) ∧ f255 30 21 = nI 0 ∧ zGz τ fr τ fr ∧ ∀ a b, ¬ (a = 48 ∨ a = 49 ∨ (50 ≤ a ∧ a ≤ 64) ∨ (200 ≤ a ∧ a < 240) ∨ (a = 30 ∧ (b = 0 ∨ (21 ≤ b ∧ b ≤ 36) ∨ b = 45))) → f255 a b = fi a b from ⟨⟨o, by omega, by omega, hMo⟩, ⟨g, Ln, d, by omega, hMq⟩, q259, zGz.rf hF, fun a b h => by rw [ef255, zu_n (by omega), hf238 a b (by omega), ef226, zu_n (by omega), hf117 a b (by omega), ef106, zu_n (by omega), hf21 a b (by omega)]⟩), zEnd1 hH ht9 hW9⟩, hS.F ht9⟩) hS.2.2 dX12_letter_157
        · have zc247 := c247
          replace zc247 := zc_eq (rfl) (nI_toInt (by omega)) zc247
          obtain ⟨km, hkm, hkq⟩ : ∃ k, k < 8 ∧ f237 30 32 = nI k := by rcases hfm with h9 | h9; (rw [h9] at zc247; exact absurd zc247 (by decide)); exact h9
          refine lv_iconst (v := nI 1) hx hb dX12_letter_67 (by decide) ?_
          refine lv_goto (tgt := 72) hx hb dX12_letter_68 (by decide) ?_
          refine lv_istore_n (lv' := [(2, .int (nI 1)), (1, .int (nI 0)), (0, .ref (τ.1 30))]) hx hb dX12_letter_72 rfl hl (by decide) rfl (fun ls hl => ?_)
          refine lv_iload_n hx hb dX12_letter_73 rfl (lv_at hl 0 rfl) ?_
          refine lv_if_eq (tgt := 90) hx hb dX12_letter_74 (by decide) (fun c263 => absurd c263 (by decide)) (fun c263 => ?_)
          refine lv_aload_n hx hb dX12_letter_77 rfl (lv_at hl 2 rfl) ?_
          refine zGetR (D := D) (ci := 12) (C := RX12) (T := TX12) (N := 71) hx hb hts hiX12 hown hH (zk_30 hF) rfl 27 (by decide) rfl hw15 (fun _ h9 => h9) dX12_letter_78 (zr_30_27 hF) ?_
          refine lv_aload_n hx hb dX12_letter_81 rfl (lv_at hl 2 rfl) ?_
          refine zGetI (D := D) (ci := 12) (C := RX12) (T := TX12) (N := 71) hx hb hts hiX12 hown hH (zk_30 hF) rfl 32 (by decide) rfl hw18 (fun _ h9 => h9) dX12_letter_82 hkq ?_
          refine lv_aload_n hx hb dX12_letter_85 rfl (lv_at hl 2 rfl) ?_
          refine zGetI (D := D) (ci := 12) (C := RX12) (T := TX12) (N := 71) hx hb hts hiX12 hown hH (zk_30 hF) rfl 33 (by decide) rfl hw19 (fun _ h9 => h9) dX12_letter_86 rfl ?_
          refine zIastN (D := D) hx hb hH hS (zk_48 hF) (zn_48 hF) (by omega) (by omega) dX12_letter_89 (fun H locs hH hS => ?_)
          obtain ⟨f264, ef264⟩ : ∃ f9 : zFi, f9 = zu f237 48 km (f237 30 33) := ⟨_, rfl⟩
          rw [← ef264] at hH
          have q265 : f264 30 45 = nI o := by rw [ef264, zu_n (fun h9 => absurd h9.1 (by decide))]; exact q239
          have q266 : f264 30 35 = nI d := by rw [ef264, zu_n (fun h9 => absurd h9.1 (by decide))]; exact q240
          have q267 : f264 30 2 = nI n := by rw [ef264, zu_n (fun h9 => absurd h9.1 (by decide))]; exact q241
          have q268 : f264 30 21 = nI 0 := by rw [ef264, zu_n (fun h9 => absurd h9.1 (by decide))]; exact q242
          have q269 : f264 30 22 = nI L := by rw [ef264, zu_n (fun h9 => absurd h9.1 (by decide))]; exact q243
          have q270 : f264 30 0 = nI 0 := by rw [ef264, zu_n (fun h9 => absurd h9.1 (by decide))]; exact q244
          have q271 : f264 30 26 = nI l0 := by rw [ef264, zu_n (fun h9 => absurd h9.1 (by decide))]; exact q245
          have q272 : f264 30 32 = nI km := by rw [ef264, zu_n (fun h9 => absurd h9.1 (by decide))]; exact hkq
          have q273 : f264 48 km = f237 30 33 := by rw [ef264]; exact zu_s
          have hMt := zMt.ci (fi' := f264) hMt (fun i9 k9 h9 => by rw [ef264]; exact zu_n (by omega))
          have hMo := zMo.ci (fi' := f264) hMo (fun i9 k9 h9 => by rw [ef264]; exact zu_n (by omega))
          have hMq := zMq.ci (fi' := f264) hMq (fun i9 k9 h9 => by rw [ef264]; exact zu_n (by omega))
          have hMl := zMl.ci (fi' := f264) hMl (fun i9 k9 h9 => by rw [ef264]; exact zu_n (by omega))
          refine lv_aload_n hx hb dX12_letter_90 rfl (lv_at hl 2 rfl) ?_
          refine va_calli (va_runV (As := []) (rest := []) ⟨hx, hb, hml, hown, hts⟩ (m_known l hl0 D A sad τ f264 fr ol hF n hMt l0 hMl) (cwV 0 hts gX12_letter_X12_known rfl rfl rfl (by decide +kernel) ⟨Nat.le_of_ble_eq_true rfl, Nat.le_of_ble_eq_true rfl⟩) ⟨zQc_bl, zRecv hH (zk_30 hF) rfl, zQc_at hz hS hA hH⟩ rfl rfl hl.1 rfl (lv_room (Nat.le_of_ble_eq_true rfl)) dX12_letter_91 ⟨Nat.le_of_ble_eq_true rfl, Nat.le_of_ble_eq_true rfl⟩) hS (fun q _ h => h) (fun q h => h) (fun r274 u9 t9 H1 locs ht9 hvm9 hw hB hz1 hk1 hS => ?_)
          have hH := zMv ht9 hvm9 hB
          generalize H1 = H at hH hS ⊢
          clear hw
          refine lv_istore_n (lv' := [(3, .int r274), (2, .int (nI 1)), (1, .int (nI 0)), (0, .ref (τ.1 30))]) hx hb dX12_letter_94 rfl hl (by decide) rfl (fun ls hl => ?_)
          refine lv_iload_n hx hb dX12_letter_95 rfl (lv_at hl 2 rfl) ?_
          refine lv_if_ne (tgt := 103) hx hb dX12_letter_96 (by decide) (fun c275 => absurd (by decide) c275) (fun c275 => ?_)
          refine lv_iload_n hx hb dX12_letter_99 rfl (lv_at hl 1 rfl) ?_
          refine lv_if_eq (tgt := 122) hx hb dX12_letter_100 (by decide) (fun c276 => absurd c276 (by decide)) (fun c276 => ?_)
          refine lv_aload_n hx hb dX12_letter_103 rfl (lv_at hl 3 rfl) ?_
          refine zGetI (D := D) (ci := 12) (C := RX12) (T := TX12) (N := 71) hx hb hts hiX12 hown hH (zk_30 hF) rfl 30 (by decide) rfl hw12 (fun _ h9 => h9) dX12_letter_104 rfl ?_
          refine lv_aload_n hx hb dX12_letter_107 rfl (lv_at hl 3 rfl) ?_
          refine lv_aload_n hx hb dX12_letter_108 rfl (lv_at hl 3 rfl) ?_
          refine zGetI (D := D) (ci := 12) (C := RX12) (T := TX12) (N := 71) hx hb hts hiX12 hown hH (zk_30 hF) rfl 29 (by decide) rfl hw10 (fun _ h9 => h9) dX12_letter_109 rfl ?_
          refine va_calli (va_runV (As := [.int (f264 30 29)]) (rest := [.int (f264 30 30)]) ⟨hx, hb, hml, hown, hts⟩ (m_due l hl0 D A sad τ f264 fr ol (f264 30 29) hF) (cwV 1 hts gX12_letter_X12_due rfl rfl rfl (by decide +kernel) ⟨Nat.le_of_ble_eq_true rfl, Nat.le_of_ble_eq_true rfl⟩) ⟨zQc_bl, zRecv hH (zk_30 hF) rfl, zQc_at hz hS hA hH⟩ rfl rfl hl.1 rfl (lv_room (Nat.le_of_ble_eq_true rfl)) dX12_letter_112 ⟨Nat.le_of_ble_eq_true rfl, Nat.le_of_ble_eq_true rfl⟩) hS (fun q _ h => h) (fun q h => h) (fun r277 u9 t9 H1 locs ht9 hvm9 hw hB hz1 hk1 hS => ?_)
          have hH := zMv ht9 hvm9 hB
          generalize H1 = H at hH hS ⊢
          clear hw
          refine lv_icmp_lt (tgt := 122) hx hb dX12_letter_115 (by decide) (fun c278 => ?_) (fun c278 => ?_)
          · have zc278 := c278
            replace zc278 := zc_lt (rfl) (rfl) zc278
            refine lv_iconst (v := nI 0) hx hb dX12_letter_122 (by decide) ?_
            refine lv_istore (lv' := [(4, .int (nI 0)), (3, .int r274), (2, .int (nI 1)), (1, .int (nI 0)), (0, .ref (τ.1 30))]) hx hb dX12_letter_123 hl (by decide) rfl (fun ls hl => ?_)
            refine lv_iload hx hb dX12_letter_125 (lv_at hl 0 rfl) ?_
            refine lv_if_eq (tgt := 142) hx hb dX12_letter_127 (by decide) (fun c279 => ?_) (fun c279 => absurd (by decide) c279)
            refine lv_aload_n hx hb dX12_letter_142 rfl (lv_at hl 4 rfl) ?_
            refine zGetI (D := D) (ci := 12) (C := RX12) (T := TX12) (N := 71) hx hb hts hiX12 hown hH (zk_30 hF) rfl 36 (by decide) rfl hw13 (fun _ h9 => h9) dX12_letter_143 rfl ?_
            refine lv_bipush (v := nI 20) hx hb dX12_letter_146 (by decide) ?_
            refine lv_icmp_ne (tgt := 158) hx hb dX12_letter_148 (by decide) (fun c280 => ?_) (fun c280 => ?_)
            · have zc280 := c280
              replace zc280 := zc_neq (rfl) (nI_toInt (by omega)) zc280
              refine lv_iload hx hb dX12_letter_158 (lv_at hl 0 rfl) ?_
              refine lv_if_eq (tgt := 186) hx hb dX12_letter_160 (by decide) (fun c281 => ?_) (fun c281 => absurd (by decide) c281)
              exact hJ133 (f264, nI 0, nI 1, r274) _ _ _ (show (zMl f264 l0 ∧ f264 30 21 = nI 0 ∧ zMo f264 n o ∧ zMq τ f264 fr g Ln d ∧ ∀ a b, ¬ (a = 48 ∨ a = 49 ∨ (a = 30 ∧ (b = 0 ∨ (21 ≤ b ∧ b ≤ 34)))) → f264 a b = fi a b) ∧ zH D A τ f264 fr ol s _ ∧ va_S A s.heap _ _ ∧ lv_has _ 6 [(0, .ref (τ.1 30)), (1, .int (nI 0)), (2, .int (nI 1)), (3, .int r274)] from ⟨⟨hMl, q268, hMo, hMq, fun a b h => by rw [ef264, zu_n (by omega), hf238 a b (by omega), ef226, zu_n (by omega), hf117 a b (by omega), ef106, zu_n (by omega), hf21 a b (by omega)]⟩, hH, hS, lv_sub hl [4, 3, 2, 1] rfl⟩)
            · have zc280 := c280
              replace zc280 := zc_eq (rfl) (nI_toInt (by omega)) zc280
              refine lv_aload_n hx hb dX12_letter_151 rfl (lv_at hl 4 rfl) ?_
              refine lv_iconst (v := nI 2) hx hb dX12_letter_152 (by decide) ?_
              refine zPutI (D := D) (ci := 12) (ty := .int) (C := RX12) (T := TX12) (N := 71) hx hb hts hiX12 tyX12 tyX12_ok nmX12 hown hH hS (zk_30 hF) rfl 0 (by decide) rfl hw0 (fun _ h9 => h9) rfl (by decide +kernel) rfl rfl dX12_letter_153 (fun H locs hH hS => ?_)
              obtain ⟨f282, ef282⟩ : ∃ f9 : zFi, f9 = zu f264 30 0 (nI 2) := ⟨_, rfl⟩
              rw [← ef282] at hH
              have q283 : f282 30 45 = nI o := by rw [ef282, zu_n (fun h9 => absurd h9.2 (by decide))]; exact q265
              have q284 : f282 30 35 = nI d := by rw [ef282, zu_n (fun h9 => absurd h9.2 (by decide))]; exact q266
              have q285 : f282 30 2 = nI n := by rw [ef282, zu_n (fun h9 => absurd h9.2 (by decide))]; exact q267
              have q286 : f282 30 21 = nI 0 := by rw [ef282, zu_n (fun h9 => absurd h9.2 (by decide))]; exact q268
              have q287 : f282 30 22 = nI L := by rw [ef282, zu_n (fun h9 => absurd h9.2 (by decide))]; exact q269
              have q288 : f282 30 26 = nI l0 := by rw [ef282, zu_n (fun h9 => absurd h9.2 (by decide))]; exact q271
              have q289 : f282 30 32 = nI km := by rw [ef282, zu_n (fun h9 => absurd h9.2 (by decide))]; exact q272
              have q290 : f282 48 km = f237 30 33 := by rw [ef282, zu_n (fun h9 => absurd h9.1 (by decide))]; exact q273
              have q291 : f282 30 0 = nI 2 := by rw [ef282]; exact zu_s
              have hMt := zMt.ci (fi' := f282) hMt (fun i9 k9 h9 => by rw [ef282]; exact zu_n (by omega))
              have hMo := zMo.ci (fi' := f282) hMo (fun i9 k9 h9 => by rw [ef282]; exact zu_n (by omega))
              have hMq := zMq.ci (fi' := f282) hMq (fun i9 k9 h9 => by rw [ef282]; exact zu_n (by omega))
              have hMl := zMl.ci (fi' := f282) hMl (fun i9 k9 h9 => by rw [ef282]; exact zu_n (by omega))
              refine lv_iconst (v := nI 0) hx hb dX12_letter_156 (by decide) ?_
              refine W.widen (k := 8) (n := 11264) (by decide) (by decide) ?_
              exact W.iret (v := nI 0) hx hb hr (fun t9 ht9 hW9 => ⟨⟨nI 0, (τ, f282, fr), rfl, (show (∃ o2, o ≤ o2 ∧ o2 ≤ o + 1 ∧ zMo f282 n o2) ∧ (∃ g2 L2 d2, d2 ≤ d + 1 ∧ zMq τ f282 fr g2 L2 d2) ∧ f282 30 21 = nI 0 ∧ zGz τ fr τ fr ∧ ∀ a b, ¬ (a = 48 ∨ a = 49 ∨ (50 ≤ a ∧ a ≤ 64) ∨ (200 ≤ a ∧ a < 240) ∨ (a = 30 ∧ (b = 0 ∨ (21 ≤ b ∧ b ≤ 36) ∨ b = 45))) → f282 a b = fi a b from ⟨⟨o, by omega, by omega, hMo⟩, ⟨g, Ln, d, by omega, hMq⟩, q286, zGz.rf hF, fun a b h => by rw [ef282, zu_n (by omega), ef264, zu_n (by omega), hf238 a b (by omega), ef226, zu_n (by omega), hf117 a b (by omega), ef106, zu_n (by omega), hf21 a b (by omega)]⟩), zEnd1 hH ht9 hW9⟩, hS.F ht9⟩) hS.2.2 dX12_letter_157
          · have zc278 := c278
            replace zc278 := zc_nlt (rfl) (rfl) zc278
            refine lv_iconst (v := nI 1) hx hb dX12_letter_118 (by decide) ?_
            refine lv_goto (tgt := 123) hx hb dX12_letter_119 (by decide) ?_
            refine lv_istore (lv' := [(4, .int (nI 1)), (3, .int r274), (2, .int (nI 1)), (1, .int (nI 0)), (0, .ref (τ.1 30))]) hx hb dX12_letter_123 hl (by decide) rfl (fun ls hl => ?_)
            refine lv_iload hx hb dX12_letter_125 (lv_at hl 0 rfl) ?_
            refine lv_if_eq (tgt := 142) hx hb dX12_letter_127 (by decide) (fun c292 => absurd c292 (by decide)) (fun c292 => ?_)
            refine lv_aload_n hx hb dX12_letter_130 rfl (lv_at hl 4 rfl) ?_
            refine zGetI (D := D) (ci := 12) (C := RX12) (T := TX12) (N := 71) hx hb hts hiX12 hown hH (zk_30 hF) rfl 45 (by decide) rfl hw20 (fun _ h9 => h9) dX12_letter_131 q265 ?_
            refine lv_bipush (v := nI 60) hx hb dX12_letter_134 (by decide) ?_
            refine lv_icmp_ne (tgt := 158) hx hb dX12_letter_136 (by decide) (fun c293 => ?_) (fun c293 => ?_)
            · have zc293 := c293
              replace zc293 := zc_neq (nI_toInt (by omega)) (nI_toInt (by omega)) zc293
              refine lv_iload hx hb dX12_letter_158 (lv_at hl 0 rfl) ?_
              refine lv_if_eq (tgt := 186) hx hb dX12_letter_160 (by decide) (fun c294 => absurd c294 (by decide)) (fun c294 => ?_)
              refine lv_aload_n hx hb dX12_letter_163 rfl (lv_at hl 4 rfl) ?_
              refine lv_dup hx hb dX12_letter_164 rfl ?_
              refine zGetI (D := D) (ci := 12) (C := RX12) (T := TX12) (N := 71) hx hb hts hiX12 hown hH (zk_30 hF) rfl 34 (by decide) rfl hw21 (fun _ h9 => h9) dX12_letter_165 rfl ?_
              refine lv_iload_n hx hb dX12_letter_168 rfl (lv_at hl 2 rfl) ?_
              refine lv_if_eq (tgt := 176) hx hb dX12_letter_169 (by decide) (fun c295 => absurd c295 (by decide)) (fun c295 => ?_)
              refine lv_iconst (v := nI 1) hx hb dX12_letter_172 (by decide) ?_
              refine lv_goto (tgt := 177) hx hb dX12_letter_173 (by decide) ?_
              refine lv_iadd hx hb dX12_letter_177 ?_
              refine lv_topi (fun v296 ev296 => ?_)
              refine zPutI (D := D) (ci := 12) (ty := .int) (C := RX12) (T := TX12) (N := 71) hx hb hts hiX12 tyX12 tyX12_ok nmX12 hown hH hS (zk_30 hF) rfl 34 (by decide) rfl hw21 (fun _ h9 => h9) rfl (by decide +kernel) rfl rfl dX12_letter_178 (fun H locs hH hS => ?_)
              obtain ⟨f297, ef297⟩ : ∃ f9 : zFi, f9 = zu f264 30 34 v296 := ⟨_, rfl⟩
              rw [← ef297] at hH
              have q298 : f297 30 45 = nI o := by rw [ef297, zu_n (fun h9 => absurd h9.2 (by decide))]; exact q265
              have q299 : f297 30 35 = nI d := by rw [ef297, zu_n (fun h9 => absurd h9.2 (by decide))]; exact q266
              have q300 : f297 30 2 = nI n := by rw [ef297, zu_n (fun h9 => absurd h9.2 (by decide))]; exact q267
              have q301 : f297 30 21 = nI 0 := by rw [ef297, zu_n (fun h9 => absurd h9.2 (by decide))]; exact q268
              have q302 : f297 30 22 = nI L := by rw [ef297, zu_n (fun h9 => absurd h9.2 (by decide))]; exact q269
              have q303 : f297 30 0 = nI 0 := by rw [ef297, zu_n (fun h9 => absurd h9.2 (by decide))]; exact q270
              have q304 : f297 30 26 = nI l0 := by rw [ef297, zu_n (fun h9 => absurd h9.2 (by decide))]; exact q271
              have q305 : f297 30 32 = nI km := by rw [ef297, zu_n (fun h9 => absurd h9.2 (by decide))]; exact q272
              have q306 : f297 48 km = f237 30 33 := by rw [ef297, zu_n (fun h9 => absurd h9.1 (by decide))]; exact q273
              have q307 : f297 30 34 = v296 := by rw [ef297]; exact zu_s
              have hMt := zMt.ci (fi' := f297) hMt (fun i9 k9 h9 => by rw [ef297]; exact zu_n (by omega))
              have hMo := zMo.ci (fi' := f297) hMo (fun i9 k9 h9 => by rw [ef297]; exact zu_n (by omega))
              have hMq := zMq.ci (fi' := f297) hMq (fun i9 k9 h9 => by rw [ef297]; exact zu_n (by omega))
              have hMl := zMl.ci (fi' := f297) hMl (fun i9 k9 h9 => by rw [ef297]; exact zu_n (by omega))
              refine lv_aload_n hx hb dX12_letter_181 rfl (lv_at hl 4 rfl) ?_
              refine va_calli (va_runV (As := []) (rest := []) ⟨hx, hb, hml, hown, hts⟩ (m_makeOrder l hl0 D A sad τ f297 fr ol hF n hMt l0 hMl o hMo (by omega)) (cwV 0 hts gX12_letter_X12_makeOrder rfl rfl rfl (by decide +kernel) ⟨Nat.le_of_ble_eq_true rfl, Nat.le_of_ble_eq_true rfl⟩) ⟨zQc_bl, zRecv hH (zk_30 hF) rfl, zQc_at hz hS hA hH⟩ rfl rfl hl.1 rfl (lv_room (Nat.le_of_ble_eq_true rfl)) dX12_letter_182 ⟨Nat.le_of_ble_eq_true rfl, Nat.le_of_ble_eq_true rfl⟩) hS (fun q _ h => h) (fun q h => h) (fun r308 u9 t9 H1 locs ht9 hvm9 hw hB hz1 hk1 hS => ?_)
              have hH := zMv ht9 hvm9 hB
              clear hB
              generalize u9 = f309 at hw hH
              generalize H1 = H at hH hS ⊢
              obtain ⟨rfl, hMo, hf310⟩ := hw
              have q311 : f309 30 35 = nI d := by rw [hf310 30 35 (by omega)]; exact q299
              have q312 : f309 30 2 = nI n := by rw [hf310 30 2 (by omega)]; exact q300
              have q313 : f309 30 21 = nI 0 := by rw [hf310 30 21 (by omega)]; exact q301
              have q314 : f309 30 22 = nI L := by rw [hf310 30 22 (by omega)]; exact q302
              have q315 : f309 30 0 = nI 0 := by rw [hf310 30 0 (by omega)]; exact q303
              have q316 : f309 30 26 = nI l0 := by rw [hf310 30 26 (by omega)]; exact q304
              have q317 : f309 30 32 = nI km := by rw [hf310 30 32 (by omega)]; exact q305
              have q318 : f309 48 km = f237 30 33 := by rw [hf310 48 km (by omega)]; exact q306
              have q319 : f309 30 34 = v296 := by rw [hf310 30 34 (by omega)]; exact q307
              have hMt := zMt.ci (fi' := f309) hMt (fun i9 k9 h9 => hf310 i9 k9 (by omega))
              have hMq := zMq.ci (fi' := f309) hMq (fun i9 k9 h9 => hf310 i9 k9 (by omega))
              have hMl := zMl.ci (fi' := f309) hMl (fun i9 k9 h9 => hf310 i9 k9 (by omega))
              refine W.widen (k := 8) (n := 11264) (by decide) (by decide) ?_
              exact W.iret (v := nI o) hx hb hr (fun t9 ht9 hW9 => ⟨⟨nI o, (τ, f309, fr), rfl, (show (∃ o2, o ≤ o2 ∧ o2 ≤ o + 1 ∧ zMo f309 n o2) ∧ (∃ g2 L2 d2, d2 ≤ d + 1 ∧ zMq τ f309 fr g2 L2 d2) ∧ f309 30 21 = nI 0 ∧ zGz τ fr τ fr ∧ ∀ a b, ¬ (a = 48 ∨ a = 49 ∨ (50 ≤ a ∧ a ≤ 64) ∨ (200 ≤ a ∧ a < 240) ∨ (a = 30 ∧ (b = 0 ∨ (21 ≤ b ∧ b ≤ 36) ∨ b = 45))) → f309 a b = fi a b from ⟨⟨o + 1, by omega, by omega, hMo⟩, ⟨g, Ln, d, by omega, hMq⟩, q313, zGz.rf hF, fun a b h => by rw [hf310 a b (by omega), ef297, zu_n (by omega), ef264, zu_n (by omega), hf238 a b (by omega), ef226, zu_n (by omega), hf117 a b (by omega), ef106, zu_n (by omega), hf21 a b (by omega)]⟩), zEnd1 hH ht9 hW9⟩, hS.F ht9⟩) hS.2.2 dX12_letter_185
            · have zc293 := c293
              replace zc293 := zc_eq (nI_toInt (by omega)) (nI_toInt (by omega)) zc293
              refine lv_goto (tgt := 151) hx hb dX12_letter_139 (by decide) ?_
              refine lv_aload_n hx hb dX12_letter_151 rfl (lv_at hl 4 rfl) ?_
              refine lv_iconst (v := nI 2) hx hb dX12_letter_152 (by decide) ?_
              refine zPutI (D := D) (ci := 12) (ty := .int) (C := RX12) (T := TX12) (N := 71) hx hb hts hiX12 tyX12 tyX12_ok nmX12 hown hH hS (zk_30 hF) rfl 0 (by decide) rfl hw0 (fun _ h9 => h9) rfl (by decide +kernel) rfl rfl dX12_letter_153 (fun H locs hH hS => ?_)
              obtain ⟨f320, ef320⟩ : ∃ f9 : zFi, f9 = zu f264 30 0 (nI 2) := ⟨_, rfl⟩
              rw [← ef320] at hH
              have q321 : f320 30 45 = nI o := by rw [ef320, zu_n (fun h9 => absurd h9.2 (by decide))]; exact q265
              have q322 : f320 30 35 = nI d := by rw [ef320, zu_n (fun h9 => absurd h9.2 (by decide))]; exact q266
              have q323 : f320 30 2 = nI n := by rw [ef320, zu_n (fun h9 => absurd h9.2 (by decide))]; exact q267
              have q324 : f320 30 21 = nI 0 := by rw [ef320, zu_n (fun h9 => absurd h9.2 (by decide))]; exact q268
              have q325 : f320 30 22 = nI L := by rw [ef320, zu_n (fun h9 => absurd h9.2 (by decide))]; exact q269
              have q326 : f320 30 26 = nI l0 := by rw [ef320, zu_n (fun h9 => absurd h9.2 (by decide))]; exact q271
              have q327 : f320 30 32 = nI km := by rw [ef320, zu_n (fun h9 => absurd h9.2 (by decide))]; exact q272
              have q328 : f320 48 km = f237 30 33 := by rw [ef320, zu_n (fun h9 => absurd h9.1 (by decide))]; exact q273
              have q329 : f320 30 0 = nI 2 := by rw [ef320]; exact zu_s
              have hMt := zMt.ci (fi' := f320) hMt (fun i9 k9 h9 => by rw [ef320]; exact zu_n (by omega))
              have hMo := zMo.ci (fi' := f320) hMo (fun i9 k9 h9 => by rw [ef320]; exact zu_n (by omega))
              have hMq := zMq.ci (fi' := f320) hMq (fun i9 k9 h9 => by rw [ef320]; exact zu_n (by omega))
              have hMl := zMl.ci (fi' := f320) hMl (fun i9 k9 h9 => by rw [ef320]; exact zu_n (by omega))
              refine lv_iconst (v := nI 0) hx hb dX12_letter_156 (by decide) ?_
              refine W.widen (k := 8) (n := 11264) (by decide) (by decide) ?_
              exact W.iret (v := nI 0) hx hb hr (fun t9 ht9 hW9 => ⟨⟨nI 0, (τ, f320, fr), rfl, (show (∃ o2, o ≤ o2 ∧ o2 ≤ o + 1 ∧ zMo f320 n o2) ∧ (∃ g2 L2 d2, d2 ≤ d + 1 ∧ zMq τ f320 fr g2 L2 d2) ∧ f320 30 21 = nI 0 ∧ zGz τ fr τ fr ∧ ∀ a b, ¬ (a = 48 ∨ a = 49 ∨ (50 ≤ a ∧ a ≤ 64) ∨ (200 ≤ a ∧ a < 240) ∨ (a = 30 ∧ (b = 0 ∨ (21 ≤ b ∧ b ≤ 36) ∨ b = 45))) → f320 a b = fi a b from ⟨⟨o, by omega, by omega, hMo⟩, ⟨g, Ln, d, by omega, hMq⟩, q324, zGz.rf hF, fun a b h => by rw [ef320, zu_n (by omega), ef264, zu_n (by omega), hf238 a b (by omega), ef226, zu_n (by omega), hf117 a b (by omega), ef106, zu_n (by omega), hf21 a b (by omega)]⟩), zEnd1 hH ht9 hW9⟩, hS.F ht9⟩) hS.2.2 dX12_letter_157
      · have zc225 := c225
        replace zc225 := zc_eq (rfl) (rfl) zc225
        refine lv_iconst (v := nI 1) hx hb dX12_letter_36 (by decide) ?_
        refine lv_goto (tgt := 41) hx hb dX12_letter_37 (by decide) ?_
        refine lv_istore_n (lv' := [(1, .int (nI 1)), (0, .ref (τ.1 30))]) hx hb dX12_letter_41 rfl hl (by decide) rfl (fun ls hl => ?_)
        refine lv_aload_n hx hb dX12_letter_42 rfl (lv_at hl 1 rfl) ?_
        refine lv_iconst (v := nI 0) hx hb dX12_letter_43 (by decide) ?_
        refine zPutI (D := D) (ci := 12) (ty := .int) (C := RX12) (T := TX12) (N := 71) hx hb hts hiX12 tyX12 tyX12_ok nmX12 hown hH hS (zk_30 hF) rfl 31 (by decide) rfl hw5 (fun _ h9 => h9) rfl (by decide +kernel) rfl rfl dX12_letter_44 (fun H locs hH hS => ?_)
        obtain ⟨f330, ef330⟩ : ∃ f9 : zFi, f9 = zu f115 30 31 (nI 0) := ⟨_, rfl⟩
        rw [← ef330] at hH
        have q331 : f330 30 45 = nI o := by rw [ef330, zu_n (fun h9 => absurd h9.2 (by decide))]; exact q118
        have q332 : f330 30 35 = nI d := by rw [ef330, zu_n (fun h9 => absurd h9.2 (by decide))]; exact q119
        have q333 : f330 30 2 = nI n := by rw [ef330, zu_n (fun h9 => absurd h9.2 (by decide))]; exact q120
        have q334 : f330 30 21 = nI 0 := by rw [ef330, zu_n (fun h9 => absurd h9.2 (by decide))]; exact q121
        have q335 : f330 30 22 = nI L := by rw [ef330, zu_n (fun h9 => absurd h9.2 (by decide))]; exact q122
        have q336 : f330 30 0 = nI 0 := by rw [ef330, zu_n (fun h9 => absurd h9.2 (by decide))]; exact q123
        have q337 : f330 30 26 = nI l0 := by rw [ef330, zu_n (fun h9 => absurd h9.2 (by decide))]; exact hMl.2.1
        have q338 : f330 30 31 = nI 0 := by rw [ef330]; exact zu_s
        have hMt := zMt.ci (fi' := f330) hMt (fun i9 k9 h9 => by rw [ef330]; exact zu_n (by omega))
        have hMo := zMo.ci (fi' := f330) hMo (fun i9 k9 h9 => by rw [ef330]; exact zu_n (by omega))
        have hMq := zMq.ci (fi' := f330) hMq (fun i9 k9 h9 => by rw [ef330]; exact zu_n (by omega))
        have hMl := zMl.ci (fi' := f330) hMl (fun i9 k9 h9 => by rw [ef330]; exact zu_n (by omega))
        refine lv_iload_n hx hb dX12_letter_47 rfl (lv_at hl 0 rfl) ?_
        refine lv_if_ne (tgt := 55) hx hb dX12_letter_48 (by decide) (fun c339 => ?_) (fun c339 => absurd c339 (by decide))
        refine lv_iload_n hx hb dX12_letter_55 rfl (lv_at hl 0 rfl) ?_
        refine lv_if_ne (tgt := 71) hx hb dX12_letter_56 (by decide) (fun c340 => ?_) (fun c340 => absurd c340 (by decide))
        refine lv_iconst (v := nI 0) hx hb dX12_letter_71 (by decide) ?_
        refine lv_istore_n (lv' := [(2, .int (nI 0)), (1, .int (nI 1)), (0, .ref (τ.1 30))]) hx hb dX12_letter_72 rfl hl (by decide) rfl (fun ls hl => ?_)
        refine lv_iload_n hx hb dX12_letter_73 rfl (lv_at hl 0 rfl) ?_
        refine lv_if_eq (tgt := 90) hx hb dX12_letter_74 (by decide) (fun c341 => ?_) (fun c341 => absurd (by decide) c341)
        refine lv_aload_n hx hb dX12_letter_90 rfl (lv_at hl 2 rfl) ?_
        refine va_calli (va_runV (As := []) (rest := []) ⟨hx, hb, hml, hown, hts⟩ (m_known l hl0 D A sad τ f330 fr ol hF n hMt l0 hMl) (cwV 0 hts gX12_letter_X12_known rfl rfl rfl (by decide +kernel) ⟨Nat.le_of_ble_eq_true rfl, Nat.le_of_ble_eq_true rfl⟩) ⟨zQc_bl, zRecv hH (zk_30 hF) rfl, zQc_at hz hS hA hH⟩ rfl rfl hl.1 rfl (lv_room (Nat.le_of_ble_eq_true rfl)) dX12_letter_91 ⟨Nat.le_of_ble_eq_true rfl, Nat.le_of_ble_eq_true rfl⟩) hS (fun q _ h => h) (fun q h => h) (fun r342 u9 t9 H1 locs ht9 hvm9 hw hB hz1 hk1 hS => ?_)
        have hH := zMv ht9 hvm9 hB
        generalize H1 = H at hH hS ⊢
        clear hw
        refine lv_istore_n (lv' := [(3, .int r342), (2, .int (nI 0)), (1, .int (nI 1)), (0, .ref (τ.1 30))]) hx hb dX12_letter_94 rfl hl (by decide) rfl (fun ls hl => ?_)
        refine lv_iload_n hx hb dX12_letter_95 rfl (lv_at hl 2 rfl) ?_
        refine lv_if_ne (tgt := 103) hx hb dX12_letter_96 (by decide) (fun c343 => ?_) (fun c343 => absurd c343 (by decide))
        refine lv_aload_n hx hb dX12_letter_103 rfl (lv_at hl 3 rfl) ?_
        refine zGetI (D := D) (ci := 12) (C := RX12) (T := TX12) (N := 71) hx hb hts hiX12 hown hH (zk_30 hF) rfl 30 (by decide) rfl hw12 (fun _ h9 => h9) dX12_letter_104 rfl ?_
        refine lv_aload_n hx hb dX12_letter_107 rfl (lv_at hl 3 rfl) ?_
        refine lv_aload_n hx hb dX12_letter_108 rfl (lv_at hl 3 rfl) ?_
        refine zGetI (D := D) (ci := 12) (C := RX12) (T := TX12) (N := 71) hx hb hts hiX12 hown hH (zk_30 hF) rfl 29 (by decide) rfl hw10 (fun _ h9 => h9) dX12_letter_109 rfl ?_
        refine va_calli (va_runV (As := [.int (f330 30 29)]) (rest := [.int (f330 30 30)]) ⟨hx, hb, hml, hown, hts⟩ (m_due l hl0 D A sad τ f330 fr ol (f330 30 29) hF) (cwV 1 hts gX12_letter_X12_due rfl rfl rfl (by decide +kernel) ⟨Nat.le_of_ble_eq_true rfl, Nat.le_of_ble_eq_true rfl⟩) ⟨zQc_bl, zRecv hH (zk_30 hF) rfl, zQc_at hz hS hA hH⟩ rfl rfl hl.1 rfl (lv_room (Nat.le_of_ble_eq_true rfl)) dX12_letter_112 ⟨Nat.le_of_ble_eq_true rfl, Nat.le_of_ble_eq_true rfl⟩) hS (fun q _ h => h) (fun q h => h) (fun r344 u9 t9 H1 locs ht9 hvm9 hw hB hz1 hk1 hS => ?_)
        have hH := zMv ht9 hvm9 hB
        generalize H1 = H at hH hS ⊢
        clear hw
        refine lv_icmp_lt (tgt := 122) hx hb dX12_letter_115 (by decide) (fun c345 => ?_) (fun c345 => ?_)
        · have zc345 := c345
          replace zc345 := zc_lt (rfl) (rfl) zc345
          refine lv_iconst (v := nI 0) hx hb dX12_letter_122 (by decide) ?_
          refine lv_istore (lv' := [(4, .int (nI 0)), (3, .int r342), (2, .int (nI 0)), (1, .int (nI 1)), (0, .ref (τ.1 30))]) hx hb dX12_letter_123 hl (by decide) rfl (fun ls hl => ?_)
          refine lv_iload hx hb dX12_letter_125 (lv_at hl 0 rfl) ?_
          refine lv_if_eq (tgt := 142) hx hb dX12_letter_127 (by decide) (fun c346 => ?_) (fun c346 => absurd (by decide) c346)
          refine lv_aload_n hx hb dX12_letter_142 rfl (lv_at hl 4 rfl) ?_
          refine zGetI (D := D) (ci := 12) (C := RX12) (T := TX12) (N := 71) hx hb hts hiX12 hown hH (zk_30 hF) rfl 36 (by decide) rfl hw13 (fun _ h9 => h9) dX12_letter_143 rfl ?_
          refine lv_bipush (v := nI 20) hx hb dX12_letter_146 (by decide) ?_
          refine lv_icmp_ne (tgt := 158) hx hb dX12_letter_148 (by decide) (fun c347 => ?_) (fun c347 => ?_)
          · have zc347 := c347
            replace zc347 := zc_neq (rfl) (nI_toInt (by omega)) zc347
            refine lv_iload hx hb dX12_letter_158 (lv_at hl 0 rfl) ?_
            refine lv_if_eq (tgt := 186) hx hb dX12_letter_160 (by decide) (fun c348 => ?_) (fun c348 => absurd (by decide) c348)
            exact hJ133 (f330, nI 1, nI 0, r342) _ _ _ (show (zMl f330 l0 ∧ f330 30 21 = nI 0 ∧ zMo f330 n o ∧ zMq τ f330 fr g Ln d ∧ ∀ a b, ¬ (a = 48 ∨ a = 49 ∨ (a = 30 ∧ (b = 0 ∨ (21 ≤ b ∧ b ≤ 34)))) → f330 a b = fi a b) ∧ zH D A τ f330 fr ol s _ ∧ va_S A s.heap _ _ ∧ lv_has _ 6 [(0, .ref (τ.1 30)), (1, .int (nI 1)), (2, .int (nI 0)), (3, .int r342)] from ⟨⟨hMl, q334, hMo, hMq, fun a b h => by rw [ef330, zu_n (by omega), hf117 a b (by omega), ef106, zu_n (by omega), hf21 a b (by omega)]⟩, hH, hS, lv_sub hl [4, 3, 2, 1] rfl⟩)
          · have zc347 := c347
            replace zc347 := zc_eq (rfl) (nI_toInt (by omega)) zc347
            refine lv_aload_n hx hb dX12_letter_151 rfl (lv_at hl 4 rfl) ?_
            refine lv_iconst (v := nI 2) hx hb dX12_letter_152 (by decide) ?_
            refine zPutI (D := D) (ci := 12) (ty := .int) (C := RX12) (T := TX12) (N := 71) hx hb hts hiX12 tyX12 tyX12_ok nmX12 hown hH hS (zk_30 hF) rfl 0 (by decide) rfl hw0 (fun _ h9 => h9) rfl (by decide +kernel) rfl rfl dX12_letter_153 (fun H locs hH hS => ?_)
            obtain ⟨f349, ef349⟩ : ∃ f9 : zFi, f9 = zu f330 30 0 (nI 2) := ⟨_, rfl⟩
            rw [← ef349] at hH
            have q350 : f349 30 45 = nI o := by rw [ef349, zu_n (fun h9 => absurd h9.2 (by decide))]; exact q331
            have q351 : f349 30 35 = nI d := by rw [ef349, zu_n (fun h9 => absurd h9.2 (by decide))]; exact q332
            have q352 : f349 30 2 = nI n := by rw [ef349, zu_n (fun h9 => absurd h9.2 (by decide))]; exact q333
            have q353 : f349 30 21 = nI 0 := by rw [ef349, zu_n (fun h9 => absurd h9.2 (by decide))]; exact q334
            have q354 : f349 30 22 = nI L := by rw [ef349, zu_n (fun h9 => absurd h9.2 (by decide))]; exact q335
            have q355 : f349 30 26 = nI l0 := by rw [ef349, zu_n (fun h9 => absurd h9.2 (by decide))]; exact q337
            have q356 : f349 30 31 = nI 0 := by rw [ef349, zu_n (fun h9 => absurd h9.2 (by decide))]; exact q338
            have q357 : f349 30 0 = nI 2 := by rw [ef349]; exact zu_s
            have hMt := zMt.ci (fi' := f349) hMt (fun i9 k9 h9 => by rw [ef349]; exact zu_n (by omega))
            have hMo := zMo.ci (fi' := f349) hMo (fun i9 k9 h9 => by rw [ef349]; exact zu_n (by omega))
            have hMq := zMq.ci (fi' := f349) hMq (fun i9 k9 h9 => by rw [ef349]; exact zu_n (by omega))
            have hMl := zMl.ci (fi' := f349) hMl (fun i9 k9 h9 => by rw [ef349]; exact zu_n (by omega))
            refine lv_iconst (v := nI 0) hx hb dX12_letter_156 (by decide) ?_
            refine W.widen (k := 8) (n := 11264) (by decide) (by decide) ?_
            exact W.iret (v := nI 0) hx hb hr (fun t9 ht9 hW9 => ⟨⟨nI 0, (τ, f349, fr), rfl, (show (∃ o2, o ≤ o2 ∧ o2 ≤ o + 1 ∧ zMo f349 n o2) ∧ (∃ g2 L2 d2, d2 ≤ d + 1 ∧ zMq τ f349 fr g2 L2 d2) ∧ f349 30 21 = nI 0 ∧ zGz τ fr τ fr ∧ ∀ a b, ¬ (a = 48 ∨ a = 49 ∨ (50 ≤ a ∧ a ≤ 64) ∨ (200 ≤ a ∧ a < 240) ∨ (a = 30 ∧ (b = 0 ∨ (21 ≤ b ∧ b ≤ 36) ∨ b = 45))) → f349 a b = fi a b from ⟨⟨o, by omega, by omega, hMo⟩, ⟨g, Ln, d, by omega, hMq⟩, q353, zGz.rf hF, fun a b h => by rw [ef349, zu_n (by omega), ef330, zu_n (by omega), hf117 a b (by omega), ef106, zu_n (by omega), hf21 a b (by omega)]⟩), zEnd1 hH ht9 hW9⟩, hS.F ht9⟩) hS.2.2 dX12_letter_157
        · have zc345 := c345
          replace zc345 := zc_nlt (rfl) (rfl) zc345
          refine lv_iconst (v := nI 1) hx hb dX12_letter_118 (by decide) ?_
          refine lv_goto (tgt := 123) hx hb dX12_letter_119 (by decide) ?_
          refine lv_istore (lv' := [(4, .int (nI 1)), (3, .int r342), (2, .int (nI 0)), (1, .int (nI 1)), (0, .ref (τ.1 30))]) hx hb dX12_letter_123 hl (by decide) rfl (fun ls hl => ?_)
          refine lv_iload hx hb dX12_letter_125 (lv_at hl 0 rfl) ?_
          refine lv_if_eq (tgt := 142) hx hb dX12_letter_127 (by decide) (fun c358 => absurd c358 (by decide)) (fun c358 => ?_)
          refine lv_aload_n hx hb dX12_letter_130 rfl (lv_at hl 4 rfl) ?_
          refine zGetI (D := D) (ci := 12) (C := RX12) (T := TX12) (N := 71) hx hb hts hiX12 hown hH (zk_30 hF) rfl 45 (by decide) rfl hw20 (fun _ h9 => h9) dX12_letter_131 q331 ?_
          refine lv_bipush (v := nI 60) hx hb dX12_letter_134 (by decide) ?_
          refine lv_icmp_ne (tgt := 158) hx hb dX12_letter_136 (by decide) (fun c359 => ?_) (fun c359 => ?_)
          · have zc359 := c359
            replace zc359 := zc_neq (nI_toInt (by omega)) (nI_toInt (by omega)) zc359
            refine lv_iload hx hb dX12_letter_158 (lv_at hl 0 rfl) ?_
            refine lv_if_eq (tgt := 186) hx hb dX12_letter_160 (by decide) (fun c360 => absurd c360 (by decide)) (fun c360 => ?_)
            refine lv_aload_n hx hb dX12_letter_163 rfl (lv_at hl 4 rfl) ?_
            refine lv_dup hx hb dX12_letter_164 rfl ?_
            refine zGetI (D := D) (ci := 12) (C := RX12) (T := TX12) (N := 71) hx hb hts hiX12 hown hH (zk_30 hF) rfl 34 (by decide) rfl hw21 (fun _ h9 => h9) dX12_letter_165 rfl ?_
            refine lv_iload_n hx hb dX12_letter_168 rfl (lv_at hl 2 rfl) ?_
            refine lv_if_eq (tgt := 176) hx hb dX12_letter_169 (by decide) (fun c361 => ?_) (fun c361 => absurd (by decide) c361)
            refine lv_iconst (v := nI 0) hx hb dX12_letter_176 (by decide) ?_
            refine lv_iadd hx hb dX12_letter_177 ?_
            refine lv_topi (fun v362 ev362 => ?_)
            refine zPutI (D := D) (ci := 12) (ty := .int) (C := RX12) (T := TX12) (N := 71) hx hb hts hiX12 tyX12 tyX12_ok nmX12 hown hH hS (zk_30 hF) rfl 34 (by decide) rfl hw21 (fun _ h9 => h9) rfl (by decide +kernel) rfl rfl dX12_letter_178 (fun H locs hH hS => ?_)
            obtain ⟨f363, ef363⟩ : ∃ f9 : zFi, f9 = zu f330 30 34 v362 := ⟨_, rfl⟩
            rw [← ef363] at hH
            have q364 : f363 30 45 = nI o := by rw [ef363, zu_n (fun h9 => absurd h9.2 (by decide))]; exact q331
            have q365 : f363 30 35 = nI d := by rw [ef363, zu_n (fun h9 => absurd h9.2 (by decide))]; exact q332
            have q366 : f363 30 2 = nI n := by rw [ef363, zu_n (fun h9 => absurd h9.2 (by decide))]; exact q333
            have q367 : f363 30 21 = nI 0 := by rw [ef363, zu_n (fun h9 => absurd h9.2 (by decide))]; exact q334
            have q368 : f363 30 22 = nI L := by rw [ef363, zu_n (fun h9 => absurd h9.2 (by decide))]; exact q335
            have q369 : f363 30 0 = nI 0 := by rw [ef363, zu_n (fun h9 => absurd h9.2 (by decide))]; exact q336
            have q370 : f363 30 26 = nI l0 := by rw [ef363, zu_n (fun h9 => absurd h9.2 (by decide))]; exact q337
            have q371 : f363 30 31 = nI 0 := by rw [ef363, zu_n (fun h9 => absurd h9.2 (by decide))]; exact q338
            have q372 : f363 30 34 = v362 := by rw [ef363]; exact zu_s
            have hMt := zMt.ci (fi' := f363) hMt (fun i9 k9 h9 => by rw [ef363]; exact zu_n (by omega))
            have hMo := zMo.ci (fi' := f363) hMo (fun i9 k9 h9 => by rw [ef363]; exact zu_n (by omega))
            have hMq := zMq.ci (fi' := f363) hMq (fun i9 k9 h9 => by rw [ef363]; exact zu_n (by omega))
            have hMl := zMl.ci (fi' := f363) hMl (fun i9 k9 h9 => by rw [ef363]; exact zu_n (by omega))
            refine lv_aload_n hx hb dX12_letter_181 rfl (lv_at hl 4 rfl) ?_
            refine va_calli (va_runV (As := []) (rest := []) ⟨hx, hb, hml, hown, hts⟩ (m_makeOrder l hl0 D A sad τ f363 fr ol hF n hMt l0 hMl o hMo (by omega)) (cwV 0 hts gX12_letter_X12_makeOrder rfl rfl rfl (by decide +kernel) ⟨Nat.le_of_ble_eq_true rfl, Nat.le_of_ble_eq_true rfl⟩) ⟨zQc_bl, zRecv hH (zk_30 hF) rfl, zQc_at hz hS hA hH⟩ rfl rfl hl.1 rfl (lv_room (Nat.le_of_ble_eq_true rfl)) dX12_letter_182 ⟨Nat.le_of_ble_eq_true rfl, Nat.le_of_ble_eq_true rfl⟩) hS (fun q _ h => h) (fun q h => h) (fun r373 u9 t9 H1 locs ht9 hvm9 hw hB hz1 hk1 hS => ?_)
            have hH := zMv ht9 hvm9 hB
            clear hB
            generalize u9 = f374 at hw hH
            generalize H1 = H at hH hS ⊢
            obtain ⟨rfl, hMo, hf375⟩ := hw
            have q376 : f374 30 35 = nI d := by rw [hf375 30 35 (by omega)]; exact q365
            have q377 : f374 30 2 = nI n := by rw [hf375 30 2 (by omega)]; exact q366
            have q378 : f374 30 21 = nI 0 := by rw [hf375 30 21 (by omega)]; exact q367
            have q379 : f374 30 22 = nI L := by rw [hf375 30 22 (by omega)]; exact q368
            have q380 : f374 30 0 = nI 0 := by rw [hf375 30 0 (by omega)]; exact q369
            have q381 : f374 30 26 = nI l0 := by rw [hf375 30 26 (by omega)]; exact q370
            have q382 : f374 30 31 = nI 0 := by rw [hf375 30 31 (by omega)]; exact q371
            have q383 : f374 30 34 = v362 := by rw [hf375 30 34 (by omega)]; exact q372
            have hMt := zMt.ci (fi' := f374) hMt (fun i9 k9 h9 => hf375 i9 k9 (by omega))
            have hMq := zMq.ci (fi' := f374) hMq (fun i9 k9 h9 => hf375 i9 k9 (by omega))
            have hMl := zMl.ci (fi' := f374) hMl (fun i9 k9 h9 => hf375 i9 k9 (by omega))
            refine W.widen (k := 8) (n := 11264) (by decide) (by decide) ?_
            exact W.iret (v := nI o) hx hb hr (fun t9 ht9 hW9 => ⟨⟨nI o, (τ, f374, fr), rfl, (show (∃ o2, o ≤ o2 ∧ o2 ≤ o + 1 ∧ zMo f374 n o2) ∧ (∃ g2 L2 d2, d2 ≤ d + 1 ∧ zMq τ f374 fr g2 L2 d2) ∧ f374 30 21 = nI 0 ∧ zGz τ fr τ fr ∧ ∀ a b, ¬ (a = 48 ∨ a = 49 ∨ (50 ≤ a ∧ a ≤ 64) ∨ (200 ≤ a ∧ a < 240) ∨ (a = 30 ∧ (b = 0 ∨ (21 ≤ b ∧ b ≤ 36) ∨ b = 45))) → f374 a b = fi a b from ⟨⟨o + 1, by omega, by omega, hMo⟩, ⟨g, Ln, d, by omega, hMq⟩, q378, zGz.rf hF, fun a b h => by rw [hf375 a b (by omega), ef363, zu_n (by omega), ef330, zu_n (by omega), hf117 a b (by omega), ef106, zu_n (by omega), hf21 a b (by omega)]⟩), zEnd1 hH ht9 hW9⟩, hS.F ht9⟩) hS.2.2 dX12_letter_185
          · have zc359 := c359
            replace zc359 := zc_eq (nI_toInt (by omega)) (nI_toInt (by omega)) zc359
            refine lv_goto (tgt := 151) hx hb dX12_letter_139 (by decide) ?_
            refine lv_aload_n hx hb dX12_letter_151 rfl (lv_at hl 4 rfl) ?_
            refine lv_iconst (v := nI 2) hx hb dX12_letter_152 (by decide) ?_
            refine zPutI (D := D) (ci := 12) (ty := .int) (C := RX12) (T := TX12) (N := 71) hx hb hts hiX12 tyX12 tyX12_ok nmX12 hown hH hS (zk_30 hF) rfl 0 (by decide) rfl hw0 (fun _ h9 => h9) rfl (by decide +kernel) rfl rfl dX12_letter_153 (fun H locs hH hS => ?_)
            obtain ⟨f384, ef384⟩ : ∃ f9 : zFi, f9 = zu f330 30 0 (nI 2) := ⟨_, rfl⟩
            rw [← ef384] at hH
            have q385 : f384 30 45 = nI o := by rw [ef384, zu_n (fun h9 => absurd h9.2 (by decide))]; exact q331
            have q386 : f384 30 35 = nI d := by rw [ef384, zu_n (fun h9 => absurd h9.2 (by decide))]; exact q332
            have q387 : f384 30 2 = nI n := by rw [ef384, zu_n (fun h9 => absurd h9.2 (by decide))]; exact q333
            have q388 : f384 30 21 = nI 0 := by rw [ef384, zu_n (fun h9 => absurd h9.2 (by decide))]; exact q334
            have q389 : f384 30 22 = nI L := by rw [ef384, zu_n (fun h9 => absurd h9.2 (by decide))]; exact q335
            have q390 : f384 30 26 = nI l0 := by rw [ef384, zu_n (fun h9 => absurd h9.2 (by decide))]; exact q337
            have q391 : f384 30 31 = nI 0 := by rw [ef384, zu_n (fun h9 => absurd h9.2 (by decide))]; exact q338
            have q392 : f384 30 0 = nI 2 := by rw [ef384]; exact zu_s
            have hMt := zMt.ci (fi' := f384) hMt (fun i9 k9 h9 => by rw [ef384]; exact zu_n (by omega))
            have hMo := zMo.ci (fi' := f384) hMo (fun i9 k9 h9 => by rw [ef384]; exact zu_n (by omega))
            have hMq := zMq.ci (fi' := f384) hMq (fun i9 k9 h9 => by rw [ef384]; exact zu_n (by omega))
            have hMl := zMl.ci (fi' := f384) hMl (fun i9 k9 h9 => by rw [ef384]; exact zu_n (by omega))
            refine lv_iconst (v := nI 0) hx hb dX12_letter_156 (by decide) ?_
            refine W.widen (k := 8) (n := 11264) (by decide) (by decide) ?_
            exact W.iret (v := nI 0) hx hb hr (fun t9 ht9 hW9 => ⟨⟨nI 0, (τ, f384, fr), rfl, (show (∃ o2, o ≤ o2 ∧ o2 ≤ o + 1 ∧ zMo f384 n o2) ∧ (∃ g2 L2 d2, d2 ≤ d + 1 ∧ zMq τ f384 fr g2 L2 d2) ∧ f384 30 21 = nI 0 ∧ zGz τ fr τ fr ∧ ∀ a b, ¬ (a = 48 ∨ a = 49 ∨ (50 ≤ a ∧ a ≤ 64) ∨ (200 ≤ a ∧ a < 240) ∨ (a = 30 ∧ (b = 0 ∨ (21 ≤ b ∧ b ≤ 36) ∨ b = 45))) → f384 a b = fi a b from ⟨⟨o, by omega, by omega, hMo⟩, ⟨g, Ln, d, by omega, hMq⟩, q388, zGz.rf hF, fun a b h => by rw [ef384, zu_n (by omega), ef330, zu_n (by omega), hf117 a b (by omega), ef106, zu_n (by omega), hf21 a b (by omega)]⟩), zEnd1 hH ht9 hW9⟩, hS.F ht9⟩) hS.2.2 dX12_letter_157
set_option maxHeartbeats 4000000 in
set_option maxRecDepth 100000 in
/-- settle -/
theorem m_settle (l : Launch) (hl0 : l.stackTraces = false) (D : va_G) (A : Nat → Prop) (sad : Nat → Nat) (τ : zTy) (fi : zFi) (fr : zFr) (ol : Int64) (x tk : Int32) (hF : zFix τ fr) (n : Nat) (hMt : zMt fi n) (o : Nat) (hMo : zMo fi n o) (g Ln d : Nat) (hMq : zMq τ fi fr g Ln d) : Met l yX12_settle wsX12_settle ({ frames := 3, cells := 0, slots := 0, locals := 71 }) (va_Pc [.ref (τ.1 30), .int x, .int tk] (zQc D A sad τ fi fr ol)) (va_Qi (fun (r : Int32) (u : zFi) => (∃ o2, o ≤ o2 ∧ o2 ≤ o + 1 ∧ zMo u n o2) ∧ zMq τ u fr g Ln d ∧ ∀ a b, ¬ (a = 48 ∨ a = 49 ∨ (50 ≤ a ∧ a ≤ 64) ∨ (200 ≤ a ∧ a < 240) ∨ (a = 30 ∧ (b = 0 ∨ b = 26 ∨ b = 30 ∨ b = 36 ∨ b = 45))) → u a b = fi a b) (fun (u : zFi) (t : State) => zH D A τ u fr ol t t.heap) A) 0 0 A := by
  refine Met.ofW (cc := cX12_settle) (maxL := 7) (ret := (some .int)) (by decide) rfl ?_
  intro p9 e9 s m args below meth c9 s₁ B hml hv
  obtain ⟨rfl, hz, hH, hA⟩ := hv
  have hx := B.exec
  have hb := B.bytes
  have hr := B.returns
  have hts := atoms_spec (ws := wsX12_settle) B.pre
  have hown : s.vm.findClass RX12 = some m.cls := findClass_of_methodNamed B.named
  have hlocks := B.notSynchronized
  have hS : va_S A s.heap s.heap [] := va_S.rf
  have hl := lv_entry ([.ref (τ.1 30), .int x, .int tk]) (n := 7) (Nat.le_of_ble_eq_true rfl)
  rw [lg_entry_eq]
  generalize (lg_sl ([.ref (τ.1 30), .int x, .int tk]) ++ List.replicate (7 - (lg_sl ([.ref (τ.1 30), .int x, .int tk])).length) Slot.unset).toArray = ls at hl ⊢
  have hl : lv_has ls 7 [(0, .ref (τ.1 30)), (1, .int x), (2, .int tk)] := hl
  have hm30 := hMt.1
  have hLn : g ≤ 3 ∧ Ln ≤ 512 := by have := hMq.1; omega
  have hdL := hMq.2.1
  have ho60 := hMo.1
  have hMt0 := hMt
  have hMo0 := hMo
  have hMq0 := hMq
  have hiX12 : ∀ w ∈ u_ws RX12 TX12 71, w ∈ wsX12_settle := fun _ h => List.mem_cons_of_mem _ (List.mem_append_right _ h)
  have hw1 := hts (.fieldLink RX12 71 "PostHouseModel" "doubtWaits" "[Z") (by decide +kernel)
  have hw2 := hts (.fieldLink RX12 165 "PostHouseModel" "thrown" "I") (by decide +kernel)
  have hw3 := hts (.fieldLink RX12 311 "PostHouseModel" "waiting" "I") (by decide +kernel)
  have hw4 := hts (.fieldLink RX12 78 "PostHouseModel" "doubtLines" "[I") (by decide +kernel)
  have hw5 := hts (.fieldLink RX12 262 "PostHouseModel" "lines" "I") (by decide +kernel)
  have hw6 := hts (.fieldLink RX12 87 "PostHouseModel" "doubtMoney" "[I") (by decide +kernel)
  have hw7 := hts (.fieldLink RX12 275 "PostHouseModel" "money" "I") (by decide +kernel)
  have hw8 := hts (.fieldLink RX12 171 "PostHouseModel" "orders" "I") (by decide +kernel)
  have hw9 := hts (.fieldLink RX12 65 "PostHouseModel" "lineCode" "[I") (by decide +kernel)
  have hw10 := hts (.fieldLink RX12 90 "PostHouseModel" "doubtCode" "[I") (by decide +kernel)
  have hw11 := hts (.fieldLink RX12 68 "PostHouseModel" "lineMany" "[I") (by decide +kernel)
  have hw12 := hts (.fieldLink RX12 93 "PostHouseModel" "doubtMany" "[I") (by decide +kernel)
  refine lv_aload_n hx hb dX12_settle_0 rfl (lv_at hl 0 rfl) ?_
  refine lv_aload_n hx hb dX12_settle_1 rfl (lv_at hl 0 rfl) ?_
  refine lv_iload_n hx hb dX12_settle_2 rfl (lv_at hl 1 rfl) ?_
  refine va_calli (va_runV (As := [.int x]) (rest := [.ref (τ.1 30)]) ⟨hx, hb, hml, hown, hts⟩ (m_isDoubt l hl0 D A sad τ fi fr ol x d hF hMq.2.2.1 (by omega)) (cwV 1 hts gX12_settle_X12_isDoubt rfl rfl rfl (by decide +kernel) ⟨Nat.le_of_ble_eq_true rfl, Nat.le_of_ble_eq_true rfl⟩) ⟨zQc_bl, zRecv hH (zk_30 hF) rfl, zQc_at hz hS hA hH⟩ rfl rfl hl.1 rfl (lv_room (Nat.le_of_ble_eq_true rfl)) dX12_settle_3 ⟨Nat.le_of_ble_eq_true rfl, Nat.le_of_ble_eq_true rfl⟩) hS (fun q _ h => h) (fun q h => h) (fun r101 u9 t9 H1 locs ht9 hvm9 hw hB hz1 hk1 hS => ?_)
  have hH := zMv ht9 hvm9 hB
  generalize H1 = H at hH hS ⊢
  rcases hw with ⟨d1, hd1, rfl, rfl⟩ | ⟨hno, rfl⟩
  · skip
    refine lv_if_ne (tgt := 13) hx hb dX12_settle_6 (by decide) (fun c102 => ?_) (fun c102 => absurd c102 (by decide))
    refine lv_aload_n hx hb dX12_settle_13 rfl (lv_at hl 0 rfl) ?_
    refine zGetR (D := D) (ci := 12) (C := RX12) (T := TX12) (N := 71) hx hb hts hiX12 hown hH (zk_30 hF) rfl 37 (by decide) rfl hw1 (fun _ h9 => h9) dX12_settle_14 hMq.2.2.2.2.1.1 ?_
    refine lv_iload_n hx hb dX12_settle_17 rfl (lv_at hl 1 rfl) ?_
    refine zZaldN (D := D) hx hb hH hMq.2.2.2.1.1.1 hMq.2.2.2.1.1.2 (by omega) (by omega) rfl dX12_settle_18 ?_
    refine lv_if_ne (tgt := 26) hx hb dX12_settle_19 (by decide) (fun c103 => ?_) (fun c103 => ?_)
    · have zc103 := c103
      replace zc103 := zc_neq (rfl) ((by decide : (0 : Int32).toInt = 0)) zc103
      refine lv_iconst (v := nI 0) hx hb dX12_settle_26 (by decide) ?_
      refine zPutI (D := D) (ci := 12) (ty := .int) (C := RX12) (T := TX12) (N := 71) hx hb hts hiX12 tyX12 tyX12_ok nmX12 hown hH hS (zk_30 hF) rfl 0 (by decide) rfl hw2 (fun _ h9 => h9) rfl (by decide +kernel) rfl rfl dX12_settle_27 (fun H locs hH hS => ?_)
      obtain ⟨f104, ef104⟩ : ∃ f9 : zFi, f9 = zu fi 30 0 (nI 0) := ⟨_, rfl⟩
      rw [← ef104] at hH
      have q105 : f104 30 45 = nI o := by rw [ef104, zu_n (fun h9 => absurd h9.2 (by decide))]; exact hMo.2.1
      have q106 : f104 30 35 = nI d := by rw [ef104, zu_n (fun h9 => absurd h9.2 (by decide))]; exact hMq.2.2.1
      have q107 : f104 30 2 = nI n := by rw [ef104, zu_n (fun h9 => absurd h9.2 (by decide))]; exact hMt.2.1
      have q108 : f104 30 0 = nI 0 := by rw [ef104]; exact zu_s
      have hMt := zMt.ci (fi' := f104) hMt (fun i9 k9 h9 => by rw [ef104]; exact zu_n (by omega))
      have hMo := zMo.ci (fi' := f104) hMo (fun i9 k9 h9 => by rw [ef104]; exact zu_n (by omega))
      have hMq := zMq.ci (fi' := f104) hMq (fun i9 k9 h9 => by rw [ef104]; exact zu_n (by omega))
      refine lv_aload_n hx hb dX12_settle_30 rfl (lv_at hl 0 rfl) ?_
      refine zGetI (D := D) (ci := 12) (C := RX12) (T := TX12) (N := 71) hx hb hts hiX12 hown hH (zk_30 hF) rfl 0 (by decide) rfl hw2 (fun _ h9 => h9) dX12_settle_31 q108 ?_
      refine lv_if_le (tgt := 39) hx hb dX12_settle_34 (by decide) (fun c109 => ?_) (fun c109 => absurd (by decide) c109)
      refine lv_iconst (v := (-1)) hx hb dX12_settle_39 (by decide) ?_
      refine lv_istore_n (lv' := [(3, .int ((-1))), (0, .ref (τ.1 30)), (1, .int (nI d1)), (2, .int tk)]) hx hb dX12_settle_40 rfl hl (by decide) rfl (fun ls hl => ?_)
      refine lv_iload_n hx hb dX12_settle_41 rfl (lv_at hl 3 rfl) ?_
      refine lv_if_eq (tgt := 216) hx hb dX12_settle_42 (by decide) (fun c110 => ?_) (fun c110 => ?_)
      · have zc110 := c110
        replace zc110 := zc_eq (rfl) ((by decide : (0 : Int32).toInt = 0)) zc110
        refine lv_aload_n hx hb dX12_settle_216 rfl (lv_at hl 1 rfl) ?_
        refine zGetR (D := D) (ci := 12) (C := RX12) (T := TX12) (N := 71) hx hb hts hiX12 hown hH (zk_30 hF) rfl 37 (by decide) rfl hw1 (fun _ h9 => h9) dX12_settle_217 hMq.2.2.2.2.1.1 ?_
        refine lv_iload_n hx hb dX12_settle_220 rfl (lv_at hl 2 rfl) ?_
        refine lv_iconst (v := nI 0) hx hb dX12_settle_221 (by decide) ?_
        refine zZastN (D := D) hx hb hH hS hMq.2.2.2.1.1.1 hMq.2.2.2.1.1.2 (by omega) (by omega) dX12_settle_222 (fun H locs hH hS => ?_)
        obtain ⟨f111, ef111⟩ : ∃ f9 : zFi, f9 = zu f104 (200 + 10 * g) d1 (vp_nar .boolean (nI 0)) := ⟨_, rfl⟩
        rw [← ef111] at hH
        have q112 : f111 30 45 = nI o := by rw [ef111, zu_n (fun h9 => by omega)]; exact q105
        have q113 : f111 30 35 = nI d := by rw [ef111, zu_n (fun h9 => by omega)]; exact q106
        have q114 : f111 30 2 = nI n := by rw [ef111, zu_n (fun h9 => by omega)]; exact q107
        have q115 : f111 30 0 = nI 0 := by rw [ef111, zu_n (fun h9 => by omega)]; exact q108
        have q116 : f111 (200 + 10 * g) d1 = (vp_nar .boolean (nI 0)) := by rw [ef111]; exact zu_s
        have hMt := zMt.ci (fi' := f111) hMt (fun i9 k9 h9 => by rw [ef111]; exact zu_n (by omega))
        have hMo := zMo.ci (fi' := f111) hMo (fun i9 k9 h9 => by rw [ef111]; exact zu_n (by omega))
        have hMq := zMq.ci (fi' := f111) hMq (fun i9 k9 h9 => by rw [ef111]; exact zu_n (by omega))
        refine lv_aload_n hx hb dX12_settle_223 rfl (lv_at hl 1 rfl) ?_
        refine lv_dup hx hb dX12_settle_224 rfl ?_
        refine zGetI (D := D) (ci := 12) (C := RX12) (T := TX12) (N := 71) hx hb hts hiX12 hown hH (zk_30 hF) rfl 36 (by decide) rfl hw3 (fun _ h9 => h9) dX12_settle_225 rfl ?_
        refine lv_iconst (v := nI 1) hx hb dX12_settle_228 (by decide) ?_
        refine lv_isub hx hb dX12_settle_229 ?_
        refine lv_topi (fun v117 ev117 => ?_)
        refine zPutI (D := D) (ci := 12) (ty := .int) (C := RX12) (T := TX12) (N := 71) hx hb hts hiX12 tyX12 tyX12_ok nmX12 hown hH hS (zk_30 hF) rfl 36 (by decide) rfl hw3 (fun _ h9 => h9) rfl (by decide +kernel) rfl rfl dX12_settle_230 (fun H locs hH hS => ?_)
        obtain ⟨f118, ef118⟩ : ∃ f9 : zFi, f9 = zu f111 30 36 v117 := ⟨_, rfl⟩
        rw [← ef118] at hH
        have q119 : f118 30 45 = nI o := by rw [ef118, zu_n (fun h9 => absurd h9.2 (by decide))]; exact q112
        have q120 : f118 30 35 = nI d := by rw [ef118, zu_n (fun h9 => absurd h9.2 (by decide))]; exact q113
        have q121 : f118 30 2 = nI n := by rw [ef118, zu_n (fun h9 => absurd h9.2 (by decide))]; exact q114
        have q122 : f118 30 0 = nI 0 := by rw [ef118, zu_n (fun h9 => absurd h9.2 (by decide))]; exact q115
        have q123 : f118 (200 + 10 * g) d1 = (vp_nar .boolean (nI 0)) := by rw [ef118, zu_n (fun h9 => by omega)]; exact q116
        have q124 : f118 30 36 = v117 := by rw [ef118]; exact zu_s
        have hMt := zMt.ci (fi' := f118) hMt (fun i9 k9 h9 => by rw [ef118]; exact zu_n (by omega))
        have hMo := zMo.ci (fi' := f118) hMo (fun i9 k9 h9 => by rw [ef118]; exact zu_n (by omega))
        have hMq := zMq.ci (fi' := f118) hMq (fun i9 k9 h9 => by rw [ef118]; exact zu_n (by omega))
        refine lv_iload_n hx hb dX12_settle_233 rfl (lv_at hl 0 rfl) ?_
        refine W.widen (k := 0) (n := 0) (by decide) (by decide) ?_
        exact W.iret (v := (-1)) hx hb hr (fun t9 ht9 hW9 => ⟨⟨(-1), f118, rfl, ⟨⟨o, by omega, by omega, hMo⟩, hMq, fun a b h => by rw [ef118, zu_n (by omega), ef111, zu_n (by omega), ef104, zu_n (by omega)]⟩, zEnd1 hH ht9 hW9⟩, hS.F ht9⟩) hS.2.2 dX12_settle_234
      · have zc110 := c110
        replace zc110 := zc_neq (rfl) ((by decide : (0 : Int32).toInt = 0)) zc110
        obtain ⟨c0, hc8, hcq, hcl⟩ := hMq0.2.2.2.2.2.1 d1 hd1
        have hcq1 : f104 (202 + 10 * g) d1 = nI c0 := by rw [ef104, zu_n (by omega)]; exact hcq
        refine lv_aload_n hx hb dX12_settle_45 rfl (lv_at hl 1 rfl) ?_
        refine lv_aload_n hx hb dX12_settle_46 rfl (lv_at hl 1 rfl) ?_
        refine zGetR (D := D) (ci := 12) (C := RX12) (T := TX12) (N := 71) hx hb hts hiX12 hown hH (zk_30 hF) rfl 39 (by decide) rfl hw4 (fun _ h9 => h9) dX12_settle_47 hMq.2.2.2.2.1.2.2.1 ?_
        refine lv_iload_n hx hb dX12_settle_50 rfl (lv_at hl 2 rfl) ?_
        refine zIaldN (D := D) hx hb hH hMq.2.2.2.1.2.2.1.1 hMq.2.2.2.1.2.2.1.2 (by omega) (by omega) hcq1 dX12_settle_51 ?_
        refine zPutI (D := D) (ci := 12) (ty := .int) (C := RX12) (T := TX12) (N := 71) hx hb hts hiX12 tyX12 tyX12_ok nmX12 hown hH hS (zk_30 hF) rfl 26 (by decide) rfl hw5 (fun _ h9 => h9) rfl (by decide +kernel) rfl rfl dX12_settle_52 (fun H locs hH hS => ?_)
        obtain ⟨f125, ef125⟩ : ∃ f9 : zFi, f9 = zu f104 30 26 (nI c0) := ⟨_, rfl⟩
        rw [← ef125] at hH
        have q126 : f125 30 45 = nI o := by rw [ef125, zu_n (fun h9 => absurd h9.2 (by decide))]; exact q105
        have q127 : f125 30 35 = nI d := by rw [ef125, zu_n (fun h9 => absurd h9.2 (by decide))]; exact q106
        have q128 : f125 30 2 = nI n := by rw [ef125, zu_n (fun h9 => absurd h9.2 (by decide))]; exact q107
        have q129 : f125 30 0 = nI 0 := by rw [ef125, zu_n (fun h9 => absurd h9.2 (by decide))]; exact q108
        have q130 : f125 (202 + 10 * g) d1 = nI c0 := by rw [ef125, zu_n (fun h9 => by omega)]; exact hcq1
        have q131 : f125 30 26 = nI c0 := by rw [ef125]; exact zu_s
        have hMt := zMt.ci (fi' := f125) hMt (fun i9 k9 h9 => by rw [ef125]; exact zu_n (by omega))
        have hMo := zMo.ci (fi' := f125) hMo (fun i9 k9 h9 => by rw [ef125]; exact zu_n (by omega))
        have hMq := zMq.ci (fi' := f125) hMq (fun i9 k9 h9 => by rw [ef125]; exact zu_n (by omega))
        refine lv_aload_n hx hb dX12_settle_55 rfl (lv_at hl 1 rfl) ?_
        refine lv_aload_n hx hb dX12_settle_56 rfl (lv_at hl 1 rfl) ?_
        refine zGetR (D := D) (ci := 12) (C := RX12) (T := TX12) (N := 71) hx hb hts hiX12 hown hH (zk_30 hF) rfl 42 (by decide) rfl hw6 (fun _ h9 => h9) dX12_settle_57 hMq.2.2.2.2.1.2.2.2.2.2.1 ?_
        refine lv_iload_n hx hb dX12_settle_60 rfl (lv_at hl 2 rfl) ?_
        refine zIaldN (D := D) hx hb hH hMq.2.2.2.1.2.2.2.2.2.1.1 hMq.2.2.2.1.2.2.2.2.2.1.2 (by omega) (by omega) rfl dX12_settle_61 ?_
        refine zPutI (D := D) (ci := 12) (ty := .int) (C := RX12) (T := TX12) (N := 71) hx hb hts hiX12 tyX12 tyX12_ok nmX12 hown hH hS (zk_30 hF) rfl 30 (by decide) rfl hw7 (fun _ h9 => h9) rfl (by decide +kernel) rfl rfl dX12_settle_62 (fun H locs hH hS => ?_)
        obtain ⟨f132, ef132⟩ : ∃ f9 : zFi, f9 = zu f125 30 30 (f125 (205 + 10 * g) d1) := ⟨_, rfl⟩
        rw [← ef132] at hH
        have q133 : f132 30 45 = nI o := by rw [ef132, zu_n (fun h9 => absurd h9.2 (by decide))]; exact q126
        have q134 : f132 30 35 = nI d := by rw [ef132, zu_n (fun h9 => absurd h9.2 (by decide))]; exact q127
        have q135 : f132 30 2 = nI n := by rw [ef132, zu_n (fun h9 => absurd h9.2 (by decide))]; exact q128
        have q136 : f132 30 0 = nI 0 := by rw [ef132, zu_n (fun h9 => absurd h9.2 (by decide))]; exact q129
        have q137 : f132 (202 + 10 * g) d1 = nI c0 := by rw [ef132, zu_n (fun h9 => by omega)]; exact q130
        have q138 : f132 30 26 = nI c0 := by rw [ef132, zu_n (fun h9 => absurd h9.2 (by decide))]; exact q131
        have q139 : f132 30 30 = f125 (205 + 10 * g) d1 := by rw [ef132]; exact zu_s
        have hMt := zMt.ci (fi' := f132) hMt (fun i9 k9 h9 => by rw [ef132]; exact zu_n (by omega))
        have hMo := zMo.ci (fi' := f132) hMo (fun i9 k9 h9 => by rw [ef132]; exact zu_n (by omega))
        have hMq := zMq.ci (fi' := f132) hMq (fun i9 k9 h9 => by rw [ef132]; exact zu_n (by omega))
        refine lv_iconst (v := nI 0) hx hb dX12_settle_65 (by decide) ?_
        refine lv_istore (lv' := [(4, .int (nI 0)), (3, .int ((-1))), (0, .ref (τ.1 30)), (1, .int (nI d1)), (2, .int tk)]) hx hb dX12_settle_66 hl (by decide) rfl (fun ls hl => ?_)
        refine lv_iconst (v := nI 0) hx hb dX12_settle_68 (by decide) ?_
        refine lv_istore (lv' := [(5, .int (nI 0)), (4, .int (nI 0)), (3, .int ((-1))), (0, .ref (τ.1 30)), (1, .int (nI d1)), (2, .int tk)]) hx hb dX12_settle_69 hl (by decide) rfl (fun ls hl => ?_)
        refine zLp (σ := Nat × Int32 × zFi) (fun x9 k9 H locs ls => (fun (i : Nat) (yy : Int32) (f : zFi) => k9 = c0 - i ∧ (i ≤ c0 ∧ f 30 26 = nI c0 ∧ (∀ j, j < i → 1 ≤ (f 49 j).toInt ∧ (f 49 j).toInt ≤ 99) ∧ ∀ a b, ¬ (a = 48 ∨ a = 49 ∨ (a = 30 ∧ (b = 0 ∨ b = 26 ∨ b = 30))) → f a b = fi a b) ∧ zH D A τ f fr ol s H ∧ va_S A s.heap H locs ∧ lv_has ls 7 [(0, .ref (τ.1 30)), (1, .int (nI d1)), (3, .int ((-1))), (4, .int yy), (5, .int (nI i))]) x9.1 x9.2.1 x9.2.2) (0, nI 0, f132) (c0 - 0) (show c0 - 0 = c0 - 0 ∧ (0 ≤ c0 ∧ f132 30 26 = nI c0 ∧ (∀ j, j < 0 → 1 ≤ (f132 49 j).toInt ∧ (f132 49 j).toInt ≤ 99) ∧ ∀ a b, ¬ (a = 48 ∨ a = 49 ∨ (a = 30 ∧ (b = 0 ∨ b = 26 ∨ b = 30))) → f132 a b = fi a b) ∧ zH D A τ f132 fr ol s _ ∧ va_S A s.heap _ _ ∧ lv_has _ 7 [(0, .ref (τ.1 30)), (1, .int (nI d1)), (3, .int ((-1))), (4, .int (nI 0)), (5, .int (nI 0))] from ⟨rfl, ⟨Nat.zero_le _, q138, fun j h => absurd h (by omega), fun a b h => by rw [ef132, zu_n (by omega), ef125, zu_n (by omega), ef104, zu_n (by omega)]⟩, hH, hS, lv_sub hl [3, 4, 2, 1, 0] rfl⟩) (fun k9 ih x9 H locs ls hv9 => ?_)
        obtain ⟨i, yy, f⟩ := x9
        have hv9 : k9 = c0 - i ∧ (i ≤ c0 ∧ f 30 26 = nI c0 ∧ (∀ j, j < i → 1 ≤ (f 49 j).toInt ∧ (f 49 j).toInt ≤ 99) ∧ ∀ a b, ¬ (a = 48 ∨ a = 49 ∨ (a = 30 ∧ (b = 0 ∨ b = 26 ∨ b = 30))) → f a b = fi a b) ∧ zH D A τ f fr ol s H ∧ va_S A s.heap H locs ∧ lv_has ls 7 [(0, .ref (τ.1 30)), (1, .int (nI d1)), (3, .int ((-1))), (4, .int yy), (5, .int (nI i))] := hv9
        obtain ⟨hkih140, hv9, hH, hS, hl⟩ := hv9
        obtain ⟨h1, p26, hli, hfr⟩ := hv9
        have ih140 := ih
        clear ih
        have hMt := zMt.ci (fi' := f) hMt0 (fun i9 k9 h9 => hfr i9 k9 (by omega))
        have hMo := zMo.ci (fi' := f) hMo0 (fun i9 k9 h9 => hfr i9 k9 (by omega))
        have hMq := zMq.ci (fi' := f) hMq0 (fun i9 k9 h9 => hfr i9 k9 (by omega))
        have p2 := hMt.2.1
        have p45 := hMo.2.1
        refine lv_iload hx hb dX12_settle_71 (lv_at hl 4 rfl) ?_
        refine lv_aload_n hx hb dX12_settle_73 rfl (lv_at hl 0 rfl) ?_
        refine zGetI (D := D) (ci := 12) (C := RX12) (T := TX12) (N := 71) hx hb hts hiX12 hown hH (zk_30 hF) rfl 26 (by decide) rfl hw5 (fun _ h9 => h9) dX12_settle_74 p26 ?_
        refine lv_icmp_ge (tgt := 162) hx hb dX12_settle_77 (by decide) (fun c141 => ?_) (fun c141 => ?_)
        · have zc141 := c141
          replace zc141 := zc_le (nI_toInt (by omega)) (nI_toInt (by omega)) zc141
          have hMl : zMl f c0 := ⟨hc8, p26, fun j h => hli j (by omega)⟩
          refine lv_aload_n hx hb dX12_settle_162 rfl (lv_at hl 0 rfl) ?_
          refine va_calli (va_runV (As := []) (rest := []) ⟨hx, hb, hml, hown, hts⟩ (m_known l hl0 D A sad τ f fr ol hF n hMt c0 hMl) (cwV 0 hts gX12_settle_X12_known rfl rfl rfl (by decide +kernel) ⟨Nat.le_of_ble_eq_true rfl, Nat.le_of_ble_eq_true rfl⟩) ⟨zQc_bl, zRecv hH (zk_30 hF) rfl, zQc_at hz hS hA hH⟩ rfl rfl hl.1 rfl (lv_room (Nat.le_of_ble_eq_true rfl)) dX12_settle_163 ⟨Nat.le_of_ble_eq_true rfl, Nat.le_of_ble_eq_true rfl⟩) hS (fun q _ h => h) (fun q h => h) (fun r142 u9 t9 H1 locs ht9 hvm9 hw hB hz1 hk1 hS => ?_)
          have hH := zMv ht9 hvm9 hB
          generalize H1 = H at hH hS ⊢
          clear hw
          refine lv_if_eq (tgt := 182) hx hb dX12_settle_166 (by decide) (fun c143 => ?_) (fun c143 => ?_)
          · have zc143 := c143
            replace zc143 := zc_eq (rfl) ((by decide : (0 : Int32).toInt = 0)) zc143
            refine lv_iconst (v := (-1)) hx hb dX12_settle_182 (by decide) ?_
            refine W.widen (k := 0) (n := 0) (by decide) (by decide) ?_
            exact W.iret (v := (-1)) hx hb hr (fun t9 ht9 hW9 => ⟨⟨(-1), f, rfl, ⟨⟨o, by omega, by omega, hMo⟩, hMq, fun a b h => hfr a b (by omega)⟩, zEnd1 hH ht9 hW9⟩, hS.F ht9⟩) hS.2.2 dX12_settle_183
          · have zc143 := c143
            replace zc143 := zc_neq (rfl) ((by decide : (0 : Int32).toInt = 0)) zc143
            refine lv_aload_n hx hb dX12_settle_169 rfl (lv_at hl 0 rfl) ?_
            refine zGetI (D := D) (ci := 12) (C := RX12) (T := TX12) (N := 71) hx hb hts hiX12 hown hH (zk_30 hF) rfl 30 (by decide) rfl hw7 (fun _ h9 => h9) dX12_settle_170 rfl ?_
            refine lv_aload_n hx hb dX12_settle_173 rfl (lv_at hl 0 rfl) ?_
            refine lv_iload hx hb dX12_settle_174 (lv_at hl 3 rfl) ?_
            refine va_calli (va_runV (As := [.int yy]) (rest := [.int (f 30 30)]) ⟨hx, hb, hml, hown, hts⟩ (m_due l hl0 D A sad τ f fr ol yy hF) (cwV 1 hts gX12_settle_X12_due rfl rfl rfl (by decide +kernel) ⟨Nat.le_of_ble_eq_true rfl, Nat.le_of_ble_eq_true rfl⟩) ⟨zQc_bl, zRecv hH (zk_30 hF) rfl, zQc_at hz hS hA hH⟩ rfl rfl hl.1 rfl (lv_room (Nat.le_of_ble_eq_true rfl)) dX12_settle_176 ⟨Nat.le_of_ble_eq_true rfl, Nat.le_of_ble_eq_true rfl⟩) hS (fun q _ h => h) (fun q h => h) (fun r144 u9 t9 H1 locs ht9 hvm9 hw hB hz1 hk1 hS => ?_)
            have hH := zMv ht9 hvm9 hB
            generalize H1 = H at hH hS ⊢
            clear hw
            refine lv_icmp_ge (tgt := 184) hx hb dX12_settle_179 (by decide) (fun c145 => ?_) (fun c145 => ?_)
            · have zc145 := c145
              replace zc145 := zc_le (rfl) (rfl) zc145
              refine lv_aload_n hx hb dX12_settle_184 rfl (lv_at hl 0 rfl) ?_
              refine lv_aload_n hx hb dX12_settle_185 rfl (lv_at hl 0 rfl) ?_
              refine zGetI (D := D) (ci := 12) (C := RX12) (T := TX12) (N := 71) hx hb hts hiX12 hown hH (zk_30 hF) rfl 45 (by decide) rfl hw8 (fun _ h9 => h9) dX12_settle_186 p45 ?_
              refine lv_bipush (v := nI 60) hx hb dX12_settle_189 (by decide) ?_
              refine lv_icmp_ne (tgt := 198) hx hb dX12_settle_191 (by decide) (fun c146 => ?_) (fun c146 => ?_)
              · have zc146 := c146
                replace zc146 := zc_neq (nI_toInt (by omega)) (nI_toInt (by omega)) zc146
                refine lv_iconst (v := nI 0) hx hb dX12_settle_198 (by decide) ?_
                refine zPutI (D := D) (ci := 12) (ty := .int) (C := RX12) (T := TX12) (N := 71) hx hb hts hiX12 tyX12 tyX12_ok nmX12 hown hH hS (zk_30 hF) rfl 0 (by decide) rfl hw2 (fun _ h9 => h9) rfl (by decide +kernel) rfl rfl dX12_settle_199 (fun H locs hH hS => ?_)
                obtain ⟨f147, ef147⟩ : ∃ f9 : zFi, f9 = zu f 30 0 (nI 0) := ⟨_, rfl⟩
                rw [← ef147] at hH
                have q148 : f147 30 26 = nI c0 := by rw [ef147, zu_n (fun h9 => absurd h9.2 (by decide))]; exact p26
                have q149 : f147 30 2 = nI n := by rw [ef147, zu_n (fun h9 => absurd h9.2 (by decide))]; exact p2
                have q150 : f147 30 45 = nI o := by rw [ef147, zu_n (fun h9 => absurd h9.2 (by decide))]; exact p45
                have q151 : f147 30 0 = nI 0 := by rw [ef147]; exact zu_s
                have hMt := zMt.ci (fi' := f147) hMt (fun i9 k9 h9 => by rw [ef147]; exact zu_n (by omega))
                have hMo := zMo.ci (fi' := f147) hMo (fun i9 k9 h9 => by rw [ef147]; exact zu_n (by omega))
                have hMq := zMq.ci (fi' := f147) hMq (fun i9 k9 h9 => by rw [ef147]; exact zu_n (by omega))
                have hMl := zMl.ci (fi' := f147) hMl (fun i9 k9 h9 => by rw [ef147]; exact zu_n (by omega))
                refine lv_aload_n hx hb dX12_settle_202 rfl (lv_at hl 0 rfl) ?_
                refine zGetI (D := D) (ci := 12) (C := RX12) (T := TX12) (N := 71) hx hb hts hiX12 hown hH (zk_30 hF) rfl 0 (by decide) rfl hw2 (fun _ h9 => h9) dX12_settle_203 q151 ?_
                refine lv_if_le (tgt := 211) hx hb dX12_settle_206 (by decide) (fun c152 => ?_) (fun c152 => absurd (by decide) c152)
                refine lv_aload_n hx hb dX12_settle_211 rfl (lv_at hl 0 rfl) ?_
                refine va_calli (va_runV (As := []) (rest := []) ⟨hx, hb, hml, hown, hts⟩ (m_makeOrder l hl0 D A sad τ f147 fr ol hF n hMt c0 hMl o hMo (by omega)) (cwV 0 hts gX12_settle_X12_makeOrder rfl rfl rfl (by decide +kernel) ⟨Nat.le_of_ble_eq_true rfl, Nat.le_of_ble_eq_true rfl⟩) ⟨zQc_bl, zRecv hH (zk_30 hF) rfl, zQc_at hz hS hA hH⟩ rfl rfl hl.1 rfl (lv_room (Nat.le_of_ble_eq_true rfl)) dX12_settle_212 ⟨Nat.le_of_ble_eq_true rfl, Nat.le_of_ble_eq_true rfl⟩) hS (fun q _ h => h) (fun q h => h) (fun r153 u9 t9 H1 locs ht9 hvm9 hw hB hz1 hk1 hS => ?_)
                have hH := zMv ht9 hvm9 hB
                clear hB
                generalize u9 = f154 at hw hH
                generalize H1 = H at hH hS ⊢
                obtain ⟨rfl, hMo, hf155⟩ := hw
                have q156 : f154 30 26 = nI c0 := by rw [hf155 30 26 (by omega)]; exact q148
                have q157 : f154 30 2 = nI n := by rw [hf155 30 2 (by omega)]; exact q149
                have q158 : f154 30 0 = nI 0 := by rw [hf155 30 0 (by omega)]; exact q151
                have hMt := zMt.ci (fi' := f154) hMt (fun i9 k9 h9 => hf155 i9 k9 (by omega))
                have hMq := zMq.ci (fi' := f154) hMq (fun i9 k9 h9 => hf155 i9 k9 (by omega))
                have hMl := zMl.ci (fi' := f154) hMl (fun i9 k9 h9 => hf155 i9 k9 (by omega))
                refine lv_istore_n (lv' := [(3, .int (nI o)), (0, .ref (τ.1 30)), (1, .int (nI d1)), (4, .int yy), (5, .int (nI i))]) hx hb dX12_settle_215 rfl hl (by decide) rfl (fun ls hl => ?_)
                refine lv_aload_n hx hb dX12_settle_216 rfl (lv_at hl 1 rfl) ?_
                refine zGetR (D := D) (ci := 12) (C := RX12) (T := TX12) (N := 71) hx hb hts hiX12 hown hH (zk_30 hF) rfl 37 (by decide) rfl hw1 (fun _ h9 => h9) dX12_settle_217 hMq.2.2.2.2.1.1 ?_
                refine lv_iload_n hx hb dX12_settle_220 rfl (lv_at hl 2 rfl) ?_
                refine lv_iconst (v := nI 0) hx hb dX12_settle_221 (by decide) ?_
                refine zZastN (D := D) hx hb hH hS hMq.2.2.2.1.1.1 hMq.2.2.2.1.1.2 (by omega) (by omega) dX12_settle_222 (fun H locs hH hS => ?_)
                obtain ⟨f159, ef159⟩ : ∃ f9 : zFi, f9 = zu f154 (200 + 10 * g) d1 (vp_nar .boolean (nI 0)) := ⟨_, rfl⟩
                rw [← ef159] at hH
                have q160 : f159 30 26 = nI c0 := by rw [ef159, zu_n (fun h9 => by omega)]; exact q156
                have q161 : f159 30 2 = nI n := by rw [ef159, zu_n (fun h9 => by omega)]; exact q157
                have q162 : f159 30 0 = nI 0 := by rw [ef159, zu_n (fun h9 => by omega)]; exact q158
                have q163 : f159 (200 + 10 * g) d1 = (vp_nar .boolean (nI 0)) := by rw [ef159]; exact zu_s
                have hMt := zMt.ci (fi' := f159) hMt (fun i9 k9 h9 => by rw [ef159]; exact zu_n (by omega))
                have hMq := zMq.ci (fi' := f159) hMq (fun i9 k9 h9 => by rw [ef159]; exact zu_n (by omega))
                have hMl := zMl.ci (fi' := f159) hMl (fun i9 k9 h9 => by rw [ef159]; exact zu_n (by omega))
                have hMo := zMo.ci (fi' := f159) hMo (fun i9 k9 h9 => by rw [ef159]; exact zu_n (by omega))
                refine lv_aload_n hx hb dX12_settle_223 rfl (lv_at hl 1 rfl) ?_
                refine lv_dup hx hb dX12_settle_224 rfl ?_
                refine zGetI (D := D) (ci := 12) (C := RX12) (T := TX12) (N := 71) hx hb hts hiX12 hown hH (zk_30 hF) rfl 36 (by decide) rfl hw3 (fun _ h9 => h9) dX12_settle_225 rfl ?_
                refine lv_iconst (v := nI 1) hx hb dX12_settle_228 (by decide) ?_
                refine lv_isub hx hb dX12_settle_229 ?_
                refine lv_topi (fun v164 ev164 => ?_)
                refine zPutI (D := D) (ci := 12) (ty := .int) (C := RX12) (T := TX12) (N := 71) hx hb hts hiX12 tyX12 tyX12_ok nmX12 hown hH hS (zk_30 hF) rfl 36 (by decide) rfl hw3 (fun _ h9 => h9) rfl (by decide +kernel) rfl rfl dX12_settle_230 (fun H locs hH hS => ?_)
                obtain ⟨f165, ef165⟩ : ∃ f9 : zFi, f9 = zu f159 30 36 v164 := ⟨_, rfl⟩
                rw [← ef165] at hH
                have q166 : f165 30 26 = nI c0 := by rw [ef165, zu_n (fun h9 => absurd h9.2 (by decide))]; exact q160
                have q167 : f165 30 2 = nI n := by rw [ef165, zu_n (fun h9 => absurd h9.2 (by decide))]; exact q161
                have q168 : f165 30 0 = nI 0 := by rw [ef165, zu_n (fun h9 => absurd h9.2 (by decide))]; exact q162
                have q169 : f165 (200 + 10 * g) d1 = (vp_nar .boolean (nI 0)) := by rw [ef165, zu_n (fun h9 => by omega)]; exact q163
                have q170 : f165 30 36 = v164 := by rw [ef165]; exact zu_s
                have hMt := zMt.ci (fi' := f165) hMt (fun i9 k9 h9 => by rw [ef165]; exact zu_n (by omega))
                have hMq := zMq.ci (fi' := f165) hMq (fun i9 k9 h9 => by rw [ef165]; exact zu_n (by omega))
                have hMl := zMl.ci (fi' := f165) hMl (fun i9 k9 h9 => by rw [ef165]; exact zu_n (by omega))
                have hMo := zMo.ci (fi' := f165) hMo (fun i9 k9 h9 => by rw [ef165]; exact zu_n (by omega))
                refine lv_iload_n hx hb dX12_settle_233 rfl (lv_at hl 0 rfl) ?_
                refine W.widen (k := 0) (n := 0) (by decide) (by decide) ?_
                exact W.iret (v := nI o) hx hb hr (fun t9 ht9 hW9 => ⟨⟨nI o, f165, rfl, ⟨⟨o + 1, by omega, by omega, hMo⟩, hMq, fun a b h => by rw [ef165, zu_n (by omega), ef159, zu_n (by omega), hf155 a b (by omega), ef147, zu_n (by omega)]; exact hfr a b (by omega)⟩, zEnd1 hH ht9 hW9⟩, hS.F ht9⟩) hS.2.2 dX12_settle_234
              · have zc146 := c146
                replace zc146 := zc_eq (nI_toInt (by omega)) (nI_toInt (by omega)) zc146
                refine lv_iconst (v := nI 3) hx hb dX12_settle_194 (by decide) ?_
                refine lv_goto (tgt := 199) hx hb dX12_settle_195 (by decide) ?_
                refine zPutI (D := D) (ci := 12) (ty := .int) (C := RX12) (T := TX12) (N := 71) hx hb hts hiX12 tyX12 tyX12_ok nmX12 hown hH hS (zk_30 hF) rfl 0 (by decide) rfl hw2 (fun _ h9 => h9) rfl (by decide +kernel) rfl rfl dX12_settle_199 (fun H locs hH hS => ?_)
                obtain ⟨f171, ef171⟩ : ∃ f9 : zFi, f9 = zu f 30 0 (nI 3) := ⟨_, rfl⟩
                rw [← ef171] at hH
                have q172 : f171 30 26 = nI c0 := by rw [ef171, zu_n (fun h9 => absurd h9.2 (by decide))]; exact p26
                have q173 : f171 30 2 = nI n := by rw [ef171, zu_n (fun h9 => absurd h9.2 (by decide))]; exact p2
                have q174 : f171 30 45 = nI o := by rw [ef171, zu_n (fun h9 => absurd h9.2 (by decide))]; exact p45
                have q175 : f171 30 0 = nI 3 := by rw [ef171]; exact zu_s
                have hMt := zMt.ci (fi' := f171) hMt (fun i9 k9 h9 => by rw [ef171]; exact zu_n (by omega))
                have hMo := zMo.ci (fi' := f171) hMo (fun i9 k9 h9 => by rw [ef171]; exact zu_n (by omega))
                have hMq := zMq.ci (fi' := f171) hMq (fun i9 k9 h9 => by rw [ef171]; exact zu_n (by omega))
                have hMl := zMl.ci (fi' := f171) hMl (fun i9 k9 h9 => by rw [ef171]; exact zu_n (by omega))
                refine lv_aload_n hx hb dX12_settle_202 rfl (lv_at hl 0 rfl) ?_
                refine zGetI (D := D) (ci := 12) (C := RX12) (T := TX12) (N := 71) hx hb hts hiX12 hown hH (zk_30 hF) rfl 0 (by decide) rfl hw2 (fun _ h9 => h9) dX12_settle_203 q175 ?_
                refine lv_if_le (tgt := 211) hx hb dX12_settle_206 (by decide) (fun c176 => absurd c176 (by decide)) (fun c176 => ?_)
                refine lv_iconst (v := nI 0) hx hb dX12_settle_209 (by decide) ?_
                refine W.widen (k := 0) (n := 0) (by decide) (by decide) ?_
                exact W.iret (v := nI 0) hx hb hr (fun t9 ht9 hW9 => ⟨⟨nI 0, f171, rfl, ⟨⟨o, by omega, by omega, hMo⟩, hMq, fun a b h => by rw [ef171, zu_n (by omega)]; exact hfr a b (by omega)⟩, zEnd1 hH ht9 hW9⟩, hS.F ht9⟩) hS.2.2 dX12_settle_210
            · have zc145 := c145
              replace zc145 := zc_nle (rfl) (rfl) zc145
              refine lv_iconst (v := (-1)) hx hb dX12_settle_182 (by decide) ?_
              refine W.widen (k := 0) (n := 0) (by decide) (by decide) ?_
              exact W.iret (v := (-1)) hx hb hr (fun t9 ht9 hW9 => ⟨⟨(-1), f, rfl, ⟨⟨o, by omega, by omega, hMo⟩, hMq, fun a b h => hfr a b (by omega)⟩, zEnd1 hH ht9 hW9⟩, hS.F ht9⟩) hS.2.2 dX12_settle_183
        · have zc141 := c141
          replace zc141 := zc_nle (nI_toInt (by omega)) (nI_toInt (by omega)) zc141
          refine lv_aload_n hx hb dX12_settle_80 rfl (lv_at hl 0 rfl) ?_
          refine zGetR (D := D) (ci := 12) (C := RX12) (T := TX12) (N := 71) hx hb hts hiX12 hown hH (zk_30 hF) rfl 27 (by decide) rfl hw9 (fun _ h9 => h9) dX12_settle_81 (zr_30_27 hF) ?_
          refine lv_iload hx hb dX12_settle_84 (lv_at hl 4 rfl) ?_
          refine lv_aload_n hx hb dX12_settle_86 rfl (lv_at hl 0 rfl) ?_
          refine zGetR (D := D) (ci := 12) (C := RX12) (T := TX12) (N := 71) hx hb hts hiX12 hown hH (zk_30 hF) rfl 43 (by decide) rfl hw10 (fun _ h9 => h9) dX12_settle_87 hMq.2.2.2.2.1.2.2.2.2.2.2.1 ?_
          refine lv_bipush (v := nI 8) hx hb dX12_settle_90 (by decide) ?_
          refine lv_iload_n hx hb dX12_settle_92 rfl (lv_at hl 1 rfl) ?_
          refine lv_imul hx hb dX12_settle_93 ?_
          refine lv_topi (fun v177 ev177 => ?_)
          obtain rfl : v177 = nI (8 * d1) := ev177.trans (pk_mul _ _)
          refine lv_iload hx hb dX12_settle_94 (lv_at hl 4 rfl) ?_
          refine lv_iadd hx hb dX12_settle_96 ?_
          refine lv_topi (fun v178 ev178 => ?_)
          obtain rfl : v178 = nI (8 * d1 + i) := ev178.trans (nI_add _ _)
          refine zIaldN (D := D) hx hb hH hMq.2.2.2.1.2.2.2.2.2.2.1.1 hMq.2.2.2.1.2.2.2.2.2.2.1.2 (by omega) (by omega) rfl dX12_settle_97 ?_
          refine zIastN (D := D) hx hb hH hS (zk_48 hF) (zn_48 hF) (by omega) (by omega) dX12_settle_98 (fun H locs hH hS => ?_)
          obtain ⟨f179, ef179⟩ : ∃ f9 : zFi, f9 = zu f 48 i (f (206 + 10 * g) (8 * d1 + i)) := ⟨_, rfl⟩
          rw [← ef179] at hH
          have q180 : f179 30 26 = nI c0 := by rw [ef179, zu_n (fun h9 => absurd h9.1 (by decide))]; exact p26
          have q181 : f179 30 2 = nI n := by rw [ef179, zu_n (fun h9 => absurd h9.1 (by decide))]; exact p2
          have q182 : f179 30 45 = nI o := by rw [ef179, zu_n (fun h9 => absurd h9.1 (by decide))]; exact p45
          have q183 : f179 48 i = f (206 + 10 * g) (8 * d1 + i) := by rw [ef179]; exact zu_s
          have hMt := zMt.ci (fi' := f179) hMt (fun i9 k9 h9 => by rw [ef179]; exact zu_n (by omega))
          have hMo := zMo.ci (fi' := f179) hMo (fun i9 k9 h9 => by rw [ef179]; exact zu_n (by omega))
          have hMq := zMq.ci (fi' := f179) hMq (fun i9 k9 h9 => by rw [ef179]; exact zu_n (by omega))
          refine lv_aload_n hx hb dX12_settle_99 rfl (lv_at hl 0 rfl) ?_
          refine zGetR (D := D) (ci := 12) (C := RX12) (T := TX12) (N := 71) hx hb hts hiX12 hown hH (zk_30 hF) rfl 28 (by decide) rfl hw11 (fun _ h9 => h9) dX12_settle_100 (zr_30_28 hF) ?_
          refine lv_iload hx hb dX12_settle_103 (lv_at hl 4 rfl) ?_
          refine lv_aload_n hx hb dX12_settle_105 rfl (lv_at hl 0 rfl) ?_
          refine zGetR (D := D) (ci := 12) (C := RX12) (T := TX12) (N := 71) hx hb hts hiX12 hown hH (zk_30 hF) rfl 44 (by decide) rfl hw12 (fun _ h9 => h9) dX12_settle_106 hMq.2.2.2.2.1.2.2.2.2.2.2.2 ?_
          refine lv_bipush (v := nI 8) hx hb dX12_settle_109 (by decide) ?_
          refine lv_iload_n hx hb dX12_settle_111 rfl (lv_at hl 1 rfl) ?_
          refine lv_imul hx hb dX12_settle_112 ?_
          refine lv_topi (fun v184 ev184 => ?_)
          obtain rfl : v184 = nI (8 * d1) := ev184.trans (pk_mul _ _)
          refine lv_iload hx hb dX12_settle_113 (lv_at hl 4 rfl) ?_
          refine lv_iadd hx hb dX12_settle_115 ?_
          refine lv_topi (fun v185 ev185 => ?_)
          obtain rfl : v185 = nI (8 * d1 + i) := ev185.trans (nI_add _ _)
          refine zIaldN (D := D) hx hb hH hMq.2.2.2.1.2.2.2.2.2.2.2.1 hMq.2.2.2.1.2.2.2.2.2.2.2.2 (by omega) (by omega) rfl dX12_settle_116 ?_
          refine zIastN (D := D) hx hb hH hS (zk_49 hF) (zn_49 hF) (by omega) (by omega) dX12_settle_117 (fun H locs hH hS => ?_)
          obtain ⟨f186, ef186⟩ : ∃ f9 : zFi, f9 = zu f179 49 i (f179 (207 + 10 * g) (8 * d1 + i)) := ⟨_, rfl⟩
          rw [← ef186] at hH
          have q187 : f186 30 26 = nI c0 := by rw [ef186, zu_n (fun h9 => absurd h9.1 (by decide))]; exact q180
          have q188 : f186 30 2 = nI n := by rw [ef186, zu_n (fun h9 => absurd h9.1 (by decide))]; exact q181
          have q189 : f186 30 45 = nI o := by rw [ef186, zu_n (fun h9 => absurd h9.1 (by decide))]; exact q182
          have q190 : f186 48 i = f (206 + 10 * g) (8 * d1 + i) := by rw [ef186, zu_n (fun h9 => absurd h9.1 (by decide))]; exact q183
          have q191 : f186 49 i = f179 (207 + 10 * g) (8 * d1 + i) := by rw [ef186]; exact zu_s
          have hMt := zMt.ci (fi' := f186) hMt (fun i9 k9 h9 => by rw [ef186]; exact zu_n (by omega))
          have hMo := zMo.ci (fi' := f186) hMo (fun i9 k9 h9 => by rw [ef186]; exact zu_n (by omega))
          have hMq := zMq.ci (fi' := f186) hMq (fun i9 k9 h9 => by rw [ef186]; exact zu_n (by omega))
          refine lv_aload_n hx hb dX12_settle_118 rfl (lv_at hl 0 rfl) ?_
          refine lv_aload_n hx hb dX12_settle_119 rfl (lv_at hl 0 rfl) ?_
          refine zGetR (D := D) (ci := 12) (C := RX12) (T := TX12) (N := 71) hx hb hts hiX12 hown hH (zk_30 hF) rfl 27 (by decide) rfl hw9 (fun _ h9 => h9) dX12_settle_120 (zr_30_27 hF) ?_
          refine lv_iload hx hb dX12_settle_123 (lv_at hl 4 rfl) ?_
          refine zIaldN (D := D) hx hb hH (zk_48 hF) (zn_48 hF) (by omega) (by omega) q190 dX12_settle_125 ?_
          refine va_calli (va_runV (As := [.int (f (206 + 10 * g) (8 * d1 + i))]) (rest := []) ⟨hx, hb, hml, hown, hts⟩ (m_priceOf l hl0 D A sad τ f186 fr ol (f (206 + 10 * g) (8 * d1 + i)) hF n hMt) (cwV 1 hts gX12_settle_X12_priceOf rfl rfl rfl (by decide +kernel) ⟨Nat.le_of_ble_eq_true rfl, Nat.le_of_ble_eq_true rfl⟩) ⟨zQc_bl, zRecv hH (zk_30 hF) rfl, zQc_at hz hS hA hH⟩ rfl rfl hl.1 rfl (lv_room (Nat.le_of_ble_eq_true rfl)) dX12_settle_126 ⟨Nat.le_of_ble_eq_true rfl, Nat.le_of_ble_eq_true rfl⟩) hS (fun q _ h => h) (fun q h => h) (fun r192 u9 t9 H1 locs ht9 hvm9 hw hB hz1 hk1 hS => ?_)
          have hH := zMv ht9 hvm9 hB
          generalize H1 = H at hH hS ⊢
          clear hw
          refine lv_istore (lv' := [(6, .int r192), (0, .ref (τ.1 30)), (1, .int (nI d1)), (3, .int ((-1))), (4, .int yy), (5, .int (nI i))]) hx hb dX12_settle_129 hl (by decide) rfl (fun ls hl => ?_)
          refine lv_iload hx hb dX12_settle_131 (lv_at hl 4 rfl) ?_
          refine lv_iload hx hb dX12_settle_133 (lv_at hl 0 rfl) ?_
          refine lv_iconst (v := (-1)) hx hb dX12_settle_135 (by decide) ?_
          refine lv_icmp_ne (tgt := 143) hx hb dX12_settle_136 (by decide) (fun c193 => ?_) (fun c193 => ?_)
          · have zc193 := c193
            replace zc193 := zc_neq (rfl) ((by decide : ((-1) : Int32).toInt = (-1))) zc193
            refine lv_iload hx hb dX12_settle_143 (lv_at hl 0 rfl) ?_
            refine lv_aload_n hx hb dX12_settle_145 rfl (lv_at hl 1 rfl) ?_
            refine zGetR (D := D) (ci := 12) (C := RX12) (T := TX12) (N := 71) hx hb hts hiX12 hown hH (zk_30 hF) rfl 28 (by decide) rfl hw11 (fun _ h9 => h9) dX12_settle_146 (zr_30_28 hF) ?_
            refine lv_iload hx hb dX12_settle_149 (lv_at hl 5 rfl) ?_
            refine zIaldN (D := D) hx hb hH (zk_49 hF) (zn_49 hF) (by omega) (by omega) q191 dX12_settle_151 ?_
            refine lv_imul hx hb dX12_settle_152 ?_
            refine lv_topi (fun v194 ev194 => ?_)
            refine lv_iadd hx hb dX12_settle_153 ?_
            refine lv_topi (fun v195 ev195 => ?_)
            refine lv_istore (lv' := [(4, .int v195), (6, .int r192), (0, .ref (τ.1 30)), (1, .int (nI d1)), (3, .int ((-1))), (5, .int (nI i))]) hx hb dX12_settle_154 hl (by decide) rfl (fun ls hl => ?_)
            refine lv_iinc (v := nI (i + 1)) (lv' := [(5, .int (nI (i + 1))), (4, .int v195), (6, .int r192), (0, .ref (τ.1 30)), (1, .int (nI d1)), (3, .int ((-1)))]) hx hb dX12_settle_156 hl (k := 5) rfl (by rw [show (Int32.ofInt 1 : Int32) = nI 1 from by decide, nI_add]) (by decide) rfl (fun ls hl => ?_)
            refine lv_goto (tgt := 71) hx hb dX12_settle_159 (by decide) ?_
            exact ih140 (c0 - (i + 1)) (by omega) (i + 1, _, f186) _ _ _ (show c0 - (i + 1) = c0 - (i + 1) ∧ ((i + 1) ≤ c0 ∧ f186 30 26 = nI c0 ∧ (∀ j, j < (i + 1) → 1 ≤ (f186 49 j).toInt ∧ (f186 49 j).toInt ≤ 99) ∧ ∀ a b, ¬ (a = 48 ∨ a = 49 ∨ (a = 30 ∧ (b = 0 ∨ b = 26 ∨ b = 30))) → f186 a b = fi a b) ∧ zH D A τ f186 fr ol s _ ∧ va_S A s.heap _ _ ∧ lv_has _ 7 [(0, .ref (τ.1 30)), (1, .int (nI d1)), (3, .int ((-1))), (4, .int _), (5, .int (nI (i + 1)))] from ⟨rfl, ⟨by omega, q187, fun j h => by by_cases h7 : j = i; (subst h7; rw [ef186, zu_s, ef179, zu_n (by omega), hfr _ _ (by omega)]; exact hcl j (by omega)); (rw [ef186, zu_n (by omega), ef179, zu_n (by omega)]; exact hli j (by omega)), fun a b h => by rw [ef186, zu_n (by omega), ef179, zu_n (by omega)]; exact hfr a b h⟩, hH, hS, lv_sub hl [3, 4, 5, 1, 0] rfl⟩)
          · have zc193 := c193
            replace zc193 := zc_eq (rfl) ((by decide : ((-1) : Int32).toInt = (-1))) zc193
            refine lv_iconst (v := nI 0) hx hb dX12_settle_139 (by decide) ?_
            refine lv_goto (tgt := 153) hx hb dX12_settle_140 (by decide) ?_
            refine lv_iadd hx hb dX12_settle_153 ?_
            refine lv_topi (fun v196 ev196 => ?_)
            refine lv_istore (lv' := [(4, .int v196), (6, .int r192), (0, .ref (τ.1 30)), (1, .int (nI d1)), (3, .int ((-1))), (5, .int (nI i))]) hx hb dX12_settle_154 hl (by decide) rfl (fun ls hl => ?_)
            refine lv_iinc (v := nI (i + 1)) (lv' := [(5, .int (nI (i + 1))), (4, .int v196), (6, .int r192), (0, .ref (τ.1 30)), (1, .int (nI d1)), (3, .int ((-1)))]) hx hb dX12_settle_156 hl (k := 5) rfl (by rw [show (Int32.ofInt 1 : Int32) = nI 1 from by decide, nI_add]) (by decide) rfl (fun ls hl => ?_)
            refine lv_goto (tgt := 71) hx hb dX12_settle_159 (by decide) ?_
            exact ih140 (c0 - (i + 1)) (by omega) (i + 1, _, f186) _ _ _ (show c0 - (i + 1) = c0 - (i + 1) ∧ ((i + 1) ≤ c0 ∧ f186 30 26 = nI c0 ∧ (∀ j, j < (i + 1) → 1 ≤ (f186 49 j).toInt ∧ (f186 49 j).toInt ≤ 99) ∧ ∀ a b, ¬ (a = 48 ∨ a = 49 ∨ (a = 30 ∧ (b = 0 ∨ b = 26 ∨ b = 30))) → f186 a b = fi a b) ∧ zH D A τ f186 fr ol s _ ∧ va_S A s.heap _ _ ∧ lv_has _ 7 [(0, .ref (τ.1 30)), (1, .int (nI d1)), (3, .int ((-1))), (4, .int _), (5, .int (nI (i + 1)))] from ⟨rfl, ⟨by omega, q187, fun j h => by by_cases h7 : j = i; (subst h7; rw [ef186, zu_s, ef179, zu_n (by omega), hfr _ _ (by omega)]; exact hcl j (by omega)); (rw [ef186, zu_n (by omega), ef179, zu_n (by omega)]; exact hli j (by omega)), fun a b h => by rw [ef186, zu_n (by omega), ef179, zu_n (by omega)]; exact hfr a b h⟩, hH, hS, lv_sub hl [3, 4, 5, 1, 0] rfl⟩)
    · have zc103 := c103
      replace zc103 := zc_eq (rfl) ((by decide : (0 : Int32).toInt = 0)) zc103
      refine lv_iconst (v := nI 2) hx hb dX12_settle_22 (by decide) ?_
      refine lv_goto (tgt := 27) hx hb dX12_settle_23 (by decide) ?_
      refine zPutI (D := D) (ci := 12) (ty := .int) (C := RX12) (T := TX12) (N := 71) hx hb hts hiX12 tyX12 tyX12_ok nmX12 hown hH hS (zk_30 hF) rfl 0 (by decide) rfl hw2 (fun _ h9 => h9) rfl (by decide +kernel) rfl rfl dX12_settle_27 (fun H locs hH hS => ?_)
      obtain ⟨f197, ef197⟩ : ∃ f9 : zFi, f9 = zu fi 30 0 (nI 2) := ⟨_, rfl⟩
      rw [← ef197] at hH
      have q198 : f197 30 45 = nI o := by rw [ef197, zu_n (fun h9 => absurd h9.2 (by decide))]; exact hMo.2.1
      have q199 : f197 30 35 = nI d := by rw [ef197, zu_n (fun h9 => absurd h9.2 (by decide))]; exact hMq.2.2.1
      have q200 : f197 30 2 = nI n := by rw [ef197, zu_n (fun h9 => absurd h9.2 (by decide))]; exact hMt.2.1
      have q201 : f197 30 0 = nI 2 := by rw [ef197]; exact zu_s
      have hMt := zMt.ci (fi' := f197) hMt (fun i9 k9 h9 => by rw [ef197]; exact zu_n (by omega))
      have hMo := zMo.ci (fi' := f197) hMo (fun i9 k9 h9 => by rw [ef197]; exact zu_n (by omega))
      have hMq := zMq.ci (fi' := f197) hMq (fun i9 k9 h9 => by rw [ef197]; exact zu_n (by omega))
      refine lv_aload_n hx hb dX12_settle_30 rfl (lv_at hl 0 rfl) ?_
      refine zGetI (D := D) (ci := 12) (C := RX12) (T := TX12) (N := 71) hx hb hts hiX12 hown hH (zk_30 hF) rfl 0 (by decide) rfl hw2 (fun _ h9 => h9) dX12_settle_31 q201 ?_
      refine lv_if_le (tgt := 39) hx hb dX12_settle_34 (by decide) (fun c202 => absurd c202 (by decide)) (fun c202 => ?_)
      refine lv_iconst (v := nI 0) hx hb dX12_settle_37 (by decide) ?_
      refine W.widen (k := 0) (n := 0) (by decide) (by decide) ?_
      exact W.iret (v := nI 0) hx hb hr (fun t9 ht9 hW9 => ⟨⟨nI 0, f197, rfl, ⟨⟨o, by omega, by omega, hMo⟩, hMq, fun a b h => by rw [ef197, zu_n (by omega)]⟩, zEnd1 hH ht9 hW9⟩, hS.F ht9⟩) hS.2.2 dX12_settle_38
  · skip
    refine lv_if_ne (tgt := 13) hx hb dX12_settle_6 (by decide) (fun c203 => absurd (by decide) c203) (fun c203 => ?_)
    refine lv_iconst (v := nI 1) hx hb dX12_settle_9 (by decide) ?_
    refine lv_goto (tgt := 27) hx hb dX12_settle_10 (by decide) ?_
    refine zPutI (D := D) (ci := 12) (ty := .int) (C := RX12) (T := TX12) (N := 71) hx hb hts hiX12 tyX12 tyX12_ok nmX12 hown hH hS (zk_30 hF) rfl 0 (by decide) rfl hw2 (fun _ h9 => h9) rfl (by decide +kernel) rfl rfl dX12_settle_27 (fun H locs hH hS => ?_)
    obtain ⟨f204, ef204⟩ : ∃ f9 : zFi, f9 = zu fi 30 0 (nI 1) := ⟨_, rfl⟩
    rw [← ef204] at hH
    have q205 : f204 30 45 = nI o := by rw [ef204, zu_n (fun h9 => absurd h9.2 (by decide))]; exact hMo.2.1
    have q206 : f204 30 35 = nI d := by rw [ef204, zu_n (fun h9 => absurd h9.2 (by decide))]; exact hMq.2.2.1
    have q207 : f204 30 2 = nI n := by rw [ef204, zu_n (fun h9 => absurd h9.2 (by decide))]; exact hMt.2.1
    have q208 : f204 30 0 = nI 1 := by rw [ef204]; exact zu_s
    have hMt := zMt.ci (fi' := f204) hMt (fun i9 k9 h9 => by rw [ef204]; exact zu_n (by omega))
    have hMo := zMo.ci (fi' := f204) hMo (fun i9 k9 h9 => by rw [ef204]; exact zu_n (by omega))
    have hMq := zMq.ci (fi' := f204) hMq (fun i9 k9 h9 => by rw [ef204]; exact zu_n (by omega))
    refine lv_aload_n hx hb dX12_settle_30 rfl (lv_at hl 0 rfl) ?_
    refine zGetI (D := D) (ci := 12) (C := RX12) (T := TX12) (N := 71) hx hb hts hiX12 hown hH (zk_30 hF) rfl 0 (by decide) rfl hw2 (fun _ h9 => h9) dX12_settle_31 q208 ?_
    refine lv_if_le (tgt := 39) hx hb dX12_settle_34 (by decide) (fun c209 => absurd c209 (by decide)) (fun c209 => ?_)
    refine lv_iconst (v := nI 0) hx hb dX12_settle_37 (by decide) ?_
    refine W.widen (k := 0) (n := 0) (by decide) (by decide) ?_
    exact W.iret (v := nI 0) hx hb hr (fun t9 ht9 hW9 => ⟨⟨nI 0, f204, rfl, ⟨⟨o, by omega, by omega, hMo⟩, hMq, fun a b h => by rw [ef204, zu_n (by omega)]⟩, zEnd1 hH ht9 hW9⟩, hS.F ht9⟩) hS.2.2 dX12_settle_38
