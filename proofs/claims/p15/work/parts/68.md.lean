/-- the model's doubts: arrays that grow -/
def zMq (τ : zTy) (fi : zFi) (fr : zFr) (g Ln d : Nat) : Prop := ((g = 0 ∧ Ln = 64) ∨ (g = 1 ∧ Ln = 128) ∨ (g = 2 ∧ Ln = 256) ∨ (g = 3 ∧ Ln = 512)) ∧ d ≤ Ln ∧ fi 30 35 = nI d ∧
  ((τ.2.2.1 (200 + 10 * g) = 3 ∧ τ.2.2.2 (200 + 10 * g) = Ln) ∧ (τ.2.2.1 (201 + 10 * g) = 1 ∧ τ.2.2.2 (201 + 10 * g) = Ln) ∧ (τ.2.2.1 (202 + 10 * g) = 1 ∧ τ.2.2.2 (202 + 10 * g) = Ln) ∧ (τ.2.2.1 (203 + 10 * g) = 1 ∧ τ.2.2.2 (203 + 10 * g) = Ln) ∧ (τ.2.2.1 (204 + 10 * g) = 1 ∧ τ.2.2.2 (204 + 10 * g) = Ln) ∧ (τ.2.2.1 (205 + 10 * g) = 1 ∧ τ.2.2.2 (205 + 10 * g) = Ln) ∧ (τ.2.2.1 (206 + 10 * g) = 1 ∧ τ.2.2.2 (206 + 10 * g) = 8 * Ln) ∧ (τ.2.2.1 (207 + 10 * g) = 1 ∧ τ.2.2.2 (207 + 10 * g) = 8 * Ln)) ∧ (fr 30 37 = some (200 + 10 * g) ∧ fr 30 38 = some (201 + 10 * g) ∧ fr 30 39 = some (202 + 10 * g) ∧ fr 30 40 = some (203 + 10 * g) ∧ fr 30 41 = some (204 + 10 * g) ∧ fr 30 42 = some (205 + 10 * g) ∧ fr 30 43 = some (206 + 10 * g) ∧ fr 30 44 = some (207 + 10 * g)) ∧
  (∀ k, k < d → ∃ c, c ≤ 8 ∧ fi (202 + 10 * g) k = nI c ∧ ∀ j, j < c → 1 ≤ (fi (207 + 10 * g) (8 * k + j)).toInt ∧ (fi (207 + 10 * g) (8 * k + j)).toInt ≤ 99) ∧
  ∀ k, g < k → k ≤ 3 → ∀ j, j < 8 → τ.2.2.1 (200 + 10 * k + j) = 0
theorem zMq.ci {τ : zTy} {fi fi' : zFi} {fr : zFr} {g Ln d : Nat} (h : zMq τ fi fr g Ln d) (hi : ∀ i k, (i = 30 ∧ k = 35) ∨ i = 202 + 10 * g ∨ i = 207 + 10 * g → fi' i k = fi i k) : zMq τ fi' fr g Ln d := by
  obtain ⟨h1, h2, h3, h4, h5, h6, h7⟩ := h
  refine ⟨h1, h2, by rw [hi 30 35 (by omega)]; exact h3, h4, h5, fun k hk => ?_, h7⟩
  obtain ⟨c, a1, a2, a3⟩ := h6 k hk
  exact ⟨c, a1, by rw [hi (202 + 10 * g) k (by omega)]; exact a2, fun j hj => by rw [hi (207 + 10 * g) _ (by omega)]; exact a3 j hj⟩
set_option maxHeartbeats 4000000 in
set_option maxRecDepth 100000 in
/-- doubt -/
theorem m_doubt (l : Launch) (hl0 : l.stackTraces = false) (D : va_G) (A : Nat → Prop) (sad : Nat → Nat) (τ : zTy) (fi : zFi) (fr : zFr) (ol : Int64) (x y : Int32) (hF : zFix τ fr) (g Ln d : Nat) (hMq : zMq τ fi fr g Ln d) : Met l yX12_doubt wsX12_doubt ({ frames := 1, cells := 0, slots := 0, locals := 22 }) (va_Pc [.ref (τ.1 30), .int x, .int y] (zQc D A sad τ fi fr ol)) (va_Qi (fun (r : Int32) (u : zFi) => ∀ a b, ¬ (a = 30 ∧ b = 0) → u a b = fi a b) (fun (u : zFi) (t : State) => zH D A τ u fr ol t t.heap) A) 0 0 A := by
  refine Met.ofW (cc := cX12_doubt) (maxL := 3) (ret := (some .int)) (by decide) rfl ?_
  intro p9 e9 s m args below meth c9 s₁ B hml hv
  obtain ⟨rfl, hz, hH, hA⟩ := hv
  have hx := B.exec
  have hb := B.bytes
  have hr := B.returns
  have hts := atoms_spec (ws := wsX12_doubt) B.pre
  have hown : s.vm.findClass RX12 = some m.cls := findClass_of_methodNamed B.named
  have hlocks := B.notSynchronized
  have hS : va_S A s.heap s.heap [] := va_S.rf
  have hl := lv_entry ([.ref (τ.1 30), .int x, .int y]) (n := 3) (Nat.le_of_ble_eq_true rfl)
  rw [lg_entry_eq]
  generalize (lg_sl ([.ref (τ.1 30), .int x, .int y]) ++ List.replicate (3 - (lg_sl ([.ref (τ.1 30), .int x, .int y])).length) Slot.unset).toArray = ls at hl ⊢
  have hl : lv_has ls 3 [(0, .ref (τ.1 30)), (1, .int x), (2, .int y)] := hl
  have hLn : g ≤ 3 ∧ Ln ≤ 512 := by have := hMq.1; omega
  have hdL := hMq.2.1
  have hw0 := hts (.fieldLink RX12 165 "PostHouseModel" "thrown" "I") (by decide +kernel)
  have hiX12 : ∀ w ∈ u_ws RX12 TX12 71, w ∈ wsX12_doubt := fun _ h => List.mem_cons_of_mem _ (List.mem_append_right _ h)
  have hw2 := hts (.fieldLink RX12 71 "PostHouseModel" "doubtWaits" "[Z") (by decide +kernel)
  have hw3 := hts (.fieldLink RX12 75 "PostHouseModel" "doubtMendings" "[I") (by decide +kernel)
  have hw4 := hts (.fieldLink RX12 78 "PostHouseModel" "doubtLines" "[I") (by decide +kernel)
  have hw5 := hts (.fieldLink RX12 81 "PostHouseModel" "doubtKnown" "[I") (by decide +kernel)
  have hw6 := hts (.fieldLink RX12 84 "PostHouseModel" "doubtSum" "[I") (by decide +kernel)
  have hw7 := hts (.fieldLink RX12 87 "PostHouseModel" "doubtMoney" "[I") (by decide +kernel)
  refine lv_aload_n hx hb dX12_doubt_0 rfl (lv_at hl 0 rfl) ?_
  refine lv_aload_n hx hb dX12_doubt_1 rfl (lv_at hl 0 rfl) ?_
  refine lv_iload_n hx hb dX12_doubt_2 rfl (lv_at hl 1 rfl) ?_
  refine va_calli (va_runV (As := [.int x]) (rest := [.ref (τ.1 30)]) ⟨hx, hb, hml, hown, hts⟩ (m_isDoubt l hl0 D A sad τ fi fr ol x d hF hMq.2.2.1 (by omega)) (cwV 1 hts gX12_doubt_X12_isDoubt rfl rfl rfl (by decide +kernel) ⟨Nat.le_of_ble_eq_true rfl, Nat.le_of_ble_eq_true rfl⟩) ⟨zQc_bl, zRecv hH (zk_30 hF) rfl, zQc_at hz hS hA hH⟩ rfl rfl hl.1 rfl (lv_room (Nat.le_of_ble_eq_true rfl)) dX12_doubt_3 ⟨Nat.le_of_ble_eq_true rfl, Nat.le_of_ble_eq_true rfl⟩) hS (fun q _ h => h) (fun q h => h) (fun r101 u9 t9 H1 locs ht9 hvm9 hw hB hz1 hk1 hS => ?_)
  have hH := zMv ht9 hvm9 hB
  generalize H1 = H at hH hS ⊢
  rcases hw with ⟨d1, hd1, rfl, rfl⟩ | ⟨hno, rfl⟩
  · skip
    refine lv_if_ne (tgt := 13) hx hb dX12_doubt_6 (by decide) (fun c102 => ?_) (fun c102 => absurd c102 (by decide))
    refine lv_iload_n hx hb dX12_doubt_13 rfl (lv_at hl 2 rfl) ?_
    refine lv_iconst (v := nI 0) hx hb dX12_doubt_14 (by decide) ?_
    refine lv_iconst (v := nI 5) hx hb dX12_doubt_15 (by decide) ?_
    refine va_calli (va_runS (As := [.int y, .int (nI 0), .int (nI 5)]) (rest := [.ref (τ.1 30)]) ⟨hx, hb, hml, hown, hts⟩ (m_isIn l hl0 D A sad τ fi fr ol y (nI 0) (nI 5)) (cwS 3 hts gX12_doubt_X12_isIn rfl rfl rfl (by decide +kernel) ⟨Nat.le_of_ble_eq_true rfl, Nat.le_of_ble_eq_true rfl⟩) ⟨zQc_bl, zQc_at hz hS hA hH⟩ rfl rfl hl.1 rfl (lv_room (Nat.le_of_ble_eq_true rfl)) dX12_doubt_16 ⟨Nat.le_of_ble_eq_true rfl, Nat.le_of_ble_eq_true rfl⟩) hS (fun q _ h => h) (fun q h => h) (fun r103 u9 t9 H1 locs ht9 hvm9 hw hB hz1 hk1 hS => ?_)
    have hH := zMv ht9 hvm9 hB
    generalize H1 = H at hH hS ⊢
    rcases hw with ⟨rfl, hy104⟩ | ⟨rfl, hn105⟩
    · skip
      replace hy104 := zWi1 (rfl) (nI_toInt (by omega)) (nI_toInt (by omega)) hy104
      refine lv_if_ne (tgt := 26) hx hb dX12_doubt_19 (by decide) (fun c106 => ?_) (fun c106 => absurd c106 (by decide))
      refine lv_iconst (v := nI 0) hx hb dX12_doubt_26 (by decide) ?_
      refine zPutI (D := D) (ci := 12) (ty := .int) (C := RX12) (T := TX12) (N := 71) hx hb hts hiX12 tyX12 tyX12_ok nmX12 hown hH hS (zk_30 hF) rfl 0 (by decide) rfl hw0 (fun _ h9 => h9) rfl (by decide +kernel) rfl rfl dX12_doubt_27 (fun H locs hH hS => ?_)
      obtain ⟨f107, ef107⟩ : ∃ f9 : zFi, f9 = zu fi 30 0 (nI 0) := ⟨_, rfl⟩
      rw [← ef107] at hH
      have q108 : f107 30 35 = nI d := by rw [ef107, zu_n (fun h9 => absurd h9.2 (by decide))]; exact hMq.2.2.1
      have q109 : f107 30 0 = nI 0 := by rw [ef107]; exact zu_s
      have hMq := zMq.ci (fi' := f107) hMq (fun i9 k9 h9 => by rw [ef107]; exact zu_n (by omega))
      refine lv_aload_n hx hb dX12_doubt_30 rfl (lv_at hl 0 rfl) ?_
      refine zGetI (D := D) (ci := 12) (C := RX12) (T := TX12) (N := 71) hx hb hts hiX12 hown hH (zk_30 hF) rfl 0 (by decide) rfl hw0 (fun _ h9 => h9) dX12_doubt_31 q109 ?_
      refine lv_if_le (tgt := 39) hx hb dX12_doubt_34 (by decide) (fun c110 => ?_) (fun c110 => absurd (by decide) c110)
      refine lv_iload_n hx hb dX12_doubt_39 rfl (lv_at hl 2 rfl) ?_
      rcases zCase4 y with c111 | c111 | c111 | c111 | c111 | c111
      · subst c111
        refine lv_tableIn (tgt := 76) (off := 36) hx hb dX12_doubt_40 (by decide) (by decide) rfl (by decide) ?_
        refine lv_aload_n hx hb dX12_doubt_76 rfl (lv_at hl 0 rfl) ?_
        refine zGetR (D := D) (ci := 12) (C := RX12) (T := TX12) (N := 71) hx hb hts hiX12 hown hH (zk_30 hF) rfl 37 (by decide) rfl hw2 (fun _ h9 => h9) dX12_doubt_77 hMq.2.2.2.2.1.1 ?_
        refine lv_iload_n hx hb dX12_doubt_80 rfl (lv_at hl 1 rfl) ?_
        refine zZaldN (D := D) hx hb hH hMq.2.2.2.1.1.1 hMq.2.2.2.1.1.2 (by omega) (by omega) rfl dX12_doubt_81 ?_
        refine lv_if_eq (tgt := 89) hx hb dX12_doubt_82 (by decide) (fun c112 => ?_) (fun c112 => ?_)
        · have zc112 := c112
          replace zc112 := zc_eq (rfl) ((by decide : (0 : Int32).toInt = 0)) zc112
          refine lv_iconst (v := nI 0) hx hb dX12_doubt_89 (by decide) ?_
          refine W.widen (k := 0) (n := 0) (by decide) (by decide) ?_
          exact W.iret (v := nI 0) hx hb hr (fun t9 ht9 hW9 => ⟨⟨nI 0, f107, rfl, fun a b h => by rw [ef107, zu_n (by omega)], zEnd1 hH ht9 hW9⟩, hS.F ht9⟩) hS.2.2 dX12_doubt_90
        · have zc112 := c112
          replace zc112 := zc_neq (rfl) ((by decide : (0 : Int32).toInt = 0)) zc112
          refine lv_iconst (v := nI 1) hx hb dX12_doubt_85 (by decide) ?_
          refine lv_goto (tgt := 90) hx hb dX12_doubt_86 (by decide) ?_
          refine W.widen (k := 0) (n := 0) (by decide) (by decide) ?_
          exact W.iret (v := nI 1) hx hb hr (fun t9 ht9 hW9 => ⟨⟨nI 1, f107, rfl, fun a b h => by rw [ef107, zu_n (by omega)], zEnd1 hH ht9 hW9⟩, hS.F ht9⟩) hS.2.2 dX12_doubt_90
      · subst c111
        refine lv_tableIn (tgt := 91) (off := 51) hx hb dX12_doubt_40 (by decide) (by decide) rfl (by decide) ?_
        refine lv_aload_n hx hb dX12_doubt_91 rfl (lv_at hl 0 rfl) ?_
        refine zGetR (D := D) (ci := 12) (C := RX12) (T := TX12) (N := 71) hx hb hts hiX12 hown hH (zk_30 hF) rfl 38 (by decide) rfl hw3 (fun _ h9 => h9) dX12_doubt_92 hMq.2.2.2.2.1.2.1 ?_
        refine lv_iload_n hx hb dX12_doubt_95 rfl (lv_at hl 1 rfl) ?_
        refine zIaldN (D := D) hx hb hH hMq.2.2.2.1.2.1.1 hMq.2.2.2.1.2.1.2 (by omega) (by omega) rfl dX12_doubt_96 ?_
        refine W.widen (k := 0) (n := 0) (by decide) (by decide) ?_
        exact W.iret (v := f107 (201 + 10 * g) d1) hx hb hr (fun t9 ht9 hW9 => ⟨⟨f107 (201 + 10 * g) d1, f107, rfl, fun a b h => by rw [ef107, zu_n (by omega)], zEnd1 hH ht9 hW9⟩, hS.F ht9⟩) hS.2.2 dX12_doubt_97
      · subst c111
        refine lv_tableIn (tgt := 98) (off := 58) hx hb dX12_doubt_40 (by decide) (by decide) rfl (by decide) ?_
        refine lv_aload_n hx hb dX12_doubt_98 rfl (lv_at hl 0 rfl) ?_
        refine zGetR (D := D) (ci := 12) (C := RX12) (T := TX12) (N := 71) hx hb hts hiX12 hown hH (zk_30 hF) rfl 39 (by decide) rfl hw4 (fun _ h9 => h9) dX12_doubt_99 hMq.2.2.2.2.1.2.2.1 ?_
        refine lv_iload_n hx hb dX12_doubt_102 rfl (lv_at hl 1 rfl) ?_
        refine zIaldN (D := D) hx hb hH hMq.2.2.2.1.2.2.1.1 hMq.2.2.2.1.2.2.1.2 (by omega) (by omega) rfl dX12_doubt_103 ?_
        refine W.widen (k := 0) (n := 0) (by decide) (by decide) ?_
        exact W.iret (v := f107 (202 + 10 * g) d1) hx hb hr (fun t9 ht9 hW9 => ⟨⟨f107 (202 + 10 * g) d1, f107, rfl, fun a b h => by rw [ef107, zu_n (by omega)], zEnd1 hH ht9 hW9⟩, hS.F ht9⟩) hS.2.2 dX12_doubt_104
      · subst c111
        refine lv_tableIn (tgt := 105) (off := 65) hx hb dX12_doubt_40 (by decide) (by decide) rfl (by decide) ?_
        refine lv_aload_n hx hb dX12_doubt_105 rfl (lv_at hl 0 rfl) ?_
        refine zGetR (D := D) (ci := 12) (C := RX12) (T := TX12) (N := 71) hx hb hts hiX12 hown hH (zk_30 hF) rfl 40 (by decide) rfl hw5 (fun _ h9 => h9) dX12_doubt_106 hMq.2.2.2.2.1.2.2.2.1 ?_
        refine lv_iload_n hx hb dX12_doubt_109 rfl (lv_at hl 1 rfl) ?_
        refine zIaldN (D := D) hx hb hH hMq.2.2.2.1.2.2.2.1.1 hMq.2.2.2.1.2.2.2.1.2 (by omega) (by omega) rfl dX12_doubt_110 ?_
        refine W.widen (k := 0) (n := 0) (by decide) (by decide) ?_
        exact W.iret (v := f107 (203 + 10 * g) d1) hx hb hr (fun t9 ht9 hW9 => ⟨⟨f107 (203 + 10 * g) d1, f107, rfl, fun a b h => by rw [ef107, zu_n (by omega)], zEnd1 hH ht9 hW9⟩, hS.F ht9⟩) hS.2.2 dX12_doubt_111
      · subst c111
        refine lv_tableIn (tgt := 112) (off := 72) hx hb dX12_doubt_40 (by decide) (by decide) rfl (by decide) ?_
        refine lv_aload_n hx hb dX12_doubt_112 rfl (lv_at hl 0 rfl) ?_
        refine zGetR (D := D) (ci := 12) (C := RX12) (T := TX12) (N := 71) hx hb hts hiX12 hown hH (zk_30 hF) rfl 41 (by decide) rfl hw6 (fun _ h9 => h9) dX12_doubt_113 hMq.2.2.2.2.1.2.2.2.2.1 ?_
        refine lv_iload_n hx hb dX12_doubt_116 rfl (lv_at hl 1 rfl) ?_
        refine zIaldN (D := D) hx hb hH hMq.2.2.2.1.2.2.2.2.1.1 hMq.2.2.2.1.2.2.2.2.1.2 (by omega) (by omega) rfl dX12_doubt_117 ?_
        refine W.widen (k := 0) (n := 0) (by decide) (by decide) ?_
        exact W.iret (v := f107 (204 + 10 * g) d1) hx hb hr (fun t9 ht9 hW9 => ⟨⟨f107 (204 + 10 * g) d1, f107, rfl, fun a b h => by rw [ef107, zu_n (by omega)], zEnd1 hH ht9 hW9⟩, hS.F ht9⟩) hS.2.2 dX12_doubt_118
      · refine lv_tableOut (tgt := 119) hx hb dX12_doubt_40 c111 (by decide) ?_
        refine lv_aload_n hx hb dX12_doubt_119 rfl (lv_at hl 0 rfl) ?_
        refine zGetR (D := D) (ci := 12) (C := RX12) (T := TX12) (N := 71) hx hb hts hiX12 hown hH (zk_30 hF) rfl 42 (by decide) rfl hw7 (fun _ h9 => h9) dX12_doubt_120 hMq.2.2.2.2.1.2.2.2.2.2.1 ?_
        refine lv_iload_n hx hb dX12_doubt_123 rfl (lv_at hl 1 rfl) ?_
        refine zIaldN (D := D) hx hb hH hMq.2.2.2.1.2.2.2.2.2.1.1 hMq.2.2.2.1.2.2.2.2.2.1.2 (by omega) (by omega) rfl dX12_doubt_124 ?_
        refine W.widen (k := 0) (n := 0) (by decide) (by decide) ?_
        exact W.iret (v := f107 (205 + 10 * g) d1) hx hb hr (fun t9 ht9 hW9 => ⟨⟨f107 (205 + 10 * g) d1, f107, rfl, fun a b h => by rw [ef107, zu_n (by omega)], zEnd1 hH ht9 hW9⟩, hS.F ht9⟩) hS.2.2 dX12_doubt_125
    · skip
      replace hn105 := zWi0 (rfl) (nI_toInt (by omega)) (nI_toInt (by omega)) hn105
      refine lv_if_ne (tgt := 26) hx hb dX12_doubt_19 (by decide) (fun c113 => absurd (by decide) c113) (fun c113 => ?_)
      refine lv_iconst (v := nI 2) hx hb dX12_doubt_22 (by decide) ?_
      refine lv_goto (tgt := 27) hx hb dX12_doubt_23 (by decide) ?_
      refine zPutI (D := D) (ci := 12) (ty := .int) (C := RX12) (T := TX12) (N := 71) hx hb hts hiX12 tyX12 tyX12_ok nmX12 hown hH hS (zk_30 hF) rfl 0 (by decide) rfl hw0 (fun _ h9 => h9) rfl (by decide +kernel) rfl rfl dX12_doubt_27 (fun H locs hH hS => ?_)
      obtain ⟨f114, ef114⟩ : ∃ f9 : zFi, f9 = zu fi 30 0 (nI 2) := ⟨_, rfl⟩
      rw [← ef114] at hH
      have q115 : f114 30 35 = nI d := by rw [ef114, zu_n (fun h9 => absurd h9.2 (by decide))]; exact hMq.2.2.1
      have q116 : f114 30 0 = nI 2 := by rw [ef114]; exact zu_s
      have hMq := zMq.ci (fi' := f114) hMq (fun i9 k9 h9 => by rw [ef114]; exact zu_n (by omega))
      refine lv_aload_n hx hb dX12_doubt_30 rfl (lv_at hl 0 rfl) ?_
      refine zGetI (D := D) (ci := 12) (C := RX12) (T := TX12) (N := 71) hx hb hts hiX12 hown hH (zk_30 hF) rfl 0 (by decide) rfl hw0 (fun _ h9 => h9) dX12_doubt_31 q116 ?_
      refine lv_if_le (tgt := 39) hx hb dX12_doubt_34 (by decide) (fun c117 => absurd c117 (by decide)) (fun c117 => ?_)
      refine lv_iconst (v := nI 0) hx hb dX12_doubt_37 (by decide) ?_
      refine W.widen (k := 0) (n := 0) (by decide) (by decide) ?_
      exact W.iret (v := nI 0) hx hb hr (fun t9 ht9 hW9 => ⟨⟨nI 0, f114, rfl, fun a b h => by rw [ef114, zu_n (by omega)], zEnd1 hH ht9 hW9⟩, hS.F ht9⟩) hS.2.2 dX12_doubt_38
  · skip
    refine lv_if_ne (tgt := 13) hx hb dX12_doubt_6 (by decide) (fun c118 => absurd (by decide) c118) (fun c118 => ?_)
    refine lv_iconst (v := nI 1) hx hb dX12_doubt_9 (by decide) ?_
    refine lv_goto (tgt := 27) hx hb dX12_doubt_10 (by decide) ?_
    refine zPutI (D := D) (ci := 12) (ty := .int) (C := RX12) (T := TX12) (N := 71) hx hb hts hiX12 tyX12 tyX12_ok nmX12 hown hH hS (zk_30 hF) rfl 0 (by decide) rfl hw0 (fun _ h9 => h9) rfl (by decide +kernel) rfl rfl dX12_doubt_27 (fun H locs hH hS => ?_)
    obtain ⟨f119, ef119⟩ : ∃ f9 : zFi, f9 = zu fi 30 0 (nI 1) := ⟨_, rfl⟩
    rw [← ef119] at hH
    have q120 : f119 30 35 = nI d := by rw [ef119, zu_n (fun h9 => absurd h9.2 (by decide))]; exact hMq.2.2.1
    have q121 : f119 30 0 = nI 1 := by rw [ef119]; exact zu_s
    have hMq := zMq.ci (fi' := f119) hMq (fun i9 k9 h9 => by rw [ef119]; exact zu_n (by omega))
    refine lv_aload_n hx hb dX12_doubt_30 rfl (lv_at hl 0 rfl) ?_
    refine zGetI (D := D) (ci := 12) (C := RX12) (T := TX12) (N := 71) hx hb hts hiX12 hown hH (zk_30 hF) rfl 0 (by decide) rfl hw0 (fun _ h9 => h9) dX12_doubt_31 q121 ?_
    refine lv_if_le (tgt := 39) hx hb dX12_doubt_34 (by decide) (fun c122 => absurd c122 (by decide)) (fun c122 => ?_)
    refine lv_iconst (v := nI 0) hx hb dX12_doubt_37 (by decide) ?_
    refine W.widen (k := 0) (n := 0) (by decide) (by decide) ?_
    exact W.iret (v := nI 0) hx hb hr (fun t9 ht9 hW9 => ⟨⟨nI 0, f119, rfl, fun a b h => by rw [ef119, zu_n (by omega)], zEnd1 hH ht9 hW9⟩, hS.F ht9⟩) hS.2.2 dX12_doubt_38
