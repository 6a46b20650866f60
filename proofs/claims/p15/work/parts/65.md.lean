/-- a want of the model -/
def zMw (fi : zFi) (n i : Nat) : Prop := (∃ t, t < n ∧ fi 55 i = nI t) ∧ ∃ q a p c pb : Nat, (fi 56 i = nI q ∧ fi 58 i = nI a ∧ fi 59 i = nI p ∧ fi 60 i = nI c ∧ fi 62 i = nI pb) ∧ 1 ≤ q ∧ q ≤ 99 ∧ a + p + c ≤ q ∧ pb ≤ p ∧ (p = 0 ∨ ∃ t2, t2 < n ∧ fi 64 i = nI t2)
/-- the model's orders -/
def zMo (fi : zFi) (n o : Nat) : Prop := o ≤ 60 ∧ fi 30 45 = nI o ∧ ∀ q, q < o → ∃ w, w ≤ 8 ∧ fi 54 q = nI w ∧ ∀ j, j < w → zMw fi n (8 * q + j)
theorem zMw.ci {fi fi' : zFi} {n n' i : Nat} (h : zMw fi n i) (hn : n ≤ n') (hi : ∀ a, 55 ≤ a → a ≤ 64 → fi' a i = fi a i) : zMw fi' n' i := by
  obtain ⟨⟨t, h1, h2⟩, q, a, p, c, pb, ⟨a1, a2, a3, a4, a5⟩, b1, b2, b3, b4, b5⟩ := h
  refine ⟨⟨t, by omega, by rw [hi 55 (by omega) (by omega)]; exact h2⟩, q, a, p, c, pb, ⟨by rw [hi 56 (by omega) (by omega)]; exact a1, by rw [hi 58 (by omega) (by omega)]; exact a2, by rw [hi 59 (by omega) (by omega)]; exact a3, by rw [hi 60 (by omega) (by omega)]; exact a4, by rw [hi 62 (by omega) (by omega)]; exact a5⟩, b1, b2, b3, b4, ?_⟩
  rcases b5 with b5 | ⟨t2, b5, b6⟩
  · exact Or.inl b5
  · exact Or.inr ⟨t2, by omega, by rw [hi 64 (by omega) (by omega)]; exact b6⟩
theorem zMo.cg {fi fi' : zFi} {n n' o : Nat} (h : zMo fi n o) (hn : n ≤ n') (hi : ∀ i k, (i = 30 ∧ k = 45) ∨ (54 ≤ i ∧ i ≤ 64) → fi' i k = fi i k) : zMo fi' n' o := by
  obtain ⟨h1, h2, h3⟩ := h
  refine ⟨h1, by rw [hi 30 45 (by omega)]; exact h2, fun q hq => ?_⟩
  obtain ⟨w, a1, a2, a3⟩ := h3 q hq
  exact ⟨w, a1, by rw [hi 54 q (by omega)]; exact a2, fun j hj => (a3 j hj).ci hn (fun a b c => hi a _ (by omega))⟩
theorem zMo.ci {fi fi' : zFi} {n o : Nat} (h : zMo fi n o) (hi : ∀ i k, (i = 30 ∧ k = 45) ∨ (54 ≤ i ∧ i ≤ 64) → fi' i k = fi i k) : zMo fi' n o := h.cg (Nat.le_refl _) hi
theorem zMo.add {fi fi' : zFi} {n o w : Nat} (h : zMo fi n o) (ho : o < 60) (hw : w ≤ 8) (e : fi' 30 45 = nI (o + 1)) (e2 : fi' 54 o = nI w) (e3 : ∀ j, j < w → zMw fi' n (8 * o + j)) (h54 : ∀ q, q < o → fi' 54 q = fi 54 q) (hf : ∀ a i, 55 ≤ a → a ≤ 64 → i < 8 * o → fi' a i = fi a i) : zMo fi' n (o + 1) := by
  obtain ⟨h1, h2, h3⟩ := h
  refine ⟨by omega, e, fun q hq => ?_⟩
  by_cases hqo : q = o
  · subst hqo; exact ⟨w, hw, e2, e3⟩
  · obtain ⟨w2, a1, a2, a3⟩ := h3 q (by omega)
    exact ⟨w2, a1, by rw [h54 q (by omega)]; exact a2, fun j hj => (a3 j hj).ci (Nat.le_refl _) (fun a b c => hf a _ b c (by omega))⟩
theorem zMw.new {fi' : zFi} {n i t : Nat} {y : Int32} (ht : t < n) (hy : 1 ≤ y.toInt ∧ y.toInt ≤ 99) (a1 : fi' 55 i = nI t) (a2 : fi' 56 i = y) (a3 : fi' 58 i = nI 0) (a4 : fi' 59 i = nI 0) (a5 : fi' 60 i = nI 0) (a6 : fi' 62 i = nI 0) : zMw fi' n i := by
  obtain ⟨q, h1, h2⟩ := zNatB (x := y) (n := 100) (by omega) (by omega)
  have h3 : 1 ≤ q := by
    have := hy.1
    rw [h2, nI_toInt (by omega)] at this
    omega
  exact ⟨⟨t, ht, a1⟩, q, 0, 0, 0, 0, ⟨by rw [a2]; exact h2, a3, a4, a5, a6⟩, h3, by omega, by omega, by omega, Or.inl rfl⟩
set_option maxHeartbeats 4000000 in
set_option maxRecDepth 100000 in
/-- makeOrder -/
theorem m_makeOrder (l : Launch) (hl0 : l.stackTraces = false) (D : va_G) (A : Nat → Prop) (sad : Nat → Nat) (τ : zTy) (fi : zFi) (fr : zFr) (ol : Int64) (hF : zFix τ fr) (n : Nat) (hMt : zMt fi n) (l0 : Nat) (hMl : zMl fi l0) (o : Nat) (hMo : zMo fi n o) (ho : o < 60) : Met l yX12_makeOrder wsX12_makeOrder ({ frames := 2, cells := 0, slots := 0, locals := 46 }) (va_Pc [.ref (τ.1 30)] (zQc D A sad τ fi fr ol)) (va_Qi (fun (r : Int32) (u : zFi) => r = nI o ∧ zMo u n (o + 1) ∧ ∀ a b, ¬ ((a = 30 ∧ b = 45) ∨ (50 ≤ a ∧ a ≤ 64)) → u a b = fi a b) (fun (u : zFi) (t : State) => zH D A τ u fr ol t t.heap) A) 0 0 A := by
  refine Met.ofW (cc := cX12_makeOrder) (maxL := 6) (ret := (some .int)) (by decide) rfl ?_
  intro p9 e9 s m args below meth c9 s₁ B hml hv
  obtain ⟨rfl, hz, hH, hA⟩ := hv
  have hx := B.exec
  have hb := B.bytes
  have hr := B.returns
  have hts := atoms_spec (ws := wsX12_makeOrder) B.pre
  have hown : s.vm.findClass RX12 = some m.cls := findClass_of_methodNamed B.named
  have hlocks := B.notSynchronized
  have hS : va_S A s.heap s.heap [] := va_S.rf
  have hl := lv_entry ([.ref (τ.1 30)]) (n := 6) (Nat.le_of_ble_eq_true rfl)
  rw [lg_entry_eq]
  generalize (lg_sl ([.ref (τ.1 30)]) ++ List.replicate (6 - (lg_sl ([.ref (τ.1 30)])).length) Slot.unset).toArray = ls at hl ⊢
  have hl : lv_has ls 6 [(0, .ref (τ.1 30))] := hl
  have hm30 := hMt.1
  have hl8 := hMl.1
  have hMt0 := hMt
  have hMl0 := hMl
  have hMo0 := hMo
  have hiX12 : ∀ w ∈ u_ws RX12 TX12 71, w ∈ wsX12_makeOrder := fun _ h => List.mem_cons_of_mem _ (List.mem_append_right _ h)
  have hw1 := hts (.fieldLink RX12 171 "PostHouseModel" "orders" "I") (by decide +kernel)
  have hw2 := hts (.fieldLink RX12 108 "PostHouseModel" "wants" "[I") (by decide +kernel)
  have hw3 := hts (.fieldLink RX12 262 "PostHouseModel" "lines" "I") (by decide +kernel)
  have hw4 := hts (.fieldLink RX12 96 "PostHouseModel" "orderDay" "[I") (by decide +kernel)
  have hw5 := hts (.fieldLink RX12 200 "PostHouseModel" "today" "I") (by decide +kernel)
  have hw6 := hts (.fieldLink RX12 99 "PostHouseModel" "orderMoney" "[I") (by decide +kernel)
  have hw7 := hts (.fieldLink RX12 275 "PostHouseModel" "money" "I") (by decide +kernel)
  have hw8 := hts (.fieldLink RX12 105 "PostHouseModel" "orderPost" "[I") (by decide +kernel)
  have hw9 := hts (.fieldLink RX12 102 "PostHouseModel" "orderCredit" "[I") (by decide +kernel)
  have hw10 := hts (.fieldLink RX12 65 "PostHouseModel" "lineCode" "[I") (by decide +kernel)
  have hw11 := hts (.fieldLink RX12 111 "PostHouseModel" "wantThing" "[I") (by decide +kernel)
  have hw12 := hts (.fieldLink RX12 114 "PostHouseModel" "wantMany" "[I") (by decide +kernel)
  have hw13 := hts (.fieldLink RX12 68 "PostHouseModel" "lineMany" "[I") (by decide +kernel)
  have hw14 := hts (.fieldLink RX12 117 "PostHouseModel" "wantPrice" "[I") (by decide +kernel)
  have hw15 := hts (.fieldLink RX12 120 "PostHouseModel" "wantSent" "[I") (by decide +kernel)
  have hw16 := hts (.fieldLink RX12 123 "PostHouseModel" "wantPlaced" "[I") (by decide +kernel)
  have hw17 := hts (.fieldLink RX12 126 "PostHouseModel" "wantCancelled" "[I") (by decide +kernel)
  have hw18 := hts (.fieldLink RX12 129 "PostHouseModel" "wantReturned" "[I") (by decide +kernel)
  have hw19 := hts (.fieldLink RX12 132 "PostHouseModel" "wantPlacedBack" "[I") (by decide +kernel)
  have hw20 := hts (.fieldLink RX12 135 "PostHouseModel" "wantDay" "[I") (by decide +kernel)
  have hw21 := hts (.fieldLink RX12 138 "PostHouseModel" "wantOther" "[I") (by decide +kernel)
  refine lv_aload_n hx hb dX12_makeOrder_0 rfl (lv_at hl 0 rfl) ?_
  refine zGetI (D := D) (ci := 12) (C := RX12) (T := TX12) (N := 71) hx hb hts hiX12 hown hH (zk_30 hF) rfl 45 (by decide) rfl hw1 (fun _ h9 => h9) dX12_makeOrder_1 hMo.2.1 ?_
  refine lv_istore_n (lv' := [(1, .int (nI o)), (0, .ref (τ.1 30))]) hx hb dX12_makeOrder_4 rfl hl (by decide) rfl (fun ls hl => ?_)
  refine lv_aload_n hx hb dX12_makeOrder_5 rfl (lv_at hl 1 rfl) ?_
  refine lv_dup hx hb dX12_makeOrder_6 rfl ?_
  refine zGetI (D := D) (ci := 12) (C := RX12) (T := TX12) (N := 71) hx hb hts hiX12 hown hH (zk_30 hF) rfl 45 (by decide) rfl hw1 (fun _ h9 => h9) dX12_makeOrder_7 hMo.2.1 ?_
  refine lv_iconst (v := nI 1) hx hb dX12_makeOrder_10 (by decide) ?_
  refine lv_iadd hx hb dX12_makeOrder_11 ?_
  refine lv_topi (fun v101 ev101 => ?_)
  obtain rfl : v101 = nI (o + 1) := ev101.trans (nI_add _ _)
  refine zPutI (D := D) (ci := 12) (ty := .int) (C := RX12) (T := TX12) (N := 71) hx hb hts hiX12 tyX12 tyX12_ok nmX12 hown hH hS (zk_30 hF) rfl 45 (by decide) rfl hw1 (fun _ h9 => h9) rfl (by decide +kernel) rfl rfl dX12_makeOrder_12 (fun H locs hH hS => ?_)
  obtain ⟨f102, ef102⟩ : ∃ f9 : zFi, f9 = zu fi 30 45 (nI (o + 1)) := ⟨_, rfl⟩
  rw [← ef102] at hH
  have q103 : f102 30 2 = nI n := by rw [ef102, zu_n (fun h9 => absurd h9.2 (by decide))]; exact hMt.2.1
  have q104 : f102 30 26 = nI l0 := by rw [ef102, zu_n (fun h9 => absurd h9.2 (by decide))]; exact hMl.2.1
  have q105 : f102 30 45 = nI (o + 1) := by rw [ef102]; exact zu_s
  refine lv_iconst (v := nI 0) hx hb dX12_makeOrder_15 (by decide) ?_
  refine lv_istore_n (lv' := [(2, .int (nI 0)), (1, .int (nI o)), (0, .ref (τ.1 30))]) hx hb dX12_makeOrder_16 rfl hl (by decide) rfl (fun ls hl => ?_)
  refine lv_aload_n hx hb dX12_makeOrder_17 rfl (lv_at hl 2 rfl) ?_
  refine zGetR (D := D) (ci := 12) (C := RX12) (T := TX12) (N := 71) hx hb hts hiX12 hown hH (zk_30 hF) rfl 50 (by decide) rfl hw2 (fun _ h9 => h9) dX12_makeOrder_18 (zr_30_50 hF) ?_
  refine lv_iload_n hx hb dX12_makeOrder_21 rfl (lv_at hl 1 rfl) ?_
  refine lv_iconst (v := nI 0) hx hb dX12_makeOrder_22 (by decide) ?_
  refine zIastN (D := D) hx hb hH hS (zk_54 hF) (zn_54 hF) (by omega) (by omega) dX12_makeOrder_23 (fun H locs hH hS => ?_)
  obtain ⟨f106, ef106⟩ : ∃ f9 : zFi, f9 = zu f102 54 o (nI 0) := ⟨_, rfl⟩
  rw [← ef106] at hH
  have q107 : f106 30 2 = nI n := by rw [ef106, zu_n (fun h9 => absurd h9.1 (by decide))]; exact q103
  have q108 : f106 30 26 = nI l0 := by rw [ef106, zu_n (fun h9 => absurd h9.1 (by decide))]; exact q104
  have q109 : f106 30 45 = nI (o + 1) := by rw [ef106, zu_n (fun h9 => absurd h9.1 (by decide))]; exact q105
  have q110 : f106 54 o = nI 0 := by rw [ef106]; exact zu_s
  refine lv_iconst (v := nI 0) hx hb dX12_makeOrder_24 (by decide) ?_
  refine lv_istore_n (lv' := [(3, .int (nI 0)), (2, .int (nI 0)), (1, .int (nI o)), (0, .ref (τ.1 30))]) hx hb dX12_makeOrder_25 rfl hl (by decide) rfl (fun ls hl => ?_)
  refine zLp (σ := Nat × Int32 × Nat × zFi) (fun x9 k9 H locs ls => (fun (i : Nat) (yy : Int32) (w : Nat) (f : zFi) => k9 = l0 - i ∧ (i ≤ l0 ∧ w ≤ i ∧ f 30 45 = nI (o + 1) ∧ f 54 o = nI w ∧ (∀ j, j < w → zMw f n (8 * o + j)) ∧ (∀ j, j < o → f 54 j = fi 54 j) ∧ (∀ a b, 55 ≤ a → a ≤ 64 → b < 8 * o → f a b = fi a b) ∧ ∀ a b, ¬ ((a = 30 ∧ b = 45) ∨ (50 ≤ a ∧ a ≤ 64)) → f a b = fi a b) ∧ zH D A τ f fr ol s H ∧ va_S A s.heap H locs ∧ lv_has ls 6 [(0, .ref (τ.1 30)), (1, .int (nI o)), (2, .int yy), (3, .int (nI i))]) x9.1 x9.2.1 x9.2.2.1 x9.2.2.2) (0, nI 0, 0, f106) (l0 - 0) (show l0 - 0 = l0 - 0 ∧ (0 ≤ l0 ∧ 0 ≤ 0 ∧ f106 30 45 = nI (o + 1) ∧ f106 54 o = nI 0 ∧ (∀ j, j < 0 → zMw f106 n (8 * o + j)) ∧ (∀ j, j < o → f106 54 j = fi 54 j) ∧ (∀ a b, 55 ≤ a → a ≤ 64 → b < 8 * o → f106 a b = fi a b) ∧ ∀ a b, ¬ ((a = 30 ∧ b = 45) ∨ (50 ≤ a ∧ a ≤ 64)) → f106 a b = fi a b) ∧ zH D A τ f106 fr ol s _ ∧ va_S A s.heap _ _ ∧ lv_has _ 6 [(0, .ref (τ.1 30)), (1, .int (nI o)), (2, .int (nI 0)), (3, .int (nI 0))] from ⟨rfl, ⟨Nat.zero_le _, Nat.le_refl _, q109, q110, fun j h => absurd h (by omega), fun j h => by rw [ef106, zu_n (by omega), ef102, zu_n (by omega)], fun a b h7 h8 h9 => by rw [ef106, zu_n (by omega), ef102, zu_n (by omega)], fun a b h => by rw [ef106, zu_n (by omega), ef102, zu_n (by omega)]⟩, hH, hS, lv_sub hl [3, 2, 1, 0] rfl⟩) (fun k9 ih x9 H locs ls hv9 => ?_)
  obtain ⟨i, yy, w, f⟩ := x9
  have hv9 : k9 = l0 - i ∧ (i ≤ l0 ∧ w ≤ i ∧ f 30 45 = nI (o + 1) ∧ f 54 o = nI w ∧ (∀ j, j < w → zMw f n (8 * o + j)) ∧ (∀ j, j < o → f 54 j = fi 54 j) ∧ (∀ a b, 55 ≤ a → a ≤ 64 → b < 8 * o → f a b = fi a b) ∧ ∀ a b, ¬ ((a = 30 ∧ b = 45) ∨ (50 ≤ a ∧ a ≤ 64)) → f a b = fi a b) ∧ zH D A τ f fr ol s H ∧ va_S A s.heap H locs ∧ lv_has ls 6 [(0, .ref (τ.1 30)), (1, .int (nI o)), (2, .int yy), (3, .int (nI i))] := hv9
  obtain ⟨hkih111, hv9, hH, hS, hl⟩ := hv9
  obtain ⟨h1, h2, p45, p54, hwn, h54, hold, hfr⟩ := hv9
  have ih111 := ih
  clear ih
  have hMt := zMt.ci (fi' := f) hMt0 (fun i9 k9 h9 => hfr i9 k9 (by omega))
  have hMl := zMl.ci (fi' := f) hMl0 (fun i9 k9 h9 => hfr i9 k9 (by omega))
  have p2 := hMt.2.1
  have p26 := hMl.2.1
  have hMl0f := hMl.2.2
  refine lv_iload_n hx hb dX12_makeOrder_26 rfl (lv_at hl 3 rfl) ?_
  refine lv_aload_n hx hb dX12_makeOrder_27 rfl (lv_at hl 0 rfl) ?_
  refine zGetI (D := D) (ci := 12) (C := RX12) (T := TX12) (N := 71) hx hb hts hiX12 hown hH (zk_30 hF) rfl 26 (by decide) rfl hw3 (fun _ h9 => h9) dX12_makeOrder_28 p26 ?_
  refine lv_icmp_ge (tgt := 191) hx hb dX12_makeOrder_31 (by decide) (fun c112 => ?_) (fun c112 => ?_)
  · have zc112 := c112
    replace zc112 := zc_le (nI_toInt (by omega)) (nI_toInt (by omega)) zc112
    refine lv_aload_n hx hb dX12_makeOrder_191 rfl (lv_at hl 0 rfl) ?_
    refine zGetR (D := D) (ci := 12) (C := RX12) (T := TX12) (N := 71) hx hb hts hiX12 hown hH (zk_30 hF) rfl 46 (by decide) rfl hw4 (fun _ h9 => h9) dX12_makeOrder_192 (zr_30_46 hF) ?_
    refine lv_iload_n hx hb dX12_makeOrder_195 rfl (lv_at hl 1 rfl) ?_
    refine lv_aload_n hx hb dX12_makeOrder_196 rfl (lv_at hl 0 rfl) ?_
    refine zGetI (D := D) (ci := 12) (C := RX12) (T := TX12) (N := 71) hx hb hts hiX12 hown hH (zk_30 hF) rfl 1 (by decide) rfl hw5 (fun _ h9 => h9) dX12_makeOrder_197 rfl ?_
    refine zIastN (D := D) hx hb hH hS (zk_50 hF) (zn_50 hF) (by omega) (by omega) dX12_makeOrder_200 (fun H locs hH hS => ?_)
    obtain ⟨f113, ef113⟩ : ∃ f9 : zFi, f9 = zu f 50 o (f 30 1) := ⟨_, rfl⟩
    rw [← ef113] at hH
    have q114 : f113 30 2 = nI n := by rw [ef113, zu_n (fun h9 => absurd h9.1 (by decide))]; exact p2
    have q115 : f113 30 26 = nI l0 := by rw [ef113, zu_n (fun h9 => absurd h9.1 (by decide))]; exact p26
    have q116 : f113 54 o = nI w := by rw [ef113, zu_n (fun h9 => absurd h9.1 (by decide))]; exact p54
    have q117 : f113 30 45 = nI (o + 1) := by rw [ef113, zu_n (fun h9 => absurd h9.1 (by decide))]; exact p45
    have q118 : f113 50 o = f 30 1 := by rw [ef113]; exact zu_s
    have hMt := zMt.ci (fi' := f113) hMt (fun i9 k9 h9 => by rw [ef113]; exact zu_n (by omega))
    have hMl := zMl.ci (fi' := f113) hMl (fun i9 k9 h9 => by rw [ef113]; exact zu_n (by omega))
    refine lv_aload_n hx hb dX12_makeOrder_201 rfl (lv_at hl 0 rfl) ?_
    refine zGetR (D := D) (ci := 12) (C := RX12) (T := TX12) (N := 71) hx hb hts hiX12 hown hH (zk_30 hF) rfl 47 (by decide) rfl hw6 (fun _ h9 => h9) dX12_makeOrder_202 (zr_30_47 hF) ?_
    refine lv_iload_n hx hb dX12_makeOrder_205 rfl (lv_at hl 1 rfl) ?_
    refine lv_aload_n hx hb dX12_makeOrder_206 rfl (lv_at hl 0 rfl) ?_
    refine zGetI (D := D) (ci := 12) (C := RX12) (T := TX12) (N := 71) hx hb hts hiX12 hown hH (zk_30 hF) rfl 30 (by decide) rfl hw7 (fun _ h9 => h9) dX12_makeOrder_207 rfl ?_
    refine zIastN (D := D) hx hb hH hS (zk_51 hF) (zn_51 hF) (by omega) (by omega) dX12_makeOrder_210 (fun H locs hH hS => ?_)
    obtain ⟨f119, ef119⟩ : ∃ f9 : zFi, f9 = zu f113 51 o (f113 30 30) := ⟨_, rfl⟩
    rw [← ef119] at hH
    have q120 : f119 30 2 = nI n := by rw [ef119, zu_n (fun h9 => absurd h9.1 (by decide))]; exact q114
    have q121 : f119 30 26 = nI l0 := by rw [ef119, zu_n (fun h9 => absurd h9.1 (by decide))]; exact q115
    have q122 : f119 54 o = nI w := by rw [ef119, zu_n (fun h9 => absurd h9.1 (by decide))]; exact q116
    have q123 : f119 30 45 = nI (o + 1) := by rw [ef119, zu_n (fun h9 => absurd h9.1 (by decide))]; exact q117
    have q124 : f119 50 o = f 30 1 := by rw [ef119, zu_n (fun h9 => absurd h9.1 (by decide))]; exact q118
    have q125 : f119 51 o = f113 30 30 := by rw [ef119]; exact zu_s
    have hMt := zMt.ci (fi' := f119) hMt (fun i9 k9 h9 => by rw [ef119]; exact zu_n (by omega))
    have hMl := zMl.ci (fi' := f119) hMl (fun i9 k9 h9 => by rw [ef119]; exact zu_n (by omega))
    refine lv_aload_n hx hb dX12_makeOrder_211 rfl (lv_at hl 0 rfl) ?_
    refine zGetR (D := D) (ci := 12) (C := RX12) (T := TX12) (N := 71) hx hb hts hiX12 hown hH (zk_30 hF) rfl 49 (by decide) rfl hw8 (fun _ h9 => h9) dX12_makeOrder_212 (zr_30_49 hF) ?_
    refine lv_iload_n hx hb dX12_makeOrder_215 rfl (lv_at hl 1 rfl) ?_
    refine lv_aload_n hx hb dX12_makeOrder_216 rfl (lv_at hl 0 rfl) ?_
    refine lv_iload_n hx hb dX12_makeOrder_217 rfl (lv_at hl 2 rfl) ?_
    refine va_calli (va_runV (As := [.int yy]) (rest := [.int (nI o), .ref (τ.1 53)]) ⟨hx, hb, hml, hown, hts⟩ (m_due l hl0 D A sad τ f119 fr ol yy hF) (cwV 1 hts gX12_makeOrder_X12_due rfl rfl rfl (by decide +kernel) ⟨Nat.le_of_ble_eq_true rfl, Nat.le_of_ble_eq_true rfl⟩) ⟨zQc_bl, zRecv hH (zk_30 hF) rfl, zQc_at hz hS hA hH⟩ rfl rfl hl.1 rfl (lv_room (Nat.le_of_ble_eq_true rfl)) dX12_makeOrder_218 ⟨Nat.le_of_ble_eq_true rfl, Nat.le_of_ble_eq_true rfl⟩) hS (fun q _ h => h) (fun q h => h) (fun r126 u9 t9 H1 locs ht9 hvm9 hw hB hz1 hk1 hS => ?_)
    have hH := zMv ht9 hvm9 hB
    generalize H1 = H at hH hS ⊢
    refine lv_iload_n hx hb dX12_makeOrder_221 rfl (lv_at hl 2 rfl) ?_
    refine lv_isub hx hb dX12_makeOrder_222 ?_
    refine lv_topi (fun v127 ev127 => ?_)
    refine zIastN (D := D) hx hb hH hS (zk_53 hF) (zn_53 hF) (by omega) (by omega) dX12_makeOrder_223 (fun H locs hH hS => ?_)
    obtain ⟨f128, ef128⟩ : ∃ f9 : zFi, f9 = zu f119 53 o v127 := ⟨_, rfl⟩
    rw [← ef128] at hH
    have q129 : f128 30 2 = nI n := by rw [ef128, zu_n (fun h9 => absurd h9.1 (by decide))]; exact q120
    have q130 : f128 30 26 = nI l0 := by rw [ef128, zu_n (fun h9 => absurd h9.1 (by decide))]; exact q121
    have q131 : f128 54 o = nI w := by rw [ef128, zu_n (fun h9 => absurd h9.1 (by decide))]; exact q122
    have q132 : f128 30 45 = nI (o + 1) := by rw [ef128, zu_n (fun h9 => absurd h9.1 (by decide))]; exact q123
    have q133 : f128 50 o = f 30 1 := by rw [ef128, zu_n (fun h9 => absurd h9.1 (by decide))]; exact q124
    have q134 : f128 51 o = f113 30 30 := by rw [ef128, zu_n (fun h9 => absurd h9.1 (by decide))]; exact q125
    have q135 : f128 53 o = v127 := by rw [ef128]; exact zu_s
    have hMt := zMt.ci (fi' := f128) hMt (fun i9 k9 h9 => by rw [ef128]; exact zu_n (by omega))
    have hMl := zMl.ci (fi' := f128) hMl (fun i9 k9 h9 => by rw [ef128]; exact zu_n (by omega))
    refine lv_aload_n hx hb dX12_makeOrder_224 rfl (lv_at hl 0 rfl) ?_
    refine zGetR (D := D) (ci := 12) (C := RX12) (T := TX12) (N := 71) hx hb hts hiX12 hown hH (zk_30 hF) rfl 48 (by decide) rfl hw9 (fun _ h9 => h9) dX12_makeOrder_225 (zr_30_48 hF) ?_
    refine lv_iload_n hx hb dX12_makeOrder_228 rfl (lv_at hl 1 rfl) ?_
    refine lv_aload_n hx hb dX12_makeOrder_229 rfl (lv_at hl 0 rfl) ?_
    refine zGetI (D := D) (ci := 12) (C := RX12) (T := TX12) (N := 71) hx hb hts hiX12 hown hH (zk_30 hF) rfl 30 (by decide) rfl hw7 (fun _ h9 => h9) dX12_makeOrder_230 rfl ?_
    refine lv_aload_n hx hb dX12_makeOrder_233 rfl (lv_at hl 0 rfl) ?_
    refine lv_iload_n hx hb dX12_makeOrder_234 rfl (lv_at hl 2 rfl) ?_
    refine va_calli (va_runV (As := [.int yy]) (rest := [.int (f128 30 30), .int (nI o), .ref (τ.1 52)]) ⟨hx, hb, hml, hown, hts⟩ (m_due l hl0 D A sad τ f128 fr ol yy hF) (cwV 1 hts gX12_makeOrder_X12_due rfl rfl rfl (by decide +kernel) ⟨Nat.le_of_ble_eq_true rfl, Nat.le_of_ble_eq_true rfl⟩) ⟨zQc_bl, zRecv hH (zk_30 hF) rfl, zQc_at hz hS hA hH⟩ rfl rfl hl.1 rfl (lv_room (Nat.le_of_ble_eq_true rfl)) dX12_makeOrder_235 ⟨Nat.le_of_ble_eq_true rfl, Nat.le_of_ble_eq_true rfl⟩) hS (fun q _ h => h) (fun q h => h) (fun r136 u9 t9 H1 locs ht9 hvm9 hw hB hz1 hk1 hS => ?_)
    have hH := zMv ht9 hvm9 hB
    generalize H1 = H at hH hS ⊢
    refine lv_isub hx hb dX12_makeOrder_238 ?_
    refine lv_topi (fun v137 ev137 => ?_)
    refine zIastN (D := D) hx hb hH hS (zk_52 hF) (zn_52 hF) (by omega) (by omega) dX12_makeOrder_239 (fun H locs hH hS => ?_)
    obtain ⟨f138, ef138⟩ : ∃ f9 : zFi, f9 = zu f128 52 o v137 := ⟨_, rfl⟩
    rw [← ef138] at hH
    have q139 : f138 30 2 = nI n := by rw [ef138, zu_n (fun h9 => absurd h9.1 (by decide))]; exact q129
    have q140 : f138 30 26 = nI l0 := by rw [ef138, zu_n (fun h9 => absurd h9.1 (by decide))]; exact q130
    have q141 : f138 54 o = nI w := by rw [ef138, zu_n (fun h9 => absurd h9.1 (by decide))]; exact q131
    have q142 : f138 30 45 = nI (o + 1) := by rw [ef138, zu_n (fun h9 => absurd h9.1 (by decide))]; exact q132
    have q143 : f138 50 o = f 30 1 := by rw [ef138, zu_n (fun h9 => absurd h9.1 (by decide))]; exact q133
    have q144 : f138 51 o = f113 30 30 := by rw [ef138, zu_n (fun h9 => absurd h9.1 (by decide))]; exact q134
    have q145 : f138 53 o = v127 := by rw [ef138, zu_n (fun h9 => absurd h9.1 (by decide))]; exact q135
    have q146 : f138 52 o = v137 := by rw [ef138]; exact zu_s
    have hMt := zMt.ci (fi' := f138) hMt (fun i9 k9 h9 => by rw [ef138]; exact zu_n (by omega))
    have hMl := zMl.ci (fi' := f138) hMl (fun i9 k9 h9 => by rw [ef138]; exact zu_n (by omega))
    refine lv_iload_n hx hb dX12_makeOrder_240 rfl (lv_at hl 1 rfl) ?_
    refine W.widen (k := 0) (n := 0) (by decide) (by decide) ?_
    exact W.iret (v := nI o) hx hb hr (fun t9 ht9 hW9 => ⟨⟨nI o, f138, rfl, ⟨rfl, hMo0.add ho (by omega) (by rw [ef138, zu_n (by omega), ef128, zu_n (by omega), ef119, zu_n (by omega), ef113, zu_n (by omega)]; exact p45) (by rw [ef138, zu_n (by omega), ef128, zu_n (by omega), ef119, zu_n (by omega), ef113, zu_n (by omega)]; exact p54) (fun j h => (hwn j h).ci (Nat.le_refl _) (fun a h8 h9 => by rw [ef138, zu_n (by omega), ef128, zu_n (by omega), ef119, zu_n (by omega), ef113, zu_n (by omega)])) (fun j h => by rw [ef138, zu_n (by omega), ef128, zu_n (by omega), ef119, zu_n (by omega), ef113, zu_n (by omega)]; exact h54 j h) (fun a b h7 h8 h9 => by rw [ef138, zu_n (by omega), ef128, zu_n (by omega), ef119, zu_n (by omega), ef113, zu_n (by omega)]; exact hold a b h7 h8 h9), fun a b h => by rw [ef138, zu_n (by omega), ef128, zu_n (by omega), ef119, zu_n (by omega), ef113, zu_n (by omega)]; exact hfr a b h⟩, zEnd1 hH ht9 hW9⟩, hS.F ht9⟩) hS.2.2 dX12_makeOrder_241
  · have zc112 := c112
    replace zc112 := zc_nle (nI_toInt (by omega)) (nI_toInt (by omega)) zc112
    refine lv_aload_n hx hb dX12_makeOrder_34 rfl (lv_at hl 0 rfl) ?_
    refine lv_aload_n hx hb dX12_makeOrder_35 rfl (lv_at hl 0 rfl) ?_
    refine zGetR (D := D) (ci := 12) (C := RX12) (T := TX12) (N := 71) hx hb hts hiX12 hown hH (zk_30 hF) rfl 27 (by decide) rfl hw10 (fun _ h9 => h9) dX12_makeOrder_36 (zr_30_27 hF) ?_
    refine lv_iload_n hx hb dX12_makeOrder_39 rfl (lv_at hl 3 rfl) ?_
    refine zIaldN (D := D) hx hb hH (zk_48 hF) (zn_48 hF) (by omega) (by omega) rfl dX12_makeOrder_40 ?_
    refine va_calli (va_runV (As := [.int (f 48 i)]) (rest := []) ⟨hx, hb, hml, hown, hts⟩ (m_priceOf l hl0 D A sad τ f fr ol (f 48 i) hF n hMt) (cwV 1 hts gX12_makeOrder_X12_priceOf rfl rfl rfl (by decide +kernel) ⟨Nat.le_of_ble_eq_true rfl, Nat.le_of_ble_eq_true rfl⟩) ⟨zQc_bl, zRecv hH (zk_30 hF) rfl, zQc_at hz hS hA hH⟩ rfl rfl hl.1 rfl (lv_room (Nat.le_of_ble_eq_true rfl)) dX12_makeOrder_41 ⟨Nat.le_of_ble_eq_true rfl, Nat.le_of_ble_eq_true rfl⟩) hS (fun q _ h => h) (fun q h => h) (fun r147 u9 t9 H1 locs ht9 hvm9 hw hB hz1 hk1 hS => ?_)
    have hH := zMv ht9 hvm9 hB
    generalize H1 = H at hH hS ⊢
    have hpo148 := hw
    clear hw
    refine lv_istore (lv' := [(4, .int r147), (0, .ref (τ.1 30)), (1, .int (nI o)), (2, .int yy), (3, .int (nI i))]) hx hb dX12_makeOrder_44 hl (by decide) rfl (fun ls hl => ?_)
    refine lv_iload hx hb dX12_makeOrder_46 (lv_at hl 0 rfl) ?_
    refine lv_iconst (v := (-1)) hx hb dX12_makeOrder_48 (by decide) ?_
    refine lv_icmp_ne (tgt := 55) hx hb dX12_makeOrder_49 (by decide) (fun c149 => ?_) (fun c149 => ?_)
    · have zc149 := c149
      replace zc149 := zc_neq (rfl) ((by decide : ((-1) : Int32).toInt = (-1))) zc149
      have hkn : ∃ t, t < n ∧ f 31 t = f 48 i := by rcases hpo148 with h9 | h9; exact h9; exact absurd (by rw [h9]; decide) zc149
      clear hpo148
      refine lv_bipush (v := nI 8) hx hb dX12_makeOrder_55 (by decide) ?_
      refine lv_iload_n hx hb dX12_makeOrder_57 rfl (lv_at hl 2 rfl) ?_
      refine lv_imul hx hb dX12_makeOrder_58 ?_
      refine lv_topi (fun v150 ev150 => ?_)
      obtain rfl : v150 = nI (8 * o) := ev150.trans (pk_mul _ _)
      refine lv_aload_n hx hb dX12_makeOrder_59 rfl (lv_at hl 1 rfl) ?_
      refine zGetR (D := D) (ci := 12) (C := RX12) (T := TX12) (N := 71) hx hb hts hiX12 hown hH (zk_30 hF) rfl 50 (by decide) rfl hw2 (fun _ h9 => h9) dX12_makeOrder_60 (zr_30_50 hF) ?_
      refine lv_iload_n hx hb dX12_makeOrder_63 rfl (lv_at hl 2 rfl) ?_
      refine zIaldN (D := D) hx hb hH (zk_54 hF) (zn_54 hF) (by omega) (by omega) p54 dX12_makeOrder_64 ?_
      refine lv_iadd hx hb dX12_makeOrder_65 ?_
      refine lv_topi (fun v151 ev151 => ?_)
      obtain rfl : v151 = nI (8 * o + w) := ev151.trans (nI_add _ _)
      refine lv_istore (lv' := [(5, .int (nI (8 * o + w))), (4, .int r147), (0, .ref (τ.1 30)), (1, .int (nI o)), (2, .int yy), (3, .int (nI i))]) hx hb dX12_makeOrder_66 hl (by decide) rfl (fun ls hl => ?_)
      refine lv_aload_n hx hb dX12_makeOrder_68 rfl (lv_at hl 2 rfl) ?_
      refine zGetR (D := D) (ci := 12) (C := RX12) (T := TX12) (N := 71) hx hb hts hiX12 hown hH (zk_30 hF) rfl 50 (by decide) rfl hw2 (fun _ h9 => h9) dX12_makeOrder_69 (zr_30_50 hF) ?_
      refine lv_iload_n hx hb dX12_makeOrder_72 rfl (lv_at hl 3 rfl) ?_
      refine lv_dup2_11 hx hb dX12_makeOrder_73 rfl rfl ?_
      refine zIaldN (D := D) hx hb hH (zk_54 hF) (zn_54 hF) (by omega) (by omega) p54 dX12_makeOrder_74 ?_
      refine lv_iconst (v := nI 1) hx hb dX12_makeOrder_75 (by decide) ?_
      refine lv_iadd hx hb dX12_makeOrder_76 ?_
      refine lv_topi (fun v152 ev152 => ?_)
      obtain rfl : v152 = nI (w + 1) := ev152.trans (nI_add _ _)
      refine zIastN (D := D) hx hb hH hS (zk_54 hF) (zn_54 hF) (by omega) (by omega) dX12_makeOrder_77 (fun H locs hH hS => ?_)
      obtain ⟨f153, ef153⟩ : ∃ f9 : zFi, f9 = zu f 54 o (nI (w + 1)) := ⟨_, rfl⟩
      rw [← ef153] at hH
      have q154 : f153 30 2 = nI n := by rw [ef153, zu_n (fun h9 => absurd h9.1 (by decide))]; exact p2
      have q155 : f153 30 26 = nI l0 := by rw [ef153, zu_n (fun h9 => absurd h9.1 (by decide))]; exact p26
      have q156 : f153 30 45 = nI (o + 1) := by rw [ef153, zu_n (fun h9 => absurd h9.1 (by decide))]; exact p45
      have q157 : f153 54 o = nI (w + 1) := by rw [ef153]; exact zu_s
      have hMt := zMt.ci (fi' := f153) hMt (fun i9 k9 h9 => by rw [ef153]; exact zu_n (by omega))
      have hMl := zMl.ci (fi' := f153) hMl (fun i9 k9 h9 => by rw [ef153]; exact zu_n (by omega))
      refine lv_aload_n hx hb dX12_makeOrder_78 rfl (lv_at hl 2 rfl) ?_
      refine zGetR (D := D) (ci := 12) (C := RX12) (T := TX12) (N := 71) hx hb hts hiX12 hown hH (zk_30 hF) rfl 51 (by decide) rfl hw11 (fun _ h9 => h9) dX12_makeOrder_79 (zr_30_51 hF) ?_
      refine lv_iload hx hb dX12_makeOrder_82 (lv_at hl 0 rfl) ?_
      refine lv_aload_n hx hb dX12_makeOrder_84 rfl (lv_at hl 2 rfl) ?_
      refine lv_aload_n hx hb dX12_makeOrder_85 rfl (lv_at hl 2 rfl) ?_
      refine zGetR (D := D) (ci := 12) (C := RX12) (T := TX12) (N := 71) hx hb hts hiX12 hown hH (zk_30 hF) rfl 27 (by decide) rfl hw10 (fun _ h9 => h9) dX12_makeOrder_86 (zr_30_27 hF) ?_
      refine lv_iload_n hx hb dX12_makeOrder_89 rfl (lv_at hl 5 rfl) ?_
      refine zIaldN (D := D) hx hb hH (zk_48 hF) (zn_48 hF) (by omega) (by omega) rfl dX12_makeOrder_90 ?_
      refine va_calli (va_runV (As := [.int (f153 48 i)]) (rest := [.int (nI (8 * o + w)), .ref (τ.1 55)]) ⟨hx, hb, hml, hown, hts⟩ (m_thingOf l hl0 D A sad τ f153 fr ol (f153 48 i) hF n q154 (by omega)) (cwV 1 hts gX12_makeOrder_X12_thingOf rfl rfl rfl (by decide +kernel) ⟨Nat.le_of_ble_eq_true rfl, Nat.le_of_ble_eq_true rfl⟩) ⟨zQc_bl, zRecv hH (zk_30 hF) rfl, zQc_at hz hS hA hH⟩ rfl rfl hl.1 rfl (lv_room (Nat.le_of_ble_eq_true rfl)) dX12_makeOrder_91 ⟨Nat.le_of_ble_eq_true rfl, Nat.le_of_ble_eq_true rfl⟩) hS (fun q _ h => h) (fun q h => h) (fun r158 u9 t9 H1 locs ht9 hvm9 hw hB hz1 hk1 hS => ?_)
      have hH := zMv ht9 hvm9 hB
      generalize H1 = H at hH hS ⊢
      have htw : ∃ t, t < n ∧ r158 = nI t := by
        rcases hw with ⟨t, h91, -, -, h92⟩ | ⟨h91, -⟩
        · exact ⟨t, h91, h92⟩
        · obtain ⟨t, h93, h94⟩ := hkn
          have e1 : f153 31 t = f 31 t := by rw [ef153, zu_n (by omega)]
          have e2 : f153 48 i = f 48 i := by rw [ef153, zu_n (by omega)]
          exact absurd (by rw [e1, e2]; exact h94) (h91 t h93)
      obtain ⟨t7, ht7, rfl⟩ := htw
      clear hw hkn
      refine zIastN (D := D) hx hb hH hS (zk_55 hF) (zn_55 hF) (by omega) (by omega) dX12_makeOrder_94 (fun H locs hH hS => ?_)
      obtain ⟨f159, ef159⟩ : ∃ f9 : zFi, f9 = zu f153 55 (8 * o + w) (nI t7) := ⟨_, rfl⟩
      rw [← ef159] at hH
      have q160 : f159 30 2 = nI n := by rw [ef159, zu_n (fun h9 => absurd h9.1 (by decide))]; exact q154
      have q161 : f159 30 26 = nI l0 := by rw [ef159, zu_n (fun h9 => absurd h9.1 (by decide))]; exact q155
      have q162 : f159 30 45 = nI (o + 1) := by rw [ef159, zu_n (fun h9 => absurd h9.1 (by decide))]; exact q156
      have q163 : f159 54 o = nI (w + 1) := by rw [ef159, zu_n (fun h9 => absurd h9.1 (by decide))]; exact q157
      have q164 : f159 55 (8 * o + w) = nI t7 := by rw [ef159]; exact zu_s
      have hMt := zMt.ci (fi' := f159) hMt (fun i9 k9 h9 => by rw [ef159]; exact zu_n (by omega))
      have hMl := zMl.ci (fi' := f159) hMl (fun i9 k9 h9 => by rw [ef159]; exact zu_n (by omega))
      refine lv_aload_n hx hb dX12_makeOrder_95 rfl (lv_at hl 2 rfl) ?_
      refine zGetR (D := D) (ci := 12) (C := RX12) (T := TX12) (N := 71) hx hb hts hiX12 hown hH (zk_30 hF) rfl 52 (by decide) rfl hw12 (fun _ h9 => h9) dX12_makeOrder_96 (zr_30_52 hF) ?_
      refine lv_iload hx hb dX12_makeOrder_99 (lv_at hl 0 rfl) ?_
      refine lv_aload_n hx hb dX12_makeOrder_101 rfl (lv_at hl 2 rfl) ?_
      refine zGetR (D := D) (ci := 12) (C := RX12) (T := TX12) (N := 71) hx hb hts hiX12 hown hH (zk_30 hF) rfl 28 (by decide) rfl hw13 (fun _ h9 => h9) dX12_makeOrder_102 (zr_30_28 hF) ?_
      refine lv_iload_n hx hb dX12_makeOrder_105 rfl (lv_at hl 5 rfl) ?_
      refine zIaldN (D := D) hx hb hH (zk_49 hF) (zn_49 hF) (by omega) (by omega) rfl dX12_makeOrder_106 ?_
      refine zIastN (D := D) hx hb hH hS (zk_56 hF) (zn_56 hF) (by omega) (by omega) dX12_makeOrder_107 (fun H locs hH hS => ?_)
      obtain ⟨f165, ef165⟩ : ∃ f9 : zFi, f9 = zu f159 56 (8 * o + w) (f159 49 i) := ⟨_, rfl⟩
      rw [← ef165] at hH
      have q166 : f165 30 2 = nI n := by rw [ef165, zu_n (fun h9 => absurd h9.1 (by decide))]; exact q160
      have q167 : f165 30 26 = nI l0 := by rw [ef165, zu_n (fun h9 => absurd h9.1 (by decide))]; exact q161
      have q168 : f165 30 45 = nI (o + 1) := by rw [ef165, zu_n (fun h9 => absurd h9.1 (by decide))]; exact q162
      have q169 : f165 54 o = nI (w + 1) := by rw [ef165, zu_n (fun h9 => absurd h9.1 (by decide))]; exact q163
      have q170 : f165 55 (8 * o + w) = nI t7 := by rw [ef165, zu_n (fun h9 => absurd h9.1 (by decide))]; exact q164
      have q171 : f165 56 (8 * o + w) = f159 49 i := by rw [ef165]; exact zu_s
      have hMt := zMt.ci (fi' := f165) hMt (fun i9 k9 h9 => by rw [ef165]; exact zu_n (by omega))
      have hMl := zMl.ci (fi' := f165) hMl (fun i9 k9 h9 => by rw [ef165]; exact zu_n (by omega))
      refine lv_aload_n hx hb dX12_makeOrder_108 rfl (lv_at hl 2 rfl) ?_
      refine zGetR (D := D) (ci := 12) (C := RX12) (T := TX12) (N := 71) hx hb hts hiX12 hown hH (zk_30 hF) rfl 53 (by decide) rfl hw14 (fun _ h9 => h9) dX12_makeOrder_109 (zr_30_53 hF) ?_
      refine lv_iload hx hb dX12_makeOrder_112 (lv_at hl 0 rfl) ?_
      refine lv_iload hx hb dX12_makeOrder_114 (lv_at hl 1 rfl) ?_
      refine zIastN (D := D) hx hb hH hS (zk_57 hF) (zn_57 hF) (by omega) (by omega) dX12_makeOrder_116 (fun H locs hH hS => ?_)
      obtain ⟨f172, ef172⟩ : ∃ f9 : zFi, f9 = zu f165 57 (8 * o + w) r147 := ⟨_, rfl⟩
      rw [← ef172] at hH
      have q173 : f172 30 2 = nI n := by rw [ef172, zu_n (fun h9 => absurd h9.1 (by decide))]; exact q166
      have q174 : f172 30 26 = nI l0 := by rw [ef172, zu_n (fun h9 => absurd h9.1 (by decide))]; exact q167
      have q175 : f172 30 45 = nI (o + 1) := by rw [ef172, zu_n (fun h9 => absurd h9.1 (by decide))]; exact q168
      have q176 : f172 54 o = nI (w + 1) := by rw [ef172, zu_n (fun h9 => absurd h9.1 (by decide))]; exact q169
      have q177 : f172 55 (8 * o + w) = nI t7 := by rw [ef172, zu_n (fun h9 => absurd h9.1 (by decide))]; exact q170
      have q178 : f172 56 (8 * o + w) = f159 49 i := by rw [ef172, zu_n (fun h9 => absurd h9.1 (by decide))]; exact q171
      have q179 : f172 57 (8 * o + w) = r147 := by rw [ef172]; exact zu_s
      have hMt := zMt.ci (fi' := f172) hMt (fun i9 k9 h9 => by rw [ef172]; exact zu_n (by omega))
      have hMl := zMl.ci (fi' := f172) hMl (fun i9 k9 h9 => by rw [ef172]; exact zu_n (by omega))
      refine lv_aload_n hx hb dX12_makeOrder_117 rfl (lv_at hl 2 rfl) ?_
      refine zGetR (D := D) (ci := 12) (C := RX12) (T := TX12) (N := 71) hx hb hts hiX12 hown hH (zk_30 hF) rfl 54 (by decide) rfl hw15 (fun _ h9 => h9) dX12_makeOrder_118 (zr_30_54 hF) ?_
      refine lv_iload hx hb dX12_makeOrder_121 (lv_at hl 0 rfl) ?_
      refine lv_iconst (v := nI 0) hx hb dX12_makeOrder_123 (by decide) ?_
      refine zIastN (D := D) hx hb hH hS (zk_58 hF) (zn_58 hF) (by omega) (by omega) dX12_makeOrder_124 (fun H locs hH hS => ?_)
      obtain ⟨f180, ef180⟩ : ∃ f9 : zFi, f9 = zu f172 58 (8 * o + w) (nI 0) := ⟨_, rfl⟩
      rw [← ef180] at hH
      have q181 : f180 30 2 = nI n := by rw [ef180, zu_n (fun h9 => absurd h9.1 (by decide))]; exact q173
      have q182 : f180 30 26 = nI l0 := by rw [ef180, zu_n (fun h9 => absurd h9.1 (by decide))]; exact q174
      have q183 : f180 30 45 = nI (o + 1) := by rw [ef180, zu_n (fun h9 => absurd h9.1 (by decide))]; exact q175
      have q184 : f180 54 o = nI (w + 1) := by rw [ef180, zu_n (fun h9 => absurd h9.1 (by decide))]; exact q176
      have q185 : f180 55 (8 * o + w) = nI t7 := by rw [ef180, zu_n (fun h9 => absurd h9.1 (by decide))]; exact q177
      have q186 : f180 56 (8 * o + w) = f159 49 i := by rw [ef180, zu_n (fun h9 => absurd h9.1 (by decide))]; exact q178
      have q187 : f180 57 (8 * o + w) = r147 := by rw [ef180, zu_n (fun h9 => absurd h9.1 (by decide))]; exact q179
      have q188 : f180 58 (8 * o + w) = nI 0 := by rw [ef180]; exact zu_s
      have hMt := zMt.ci (fi' := f180) hMt (fun i9 k9 h9 => by rw [ef180]; exact zu_n (by omega))
      have hMl := zMl.ci (fi' := f180) hMl (fun i9 k9 h9 => by rw [ef180]; exact zu_n (by omega))
      refine lv_aload_n hx hb dX12_makeOrder_125 rfl (lv_at hl 2 rfl) ?_
      refine zGetR (D := D) (ci := 12) (C := RX12) (T := TX12) (N := 71) hx hb hts hiX12 hown hH (zk_30 hF) rfl 55 (by decide) rfl hw16 (fun _ h9 => h9) dX12_makeOrder_126 (zr_30_55 hF) ?_
      refine lv_iload hx hb dX12_makeOrder_129 (lv_at hl 0 rfl) ?_
      refine lv_iconst (v := nI 0) hx hb dX12_makeOrder_131 (by decide) ?_
      refine zIastN (D := D) hx hb hH hS (zk_59 hF) (zn_59 hF) (by omega) (by omega) dX12_makeOrder_132 (fun H locs hH hS => ?_)
      obtain ⟨f189, ef189⟩ : ∃ f9 : zFi, f9 = zu f180 59 (8 * o + w) (nI 0) := ⟨_, rfl⟩
      rw [← ef189] at hH
      have q190 : f189 30 2 = nI n := by rw [ef189, zu_n (fun h9 => absurd h9.1 (by decide))]; exact q181
      have q191 : f189 30 26 = nI l0 := by rw [ef189, zu_n (fun h9 => absurd h9.1 (by decide))]; exact q182
      have q192 : f189 30 45 = nI (o + 1) := by rw [ef189, zu_n (fun h9 => absurd h9.1 (by decide))]; exact q183
      have q193 : f189 54 o = nI (w + 1) := by rw [ef189, zu_n (fun h9 => absurd h9.1 (by decide))]; exact q184
      have q194 : f189 55 (8 * o + w) = nI t7 := by rw [ef189, zu_n (fun h9 => absurd h9.1 (by decide))]; exact q185
      have q195 : f189 56 (8 * o + w) = f159 49 i := by rw [ef189, zu_n (fun h9 => absurd h9.1 (by decide))]; exact q186
      have q196 : f189 57 (8 * o + w) = r147 := by rw [ef189, zu_n (fun h9 => absurd h9.1 (by decide))]; exact q187
      have q197 : f189 58 (8 * o + w) = nI 0 := by rw [ef189, zu_n (fun h9 => absurd h9.1 (by decide))]; exact q188
      have q198 : f189 59 (8 * o + w) = nI 0 := by rw [ef189]; exact zu_s
      have hMt := zMt.ci (fi' := f189) hMt (fun i9 k9 h9 => by rw [ef189]; exact zu_n (by omega))
      have hMl := zMl.ci (fi' := f189) hMl (fun i9 k9 h9 => by rw [ef189]; exact zu_n (by omega))
      refine lv_aload_n hx hb dX12_makeOrder_133 rfl (lv_at hl 2 rfl) ?_
      refine zGetR (D := D) (ci := 12) (C := RX12) (T := TX12) (N := 71) hx hb hts hiX12 hown hH (zk_30 hF) rfl 56 (by decide) rfl hw17 (fun _ h9 => h9) dX12_makeOrder_134 (zr_30_56 hF) ?_
      refine lv_iload hx hb dX12_makeOrder_137 (lv_at hl 0 rfl) ?_
      refine lv_iconst (v := nI 0) hx hb dX12_makeOrder_139 (by decide) ?_
      refine zIastN (D := D) hx hb hH hS (zk_60 hF) (zn_60 hF) (by omega) (by omega) dX12_makeOrder_140 (fun H locs hH hS => ?_)
      obtain ⟨f199, ef199⟩ : ∃ f9 : zFi, f9 = zu f189 60 (8 * o + w) (nI 0) := ⟨_, rfl⟩
      rw [← ef199] at hH
      have q200 : f199 30 2 = nI n := by rw [ef199, zu_n (fun h9 => absurd h9.1 (by decide))]; exact q190
      have q201 : f199 30 26 = nI l0 := by rw [ef199, zu_n (fun h9 => absurd h9.1 (by decide))]; exact q191
      have q202 : f199 30 45 = nI (o + 1) := by rw [ef199, zu_n (fun h9 => absurd h9.1 (by decide))]; exact q192
      have q203 : f199 54 o = nI (w + 1) := by rw [ef199, zu_n (fun h9 => absurd h9.1 (by decide))]; exact q193
      have q204 : f199 55 (8 * o + w) = nI t7 := by rw [ef199, zu_n (fun h9 => absurd h9.1 (by decide))]; exact q194
      have q205 : f199 56 (8 * o + w) = f159 49 i := by rw [ef199, zu_n (fun h9 => absurd h9.1 (by decide))]; exact q195
      have q206 : f199 57 (8 * o + w) = r147 := by rw [ef199, zu_n (fun h9 => absurd h9.1 (by decide))]; exact q196
      have q207 : f199 58 (8 * o + w) = nI 0 := by rw [ef199, zu_n (fun h9 => absurd h9.1 (by decide))]; exact q197
      have q208 : f199 59 (8 * o + w) = nI 0 := by rw [ef199, zu_n (fun h9 => absurd h9.1 (by decide))]; exact q198
      have q209 : f199 60 (8 * o + w) = nI 0 := by rw [ef199]; exact zu_s
      have hMt := zMt.ci (fi' := f199) hMt (fun i9 k9 h9 => by rw [ef199]; exact zu_n (by omega))
      have hMl := zMl.ci (fi' := f199) hMl (fun i9 k9 h9 => by rw [ef199]; exact zu_n (by omega))
      refine lv_aload_n hx hb dX12_makeOrder_141 rfl (lv_at hl 2 rfl) ?_
      refine zGetR (D := D) (ci := 12) (C := RX12) (T := TX12) (N := 71) hx hb hts hiX12 hown hH (zk_30 hF) rfl 57 (by decide) rfl hw18 (fun _ h9 => h9) dX12_makeOrder_142 (zr_30_57 hF) ?_
      refine lv_iload hx hb dX12_makeOrder_145 (lv_at hl 0 rfl) ?_
      refine lv_iconst (v := nI 0) hx hb dX12_makeOrder_147 (by decide) ?_
      refine zIastN (D := D) hx hb hH hS (zk_61 hF) (zn_61 hF) (by omega) (by omega) dX12_makeOrder_148 (fun H locs hH hS => ?_)
      obtain ⟨f210, ef210⟩ : ∃ f9 : zFi, f9 = zu f199 61 (8 * o + w) (nI 0) := ⟨_, rfl⟩
      rw [← ef210] at hH
      have q211 : f210 30 2 = nI n := by rw [ef210, zu_n (fun h9 => absurd h9.1 (by decide))]; exact q200
      have q212 : f210 30 26 = nI l0 := by rw [ef210, zu_n (fun h9 => absurd h9.1 (by decide))]; exact q201
      have q213 : f210 30 45 = nI (o + 1) := by rw [ef210, zu_n (fun h9 => absurd h9.1 (by decide))]; exact q202
      have q214 : f210 54 o = nI (w + 1) := by rw [ef210, zu_n (fun h9 => absurd h9.1 (by decide))]; exact q203
      have q215 : f210 55 (8 * o + w) = nI t7 := by rw [ef210, zu_n (fun h9 => absurd h9.1 (by decide))]; exact q204
      have q216 : f210 56 (8 * o + w) = f159 49 i := by rw [ef210, zu_n (fun h9 => absurd h9.1 (by decide))]; exact q205
      have q217 : f210 57 (8 * o + w) = r147 := by rw [ef210, zu_n (fun h9 => absurd h9.1 (by decide))]; exact q206
      have q218 : f210 58 (8 * o + w) = nI 0 := by rw [ef210, zu_n (fun h9 => absurd h9.1 (by decide))]; exact q207
      have q219 : f210 59 (8 * o + w) = nI 0 := by rw [ef210, zu_n (fun h9 => absurd h9.1 (by decide))]; exact q208
      have q220 : f210 60 (8 * o + w) = nI 0 := by rw [ef210, zu_n (fun h9 => absurd h9.1 (by decide))]; exact q209
      have q221 : f210 61 (8 * o + w) = nI 0 := by rw [ef210]; exact zu_s
      have hMt := zMt.ci (fi' := f210) hMt (fun i9 k9 h9 => by rw [ef210]; exact zu_n (by omega))
      have hMl := zMl.ci (fi' := f210) hMl (fun i9 k9 h9 => by rw [ef210]; exact zu_n (by omega))
      refine lv_aload_n hx hb dX12_makeOrder_149 rfl (lv_at hl 2 rfl) ?_
      refine zGetR (D := D) (ci := 12) (C := RX12) (T := TX12) (N := 71) hx hb hts hiX12 hown hH (zk_30 hF) rfl 58 (by decide) rfl hw19 (fun _ h9 => h9) dX12_makeOrder_150 (zr_30_58 hF) ?_
      refine lv_iload hx hb dX12_makeOrder_153 (lv_at hl 0 rfl) ?_
      refine lv_iconst (v := nI 0) hx hb dX12_makeOrder_155 (by decide) ?_
      refine zIastN (D := D) hx hb hH hS (zk_62 hF) (zn_62 hF) (by omega) (by omega) dX12_makeOrder_156 (fun H locs hH hS => ?_)
      obtain ⟨f222, ef222⟩ : ∃ f9 : zFi, f9 = zu f210 62 (8 * o + w) (nI 0) := ⟨_, rfl⟩
      rw [← ef222] at hH
      have q223 : f222 30 2 = nI n := by rw [ef222, zu_n (fun h9 => absurd h9.1 (by decide))]; exact q211
      have q224 : f222 30 26 = nI l0 := by rw [ef222, zu_n (fun h9 => absurd h9.1 (by decide))]; exact q212
      have q225 : f222 30 45 = nI (o + 1) := by rw [ef222, zu_n (fun h9 => absurd h9.1 (by decide))]; exact q213
      have q226 : f222 54 o = nI (w + 1) := by rw [ef222, zu_n (fun h9 => absurd h9.1 (by decide))]; exact q214
      have q227 : f222 55 (8 * o + w) = nI t7 := by rw [ef222, zu_n (fun h9 => absurd h9.1 (by decide))]; exact q215
      have q228 : f222 56 (8 * o + w) = f159 49 i := by rw [ef222, zu_n (fun h9 => absurd h9.1 (by decide))]; exact q216
      have q229 : f222 57 (8 * o + w) = r147 := by rw [ef222, zu_n (fun h9 => absurd h9.1 (by decide))]; exact q217
      have q230 : f222 58 (8 * o + w) = nI 0 := by rw [ef222, zu_n (fun h9 => absurd h9.1 (by decide))]; exact q218
      have q231 : f222 59 (8 * o + w) = nI 0 := by rw [ef222, zu_n (fun h9 => absurd h9.1 (by decide))]; exact q219
      have q232 : f222 60 (8 * o + w) = nI 0 := by rw [ef222, zu_n (fun h9 => absurd h9.1 (by decide))]; exact q220
      have q233 : f222 61 (8 * o + w) = nI 0 := by rw [ef222, zu_n (fun h9 => absurd h9.1 (by decide))]; exact q221
      have q234 : f222 62 (8 * o + w) = nI 0 := by rw [ef222]; exact zu_s
      have hMt := zMt.ci (fi' := f222) hMt (fun i9 k9 h9 => by rw [ef222]; exact zu_n (by omega))
      have hMl := zMl.ci (fi' := f222) hMl (fun i9 k9 h9 => by rw [ef222]; exact zu_n (by omega))
      refine lv_aload_n hx hb dX12_makeOrder_157 rfl (lv_at hl 2 rfl) ?_
      refine zGetR (D := D) (ci := 12) (C := RX12) (T := TX12) (N := 71) hx hb hts hiX12 hown hH (zk_30 hF) rfl 59 (by decide) rfl hw20 (fun _ h9 => h9) dX12_makeOrder_158 (zr_30_59 hF) ?_
      refine lv_iload hx hb dX12_makeOrder_161 (lv_at hl 0 rfl) ?_
      refine lv_iconst (v := (-1)) hx hb dX12_makeOrder_163 (by decide) ?_
      refine zIastN (D := D) hx hb hH hS (zk_63 hF) (zn_63 hF) (by omega) (by omega) dX12_makeOrder_164 (fun H locs hH hS => ?_)
      obtain ⟨f235, ef235⟩ : ∃ f9 : zFi, f9 = zu f222 63 (8 * o + w) ((-1)) := ⟨_, rfl⟩
      rw [← ef235] at hH
      have q236 : f235 30 2 = nI n := by rw [ef235, zu_n (fun h9 => absurd h9.1 (by decide))]; exact q223
      have q237 : f235 30 26 = nI l0 := by rw [ef235, zu_n (fun h9 => absurd h9.1 (by decide))]; exact q224
      have q238 : f235 30 45 = nI (o + 1) := by rw [ef235, zu_n (fun h9 => absurd h9.1 (by decide))]; exact q225
      have q239 : f235 54 o = nI (w + 1) := by rw [ef235, zu_n (fun h9 => absurd h9.1 (by decide))]; exact q226
      have q240 : f235 55 (8 * o + w) = nI t7 := by rw [ef235, zu_n (fun h9 => absurd h9.1 (by decide))]; exact q227
      have q241 : f235 56 (8 * o + w) = f159 49 i := by rw [ef235, zu_n (fun h9 => absurd h9.1 (by decide))]; exact q228
      have q242 : f235 57 (8 * o + w) = r147 := by rw [ef235, zu_n (fun h9 => absurd h9.1 (by decide))]; exact q229
      have q243 : f235 58 (8 * o + w) = nI 0 := by rw [ef235, zu_n (fun h9 => absurd h9.1 (by decide))]; exact q230
      have q244 : f235 59 (8 * o + w) = nI 0 := by rw [ef235, zu_n (fun h9 => absurd h9.1 (by decide))]; exact q231
      have q245 : f235 60 (8 * o + w) = nI 0 := by rw [ef235, zu_n (fun h9 => absurd h9.1 (by decide))]; exact q232
      have q246 : f235 61 (8 * o + w) = nI 0 := by rw [ef235, zu_n (fun h9 => absurd h9.1 (by decide))]; exact q233
      have q247 : f235 62 (8 * o + w) = nI 0 := by rw [ef235, zu_n (fun h9 => absurd h9.1 (by decide))]; exact q234
      have q248 : f235 63 (8 * o + w) = (-1) := by rw [ef235]; exact zu_s
      have hMt := zMt.ci (fi' := f235) hMt (fun i9 k9 h9 => by rw [ef235]; exact zu_n (by omega))
      have hMl := zMl.ci (fi' := f235) hMl (fun i9 k9 h9 => by rw [ef235]; exact zu_n (by omega))
      refine lv_aload_n hx hb dX12_makeOrder_165 rfl (lv_at hl 2 rfl) ?_
      refine zGetR (D := D) (ci := 12) (C := RX12) (T := TX12) (N := 71) hx hb hts hiX12 hown hH (zk_30 hF) rfl 60 (by decide) rfl hw21 (fun _ h9 => h9) dX12_makeOrder_166 (zr_30_60 hF) ?_
      refine lv_iload hx hb dX12_makeOrder_169 (lv_at hl 0 rfl) ?_
      refine lv_iconst (v := (-1)) hx hb dX12_makeOrder_171 (by decide) ?_
      refine zIastN (D := D) hx hb hH hS (zk_64 hF) (zn_64 hF) (by omega) (by omega) dX12_makeOrder_172 (fun H locs hH hS => ?_)
      obtain ⟨f249, ef249⟩ : ∃ f9 : zFi, f9 = zu f235 64 (8 * o + w) ((-1)) := ⟨_, rfl⟩
      rw [← ef249] at hH
      have q250 : f249 30 2 = nI n := by rw [ef249, zu_n (fun h9 => absurd h9.1 (by decide))]; exact q236
      have q251 : f249 30 26 = nI l0 := by rw [ef249, zu_n (fun h9 => absurd h9.1 (by decide))]; exact q237
      have q252 : f249 30 45 = nI (o + 1) := by rw [ef249, zu_n (fun h9 => absurd h9.1 (by decide))]; exact q238
      have q253 : f249 54 o = nI (w + 1) := by rw [ef249, zu_n (fun h9 => absurd h9.1 (by decide))]; exact q239
      have q254 : f249 55 (8 * o + w) = nI t7 := by rw [ef249, zu_n (fun h9 => absurd h9.1 (by decide))]; exact q240
      have q255 : f249 56 (8 * o + w) = f159 49 i := by rw [ef249, zu_n (fun h9 => absurd h9.1 (by decide))]; exact q241
      have q256 : f249 57 (8 * o + w) = r147 := by rw [ef249, zu_n (fun h9 => absurd h9.1 (by decide))]; exact q242
      have q257 : f249 58 (8 * o + w) = nI 0 := by rw [ef249, zu_n (fun h9 => absurd h9.1 (by decide))]; exact q243
      have q258 : f249 59 (8 * o + w) = nI 0 := by rw [ef249, zu_n (fun h9 => absurd h9.1 (by decide))]; exact q244
      have q259 : f249 60 (8 * o + w) = nI 0 := by rw [ef249, zu_n (fun h9 => absurd h9.1 (by decide))]; exact q245
      have q260 : f249 61 (8 * o + w) = nI 0 := by rw [ef249, zu_n (fun h9 => absurd h9.1 (by decide))]; exact q246
      have q261 : f249 62 (8 * o + w) = nI 0 := by rw [ef249, zu_n (fun h9 => absurd h9.1 (by decide))]; exact q247
      have q262 : f249 63 (8 * o + w) = (-1) := by rw [ef249, zu_n (fun h9 => absurd h9.1 (by decide))]; exact q248
      have q263 : f249 64 (8 * o + w) = (-1) := by rw [ef249]; exact zu_s
      have hMt := zMt.ci (fi' := f249) hMt (fun i9 k9 h9 => by rw [ef249]; exact zu_n (by omega))
      have hMl := zMl.ci (fi' := f249) hMl (fun i9 k9 h9 => by rw [ef249]; exact zu_n (by omega))
      refine lv_iload_n hx hb dX12_makeOrder_173 rfl (lv_at hl 4 rfl) ?_
      refine lv_iload hx hb dX12_makeOrder_174 (lv_at hl 1 rfl) ?_
      refine lv_aload_n hx hb dX12_makeOrder_176 rfl (lv_at hl 2 rfl) ?_
      refine zGetR (D := D) (ci := 12) (C := RX12) (T := TX12) (N := 71) hx hb hts hiX12 hown hH (zk_30 hF) rfl 28 (by decide) rfl hw13 (fun _ h9 => h9) dX12_makeOrder_177 (zr_30_28 hF) ?_
      refine lv_iload_n hx hb dX12_makeOrder_180 rfl (lv_at hl 5 rfl) ?_
      refine zIaldN (D := D) hx hb hH (zk_49 hF) (zn_49 hF) (by omega) (by omega) rfl dX12_makeOrder_181 ?_
      refine lv_imul hx hb dX12_makeOrder_182 ?_
      refine lv_topi (fun v264 ev264 => ?_)
      refine lv_iadd hx hb dX12_makeOrder_183 ?_
      refine lv_topi (fun v265 ev265 => ?_)
      refine lv_istore_n (lv' := [(2, .int v265), (5, .int (nI (8 * o + w))), (4, .int r147), (0, .ref (τ.1 30)), (1, .int (nI o)), (3, .int (nI i))]) hx hb dX12_makeOrder_184 rfl hl (by decide) rfl (fun ls hl => ?_)
      refine lv_iinc (v := nI (i + 1)) (lv' := [(3, .int (nI (i + 1))), (2, .int v265), (5, .int (nI (8 * o + w))), (4, .int r147), (0, .ref (τ.1 30)), (1, .int (nI o))]) hx hb dX12_makeOrder_185 hl (k := 5) rfl (by rw [show (Int32.ofInt 1 : Int32) = nI 1 from by decide, nI_add]) (by decide) rfl (fun ls hl => ?_)
      refine lv_goto (tgt := 26) hx hb dX12_makeOrder_188 (by decide) ?_
      have hnw : zMw f249 n (8 * o + w) := zMw.new (y := f 49 i) ht7 (hMl0f i (by omega)) (by rw [ef249, zu_n (by omega), ef235, zu_n (by omega), ef222, zu_n (by omega), ef210, zu_n (by omega), ef199, zu_n (by omega), ef189, zu_n (by omega), ef180, zu_n (by omega), ef172, zu_n (by omega), ef165, zu_n (by omega), ef159, zu_s]) (by rw [ef249, zu_n (by omega), ef235, zu_n (by omega), ef222, zu_n (by omega), ef210, zu_n (by omega), ef199, zu_n (by omega), ef189, zu_n (by omega), ef180, zu_n (by omega), ef172, zu_n (by omega), ef165, zu_s, ef159, zu_n (by omega), ef153, zu_n (by omega)]) (by rw [ef249, zu_n (by omega), ef235, zu_n (by omega), ef222, zu_n (by omega), ef210, zu_n (by omega), ef199, zu_n (by omega), ef189, zu_n (by omega), ef180, zu_s]) (by rw [ef249, zu_n (by omega), ef235, zu_n (by omega), ef222, zu_n (by omega), ef210, zu_n (by omega), ef199, zu_n (by omega), ef189, zu_s]) (by rw [ef249, zu_n (by omega), ef235, zu_n (by omega), ef222, zu_n (by omega), ef210, zu_n (by omega), ef199, zu_s]) (by rw [ef249, zu_n (by omega), ef235, zu_n (by omega), ef222, zu_s])
      exact ih111 (l0 - (i + 1)) (by omega) (i + 1, _, w + 1, f249) _ _ _ (show l0 - (i + 1) = l0 - (i + 1) ∧ ((i + 1) ≤ l0 ∧ (w + 1) ≤ (i + 1) ∧ f249 30 45 = nI (o + 1) ∧ f249 54 o = nI (w + 1) ∧ (∀ j, j < (w + 1) → zMw f249 n (8 * o + j)) ∧ (∀ j, j < o → f249 54 j = fi 54 j) ∧ (∀ a b, 55 ≤ a → a ≤ 64 → b < 8 * o → f249 a b = fi a b) ∧ ∀ a b, ¬ ((a = 30 ∧ b = 45) ∨ (50 ≤ a ∧ a ≤ 64)) → f249 a b = fi a b) ∧ zH D A τ f249 fr ol s _ ∧ va_S A s.heap _ _ ∧ lv_has _ 6 [(0, .ref (τ.1 30)), (1, .int (nI o)), (2, .int _), (3, .int (nI (i + 1)))] from ⟨rfl, ⟨by omega, by omega, by rw [ef249, zu_n (by omega), ef235, zu_n (by omega), ef222, zu_n (by omega), ef210, zu_n (by omega), ef199, zu_n (by omega), ef189, zu_n (by omega), ef180, zu_n (by omega), ef172, zu_n (by omega), ef165, zu_n (by omega), ef159, zu_n (by omega), ef153, zu_n (by omega)]; exact p45, q253, fun j h => by by_cases h7 : j = w; (subst h7; exact hnw); exact (hwn j (by omega)).ci (Nat.le_refl _) (fun a h8 h9 => by rw [ef249, zu_n (by omega), ef235, zu_n (by omega), ef222, zu_n (by omega), ef210, zu_n (by omega), ef199, zu_n (by omega), ef189, zu_n (by omega), ef180, zu_n (by omega), ef172, zu_n (by omega), ef165, zu_n (by omega), ef159, zu_n (by omega), ef153, zu_n (by omega)]), fun j h => by rw [ef249, zu_n (by omega), ef235, zu_n (by omega), ef222, zu_n (by omega), ef210, zu_n (by omega), ef199, zu_n (by omega), ef189, zu_n (by omega), ef180, zu_n (by omega), ef172, zu_n (by omega), ef165, zu_n (by omega), ef159, zu_n (by omega), ef153, zu_n (by omega)]; exact h54 j h, fun a b h7 h8 h9 => by rw [ef249, zu_n (by omega), ef235, zu_n (by omega), ef222, zu_n (by omega), ef210, zu_n (by omega), ef199, zu_n (by omega), ef189, zu_n (by omega), ef180, zu_n (by omega), ef172, zu_n (by omega), ef165, zu_n (by omega), ef159, zu_n (by omega), ef153, zu_n (by omega)]; exact hold a b h7 h8 h9, fun a b h => by rw [ef249, zu_n (by omega), ef235, zu_n (by omega), ef222, zu_n (by omega), ef210, zu_n (by omega), ef199, zu_n (by omega), ef189, zu_n (by omega), ef180, zu_n (by omega), ef172, zu_n (by omega), ef165, zu_n (by omega), ef159, zu_n (by omega), ef153, zu_n (by omega)]; exact hfr a b h⟩, hH, hS, lv_sub hl [4, 5, 1, 0] rfl⟩)
    · have zc149 := c149
      replace zc149 := zc_eq (rfl) ((by decide : ((-1) : Int32).toInt = (-1))) zc149
      clear hpo148
      refine lv_goto (tgt := 185) hx hb dX12_makeOrder_52 (by decide) ?_
      refine lv_iinc (v := nI (i + 1)) (lv' := [(3, .int (nI (i + 1))), (4, .int r147), (0, .ref (τ.1 30)), (1, .int (nI o)), (2, .int yy)]) hx hb dX12_makeOrder_185 hl (k := 4) rfl (by rw [show (Int32.ofInt 1 : Int32) = nI 1 from by decide, nI_add]) (by decide) rfl (fun ls hl => ?_)
      refine lv_goto (tgt := 26) hx hb dX12_makeOrder_188 (by decide) ?_
      exact ih111 (l0 - (i + 1)) (by omega) (i + 1, _, w, f) _ _ _ (show l0 - (i + 1) = l0 - (i + 1) ∧ ((i + 1) ≤ l0 ∧ w ≤ (i + 1) ∧ f 30 45 = nI (o + 1) ∧ f 54 o = nI w ∧ (∀ j, j < w → zMw f n (8 * o + j)) ∧ (∀ j, j < o → f 54 j = fi 54 j) ∧ (∀ a b, 55 ≤ a → a ≤ 64 → b < 8 * o → f a b = fi a b) ∧ ∀ a b, ¬ ((a = 30 ∧ b = 45) ∨ (50 ≤ a ∧ a ≤ 64)) → f a b = fi a b) ∧ zH D A τ f fr ol s _ ∧ va_S A s.heap _ _ ∧ lv_has _ 6 [(0, .ref (τ.1 30)), (1, .int (nI o)), (2, .int _), (3, .int (nI (i + 1)))] from ⟨rfl, ⟨by omega, by omega, p45, p54, hwn, h54, hold, hfr⟩, hH, hS, lv_sub hl [2, 3, 4, 0] rfl⟩)
