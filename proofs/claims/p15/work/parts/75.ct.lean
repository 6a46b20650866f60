/-! ===== THE CELLS ARE MADE ===== -/
def zkt (i : Nat) : Nat := if i < 100 then zKT.getD i 0 else if i = 200 then 3 else if 201 ≤ i ∧ i ≤ 207 then 1 else 0
def zkn (i : Nat) : Nat := if i < 100 then zKN.getD i 0 else if 200 ≤ i ∧ i ≤ 205 then 64 else if i = 206 ∨ i = 207 then 512 else 0
def zXc (i k : Nat) : Prop := i = 10 ∨ i = 11 ∨ i = 13 ∨ i = 14 ∨ (i = 0 ∧ k = 14) ∨ (i = 1 ∧ k = 3) ∨ (i = 30 ∧ k = 24) ∨ i = 44 ∨ i = 40
def zFRa : List (Nat × Nat × Nat) := zFR ++ [(30, 37, 200), (30, 38, 201), (30, 39, 202), (30, 40, 203), (30, 41, 204), (30, 42, 205), (30, 43, 206), (30, 44, 207)]
/-- the cells under a (but 28, 29) and those from 200 to b are there; of the references those of 0 under x, those of the objects under y, those of y under j; all other numbers are 0 -/
def zBI (τ : zTy) (fi : zFi) (fr : zFr) (a b x y j : Nat) : Prop :=
  (∀ i, (i < a ∧ i ≠ 28 ∧ i ≠ 29) ∨ (200 ≤ i ∧ i < b) → τ.2.2.1 i = zkt i ∧ τ.2.2.2 i = zkn i) ∧ (∀ i, ¬ ((i < a ∧ i ≠ 28 ∧ i ≠ 29) ∨ (200 ≤ i ∧ i < b)) → τ.2.2.1 i = 0 ∧ τ.2.2.2 i = 0) ∧
  (∀ q ∈ zFRa, (q.1 = 0 ∧ q.2.1 < x) ∨ (0 < q.1 ∧ q.1 < y) ∨ (q.1 = y ∧ 0 < y ∧ q.2.1 < j) → fr q.1 q.2.1 = some q.2.2) ∧ ∀ i k, ¬ zXc i k → fi i k = 0
theorem zBI.born {τ τ' : zTy} {fi fi' : zFi} {fr fr' : zFr} {a b x y j i t n a' b' : Nat} (h : zBI τ fi fr a b x y j) (hi : (b' = b ∧ a' = i + 1 ∧ a ≤ i ∧ i < 100 ∧ (i = a ∨ (a = 28 ∧ i = 30))) ∨ (a' = a ∧ b' = i + 1 ∧ b = i ∧ a ≤ 100 ∧ 200 ≤ b)) (hy : y < i ∨ (x = 0 ∧ y = 0)) (hk : τ'.2.2.1 i = t) (hn : τ'.2.2.2 i = n) (hb : ∀ j, j ≠ i → τ'.2.2.1 j = τ.2.2.1 j ∧ τ'.2.2.2 j = τ.2.2.2 j) (ef : fi' = va_up fi i (fun _ => 0)) (eg : fr' = va_up fr i (fun _ => none)) (ht : t = zkt i) (hn' : n = zkn i) (h28 : i ≠ 28 ∧ i ≠ 29) : zBI τ' fi' fr' a' b' x y j := by
  obtain ⟨h1, h2, h3, h4⟩ := h
  refine ⟨fun k hk2 => ?_, fun k hk2 => ?_, fun q hq hc => ?_, fun k m hx => ?_⟩
  · by_cases e : k = i
    · subst e; exact ⟨by rw [hk, ht], by rw [hn, hn']⟩
    · rw [(hb k e).1, (hb k e).2]; exact h1 k (by omega)
  · by_cases e : k = i
    · subst e; exact absurd hk2 (by omega)
    · rw [(hb k e).1, (hb k e).2]; exact h2 k (by omega)
  · rw [eg, va_up_ne _ _ (by omega)]; exact h3 q hq hc
  · by_cases e : k = i
    · subst e; rw [ef, va_up_self]
    · rw [ef, va_up_ne _ _ e]; exact h4 k m hx
theorem zBI.ref {τ : zTy} {fi : zFi} {fr fr' : zFr} {a b x y j k c : Nat} (h : zBI τ fi fr a b x y j) (e : fr' = zur fr y k (some c)) (hy : 0 < y) (hjk : j ≤ k) (hR : ∀ q ∈ zFRa, q.1 = y → j ≤ q.2.1 → q.2.1 ≤ k → q.2.1 = k ∧ q.2.2 = c) : zBI τ fi fr' a b x y (k + 1) := by
  obtain ⟨h1, h2, h3, h4⟩ := h
  refine ⟨h1, h2, fun q hq hc => ?_, h4⟩
  by_cases hd : q.1 = y ∧ j ≤ q.2.1
  · obtain ⟨r1, r2⟩ := hR q hq hd.1 hd.2 (by omega)
    rw [e, hd.1, r1, r2]; exact zur_s
  · rw [e, zur_n (by omega)]; exact h3 q hq (by omega)
theorem zBI.ref0 {τ : zTy} {fi : zFi} {fr fr' : zFr} {a b x y j k c : Nat} (h : zBI τ fi fr a b x y j) (e : fr' = zur fr 0 k (some c)) (hxk : x ≤ k) (hR : ∀ q ∈ zFRa, q.1 = 0 → x ≤ q.2.1 → q.2.1 ≤ k → q.2.1 = k ∧ q.2.2 = c) : zBI τ fi fr' a b (k + 1) y j := by
  obtain ⟨h1, h2, h3, h4⟩ := h
  refine ⟨h1, h2, fun q hq hc => ?_, h4⟩
  by_cases hd : q.1 = 0 ∧ x ≤ q.2.1
  · obtain ⟨r1, r2⟩ := hR q hq hd.1 hd.2 (by omega)
    rw [e, hd.1, r1, r2]; exact zur_s
  · rw [e, zur_n (by omega)]; exact h3 q hq (by omega)
theorem zBI.sw {τ : zTy} {fi : zFi} {fr : zFr} {a b x y j : Nat} (y' : Nat) (h : zBI τ fi fr a b x y j) (hR : ∀ q ∈ zFRa, 0 < q.1 → q.1 < y' → q.1 < y ∨ (q.1 = y ∧ q.2.1 < j)) : zBI τ fi fr a b x y' 0 := by
  obtain ⟨h1, h2, h3, h4⟩ := h
  refine ⟨h1, h2, fun q hq hc => ?_, h4⟩
  by_cases hd : 0 < q.1 ∧ q.1 < y'
  · have := hR q hq hd.1 hd.2
    exact h3 q hq (by omega)
  · exact h3 q hq (by omega)
theorem zBI.mk0 {τ : zTy} {fi fi' : zFi} {fr : zFr} {a b x y j : Nat} (h : zBI τ fi fr a b x y j) (h0 : ∀ i k, ¬ zXc i k → fi' i k = 0) : zBI τ fi' fr a b x y j := ⟨h.1, h.2.1, h.2.2.1, h0⟩
/-- the cells under me are as they were -/
def zIV (f0 f : zFi) (me : Nat) : Prop := ∀ i k, i < me → f i k = f0 i k
theorem zIV.int {f0 f f' : zFi} {me i k : Nat} {v : Int32} (h : zIV f0 f me) (e : f' = zu f i k v) (hi : me ≤ i) : zIV f0 f' me := fun p q hp => by rw [e, zu_n (by omega)]; exact h p q hp
theorem zIV.born {f0 f f' : zFi} {me i : Nat} {g : Nat → Int32} (h : zIV f0 f me) (e : f' = va_up f i g) (hi : me ≤ i) : zIV f0 f' me := fun p q hp => by rw [e, va_up_ne _ _ (by omega)]; exact h p q hp
theorem zIV.call {f0 f f' : zFi} {me me' : Nat} (h : zIV f0 f me) (e : zIV f f' me') (hi : me ≤ me') : zIV f0 f' me := fun p q hp => by rw [e p q (by omega)]; exact h p q hp
/-- the rules as they are at the start -/
def zRv (f : zFi) (a b : Nat) : Prop := (f a 0 = nI 10 ∧ f a 1 = nI 50 ∧ f a 2 = nI 10000 ∧ f a 3 = nI 14) ∧ ∀ t, t < 30 → f b t = -1
theorem zRv.cg {f f' : zFi} {a b : Nat} (h : zRv f a b) (hi : ∀ i k, i = a ∨ i = b → f' i k = f i k) : zRv f' a b := by
  obtain ⟨⟨h0, h1, h2, h3⟩, h4⟩ := h
  exact ⟨⟨by rw [hi a 0 (Or.inl rfl)]; exact h0, by rw [hi a 1 (Or.inl rfl)]; exact h1, by rw [hi a 2 (Or.inl rfl)]; exact h2, by rw [hi a 3 (Or.inl rfl)]; exact h3⟩, fun t q => by rw [hi b t (Or.inr rfl)]; exact h4 t q⟩
theorem zBI.int {τ : zTy} {fi fi' : zFi} {fr : zFr} {a b x y j i k : Nat} {v : Int32} (h : zBI τ fi fr a b x y j) (e : fi' = zu fi i k v) (hx : zXc i k) : zBI τ fi' fr a b x y j := h.mk0 (fun p q hn => by rw [e, zu_n (fun r => hn (by rw [r.1, r.2]; exact hx))]; exact h.2.2.2 p q hn)
set_option maxHeartbeats 4000000 in
set_option maxRecDepth 100000 in
/-- X7_init -/
theorem i_Tape (l : Launch) (hl0 : l.stackTraces = false) (D : va_G) (A : Nat → Prop) (sad : Nat → Nat) (τ : zTy) (fi : zFi) (fr : zFr) (ol : Int64) (hB : zBI τ fi fr 2 200 0 1 0) : Met l yX7_init wsX7_init ({ frames := 1, cells := 1, slots := 400, locals := 12 }) (va_Pc [.ref (τ.1 1)] (zQc D A sad τ fi fr ol)) (va_Qv (fun (u : zTy × zFi × zFr) => zBI u.1 u.2.1 u.2.2 3 200 0 1 1 ∧ (∀ i, i ≤ 1 → u.1.1 i = τ.1 i) ∧ zIV fi u.2.1 1) (fun (u : zTy × zFi × zFr) (t : State) => zH D A u.1 u.2.1 u.2.2 ol t t.heap) A) 1 400 A := by
  refine Met.ofW (cc := cX7_init) (maxL := 1) (ret := none) (by decide) rfl ?_
  intro p9 e9 s m args below meth c9 s₁ B hml hv
  obtain ⟨rfl, hz, hH, hA⟩ := hv
  have hx := B.exec
  have hb := B.bytes
  have hr := B.returns
  have hts := atoms_spec (ws := wsX7_init) B.pre
  have hown : s.vm.findClass RX7 = some m.cls := findClass_of_methodNamed B.named
  have hlocks := B.notSynchronized
  have hin : meth.name = "<init>" := (name_of_methodNamed B.named B.method).1
  have hS : va_S A s.heap s.heap [] := va_S.rf
  have hl := lv_entry ([.ref (τ.1 1)]) (n := 1) (Nat.le_of_ble_eq_true rfl)
  rw [lg_entry_eq]
  generalize (lg_sl ([.ref (τ.1 1)]) ++ List.replicate (1 - (lg_sl ([.ref (τ.1 1)])).length) Slot.unset).toArray = ls at hl ⊢
  have hl : lv_has ls 1 [(0, .ref (τ.1 1))] := hl
  have hV : zIV fi fi 1 := fun _ _ _ => rfl
  have hw0 := hts (.methodLink RX7 3 objectInit) (by decide +kernel)
  have hw1 := hts (.instanceMethod objectInit) (by decide +kernel)
  have hw2 := hts (.code objectInit ⟨#[0xb1]⟩ 1 none) (by decide +kernel)
  have hw3 := hts (.arrayClass .byte) (by decide +kernel)
  have hw4 := hts (.fieldLink RX7 11 "PostHouse$Tape" "bytes" "[B") (by decide +kernel)
  have hiX7 : ∀ w ∈ u_ws RX7 TX7 4, w ∈ wsX7_init := fun _ h => List.mem_cons_of_mem _ (List.mem_append_right _ h)
  have hw6 := hts (.fieldLink RX7 15 "PostHouse$Tape" "wrong" "I") (by decide +kernel)
  refine lv_aload_n hx hb dX7_init_0 rfl (lv_at hl 0 rfl) ?_
  refine W.objInit hx hb hown hw0 hw1 hw2 rfl (by rw [hml]; exact hl.1) rfl dX7_init_1 (Nat.le_of_ble_eq_true rfl) (Nat.le_of_ble_eq_true rfl) ?_
  refine W.eq (g2 := F0 m 4 ls []) rfl ?_
  refine lv_aload_n hx hb dX7_init_4 rfl (lv_at hl 0 rfl) ?_
  refine lv_sipush (v := nI 400) hx hb dX7_init_5 (by decide) ?_
  refine zNewa (D := D) (atype := .byte) (t := 2) (N' := 400) hx hb hw3 rfl (by decide) (by decide) rfl hH hS hA 2 (hB.2.1 2 (by omega)).1 (by decide) (by decide) (by first | decide | (simp only [zT, componentBytes]; omega)) (Nat.le_of_ble_eq_true rfl) (Nat.le_of_ble_eq_true rfl) dX7_init_8 (fun q9 c9 H hH8 hS => ?_)
  obtain ⟨τ101, eτ101⟩ : ∃ t9 : zTy, t9 = (va_up τ.1 2 q9, va_up τ.2.1 2 c9, va_up τ.2.2.1 2 2, va_up τ.2.2.2 2 400) := ⟨_, rfl⟩
  obtain ⟨f102, ef102⟩ : ∃ f9 : zFi, f9 = va_up fi 2 (fun _ => 0) := ⟨_, rfl⟩
  obtain ⟨g103, eg103⟩ : ∃ f9 : zFr, f9 = va_up fr 2 (fun _ => none) := ⟨_, rfl⟩
  have hH : zH D A τ101 f102 g103 ol s H := by rw [eτ101, ef102, eg103]; exact hH8
  clear hH8
  have hqτ101 : τ101.1 2 = q9 := by rw [eτ101]; exact va_up_self τ.1 2 q9
  have haτ101 : ∀ i, i ≠ 2 → τ101.1 i = τ.1 i := fun i h => by rw [eτ101]; exact va_up_ne _ _ h
  have hkτ101 : τ101.2.2.1 2 = 2 := by rw [eτ101]; exact va_up_self τ.2.2.1 2 2
  have hnτ101 : τ101.2.2.2 2 = 400 := by rw [eτ101]; exact va_up_self τ.2.2.2 2 400
  have hbτ101 : ∀ i, i ≠ 2 → τ101.2.2.1 i = τ.2.2.1 i ∧ τ101.2.2.2 i = τ.2.2.2 i := fun i h => by rw [eτ101]; exact ⟨va_up_ne _ _ h, va_up_ne _ _ h⟩
  clear eτ101
  subst hqτ101
  rw [show τ.1 1 = τ101.1 1 from (haτ101 1 (by omega)).symm] at hl
  refine W.eq (g2 := F0 m 10 ls [.ref (τ101.1 2), .ref (τ101.1 1)]) (by rw [haτ101 1 (by omega)]) ?_
  have hB := zBI.born (i := 2) (a' := 3) (b' := 200) hB (by omega) (by omega) hkτ101 hnτ101 hbτ101 ef102 eg103 (by decide) (by decide) (by decide)
  have hAd : ∀ i, i ≤ 1 → τ101.1 i = τ.1 i := fun i h => by rw [haτ101 i (by omega)]
  have hV := hV.born ef102 (by omega)
  refine W.widen (k := 1) (n := 400) (by decide) (by decide) ?_
  refine zPutFR (D := D) (ci := 7) (ty := .array .byte) (C := RX7) (T := TX7) (N := 4) hx hb hts hiX7 tyX7 tyX7_ok nmX7 hown hH hS ((hB.1 1 (by omega)).1.trans (by decide : zkt 1 = 23)) rfl 0 (by decide) rfl hw4 (fun _ h9 => h9) rfl hin rfl (by rw [((hB.1 2 (by omega)).1.trans (by decide : zkt 2 = 2))]; decide)  (by decide +kernel) rfl rfl dX7_init_10 (fun H locs hH hS => ?_)
  obtain ⟨g104, eg104⟩ : ∃ f9 : zFr, f9 = zur g103 1 0 (some 2) := ⟨_, rfl⟩
  rw [← eg104] at hH
  have hB := zBI.ref hB eg104 (by omega) (by omega) (by decide +kernel)
  refine lv_aload_n hx hb dX7_init_13 rfl (lv_at hl 0 rfl) ?_
  refine lv_iconst (v := (-1)) hx hb dX7_init_14 (by decide) ?_
  refine zPutI (D := D) (ci := 7) (ty := .int) (C := RX7) (T := TX7) (N := 4) hx hb hts hiX7 tyX7 tyX7_ok nmX7 hown hH hS ((hB.1 1 (by omega)).1.trans (by decide : zkt 1 = 23)) rfl 3 (by decide) rfl hw6 (fun _ h9 => h9) rfl (by decide +kernel) rfl rfl dX7_init_15 (fun H locs hH hS => ?_)
  obtain ⟨f106, ef106⟩ : ∃ f9 : zFi, f9 = zu f102 1 3 ((-1)) := ⟨_, rfl⟩
  rw [← ef106] at hH
  have q107 : f106 1 3 = (-1) := by rw [ef106]; exact zu_s
  have hB := zBI.int hB ef106 (by unfold zXc; omega)
  have hV := hV.int ef106 (by omega)
  refine W.widen (k := 1) (n := 400) (by decide) (by decide) ?_
  exact W.vret hx hb hr (fun t9 ht9 hW9 => ⟨⟨(τ101, f106, g104), rfl, (show zBI τ101 f106 g104 3 200 0 1 1 ∧ (∀ i, i ≤ 1 → τ101.1 i = τ.1 i) ∧ zIV fi f106 1 from ⟨hB, hAd, hV⟩), zEnd1 hH ht9 hW9⟩, hS.F ht9⟩) hS.2.2 dX7_init_18
set_option maxHeartbeats 4000000 in
set_option maxRecDepth 100000 in
/-- X0_init -/
theorem i_Book (l : Launch) (hl0 : l.stackTraces = false) (D : va_G) (A : Nat → Prop) (sad : Nat → Nat) (τ : zTy) (fi : zFi) (fr : zFr) (ol : Int64) (hB : zBI τ fi fr 4 200 1 3 0) : Met l yX0_init wsX0_init ({ frames := 1, cells := 1, slots := 30, locals := 12 }) (va_Pc [.ref (τ.1 3)] (zQc D A sad τ fi fr ol)) (va_Qv (fun (u : zTy × zFi × zFr) => zBI u.1 u.2.1 u.2.2 5 200 1 3 1 ∧ (∀ i, i ≤ 3 → u.1.1 i = τ.1 i) ∧ zIV fi u.2.1 3) (fun (u : zTy × zFi × zFr) (t : State) => zH D A u.1 u.2.1 u.2.2 ol t t.heap) A) 1 30 A := by
  refine Met.ofW (cc := cX0_init) (maxL := 1) (ret := none) (by decide) rfl ?_
  intro p9 e9 s m args below meth c9 s₁ B hml hv
  obtain ⟨rfl, hz, hH, hA⟩ := hv
  have hx := B.exec
  have hb := B.bytes
  have hr := B.returns
  have hts := atoms_spec (ws := wsX0_init) B.pre
  have hown : s.vm.findClass RX0 = some m.cls := findClass_of_methodNamed B.named
  have hlocks := B.notSynchronized
  have hin : meth.name = "<init>" := (name_of_methodNamed B.named B.method).1
  have hS : va_S A s.heap s.heap [] := va_S.rf
  have hl := lv_entry ([.ref (τ.1 3)]) (n := 1) (Nat.le_of_ble_eq_true rfl)
  rw [lg_entry_eq]
  generalize (lg_sl ([.ref (τ.1 3)]) ++ List.replicate (1 - (lg_sl ([.ref (τ.1 3)])).length) Slot.unset).toArray = ls at hl ⊢
  have hl : lv_has ls 1 [(0, .ref (τ.1 3))] := hl
  have hV : zIV fi fi 3 := fun _ _ _ => rfl
  have hw0 := hts (.methodLink RX0 3 objectInit) (by decide +kernel)
  have hw1 := hts (.instanceMethod objectInit) (by decide +kernel)
  have hw2 := hts (.code objectInit ⟨#[0xb1]⟩ 1 none) (by decide +kernel)
  have hw3 := hts (.classLink RX0 9 RX8) (by decide +kernel)
  have hw4 := hts (.fieldLink RX0 11 "PostHouse$Book" "things" "[LPostHouse$Thing;") (by decide +kernel)
  have hiX0 : ∀ w ∈ u_ws RX0 TX0 2, w ∈ wsX0_init := fun _ h => List.mem_cons_of_mem _ (List.mem_append_right _ h)
  refine lv_aload_n hx hb dX0_init_0 rfl (lv_at hl 0 rfl) ?_
  refine W.objInit hx hb hown hw0 hw1 hw2 rfl (by rw [hml]; exact hl.1) rfl dX0_init_1 (Nat.le_of_ble_eq_true rfl) (Nat.le_of_ble_eq_true rfl) ?_
  refine W.eq (g2 := F0 m 4 ls []) rfl ?_
  refine lv_aload_n hx hb dX0_init_4 rfl (lv_at hl 0 rfl) ?_
  refine lv_bipush (v := nI 30) hx hb dX0_init_5 (by decide) ?_
  refine zNewq (D := D) (C := RX8) (t := 8) (N' := 30) hx hb hown hw3 (hz.1.2.2.2.2.2.2.1 _ (List.mem_of_getElem? (i := 3) rfl)) rfl (by decide) (by decide) hH hS hA 4 (hB.2.1 4 (by omega)).1 (by decide) (by decide) (by decide) (Nat.le_of_ble_eq_true rfl) (Nat.le_of_ble_eq_true rfl) dX0_init_7 (fun q9 c9 H hH8 hS => ?_)
  obtain ⟨τ101, eτ101⟩ : ∃ t9 : zTy, t9 = (va_up τ.1 4 q9, va_up τ.2.1 4 c9, va_up τ.2.2.1 4 8, va_up τ.2.2.2 4 30) := ⟨_, rfl⟩
  obtain ⟨f102, ef102⟩ : ∃ f9 : zFi, f9 = va_up fi 4 (fun _ => 0) := ⟨_, rfl⟩
  obtain ⟨g103, eg103⟩ : ∃ f9 : zFr, f9 = va_up fr 4 (fun _ => none) := ⟨_, rfl⟩
  have hH : zH D A τ101 f102 g103 ol s H := by rw [eτ101, ef102, eg103]; exact hH8
  clear hH8
  have hqτ101 : τ101.1 4 = q9 := by rw [eτ101]; exact va_up_self τ.1 4 q9
  have haτ101 : ∀ i, i ≠ 4 → τ101.1 i = τ.1 i := fun i h => by rw [eτ101]; exact va_up_ne _ _ h
  have hkτ101 : τ101.2.2.1 4 = 8 := by rw [eτ101]; exact va_up_self τ.2.2.1 4 8
  have hnτ101 : τ101.2.2.2 4 = 30 := by rw [eτ101]; exact va_up_self τ.2.2.2 4 30
  have hbτ101 : ∀ i, i ≠ 4 → τ101.2.2.1 i = τ.2.2.1 i ∧ τ101.2.2.2 i = τ.2.2.2 i := fun i h => by rw [eτ101]; exact ⟨va_up_ne _ _ h, va_up_ne _ _ h⟩
  clear eτ101
  subst hqτ101
  rw [show τ.1 3 = τ101.1 3 from (haτ101 3 (by omega)).symm] at hl
  refine W.eq (g2 := F0 m 10 ls [.ref (τ101.1 4), .ref (τ101.1 3)]) (by rw [haτ101 3 (by omega)]) ?_
  have hB := zBI.born (i := 4) (a' := 5) (b' := 200) hB (by omega) (by omega) hkτ101 hnτ101 hbτ101 ef102 eg103 (by decide) (by decide) (by decide)
  have hAd : ∀ i, i ≤ 3 → τ101.1 i = τ.1 i := fun i h => by rw [haτ101 i (by omega)]
  have hV := hV.born ef102 (by omega)
  refine W.widen (k := 1) (n := 30) (by decide) (by decide) ?_
  refine zPutFR (D := D) (ci := 0) (ty := .array (.object "PostHouse$Thing")) (C := RX0) (T := TX0) (N := 2) hx hb hts hiX0 tyX0 tyX0_ok nmX0 hown hH hS ((hB.1 3 (by omega)).1.trans (by decide : zkt 3 = 16)) rfl 0 (by decide) rfl hw4 (fun _ h9 => h9) rfl hin rfl (by rw [((hB.1 4 (by omega)).1.trans (by decide : zkt 4 = 8))]; decide)  (by decide +kernel) rfl rfl dX0_init_10 (fun H locs hH hS => ?_)
  obtain ⟨g104, eg104⟩ : ∃ f9 : zFr, f9 = zur g103 3 0 (some 4) := ⟨_, rfl⟩
  rw [← eg104] at hH
  have hB := zBI.ref hB eg104 (by omega) (by omega) (by decide +kernel)
  refine W.widen (k := 1) (n := 30) (by decide) (by decide) ?_
  exact W.vret hx hb hr (fun t9 ht9 hW9 => ⟨⟨(τ101, f102, g104), rfl, (show zBI τ101 f102 g104 5 200 1 3 1 ∧ (∀ i, i ≤ 3 → τ101.1 i = τ.1 i) ∧ zIV fi f102 3 from ⟨hB, hAd, hV⟩), zEnd1 hH ht9 hW9⟩, hS.F ht9⟩) hS.2.2 dX0_init_13
set_option maxHeartbeats 4000000 in
set_option maxRecDepth 100000 in
/-- X1_init -/
theorem i_Com (l : Launch) (hl0 : l.stackTraces = false) (D : va_G) (A : Nat → Prop) (sad : Nat → Nat) (τ : zTy) (fi : zFi) (fr : zFr) (ol : Int64) (hB : zBI τ fi fr 6 200 2 5 0) : Met l yX1_init wsX1_init ({ frames := 1, cells := 3, slots := 180, locals := 12 }) (va_Pc [.ref (τ.1 5)] (zQc D A sad τ fi fr ol)) (va_Qv (fun (u : zTy × zFi × zFr) => zBI u.1 u.2.1 u.2.2 9 200 2 5 3 ∧ (∀ i, i ≤ 5 → u.1.1 i = τ.1 i) ∧ zIV fi u.2.1 5) (fun (u : zTy × zFi × zFr) (t : State) => zH D A u.1 u.2.1 u.2.2 ol t t.heap) A) 3 180 A := by
  refine Met.ofW (cc := cX1_init) (maxL := 1) (ret := none) (by decide) rfl ?_
  intro p9 e9 s m args below meth c9 s₁ B hml hv
  obtain ⟨rfl, hz, hH, hA⟩ := hv
  have hx := B.exec
  have hb := B.bytes
  have hr := B.returns
  have hts := atoms_spec (ws := wsX1_init) B.pre
  have hown : s.vm.findClass RX1 = some m.cls := findClass_of_methodNamed B.named
  have hlocks := B.notSynchronized
  have hin : meth.name = "<init>" := (name_of_methodNamed B.named B.method).1
  have hS : va_S A s.heap s.heap [] := va_S.rf
  have hl := lv_entry ([.ref (τ.1 5)]) (n := 1) (Nat.le_of_ble_eq_true rfl)
  rw [lg_entry_eq]
  generalize (lg_sl ([.ref (τ.1 5)]) ++ List.replicate (1 - (lg_sl ([.ref (τ.1 5)])).length) Slot.unset).toArray = ls at hl ⊢
  have hl : lv_has ls 1 [(0, .ref (τ.1 5))] := hl
  have hV : zIV fi fi 5 := fun _ _ _ => rfl
  have hw0 := hts (.methodLink RX1 3 objectInit) (by decide +kernel)
  have hw1 := hts (.instanceMethod objectInit) (by decide +kernel)
  have hw2 := hts (.code objectInit ⟨#[0xb1]⟩ 1 none) (by decide +kernel)
  have hw3 := hts (.classLink RX1 9 RX8) (by decide +kernel)
  have hw4 := hts (.fieldLink RX1 11 "PostHouse$Comings" "things" "[LPostHouse$Thing;") (by decide +kernel)
  have hiX1 : ∀ w ∈ u_ws RX1 TX1 4, w ∈ wsX1_init := fun _ h => List.mem_cons_of_mem _ (List.mem_append_right _ h)
  have hw6 := hts (.arrayClass .int) (by decide +kernel)
  have hw7 := hts (.fieldLink RX1 17 "PostHouse$Comings" "days" "[I") (by decide +kernel)
  have hw8 := hts (.fieldLink RX1 21 "PostHouse$Comings" "pieces" "[I") (by decide +kernel)
  refine lv_aload_n hx hb dX1_init_0 rfl (lv_at hl 0 rfl) ?_
  refine W.objInit hx hb hown hw0 hw1 hw2 rfl (by rw [hml]; exact hl.1) rfl dX1_init_1 (Nat.le_of_ble_eq_true rfl) (Nat.le_of_ble_eq_true rfl) ?_
  refine W.eq (g2 := F0 m 4 ls []) rfl ?_
  refine lv_aload_n hx hb dX1_init_4 rfl (lv_at hl 0 rfl) ?_
  refine lv_bipush (v := nI 60) hx hb dX1_init_5 (by decide) ?_
  refine zNewq (D := D) (C := RX8) (t := 8) (N' := 60) hx hb hown hw3 (hz.1.2.2.2.2.2.2.1 _ (List.mem_of_getElem? (i := 3) rfl)) rfl (by decide) (by decide) hH hS hA 6 (hB.2.1 6 (by omega)).1 (by decide) (by decide) (by decide) (Nat.le_of_ble_eq_true rfl) (Nat.le_of_ble_eq_true rfl) dX1_init_7 (fun q9 c9 H hH8 hS => ?_)
  obtain ⟨τ101, eτ101⟩ : ∃ t9 : zTy, t9 = (va_up τ.1 6 q9, va_up τ.2.1 6 c9, va_up τ.2.2.1 6 8, va_up τ.2.2.2 6 60) := ⟨_, rfl⟩
  obtain ⟨f102, ef102⟩ : ∃ f9 : zFi, f9 = va_up fi 6 (fun _ => 0) := ⟨_, rfl⟩
  obtain ⟨g103, eg103⟩ : ∃ f9 : zFr, f9 = va_up fr 6 (fun _ => none) := ⟨_, rfl⟩
  have hH : zH D A τ101 f102 g103 ol s H := by rw [eτ101, ef102, eg103]; exact hH8
  clear hH8
  have hqτ101 : τ101.1 6 = q9 := by rw [eτ101]; exact va_up_self τ.1 6 q9
  have haτ101 : ∀ i, i ≠ 6 → τ101.1 i = τ.1 i := fun i h => by rw [eτ101]; exact va_up_ne _ _ h
  have hkτ101 : τ101.2.2.1 6 = 8 := by rw [eτ101]; exact va_up_self τ.2.2.1 6 8
  have hnτ101 : τ101.2.2.2 6 = 60 := by rw [eτ101]; exact va_up_self τ.2.2.2 6 60
  have hbτ101 : ∀ i, i ≠ 6 → τ101.2.2.1 i = τ.2.2.1 i ∧ τ101.2.2.2 i = τ.2.2.2 i := fun i h => by rw [eτ101]; exact ⟨va_up_ne _ _ h, va_up_ne _ _ h⟩
  clear eτ101
  subst hqτ101
  rw [show τ.1 5 = τ101.1 5 from (haτ101 5 (by omega)).symm] at hl
  refine W.eq (g2 := F0 m 10 ls [.ref (τ101.1 6), .ref (τ101.1 5)]) (by rw [haτ101 5 (by omega)]) ?_
  have hB := zBI.born (i := 6) (a' := 7) (b' := 200) hB (by omega) (by omega) hkτ101 hnτ101 hbτ101 ef102 eg103 (by decide) (by decide) (by decide)
  have hAd : ∀ i, i ≤ 5 → τ101.1 i = τ.1 i := fun i h => by rw [haτ101 i (by omega)]
  have hV := hV.born ef102 (by omega)
  refine W.widen (k := 1) (n := 60) (by decide) (by decide) ?_
  refine zPutFR (D := D) (ci := 1) (ty := .array (.object "PostHouse$Thing")) (C := RX1) (T := TX1) (N := 4) hx hb hts hiX1 tyX1 tyX1_ok nmX1 hown hH hS ((hB.1 5 (by omega)).1.trans (by decide : zkt 5 = 17)) rfl 0 (by decide) rfl hw4 (fun _ h9 => h9) rfl hin rfl (by rw [((hB.1 6 (by omega)).1.trans (by decide : zkt 6 = 8))]; decide)  (by decide +kernel) rfl rfl dX1_init_10 (fun H locs hH hS => ?_)
  obtain ⟨g104, eg104⟩ : ∃ f9 : zFr, f9 = zur g103 5 0 (some 6) := ⟨_, rfl⟩
  rw [← eg104] at hH
  have hB := zBI.ref hB eg104 (by omega) (by omega) (by decide +kernel)
  refine lv_aload_n hx hb dX1_init_13 rfl (lv_at hl 0 rfl) ?_
  refine lv_bipush (v := nI 60) hx hb dX1_init_14 (by decide) ?_
  refine zNewa (D := D) (atype := .int) (t := 1) (N' := 60) hx hb hw6 rfl (by decide) (by decide) rfl hH hS hA 7 (hB.2.1 7 (by omega)).1 (by decide) (by decide) (by first | decide | (simp only [zT, componentBytes]; omega)) (Nat.le_of_ble_eq_true rfl) (Nat.le_of_ble_eq_true rfl) dX1_init_16 (fun q9 c9 H hH8 hS => ?_)
  obtain ⟨τ106, eτ106⟩ : ∃ t9 : zTy, t9 = (va_up τ101.1 7 q9, va_up τ101.2.1 7 c9, va_up τ101.2.2.1 7 1, va_up τ101.2.2.2 7 60) := ⟨_, rfl⟩
  obtain ⟨f107, ef107⟩ : ∃ f9 : zFi, f9 = va_up f102 7 (fun _ => 0) := ⟨_, rfl⟩
  obtain ⟨g108, eg108⟩ : ∃ f9 : zFr, f9 = va_up g104 7 (fun _ => none) := ⟨_, rfl⟩
  have hH : zH D A τ106 f107 g108 ol s H := by rw [eτ106, ef107, eg108]; exact hH8
  clear hH8
  have hqτ106 : τ106.1 7 = q9 := by rw [eτ106]; exact va_up_self τ101.1 7 q9
  have haτ106 : ∀ i, i ≠ 7 → τ106.1 i = τ101.1 i := fun i h => by rw [eτ106]; exact va_up_ne _ _ h
  have hkτ106 : τ106.2.2.1 7 = 1 := by rw [eτ106]; exact va_up_self τ101.2.2.1 7 1
  have hnτ106 : τ106.2.2.2 7 = 60 := by rw [eτ106]; exact va_up_self τ101.2.2.2 7 60
  have hbτ106 : ∀ i, i ≠ 7 → τ106.2.2.1 i = τ101.2.2.1 i ∧ τ106.2.2.2 i = τ101.2.2.2 i := fun i h => by rw [eτ106]; exact ⟨va_up_ne _ _ h, va_up_ne _ _ h⟩
  clear eτ106
  subst hqτ106
  rw [show τ101.1 5 = τ106.1 5 from (haτ106 5 (by omega)).symm] at hl
  refine W.eq (g2 := F0 m 18 ls [.ref (τ106.1 7), .ref (τ106.1 5)]) (by rw [haτ106 5 (by omega)]) ?_
  have hB := zBI.born (i := 7) (a' := 8) (b' := 200) hB (by omega) (by omega) hkτ106 hnτ106 hbτ106 ef107 eg108 (by decide) (by decide) (by decide)
  have hAd : ∀ i, i ≤ 5 → τ106.1 i = τ.1 i := fun i h => by rw [haτ106 i (by omega)]; exact hAd i h
  have hV := hV.born ef107 (by omega)
  refine W.widen (k := 2) (n := 120) (by decide) (by decide) ?_
  refine zPutFR (D := D) (ci := 1) (ty := .array .int) (C := RX1) (T := TX1) (N := 4) hx hb hts hiX1 tyX1 tyX1_ok nmX1 hown hH hS ((hB.1 5 (by omega)).1.trans (by decide : zkt 5 = 17)) rfl 1 (by decide) rfl hw7 (fun _ h9 => h9) rfl hin rfl (by rw [((hB.1 7 (by omega)).1.trans (by decide : zkt 7 = 1))]; decide)  (by decide +kernel) rfl rfl dX1_init_18 (fun H locs hH hS => ?_)
  obtain ⟨g109, eg109⟩ : ∃ f9 : zFr, f9 = zur g108 5 1 (some 7) := ⟨_, rfl⟩
  rw [← eg109] at hH
  have hB := zBI.ref hB eg109 (by omega) (by omega) (by decide +kernel)
  refine lv_aload_n hx hb dX1_init_21 rfl (lv_at hl 0 rfl) ?_
  refine lv_bipush (v := nI 60) hx hb dX1_init_22 (by decide) ?_
  refine zNewa (D := D) (atype := .int) (t := 1) (N' := 60) hx hb hw6 rfl (by decide) (by decide) rfl hH hS hA 8 (hB.2.1 8 (by omega)).1 (by decide) (by decide) (by first | decide | (simp only [zT, componentBytes]; omega)) (Nat.le_of_ble_eq_true rfl) (Nat.le_of_ble_eq_true rfl) dX1_init_24 (fun q9 c9 H hH8 hS => ?_)
  obtain ⟨τ111, eτ111⟩ : ∃ t9 : zTy, t9 = (va_up τ106.1 8 q9, va_up τ106.2.1 8 c9, va_up τ106.2.2.1 8 1, va_up τ106.2.2.2 8 60) := ⟨_, rfl⟩
  obtain ⟨f112, ef112⟩ : ∃ f9 : zFi, f9 = va_up f107 8 (fun _ => 0) := ⟨_, rfl⟩
  obtain ⟨g113, eg113⟩ : ∃ f9 : zFr, f9 = va_up g109 8 (fun _ => none) := ⟨_, rfl⟩
  have hH : zH D A τ111 f112 g113 ol s H := by rw [eτ111, ef112, eg113]; exact hH8
  clear hH8
  have hqτ111 : τ111.1 8 = q9 := by rw [eτ111]; exact va_up_self τ106.1 8 q9
  have haτ111 : ∀ i, i ≠ 8 → τ111.1 i = τ106.1 i := fun i h => by rw [eτ111]; exact va_up_ne _ _ h
  have hkτ111 : τ111.2.2.1 8 = 1 := by rw [eτ111]; exact va_up_self τ106.2.2.1 8 1
  have hnτ111 : τ111.2.2.2 8 = 60 := by rw [eτ111]; exact va_up_self τ106.2.2.2 8 60
  have hbτ111 : ∀ i, i ≠ 8 → τ111.2.2.1 i = τ106.2.2.1 i ∧ τ111.2.2.2 i = τ106.2.2.2 i := fun i h => by rw [eτ111]; exact ⟨va_up_ne _ _ h, va_up_ne _ _ h⟩
  clear eτ111
  subst hqτ111
  rw [show τ106.1 5 = τ111.1 5 from (haτ111 5 (by omega)).symm] at hl
  refine W.eq (g2 := F0 m 26 ls [.ref (τ111.1 8), .ref (τ111.1 5)]) (by rw [haτ111 5 (by omega)]) ?_
  have hB := zBI.born (i := 8) (a' := 9) (b' := 200) hB (by omega) (by omega) hkτ111 hnτ111 hbτ111 ef112 eg113 (by decide) (by decide) (by decide)
  have hAd : ∀ i, i ≤ 5 → τ111.1 i = τ.1 i := fun i h => by rw [haτ111 i (by omega)]; exact hAd i h
  have hV := hV.born ef112 (by omega)
  refine W.widen (k := 3) (n := 180) (by decide) (by decide) ?_
  refine zPutFR (D := D) (ci := 1) (ty := .array .int) (C := RX1) (T := TX1) (N := 4) hx hb hts hiX1 tyX1 tyX1_ok nmX1 hown hH hS ((hB.1 5 (by omega)).1.trans (by decide : zkt 5 = 17)) rfl 2 (by decide) rfl hw8 (fun _ h9 => h9) rfl hin rfl (by rw [((hB.1 8 (by omega)).1.trans (by decide : zkt 8 = 1))]; decide)  (by decide +kernel) rfl rfl dX1_init_26 (fun H locs hH hS => ?_)
  obtain ⟨g114, eg114⟩ : ∃ f9 : zFr, f9 = zur g113 5 2 (some 8) := ⟨_, rfl⟩
  rw [← eg114] at hH
  have hB := zBI.ref hB eg114 (by omega) (by omega) (by decide +kernel)
  refine W.widen (k := 3) (n := 180) (by decide) (by decide) ?_
  exact W.vret hx hb hr (fun t9 ht9 hW9 => ⟨⟨(τ111, f112, g114), rfl, (show zBI τ111 f112 g114 9 200 2 5 3 ∧ (∀ i, i ≤ 5 → τ111.1 i = τ.1 i) ∧ zIV fi f112 5 from ⟨hB, hAd, hV⟩), zEnd1 hH ht9 hW9⟩, hS.F ht9⟩) hS.2.2 dX1_init_29
set_option maxHeartbeats 4000000 in
set_option maxRecDepth 100000 in
/-- X5_init -/
theorem i_Rul1 (l : Launch) (hl0 : l.stackTraces = false) (D : va_G) (A : Nat → Prop) (sad : Nat → Nat) (τ : zTy) (fi : zFi) (fr : zFr) (ol : Int64) (hB : zBI τ fi fr 10 200 3 9 0) : Met l yX5_init wsX5_init ({ frames := 1, cells := 2, slots := 34, locals := 12 }) (va_Pc [.ref (τ.1 9)] (zQc D A sad τ fi fr ol)) (va_Qv (fun (u : zTy × zFi × zFr) => zBI u.1 u.2.1 u.2.2 12 200 3 9 2 ∧ (∀ i, i ≤ 9 → u.1.1 i = τ.1 i) ∧ zIV fi u.2.1 9 ∧ zRv u.2.1 10 11) (fun (u : zTy × zFi × zFr) (t : State) => zH D A u.1 u.2.1 u.2.2 ol t t.heap) A) 2 34 A := by
  refine Met.ofW (cc := cX5_init) (maxL := 2) (ret := none) (by decide) rfl ?_
  intro p9 e9 s m args below meth c9 s₁ B hml hv
  obtain ⟨rfl, hz, hH, hA⟩ := hv
  have hx := B.exec
  have hb := B.bytes
  have hr := B.returns
  have hts := atoms_spec (ws := wsX5_init) B.pre
  have hown : s.vm.findClass RX5 = some m.cls := findClass_of_methodNamed B.named
  have hlocks := B.notSynchronized
  have hin : meth.name = "<init>" := (name_of_methodNamed B.named B.method).1
  have hS : va_S A s.heap s.heap [] := va_S.rf
  have hl := lv_entry ([.ref (τ.1 9)]) (n := 2) (Nat.le_of_ble_eq_true rfl)
  rw [lg_entry_eq]
  generalize (lg_sl ([.ref (τ.1 9)]) ++ List.replicate (2 - (lg_sl ([.ref (τ.1 9)])).length) Slot.unset).toArray = ls at hl ⊢
  have hl : lv_has ls 2 [(0, .ref (τ.1 9))] := hl
  have hV : zIV fi fi 9 := fun _ _ _ => rfl
  have hw0 := hts (.methodLink RX5 3 objectInit) (by decide +kernel)
  have hw1 := hts (.instanceMethod objectInit) (by decide +kernel)
  have hw2 := hts (.code objectInit ⟨#[0xb1]⟩ 1 none) (by decide +kernel)
  have hw3 := hts (.arrayClass .int) (by decide +kernel)
  have hw4 := hts (.fieldLink RX5 9 "PostHouse$Rules" "numbers" "[I") (by decide +kernel)
  have hiX5 : ∀ w ∈ u_ws RX5 TX5 2, w ∈ wsX5_init := fun _ h => List.mem_cons_of_mem _ (List.mem_append_right _ h)
  have hw6 := hts (.fieldLink RX5 15 "PostHouse$Rules" "places" "[I") (by decide +kernel)
  refine lv_aload_n hx hb dX5_init_0 rfl (lv_at hl 0 rfl) ?_
  refine W.objInit hx hb hown hw0 hw1 hw2 rfl (by rw [hml]; exact hl.1) rfl dX5_init_1 (Nat.le_of_ble_eq_true rfl) (Nat.le_of_ble_eq_true rfl) ?_
  refine W.eq (g2 := F0 m 4 ls []) rfl ?_
  refine lv_aload_n hx hb dX5_init_4 rfl (lv_at hl 0 rfl) ?_
  refine lv_iconst (v := nI 4) hx hb dX5_init_5 (by decide) ?_
  refine zNewa (D := D) (atype := .int) (t := 1) (N' := 4) hx hb hw3 rfl (by decide) (by decide) rfl hH hS hA 10 (hB.2.1 10 (by omega)).1 (by decide) (by decide) (by first | decide | (simp only [zT, componentBytes]; omega)) (Nat.le_of_ble_eq_true rfl) (Nat.le_of_ble_eq_true rfl) dX5_init_6 (fun q9 c9 H hH8 hS => ?_)
  obtain ⟨τ101, eτ101⟩ : ∃ t9 : zTy, t9 = (va_up τ.1 10 q9, va_up τ.2.1 10 c9, va_up τ.2.2.1 10 1, va_up τ.2.2.2 10 4) := ⟨_, rfl⟩
  obtain ⟨f102, ef102⟩ : ∃ f9 : zFi, f9 = va_up fi 10 (fun _ => 0) := ⟨_, rfl⟩
  obtain ⟨g103, eg103⟩ : ∃ f9 : zFr, f9 = va_up fr 10 (fun _ => none) := ⟨_, rfl⟩
  have hH : zH D A τ101 f102 g103 ol s H := by rw [eτ101, ef102, eg103]; exact hH8
  clear hH8
  have hqτ101 : τ101.1 10 = q9 := by rw [eτ101]; exact va_up_self τ.1 10 q9
  have haτ101 : ∀ i, i ≠ 10 → τ101.1 i = τ.1 i := fun i h => by rw [eτ101]; exact va_up_ne _ _ h
  have hkτ101 : τ101.2.2.1 10 = 1 := by rw [eτ101]; exact va_up_self τ.2.2.1 10 1
  have hnτ101 : τ101.2.2.2 10 = 4 := by rw [eτ101]; exact va_up_self τ.2.2.2 10 4
  have hbτ101 : ∀ i, i ≠ 10 → τ101.2.2.1 i = τ.2.2.1 i ∧ τ101.2.2.2 i = τ.2.2.2 i := fun i h => by rw [eτ101]; exact ⟨va_up_ne _ _ h, va_up_ne _ _ h⟩
  clear eτ101
  subst hqτ101
  rw [show τ.1 9 = τ101.1 9 from (haτ101 9 (by omega)).symm] at hl
  refine W.eq (g2 := F0 m 8 ls [.ref (τ101.1 10), .ref (τ101.1 9)]) (by rw [haτ101 9 (by omega)]) ?_
  have hB := zBI.born (i := 10) (a' := 11) (b' := 200) hB (by omega) (by omega) hkτ101 hnτ101 hbτ101 ef102 eg103 (by decide) (by decide) (by decide)
  have hAd : ∀ i, i ≤ 9 → τ101.1 i = τ.1 i := fun i h => by rw [haτ101 i (by omega)]
  have hV := hV.born ef102 (by omega)
  refine W.widen (k := 1) (n := 4) (by decide) (by decide) ?_
  refine lv_dup hx hb dX5_init_8 rfl ?_
  refine lv_iconst (v := nI 0) hx hb dX5_init_9 (by decide) ?_
  refine lv_bipush (v := nI 10) hx hb dX5_init_10 (by decide) ?_
  refine zIastN (D := D) hx hb hH hS ((hB.1 10 (by omega)).1.trans (by decide : zkt 10 = 1)) ((hB.1 10 (by omega)).2.trans (by decide : zkn 10 = 4)) (by omega) (by omega) dX5_init_12 (fun H locs hH hS => ?_)
  obtain ⟨f104, ef104⟩ : ∃ f9 : zFi, f9 = zu f102 10 0 (nI 10) := ⟨_, rfl⟩
  rw [← ef104] at hH
  have q105 : f104 10 0 = nI 10 := by rw [ef104]; exact zu_s
  have hB := zBI.int hB ef104 (by unfold zXc; omega)
  have hV := hV.int ef104 (by omega)
  refine lv_dup hx hb dX5_init_13 rfl ?_
  refine lv_iconst (v := nI 1) hx hb dX5_init_14 (by decide) ?_
  refine lv_bipush (v := nI 50) hx hb dX5_init_15 (by decide) ?_
  refine zIastN (D := D) hx hb hH hS ((hB.1 10 (by omega)).1.trans (by decide : zkt 10 = 1)) ((hB.1 10 (by omega)).2.trans (by decide : zkn 10 = 4)) (by omega) (by omega) dX5_init_17 (fun H locs hH hS => ?_)
  obtain ⟨f106, ef106⟩ : ∃ f9 : zFi, f9 = zu f104 10 1 (nI 50) := ⟨_, rfl⟩
  rw [← ef106] at hH
  have q107 : f106 10 0 = nI 10 := by rw [ef106, zu_n (fun h9 => absurd h9.2 (by decide))]; exact q105
  have q108 : f106 10 1 = nI 50 := by rw [ef106]; exact zu_s
  have hB := zBI.int hB ef106 (by unfold zXc; omega)
  have hV := hV.int ef106 (by omega)
  refine lv_dup hx hb dX5_init_18 rfl ?_
  refine lv_iconst (v := nI 2) hx hb dX5_init_19 (by decide) ?_
  refine lv_sipush (v := nI 10000) hx hb dX5_init_20 (by decide) ?_
  refine zIastN (D := D) hx hb hH hS ((hB.1 10 (by omega)).1.trans (by decide : zkt 10 = 1)) ((hB.1 10 (by omega)).2.trans (by decide : zkn 10 = 4)) (by omega) (by omega) dX5_init_23 (fun H locs hH hS => ?_)
  obtain ⟨f109, ef109⟩ : ∃ f9 : zFi, f9 = zu f106 10 2 (nI 10000) := ⟨_, rfl⟩
  rw [← ef109] at hH
  have q110 : f109 10 0 = nI 10 := by rw [ef109, zu_n (fun h9 => absurd h9.2 (by decide))]; exact q107
  have q111 : f109 10 1 = nI 50 := by rw [ef109, zu_n (fun h9 => absurd h9.2 (by decide))]; exact q108
  have q112 : f109 10 2 = nI 10000 := by rw [ef109]; exact zu_s
  have hB := zBI.int hB ef109 (by unfold zXc; omega)
  have hV := hV.int ef109 (by omega)
  refine lv_dup hx hb dX5_init_24 rfl ?_
  refine lv_iconst (v := nI 3) hx hb dX5_init_25 (by decide) ?_
  refine lv_bipush (v := nI 14) hx hb dX5_init_26 (by decide) ?_
  refine zIastN (D := D) hx hb hH hS ((hB.1 10 (by omega)).1.trans (by decide : zkt 10 = 1)) ((hB.1 10 (by omega)).2.trans (by decide : zkn 10 = 4)) (by omega) (by omega) dX5_init_28 (fun H locs hH hS => ?_)
  obtain ⟨f113, ef113⟩ : ∃ f9 : zFi, f9 = zu f109 10 3 (nI 14) := ⟨_, rfl⟩
  rw [← ef113] at hH
  have q114 : f113 10 0 = nI 10 := by rw [ef113, zu_n (fun h9 => absurd h9.2 (by decide))]; exact q110
  have q115 : f113 10 1 = nI 50 := by rw [ef113, zu_n (fun h9 => absurd h9.2 (by decide))]; exact q111
  have q116 : f113 10 2 = nI 10000 := by rw [ef113, zu_n (fun h9 => absurd h9.2 (by decide))]; exact q112
  have q117 : f113 10 3 = nI 14 := by rw [ef113]; exact zu_s
  have hB := zBI.int hB ef113 (by unfold zXc; omega)
  have hV := hV.int ef113 (by omega)
  refine zPutFR (D := D) (ci := 5) (ty := .array .int) (C := RX5) (T := TX5) (N := 2) hx hb hts hiX5 tyX5 tyX5_ok nmX5 hown hH hS ((hB.1 9 (by omega)).1.trans (by decide : zkt 9 = 21)) rfl 0 (by decide) rfl hw4 (fun _ h9 => h9) rfl hin rfl (by rw [((hB.1 10 (by omega)).1.trans (by decide : zkt 10 = 1))]; decide)  (by decide +kernel) rfl rfl dX5_init_29 (fun H locs hH hS => ?_)
  obtain ⟨g118, eg118⟩ : ∃ f9 : zFr, f9 = zur g103 9 0 (some 10) := ⟨_, rfl⟩
  rw [← eg118] at hH
  have hB := zBI.ref hB eg118 (by omega) (by omega) (by decide +kernel)
  refine lv_aload_n hx hb dX5_init_32 rfl (lv_at hl 0 rfl) ?_
  refine lv_bipush (v := nI 30) hx hb dX5_init_33 (by decide) ?_
  refine zNewa (D := D) (atype := .int) (t := 1) (N' := 30) hx hb hw3 rfl (by decide) (by decide) rfl hH hS hA 11 (hB.2.1 11 (by omega)).1 (by decide) (by decide) (by first | decide | (simp only [zT, componentBytes]; omega)) (Nat.le_of_ble_eq_true rfl) (Nat.le_of_ble_eq_true rfl) dX5_init_35 (fun q9 c9 H hH8 hS => ?_)
  obtain ⟨τ120, eτ120⟩ : ∃ t9 : zTy, t9 = (va_up τ101.1 11 q9, va_up τ101.2.1 11 c9, va_up τ101.2.2.1 11 1, va_up τ101.2.2.2 11 30) := ⟨_, rfl⟩
  obtain ⟨f121, ef121⟩ : ∃ f9 : zFi, f9 = va_up f113 11 (fun _ => 0) := ⟨_, rfl⟩
  obtain ⟨g122, eg122⟩ : ∃ f9 : zFr, f9 = va_up g118 11 (fun _ => none) := ⟨_, rfl⟩
  have hH : zH D A τ120 f121 g122 ol s H := by rw [eτ120, ef121, eg122]; exact hH8
  clear hH8
  have hqτ120 : τ120.1 11 = q9 := by rw [eτ120]; exact va_up_self τ101.1 11 q9
  have haτ120 : ∀ i, i ≠ 11 → τ120.1 i = τ101.1 i := fun i h => by rw [eτ120]; exact va_up_ne _ _ h
  have hkτ120 : τ120.2.2.1 11 = 1 := by rw [eτ120]; exact va_up_self τ101.2.2.1 11 1
  have hnτ120 : τ120.2.2.2 11 = 30 := by rw [eτ120]; exact va_up_self τ101.2.2.2 11 30
  have hbτ120 : ∀ i, i ≠ 11 → τ120.2.2.1 i = τ101.2.2.1 i ∧ τ120.2.2.2 i = τ101.2.2.2 i := fun i h => by rw [eτ120]; exact ⟨va_up_ne _ _ h, va_up_ne _ _ h⟩
  clear eτ120
  subst hqτ120
  rw [show τ101.1 9 = τ120.1 9 from (haτ120 9 (by omega)).symm] at hl
  refine W.eq (g2 := F0 m 37 ls [.ref (τ120.1 11), .ref (τ120.1 9)]) (by rw [haτ120 9 (by omega)]) ?_
  have q123 : f121 10 0 = nI 10 := by rw [ef121, va_up_ne _ _ (by omega)]; exact q114
  have q124 : f121 10 1 = nI 50 := by rw [ef121, va_up_ne _ _ (by omega)]; exact q115
  have q125 : f121 10 2 = nI 10000 := by rw [ef121, va_up_ne _ _ (by omega)]; exact q116
  have q126 : f121 10 3 = nI 14 := by rw [ef121, va_up_ne _ _ (by omega)]; exact q117
  have hB := zBI.born (i := 11) (a' := 12) (b' := 200) hB (by omega) (by omega) hkτ120 hnτ120 hbτ120 ef121 eg122 (by decide) (by decide) (by decide)
  have hAd : ∀ i, i ≤ 9 → τ120.1 i = τ.1 i := fun i h => by rw [haτ120 i (by omega)]; exact hAd i h
  have hV := hV.born ef121 (by omega)
  refine W.widen (k := 2) (n := 34) (by decide) (by decide) ?_
  refine zPutFR (D := D) (ci := 5) (ty := .array .int) (C := RX5) (T := TX5) (N := 2) hx hb hts hiX5 tyX5 tyX5_ok nmX5 hown hH hS ((hB.1 9 (by omega)).1.trans (by decide : zkt 9 = 21)) rfl 1 (by decide) rfl hw6 (fun _ h9 => h9) rfl hin rfl (by rw [((hB.1 11 (by omega)).1.trans (by decide : zkt 11 = 1))]; decide)  (by decide +kernel) rfl rfl dX5_init_37 (fun H locs hH hS => ?_)
  obtain ⟨g127, eg127⟩ : ∃ f9 : zFr, f9 = zur g122 9 1 (some 11) := ⟨_, rfl⟩
  rw [← eg127] at hH
  have hB := zBI.ref hB eg127 (by omega) (by omega) (by decide +kernel)
  refine lv_iconst (v := nI 0) hx hb dX5_init_40 (by decide) ?_
  refine lv_istore_n (lv' := [(1, .int (nI 0)), (0, .ref (τ120.1 9))]) hx hb dX5_init_41 rfl hl (by decide) rfl (fun ls hl => ?_)
  refine zLp (σ := Nat × zFi) (fun x9 k9 H locs ls => (fun (i : Nat) (f : zFi) => k9 = 30 - i ∧ (i ≤ 30 ∧ zIV fi f 9 ∧ (f 10 0 = nI 10 ∧ f 10 1 = nI 50 ∧ f 10 2 = nI 10000 ∧ f 10 3 = nI 14) ∧ (∀ t, t < i → f 11 t = -1) ∧ ∀ a k, ¬ zXc a k → f a k = 0) ∧ zH D A τ120 f g127 ol s H ∧ va_S A s.heap H locs ∧ lv_has ls 2 [(0, .ref (τ120.1 9)), (1, .int (nI i))]) x9.1 x9.2) (0, f121) (30 - 0) (show 30 - 0 = 30 - 0 ∧ (0 ≤ 30 ∧ zIV fi f121 9 ∧ (f121 10 0 = nI 10 ∧ f121 10 1 = nI 50 ∧ f121 10 2 = nI 10000 ∧ f121 10 3 = nI 14) ∧ (∀ t, t < 0 → f121 11 t = -1) ∧ ∀ a k, ¬ zXc a k → f121 a k = 0) ∧ zH D A τ120 f121 g127 ol s _ ∧ va_S A s.heap _ _ ∧ lv_has _ 2 [(0, .ref (τ120.1 9)), (1, .int (nI 0))] from ⟨rfl, ⟨Nat.zero_le _, hV, ⟨q123, q124, q125, q126⟩, fun t h => absurd h (by omega), hB.2.2.2⟩, hH, hS, lv_sub hl [1, 0] rfl⟩) (fun k9 ih x9 H locs ls hv9 => ?_)
  obtain ⟨i, f⟩ := x9
  have hv9 : k9 = 30 - i ∧ (i ≤ 30 ∧ zIV fi f 9 ∧ (f 10 0 = nI 10 ∧ f 10 1 = nI 50 ∧ f 10 2 = nI 10000 ∧ f 10 3 = nI 14) ∧ (∀ t, t < i → f 11 t = -1) ∧ ∀ a k, ¬ zXc a k → f a k = 0) ∧ zH D A τ120 f g127 ol s H ∧ va_S A s.heap H locs ∧ lv_has ls 2 [(0, .ref (τ120.1 9)), (1, .int (nI i))] := hv9
  obtain ⟨hkih129, hv9, hH, hS, hl⟩ := hv9
  obtain ⟨h1, hV, ⟨k0, k1, k2, k3⟩, hOt, hz0⟩ := hv9
  have ih129 := ih
  clear ih
  have hB := zBI.mk0 hB hz0
  refine lv_iload_n hx hb dX5_init_42 rfl (lv_at hl 1 rfl) ?_
  refine lv_bipush (v := nI 30) hx hb dX5_init_43 (by decide) ?_
  refine lv_icmp_ge (tgt := 61) hx hb dX5_init_45 (by decide) (fun c130 => ?_) (fun c130 => ?_)
  · have zc130 := c130
    replace zc130 := zc_le (nI_toInt (by omega)) (nI_toInt (by omega)) zc130
    refine W.widen (k := 2) (n := 34) (by decide) (by decide) ?_
    exact W.vret hx hb hr (fun t9 ht9 hW9 => ⟨⟨(τ120, f, g127), rfl, (show zBI τ120 f g127 12 200 3 9 2 ∧ (∀ i, i ≤ 9 → τ120.1 i = τ.1 i) ∧ zIV fi f 9 ∧ zRv f 10 11 from ⟨hB, hAd, hV, ⟨⟨k0, k1, k2, k3⟩, fun t h => hOt t (by omega)⟩⟩), zEnd1 hH ht9 hW9⟩, hS.F ht9⟩) hS.2.2 dX5_init_61
  · have zc130 := c130
    replace zc130 := zc_nle (nI_toInt (by omega)) (nI_toInt (by omega)) zc130
    refine lv_aload_n hx hb dX5_init_48 rfl (lv_at hl 0 rfl) ?_
    refine zGetR (D := D) (ci := 5) (C := RX5) (T := TX5) (N := 2) hx hb hts hiX5 hown hH ((hB.1 9 (by omega)).1.trans (by decide : zkt 9 = 21)) rfl 1 (by decide) rfl hw6 (fun _ h9 => h9) dX5_init_49 (hB.2.2.1 (9, 1, 11) (by decide +kernel) (by decide)) ?_
    refine lv_iload_n hx hb dX5_init_52 rfl (lv_at hl 1 rfl) ?_
    refine lv_iconst (v := (-1)) hx hb dX5_init_53 (by decide) ?_
    refine zIastN (D := D) hx hb hH hS ((hB.1 11 (by omega)).1.trans (by decide : zkt 11 = 1)) ((hB.1 11 (by omega)).2.trans (by decide : zkn 11 = 30)) (by omega) (by omega) dX5_init_54 (fun H locs hH hS => ?_)
    obtain ⟨f131, ef131⟩ : ∃ f9 : zFi, f9 = zu f 11 i ((-1)) := ⟨_, rfl⟩
    rw [← ef131] at hH
    have q132 : f131 11 i = (-1) := by rw [ef131]; exact zu_s
    have hB := zBI.int hB ef131 (by unfold zXc; omega)
    have hV := hV.int ef131 (by omega)
    refine lv_iinc (v := nI (i + 1)) (lv' := [(1, .int (nI (i + 1))), (0, .ref (τ120.1 9))]) hx hb dX5_init_55 hl (k := 1) rfl (by rw [show (Int32.ofInt 1 : Int32) = nI 1 from by decide, nI_add]) (by decide) rfl (fun ls hl => ?_)
    refine lv_goto (tgt := 42) hx hb dX5_init_58 (by decide) ?_
    exact ih129 (30 - (i + 1)) (by omega) (i + 1, f131) _ _ _ (show 30 - (i + 1) = 30 - (i + 1) ∧ ((i + 1) ≤ 30 ∧ zIV fi f131 9 ∧ (f131 10 0 = nI 10 ∧ f131 10 1 = nI 50 ∧ f131 10 2 = nI 10000 ∧ f131 10 3 = nI 14) ∧ (∀ t, t < (i + 1) → f131 11 t = -1) ∧ ∀ a k, ¬ zXc a k → f131 a k = 0) ∧ zH D A τ120 f131 g127 ol s _ ∧ va_S A s.heap _ _ ∧ lv_has _ 2 [(0, .ref (τ120.1 9)), (1, .int (nI (i + 1)))] from ⟨rfl, ⟨by omega, hV, ⟨by rw [ef131, zu_n (by omega)]; exact k0, by rw [ef131, zu_n (by omega)]; exact k1, by rw [ef131, zu_n (by omega)]; exact k2, by rw [ef131, zu_n (by omega)]; exact k3⟩, fun t h => by by_cases h7 : t = i; (subst h7; rw [ef131, zu_s]); (rw [ef131, zu_n (by omega)]; exact hOt t (by omega)), hB.2.2.2⟩, hH, hS, lv_sub hl [1, 0] rfl⟩)
set_option maxHeartbeats 4000000 in
set_option maxRecDepth 100000 in
/-- X5_init -/
theorem i_Rul2 (l : Launch) (hl0 : l.stackTraces = false) (D : va_G) (A : Nat → Prop) (sad : Nat → Nat) (τ : zTy) (fi : zFi) (fr : zFr) (ol : Int64) (hB : zBI τ fi fr 13 200 4 12 0) : Met l yX5_init wsX5_init ({ frames := 1, cells := 2, slots := 34, locals := 12 }) (va_Pc [.ref (τ.1 12)] (zQc D A sad τ fi fr ol)) (va_Qv (fun (u : zTy × zFi × zFr) => zBI u.1 u.2.1 u.2.2 15 200 4 12 2 ∧ (∀ i, i ≤ 12 → u.1.1 i = τ.1 i) ∧ zIV fi u.2.1 12 ∧ zRv u.2.1 13 14) (fun (u : zTy × zFi × zFr) (t : State) => zH D A u.1 u.2.1 u.2.2 ol t t.heap) A) 2 34 A := by
  refine Met.ofW (cc := cX5_init) (maxL := 2) (ret := none) (by decide) rfl ?_
  intro p9 e9 s m args below meth c9 s₁ B hml hv
  obtain ⟨rfl, hz, hH, hA⟩ := hv
  have hx := B.exec
  have hb := B.bytes
  have hr := B.returns
  have hts := atoms_spec (ws := wsX5_init) B.pre
  have hown : s.vm.findClass RX5 = some m.cls := findClass_of_methodNamed B.named
  have hlocks := B.notSynchronized
  have hin : meth.name = "<init>" := (name_of_methodNamed B.named B.method).1
  have hS : va_S A s.heap s.heap [] := va_S.rf
  have hl := lv_entry ([.ref (τ.1 12)]) (n := 2) (Nat.le_of_ble_eq_true rfl)
  rw [lg_entry_eq]
  generalize (lg_sl ([.ref (τ.1 12)]) ++ List.replicate (2 - (lg_sl ([.ref (τ.1 12)])).length) Slot.unset).toArray = ls at hl ⊢
  have hl : lv_has ls 2 [(0, .ref (τ.1 12))] := hl
  have hV : zIV fi fi 12 := fun _ _ _ => rfl
  have hw0 := hts (.methodLink RX5 3 objectInit) (by decide +kernel)
  have hw1 := hts (.instanceMethod objectInit) (by decide +kernel)
  have hw2 := hts (.code objectInit ⟨#[0xb1]⟩ 1 none) (by decide +kernel)
  have hw3 := hts (.arrayClass .int) (by decide +kernel)
  have hw4 := hts (.fieldLink RX5 9 "PostHouse$Rules" "numbers" "[I") (by decide +kernel)
  have hiX5 : ∀ w ∈ u_ws RX5 TX5 2, w ∈ wsX5_init := fun _ h => List.mem_cons_of_mem _ (List.mem_append_right _ h)
  have hw6 := hts (.fieldLink RX5 15 "PostHouse$Rules" "places" "[I") (by decide +kernel)
  refine lv_aload_n hx hb dX5_init_0 rfl (lv_at hl 0 rfl) ?_
  refine W.objInit hx hb hown hw0 hw1 hw2 rfl (by rw [hml]; exact hl.1) rfl dX5_init_1 (Nat.le_of_ble_eq_true rfl) (Nat.le_of_ble_eq_true rfl) ?_
  refine W.eq (g2 := F0 m 4 ls []) rfl ?_
  refine lv_aload_n hx hb dX5_init_4 rfl (lv_at hl 0 rfl) ?_
  refine lv_iconst (v := nI 4) hx hb dX5_init_5 (by decide) ?_
  refine zNewa (D := D) (atype := .int) (t := 1) (N' := 4) hx hb hw3 rfl (by decide) (by decide) rfl hH hS hA 13 (hB.2.1 13 (by omega)).1 (by decide) (by decide) (by first | decide | (simp only [zT, componentBytes]; omega)) (Nat.le_of_ble_eq_true rfl) (Nat.le_of_ble_eq_true rfl) dX5_init_6 (fun q9 c9 H hH8 hS => ?_)
  obtain ⟨τ101, eτ101⟩ : ∃ t9 : zTy, t9 = (va_up τ.1 13 q9, va_up τ.2.1 13 c9, va_up τ.2.2.1 13 1, va_up τ.2.2.2 13 4) := ⟨_, rfl⟩
  obtain ⟨f102, ef102⟩ : ∃ f9 : zFi, f9 = va_up fi 13 (fun _ => 0) := ⟨_, rfl⟩
  obtain ⟨g103, eg103⟩ : ∃ f9 : zFr, f9 = va_up fr 13 (fun _ => none) := ⟨_, rfl⟩
  have hH : zH D A τ101 f102 g103 ol s H := by rw [eτ101, ef102, eg103]; exact hH8
  clear hH8
  have hqτ101 : τ101.1 13 = q9 := by rw [eτ101]; exact va_up_self τ.1 13 q9
  have haτ101 : ∀ i, i ≠ 13 → τ101.1 i = τ.1 i := fun i h => by rw [eτ101]; exact va_up_ne _ _ h
  have hkτ101 : τ101.2.2.1 13 = 1 := by rw [eτ101]; exact va_up_self τ.2.2.1 13 1
  have hnτ101 : τ101.2.2.2 13 = 4 := by rw [eτ101]; exact va_up_self τ.2.2.2 13 4
  have hbτ101 : ∀ i, i ≠ 13 → τ101.2.2.1 i = τ.2.2.1 i ∧ τ101.2.2.2 i = τ.2.2.2 i := fun i h => by rw [eτ101]; exact ⟨va_up_ne _ _ h, va_up_ne _ _ h⟩
  clear eτ101
  subst hqτ101
  rw [show τ.1 12 = τ101.1 12 from (haτ101 12 (by omega)).symm] at hl
  refine W.eq (g2 := F0 m 8 ls [.ref (τ101.1 13), .ref (τ101.1 12)]) (by rw [haτ101 12 (by omega)]) ?_
  have hB := zBI.born (i := 13) (a' := 14) (b' := 200) hB (by omega) (by omega) hkτ101 hnτ101 hbτ101 ef102 eg103 (by decide) (by decide) (by decide)
  have hAd : ∀ i, i ≤ 12 → τ101.1 i = τ.1 i := fun i h => by rw [haτ101 i (by omega)]
  have hV := hV.born ef102 (by omega)
  refine W.widen (k := 1) (n := 4) (by decide) (by decide) ?_
  refine lv_dup hx hb dX5_init_8 rfl ?_
  refine lv_iconst (v := nI 0) hx hb dX5_init_9 (by decide) ?_
  refine lv_bipush (v := nI 10) hx hb dX5_init_10 (by decide) ?_
  refine zIastN (D := D) hx hb hH hS ((hB.1 13 (by omega)).1.trans (by decide : zkt 13 = 1)) ((hB.1 13 (by omega)).2.trans (by decide : zkn 13 = 4)) (by omega) (by omega) dX5_init_12 (fun H locs hH hS => ?_)
  obtain ⟨f104, ef104⟩ : ∃ f9 : zFi, f9 = zu f102 13 0 (nI 10) := ⟨_, rfl⟩
  rw [← ef104] at hH
  have q105 : f104 13 0 = nI 10 := by rw [ef104]; exact zu_s
  have hB := zBI.int hB ef104 (by unfold zXc; omega)
  have hV := hV.int ef104 (by omega)
  refine lv_dup hx hb dX5_init_13 rfl ?_
  refine lv_iconst (v := nI 1) hx hb dX5_init_14 (by decide) ?_
  refine lv_bipush (v := nI 50) hx hb dX5_init_15 (by decide) ?_
  refine zIastN (D := D) hx hb hH hS ((hB.1 13 (by omega)).1.trans (by decide : zkt 13 = 1)) ((hB.1 13 (by omega)).2.trans (by decide : zkn 13 = 4)) (by omega) (by omega) dX5_init_17 (fun H locs hH hS => ?_)
  obtain ⟨f106, ef106⟩ : ∃ f9 : zFi, f9 = zu f104 13 1 (nI 50) := ⟨_, rfl⟩
  rw [← ef106] at hH
  have q107 : f106 13 0 = nI 10 := by rw [ef106, zu_n (fun h9 => absurd h9.2 (by decide))]; exact q105
  have q108 : f106 13 1 = nI 50 := by rw [ef106]; exact zu_s
  have hB := zBI.int hB ef106 (by unfold zXc; omega)
  have hV := hV.int ef106 (by omega)
  refine lv_dup hx hb dX5_init_18 rfl ?_
  refine lv_iconst (v := nI 2) hx hb dX5_init_19 (by decide) ?_
  refine lv_sipush (v := nI 10000) hx hb dX5_init_20 (by decide) ?_
  refine zIastN (D := D) hx hb hH hS ((hB.1 13 (by omega)).1.trans (by decide : zkt 13 = 1)) ((hB.1 13 (by omega)).2.trans (by decide : zkn 13 = 4)) (by omega) (by omega) dX5_init_23 (fun H locs hH hS => ?_)
  obtain ⟨f109, ef109⟩ : ∃ f9 : zFi, f9 = zu f106 13 2 (nI 10000) := ⟨_, rfl⟩
  rw [← ef109] at hH
  have q110 : f109 13 0 = nI 10 := by rw [ef109, zu_n (fun h9 => absurd h9.2 (by decide))]; exact q107
  have q111 : f109 13 1 = nI 50 := by rw [ef109, zu_n (fun h9 => absurd h9.2 (by decide))]; exact q108
  have q112 : f109 13 2 = nI 10000 := by rw [ef109]; exact zu_s
  have hB := zBI.int hB ef109 (by unfold zXc; omega)
  have hV := hV.int ef109 (by omega)
  refine lv_dup hx hb dX5_init_24 rfl ?_
  refine lv_iconst (v := nI 3) hx hb dX5_init_25 (by decide) ?_
  refine lv_bipush (v := nI 14) hx hb dX5_init_26 (by decide) ?_
  refine zIastN (D := D) hx hb hH hS ((hB.1 13 (by omega)).1.trans (by decide : zkt 13 = 1)) ((hB.1 13 (by omega)).2.trans (by decide : zkn 13 = 4)) (by omega) (by omega) dX5_init_28 (fun H locs hH hS => ?_)
  obtain ⟨f113, ef113⟩ : ∃ f9 : zFi, f9 = zu f109 13 3 (nI 14) := ⟨_, rfl⟩
  rw [← ef113] at hH
  have q114 : f113 13 0 = nI 10 := by rw [ef113, zu_n (fun h9 => absurd h9.2 (by decide))]; exact q110
  have q115 : f113 13 1 = nI 50 := by rw [ef113, zu_n (fun h9 => absurd h9.2 (by decide))]; exact q111
  have q116 : f113 13 2 = nI 10000 := by rw [ef113, zu_n (fun h9 => absurd h9.2 (by decide))]; exact q112
  have q117 : f113 13 3 = nI 14 := by rw [ef113]; exact zu_s
  have hB := zBI.int hB ef113 (by unfold zXc; omega)
  have hV := hV.int ef113 (by omega)
  refine zPutFR (D := D) (ci := 5) (ty := .array .int) (C := RX5) (T := TX5) (N := 2) hx hb hts hiX5 tyX5 tyX5_ok nmX5 hown hH hS ((hB.1 12 (by omega)).1.trans (by decide : zkt 12 = 21)) rfl 0 (by decide) rfl hw4 (fun _ h9 => h9) rfl hin rfl (by rw [((hB.1 13 (by omega)).1.trans (by decide : zkt 13 = 1))]; decide)  (by decide +kernel) rfl rfl dX5_init_29 (fun H locs hH hS => ?_)
  obtain ⟨g118, eg118⟩ : ∃ f9 : zFr, f9 = zur g103 12 0 (some 13) := ⟨_, rfl⟩
  rw [← eg118] at hH
  have hB := zBI.ref hB eg118 (by omega) (by omega) (by decide +kernel)
  refine lv_aload_n hx hb dX5_init_32 rfl (lv_at hl 0 rfl) ?_
  refine lv_bipush (v := nI 30) hx hb dX5_init_33 (by decide) ?_
  refine zNewa (D := D) (atype := .int) (t := 1) (N' := 30) hx hb hw3 rfl (by decide) (by decide) rfl hH hS hA 14 (hB.2.1 14 (by omega)).1 (by decide) (by decide) (by first | decide | (simp only [zT, componentBytes]; omega)) (Nat.le_of_ble_eq_true rfl) (Nat.le_of_ble_eq_true rfl) dX5_init_35 (fun q9 c9 H hH8 hS => ?_)
  obtain ⟨τ120, eτ120⟩ : ∃ t9 : zTy, t9 = (va_up τ101.1 14 q9, va_up τ101.2.1 14 c9, va_up τ101.2.2.1 14 1, va_up τ101.2.2.2 14 30) := ⟨_, rfl⟩
  obtain ⟨f121, ef121⟩ : ∃ f9 : zFi, f9 = va_up f113 14 (fun _ => 0) := ⟨_, rfl⟩
  obtain ⟨g122, eg122⟩ : ∃ f9 : zFr, f9 = va_up g118 14 (fun _ => none) := ⟨_, rfl⟩
  have hH : zH D A τ120 f121 g122 ol s H := by rw [eτ120, ef121, eg122]; exact hH8
  clear hH8
  have hqτ120 : τ120.1 14 = q9 := by rw [eτ120]; exact va_up_self τ101.1 14 q9
  have haτ120 : ∀ i, i ≠ 14 → τ120.1 i = τ101.1 i := fun i h => by rw [eτ120]; exact va_up_ne _ _ h
  have hkτ120 : τ120.2.2.1 14 = 1 := by rw [eτ120]; exact va_up_self τ101.2.2.1 14 1
  have hnτ120 : τ120.2.2.2 14 = 30 := by rw [eτ120]; exact va_up_self τ101.2.2.2 14 30
  have hbτ120 : ∀ i, i ≠ 14 → τ120.2.2.1 i = τ101.2.2.1 i ∧ τ120.2.2.2 i = τ101.2.2.2 i := fun i h => by rw [eτ120]; exact ⟨va_up_ne _ _ h, va_up_ne _ _ h⟩
  clear eτ120
  subst hqτ120
  rw [show τ101.1 12 = τ120.1 12 from (haτ120 12 (by omega)).symm] at hl
  refine W.eq (g2 := F0 m 37 ls [.ref (τ120.1 14), .ref (τ120.1 12)]) (by rw [haτ120 12 (by omega)]) ?_
  have q123 : f121 13 0 = nI 10 := by rw [ef121, va_up_ne _ _ (by omega)]; exact q114
  have q124 : f121 13 1 = nI 50 := by rw [ef121, va_up_ne _ _ (by omega)]; exact q115
  have q125 : f121 13 2 = nI 10000 := by rw [ef121, va_up_ne _ _ (by omega)]; exact q116
  have q126 : f121 13 3 = nI 14 := by rw [ef121, va_up_ne _ _ (by omega)]; exact q117
  have hB := zBI.born (i := 14) (a' := 15) (b' := 200) hB (by omega) (by omega) hkτ120 hnτ120 hbτ120 ef121 eg122 (by decide) (by decide) (by decide)
  have hAd : ∀ i, i ≤ 12 → τ120.1 i = τ.1 i := fun i h => by rw [haτ120 i (by omega)]; exact hAd i h
  have hV := hV.born ef121 (by omega)
  refine W.widen (k := 2) (n := 34) (by decide) (by decide) ?_
  refine zPutFR (D := D) (ci := 5) (ty := .array .int) (C := RX5) (T := TX5) (N := 2) hx hb hts hiX5 tyX5 tyX5_ok nmX5 hown hH hS ((hB.1 12 (by omega)).1.trans (by decide : zkt 12 = 21)) rfl 1 (by decide) rfl hw6 (fun _ h9 => h9) rfl hin rfl (by rw [((hB.1 14 (by omega)).1.trans (by decide : zkt 14 = 1))]; decide)  (by decide +kernel) rfl rfl dX5_init_37 (fun H locs hH hS => ?_)
  obtain ⟨g127, eg127⟩ : ∃ f9 : zFr, f9 = zur g122 12 1 (some 14) := ⟨_, rfl⟩
  rw [← eg127] at hH
  have hB := zBI.ref hB eg127 (by omega) (by omega) (by decide +kernel)
  refine lv_iconst (v := nI 0) hx hb dX5_init_40 (by decide) ?_
  refine lv_istore_n (lv' := [(1, .int (nI 0)), (0, .ref (τ120.1 12))]) hx hb dX5_init_41 rfl hl (by decide) rfl (fun ls hl => ?_)
  refine zLp (σ := Nat × zFi) (fun x9 k9 H locs ls => (fun (i : Nat) (f : zFi) => k9 = 30 - i ∧ (i ≤ 30 ∧ zIV fi f 12 ∧ (f 13 0 = nI 10 ∧ f 13 1 = nI 50 ∧ f 13 2 = nI 10000 ∧ f 13 3 = nI 14) ∧ (∀ t, t < i → f 14 t = -1) ∧ ∀ a k, ¬ zXc a k → f a k = 0) ∧ zH D A τ120 f g127 ol s H ∧ va_S A s.heap H locs ∧ lv_has ls 2 [(0, .ref (τ120.1 12)), (1, .int (nI i))]) x9.1 x9.2) (0, f121) (30 - 0) (show 30 - 0 = 30 - 0 ∧ (0 ≤ 30 ∧ zIV fi f121 12 ∧ (f121 13 0 = nI 10 ∧ f121 13 1 = nI 50 ∧ f121 13 2 = nI 10000 ∧ f121 13 3 = nI 14) ∧ (∀ t, t < 0 → f121 14 t = -1) ∧ ∀ a k, ¬ zXc a k → f121 a k = 0) ∧ zH D A τ120 f121 g127 ol s _ ∧ va_S A s.heap _ _ ∧ lv_has _ 2 [(0, .ref (τ120.1 12)), (1, .int (nI 0))] from ⟨rfl, ⟨Nat.zero_le _, hV, ⟨q123, q124, q125, q126⟩, fun t h => absurd h (by omega), hB.2.2.2⟩, hH, hS, lv_sub hl [1, 0] rfl⟩) (fun k9 ih x9 H locs ls hv9 => ?_)
  obtain ⟨i, f⟩ := x9
  have hv9 : k9 = 30 - i ∧ (i ≤ 30 ∧ zIV fi f 12 ∧ (f 13 0 = nI 10 ∧ f 13 1 = nI 50 ∧ f 13 2 = nI 10000 ∧ f 13 3 = nI 14) ∧ (∀ t, t < i → f 14 t = -1) ∧ ∀ a k, ¬ zXc a k → f a k = 0) ∧ zH D A τ120 f g127 ol s H ∧ va_S A s.heap H locs ∧ lv_has ls 2 [(0, .ref (τ120.1 12)), (1, .int (nI i))] := hv9
  obtain ⟨hkih129, hv9, hH, hS, hl⟩ := hv9
  obtain ⟨h1, hV, ⟨k0, k1, k2, k3⟩, hOt, hz0⟩ := hv9
  have ih129 := ih
  clear ih
  have hB := zBI.mk0 hB hz0
  refine lv_iload_n hx hb dX5_init_42 rfl (lv_at hl 1 rfl) ?_
  refine lv_bipush (v := nI 30) hx hb dX5_init_43 (by decide) ?_
  refine lv_icmp_ge (tgt := 61) hx hb dX5_init_45 (by decide) (fun c130 => ?_) (fun c130 => ?_)
  · have zc130 := c130
    replace zc130 := zc_le (nI_toInt (by omega)) (nI_toInt (by omega)) zc130
    refine W.widen (k := 2) (n := 34) (by decide) (by decide) ?_
    exact W.vret hx hb hr (fun t9 ht9 hW9 => ⟨⟨(τ120, f, g127), rfl, (show zBI τ120 f g127 15 200 4 12 2 ∧ (∀ i, i ≤ 12 → τ120.1 i = τ.1 i) ∧ zIV fi f 12 ∧ zRv f 13 14 from ⟨hB, hAd, hV, ⟨⟨k0, k1, k2, k3⟩, fun t h => hOt t (by omega)⟩⟩), zEnd1 hH ht9 hW9⟩, hS.F ht9⟩) hS.2.2 dX5_init_61
  · have zc130 := c130
    replace zc130 := zc_nle (nI_toInt (by omega)) (nI_toInt (by omega)) zc130
    refine lv_aload_n hx hb dX5_init_48 rfl (lv_at hl 0 rfl) ?_
    refine zGetR (D := D) (ci := 5) (C := RX5) (T := TX5) (N := 2) hx hb hts hiX5 hown hH ((hB.1 12 (by omega)).1.trans (by decide : zkt 12 = 21)) rfl 1 (by decide) rfl hw6 (fun _ h9 => h9) dX5_init_49 (hB.2.2.1 (12, 1, 14) (by decide +kernel) (by decide)) ?_
    refine lv_iload_n hx hb dX5_init_52 rfl (lv_at hl 1 rfl) ?_
    refine lv_iconst (v := (-1)) hx hb dX5_init_53 (by decide) ?_
    refine zIastN (D := D) hx hb hH hS ((hB.1 14 (by omega)).1.trans (by decide : zkt 14 = 1)) ((hB.1 14 (by omega)).2.trans (by decide : zkn 14 = 30)) (by omega) (by omega) dX5_init_54 (fun H locs hH hS => ?_)
    obtain ⟨f131, ef131⟩ : ∃ f9 : zFi, f9 = zu f 14 i ((-1)) := ⟨_, rfl⟩
    rw [← ef131] at hH
    have q132 : f131 14 i = (-1) := by rw [ef131]; exact zu_s
    have hB := zBI.int hB ef131 (by unfold zXc; omega)
    have hV := hV.int ef131 (by omega)
    refine lv_iinc (v := nI (i + 1)) (lv' := [(1, .int (nI (i + 1))), (0, .ref (τ120.1 12))]) hx hb dX5_init_55 hl (k := 1) rfl (by rw [show (Int32.ofInt 1 : Int32) = nI 1 from by decide, nI_add]) (by decide) rfl (fun ls hl => ?_)
    refine lv_goto (tgt := 42) hx hb dX5_init_58 (by decide) ?_
    exact ih129 (30 - (i + 1)) (by omega) (i + 1, f131) _ _ _ (show 30 - (i + 1) = 30 - (i + 1) ∧ ((i + 1) ≤ 30 ∧ zIV fi f131 12 ∧ (f131 13 0 = nI 10 ∧ f131 13 1 = nI 50 ∧ f131 13 2 = nI 10000 ∧ f131 13 3 = nI 14) ∧ (∀ t, t < (i + 1) → f131 14 t = -1) ∧ ∀ a k, ¬ zXc a k → f131 a k = 0) ∧ zH D A τ120 f131 g127 ol s _ ∧ va_S A s.heap _ _ ∧ lv_has _ 2 [(0, .ref (τ120.1 12)), (1, .int (nI (i + 1)))] from ⟨rfl, ⟨by omega, hV, ⟨by rw [ef131, zu_n (by omega)]; exact k0, by rw [ef131, zu_n (by omega)]; exact k1, by rw [ef131, zu_n (by omega)]; exact k2, by rw [ef131, zu_n (by omega)]; exact k3⟩, fun t h => by by_cases h7 : t = i; (subst h7; rw [ef131, zu_s]); (rw [ef131, zu_n (by omega)]; exact hOt t (by omega)), hB.2.2.2⟩, hH, hS, lv_sub hl [1, 0] rfl⟩)
set_option maxHeartbeats 4000000 in
set_option maxRecDepth 100000 in
/-- X4_init -/
theorem i_Pack (l : Launch) (hl0 : l.stackTraces = false) (D : va_G) (A : Nat → Prop) (sad : Nat → Nat) (τ : zTy) (fi : zFi) (fr : zFr) (ol : Int64) (hB : zBI τ fi fr 19 200 8 18 0) : Met l yX4_init wsX4_init ({ frames := 1, cells := 3, slots := 824, locals := 12 }) (va_Pc [.ref (τ.1 18)] (zQc D A sad τ fi fr ol)) (va_Qv (fun (u : zTy × zFi × zFr) => zBI u.1 u.2.1 u.2.2 22 200 8 18 3 ∧ (∀ i, i ≤ 18 → u.1.1 i = τ.1 i) ∧ zIV fi u.2.1 18) (fun (u : zTy × zFi × zFr) (t : State) => zH D A u.1 u.2.1 u.2.2 ol t t.heap) A) 3 824 A := by
  refine Met.ofW (cc := cX4_init) (maxL := 1) (ret := none) (by decide) rfl ?_
  intro p9 e9 s m args below meth c9 s₁ B hml hv
  obtain ⟨rfl, hz, hH, hA⟩ := hv
  have hx := B.exec
  have hb := B.bytes
  have hr := B.returns
  have hts := atoms_spec (ws := wsX4_init) B.pre
  have hown : s.vm.findClass RX4 = some m.cls := findClass_of_methodNamed B.named
  have hlocks := B.notSynchronized
  have hin : meth.name = "<init>" := (name_of_methodNamed B.named B.method).1
  have hS : va_S A s.heap s.heap [] := va_S.rf
  have hl := lv_entry ([.ref (τ.1 18)]) (n := 1) (Nat.le_of_ble_eq_true rfl)
  rw [lg_entry_eq]
  generalize (lg_sl ([.ref (τ.1 18)]) ++ List.replicate (1 - (lg_sl ([.ref (τ.1 18)])).length) Slot.unset).toArray = ls at hl ⊢
  have hl : lv_has ls 1 [(0, .ref (τ.1 18))] := hl
  have hV : zIV fi fi 18 := fun _ _ _ => rfl
  have hw0 := hts (.methodLink RX4 3 objectInit) (by decide +kernel)
  have hw1 := hts (.instanceMethod objectInit) (by decide +kernel)
  have hw2 := hts (.code objectInit ⟨#[0xb1]⟩ 1 none) (by decide +kernel)
  have hw3 := hts (.arrayClass .int) (by decide +kernel)
  have hw4 := hts (.fieldLink RX4 11 "PostHouse$Packing" "weights" "[I") (by decide +kernel)
  have hiX4 : ∀ w ∈ u_ws RX4 TX4 5, w ∈ wsX4_init := fun _ h => List.mem_cons_of_mem _ (List.mem_append_right _ h)
  have hw6 := hts (.fieldLink RX4 15 "PostHouse$Packing" "counts" "[I") (by decide +kernel)
  have hw7 := hts (.fieldLink RX4 18 "PostHouse$Packing" "loads" "[I") (by decide +kernel)
  refine lv_aload_n hx hb dX4_init_0 rfl (lv_at hl 0 rfl) ?_
  refine W.objInit hx hb hown hw0 hw1 hw2 rfl (by rw [hml]; exact hl.1) rfl dX4_init_1 (Nat.le_of_ble_eq_true rfl) (Nat.le_of_ble_eq_true rfl) ?_
  refine W.eq (g2 := F0 m 4 ls []) rfl ?_
  refine lv_aload_n hx hb dX4_init_4 rfl (lv_at hl 0 rfl) ?_
  refine lv_bipush (v := nI 16) hx hb dX4_init_5 (by decide) ?_
  refine zNewa (D := D) (atype := .int) (t := 1) (N' := 16) hx hb hw3 rfl (by decide) (by decide) rfl hH hS hA 19 (hB.2.1 19 (by omega)).1 (by decide) (by decide) (by first | decide | (simp only [zT, componentBytes]; omega)) (Nat.le_of_ble_eq_true rfl) (Nat.le_of_ble_eq_true rfl) dX4_init_7 (fun q9 c9 H hH8 hS => ?_)
  obtain ⟨τ101, eτ101⟩ : ∃ t9 : zTy, t9 = (va_up τ.1 19 q9, va_up τ.2.1 19 c9, va_up τ.2.2.1 19 1, va_up τ.2.2.2 19 16) := ⟨_, rfl⟩
  obtain ⟨f102, ef102⟩ : ∃ f9 : zFi, f9 = va_up fi 19 (fun _ => 0) := ⟨_, rfl⟩
  obtain ⟨g103, eg103⟩ : ∃ f9 : zFr, f9 = va_up fr 19 (fun _ => none) := ⟨_, rfl⟩
  have hH : zH D A τ101 f102 g103 ol s H := by rw [eτ101, ef102, eg103]; exact hH8
  clear hH8
  have hqτ101 : τ101.1 19 = q9 := by rw [eτ101]; exact va_up_self τ.1 19 q9
  have haτ101 : ∀ i, i ≠ 19 → τ101.1 i = τ.1 i := fun i h => by rw [eτ101]; exact va_up_ne _ _ h
  have hkτ101 : τ101.2.2.1 19 = 1 := by rw [eτ101]; exact va_up_self τ.2.2.1 19 1
  have hnτ101 : τ101.2.2.2 19 = 16 := by rw [eτ101]; exact va_up_self τ.2.2.2 19 16
  have hbτ101 : ∀ i, i ≠ 19 → τ101.2.2.1 i = τ.2.2.1 i ∧ τ101.2.2.2 i = τ.2.2.2 i := fun i h => by rw [eτ101]; exact ⟨va_up_ne _ _ h, va_up_ne _ _ h⟩
  clear eτ101
  subst hqτ101
  rw [show τ.1 18 = τ101.1 18 from (haτ101 18 (by omega)).symm] at hl
  refine W.eq (g2 := F0 m 9 ls [.ref (τ101.1 19), .ref (τ101.1 18)]) (by rw [haτ101 18 (by omega)]) ?_
  have hB := zBI.born (i := 19) (a' := 20) (b' := 200) hB (by omega) (by omega) hkτ101 hnτ101 hbτ101 ef102 eg103 (by decide) (by decide) (by decide)
  have hAd : ∀ i, i ≤ 18 → τ101.1 i = τ.1 i := fun i h => by rw [haτ101 i (by omega)]
  have hV := hV.born ef102 (by omega)
  refine W.widen (k := 1) (n := 16) (by decide) (by decide) ?_
  refine zPutFR (D := D) (ci := 4) (ty := .array .int) (C := RX4) (T := TX4) (N := 5) hx hb hts hiX4 tyX4 tyX4_ok nmX4 hown hH hS ((hB.1 18 (by omega)).1.trans (by decide : zkt 18 = 20)) rfl 0 (by decide) rfl hw4 (fun _ h9 => h9) rfl hin rfl (by rw [((hB.1 19 (by omega)).1.trans (by decide : zkt 19 = 1))]; decide)  (by decide +kernel) rfl rfl dX4_init_9 (fun H locs hH hS => ?_)
  obtain ⟨g104, eg104⟩ : ∃ f9 : zFr, f9 = zur g103 18 0 (some 19) := ⟨_, rfl⟩
  rw [← eg104] at hH
  have hB := zBI.ref hB eg104 (by omega) (by omega) (by decide +kernel)
  refine lv_aload_n hx hb dX4_init_12 rfl (lv_at hl 0 rfl) ?_
  refine lv_bipush (v := nI 16) hx hb dX4_init_13 (by decide) ?_
  refine zNewa (D := D) (atype := .int) (t := 1) (N' := 16) hx hb hw3 rfl (by decide) (by decide) rfl hH hS hA 20 (hB.2.1 20 (by omega)).1 (by decide) (by decide) (by first | decide | (simp only [zT, componentBytes]; omega)) (Nat.le_of_ble_eq_true rfl) (Nat.le_of_ble_eq_true rfl) dX4_init_15 (fun q9 c9 H hH8 hS => ?_)
  obtain ⟨τ106, eτ106⟩ : ∃ t9 : zTy, t9 = (va_up τ101.1 20 q9, va_up τ101.2.1 20 c9, va_up τ101.2.2.1 20 1, va_up τ101.2.2.2 20 16) := ⟨_, rfl⟩
  obtain ⟨f107, ef107⟩ : ∃ f9 : zFi, f9 = va_up f102 20 (fun _ => 0) := ⟨_, rfl⟩
  obtain ⟨g108, eg108⟩ : ∃ f9 : zFr, f9 = va_up g104 20 (fun _ => none) := ⟨_, rfl⟩
  have hH : zH D A τ106 f107 g108 ol s H := by rw [eτ106, ef107, eg108]; exact hH8
  clear hH8
  have hqτ106 : τ106.1 20 = q9 := by rw [eτ106]; exact va_up_self τ101.1 20 q9
  have haτ106 : ∀ i, i ≠ 20 → τ106.1 i = τ101.1 i := fun i h => by rw [eτ106]; exact va_up_ne _ _ h
  have hkτ106 : τ106.2.2.1 20 = 1 := by rw [eτ106]; exact va_up_self τ101.2.2.1 20 1
  have hnτ106 : τ106.2.2.2 20 = 16 := by rw [eτ106]; exact va_up_self τ101.2.2.2 20 16
  have hbτ106 : ∀ i, i ≠ 20 → τ106.2.2.1 i = τ101.2.2.1 i ∧ τ106.2.2.2 i = τ101.2.2.2 i := fun i h => by rw [eτ106]; exact ⟨va_up_ne _ _ h, va_up_ne _ _ h⟩
  clear eτ106
  subst hqτ106
  rw [show τ101.1 18 = τ106.1 18 from (haτ106 18 (by omega)).symm] at hl
  refine W.eq (g2 := F0 m 17 ls [.ref (τ106.1 20), .ref (τ106.1 18)]) (by rw [haτ106 18 (by omega)]) ?_
  have hB := zBI.born (i := 20) (a' := 21) (b' := 200) hB (by omega) (by omega) hkτ106 hnτ106 hbτ106 ef107 eg108 (by decide) (by decide) (by decide)
  have hAd : ∀ i, i ≤ 18 → τ106.1 i = τ.1 i := fun i h => by rw [haτ106 i (by omega)]; exact hAd i h
  have hV := hV.born ef107 (by omega)
  refine W.widen (k := 2) (n := 32) (by decide) (by decide) ?_
  refine zPutFR (D := D) (ci := 4) (ty := .array .int) (C := RX4) (T := TX4) (N := 5) hx hb hts hiX4 tyX4 tyX4_ok nmX4 hown hH hS ((hB.1 18 (by omega)).1.trans (by decide : zkt 18 = 20)) rfl 1 (by decide) rfl hw6 (fun _ h9 => h9) rfl hin rfl (by rw [((hB.1 20 (by omega)).1.trans (by decide : zkt 20 = 1))]; decide)  (by decide +kernel) rfl rfl dX4_init_17 (fun H locs hH hS => ?_)
  obtain ⟨g109, eg109⟩ : ∃ f9 : zFr, f9 = zur g108 18 1 (some 20) := ⟨_, rfl⟩
  rw [← eg109] at hH
  have hB := zBI.ref hB eg109 (by omega) (by omega) (by decide +kernel)
  refine lv_aload_n hx hb dX4_init_20 rfl (lv_at hl 0 rfl) ?_
  refine lv_sipush (v := nI 792) hx hb dX4_init_21 (by decide) ?_
  refine zNewa (D := D) (atype := .int) (t := 1) (N' := 792) hx hb hw3 rfl (by decide) (by decide) rfl hH hS hA 21 (hB.2.1 21 (by omega)).1 (by decide) (by decide) (by first | decide | (simp only [zT, componentBytes]; omega)) (Nat.le_of_ble_eq_true rfl) (Nat.le_of_ble_eq_true rfl) dX4_init_24 (fun q9 c9 H hH8 hS => ?_)
  obtain ⟨τ111, eτ111⟩ : ∃ t9 : zTy, t9 = (va_up τ106.1 21 q9, va_up τ106.2.1 21 c9, va_up τ106.2.2.1 21 1, va_up τ106.2.2.2 21 792) := ⟨_, rfl⟩
  obtain ⟨f112, ef112⟩ : ∃ f9 : zFi, f9 = va_up f107 21 (fun _ => 0) := ⟨_, rfl⟩
  obtain ⟨g113, eg113⟩ : ∃ f9 : zFr, f9 = va_up g109 21 (fun _ => none) := ⟨_, rfl⟩
  have hH : zH D A τ111 f112 g113 ol s H := by rw [eτ111, ef112, eg113]; exact hH8
  clear hH8
  have hqτ111 : τ111.1 21 = q9 := by rw [eτ111]; exact va_up_self τ106.1 21 q9
  have haτ111 : ∀ i, i ≠ 21 → τ111.1 i = τ106.1 i := fun i h => by rw [eτ111]; exact va_up_ne _ _ h
  have hkτ111 : τ111.2.2.1 21 = 1 := by rw [eτ111]; exact va_up_self τ106.2.2.1 21 1
  have hnτ111 : τ111.2.2.2 21 = 792 := by rw [eτ111]; exact va_up_self τ106.2.2.2 21 792
  have hbτ111 : ∀ i, i ≠ 21 → τ111.2.2.1 i = τ106.2.2.1 i ∧ τ111.2.2.2 i = τ106.2.2.2 i := fun i h => by rw [eτ111]; exact ⟨va_up_ne _ _ h, va_up_ne _ _ h⟩
  clear eτ111
  subst hqτ111
  rw [show τ106.1 18 = τ111.1 18 from (haτ111 18 (by omega)).symm] at hl
  refine W.eq (g2 := F0 m 26 ls [.ref (τ111.1 21), .ref (τ111.1 18)]) (by rw [haτ111 18 (by omega)]) ?_
  have hB := zBI.born (i := 21) (a' := 22) (b' := 200) hB (by omega) (by omega) hkτ111 hnτ111 hbτ111 ef112 eg113 (by decide) (by decide) (by decide)
  have hAd : ∀ i, i ≤ 18 → τ111.1 i = τ.1 i := fun i h => by rw [haτ111 i (by omega)]; exact hAd i h
  have hV := hV.born ef112 (by omega)
  refine W.widen (k := 3) (n := 824) (by decide) (by decide) ?_
  refine zPutFR (D := D) (ci := 4) (ty := .array .int) (C := RX4) (T := TX4) (N := 5) hx hb hts hiX4 tyX4 tyX4_ok nmX4 hown hH hS ((hB.1 18 (by omega)).1.trans (by decide : zkt 18 = 20)) rfl 2 (by decide) rfl hw7 (fun _ h9 => h9) rfl hin rfl (by rw [((hB.1 21 (by omega)).1.trans (by decide : zkt 21 = 1))]; decide)  (by decide +kernel) rfl rfl dX4_init_26 (fun H locs hH hS => ?_)
  obtain ⟨g114, eg114⟩ : ∃ f9 : zFr, f9 = zur g113 18 2 (some 21) := ⟨_, rfl⟩
  rw [← eg114] at hH
  have hB := zBI.ref hB eg114 (by omega) (by omega) (by decide +kernel)
  refine W.widen (k := 3) (n := 824) (by decide) (by decide) ?_
  exact W.vret hx hb hr (fun t9 ht9 hW9 => ⟨⟨(τ111, f112, g114), rfl, (show zBI τ111 f112 g114 22 200 8 18 3 ∧ (∀ i, i ≤ 18 → τ111.1 i = τ.1 i) ∧ zIV fi f112 18 from ⟨hB, hAd, hV⟩), zEnd1 hH ht9 hW9⟩, hS.F ht9⟩) hS.2.2 dX4_init_29
set_option maxHeartbeats 4000000 in
set_option maxRecDepth 100000 in
/-- X9_init -/
theorem i_Walk (l : Launch) (hl0 : l.stackTraces = false) (D : va_G) (A : Nat → Prop) (sad : Nat → Nat) (τ : zTy) (fi : zFi) (fr : zFr) (ol : Int64) (hB : zBI τ fi fr 23 200 9 22 0) : Met l yX9_init wsX9_init ({ frames := 1, cells := 5, slots := 49, locals := 12 }) (va_Pc [.ref (τ.1 22)] (zQc D A sad τ fi fr ol)) (va_Qv (fun (u : zTy × zFi × zFr) => zBI u.1 u.2.1 u.2.2 28 200 9 22 6 ∧ (∀ i, i ≤ 22 → u.1.1 i = τ.1 i) ∧ zIV fi u.2.1 22) (fun (u : zTy × zFi × zFr) (t : State) => zH D A u.1 u.2.1 u.2.2 ol t t.heap) A) 5 49 A := by
  refine Met.ofW (cc := cX9_init) (maxL := 1) (ret := none) (by decide) rfl ?_
  intro p9 e9 s m args below meth c9 s₁ B hml hv
  obtain ⟨rfl, hz, hH, hA⟩ := hv
  have hx := B.exec
  have hb := B.bytes
  have hr := B.returns
  have hts := atoms_spec (ws := wsX9_init) B.pre
  have hown : s.vm.findClass RX9 = some m.cls := findClass_of_methodNamed B.named
  have hlocks := B.notSynchronized
  have hin : meth.name = "<init>" := (name_of_methodNamed B.named B.method).1
  have hS : va_S A s.heap s.heap [] := va_S.rf
  have hl := lv_entry ([.ref (τ.1 22)]) (n := 1) (Nat.le_of_ble_eq_true rfl)
  rw [lg_entry_eq]
  generalize (lg_sl ([.ref (τ.1 22)]) ++ List.replicate (1 - (lg_sl ([.ref (τ.1 22)])).length) Slot.unset).toArray = ls at hl ⊢
  have hl : lv_has ls 1 [(0, .ref (τ.1 22))] := hl
  have hV : zIV fi fi 22 := fun _ _ _ => rfl
  have hw0 := hts (.methodLink RX9 3 objectInit) (by decide +kernel)
  have hw1 := hts (.instanceMethod objectInit) (by decide +kernel)
  have hw2 := hts (.code objectInit ⟨#[0xb1]⟩ 1 none) (by decide +kernel)
  have hw3 := hts (.classLink RX9 9 RX8) (by decide +kernel)
  have hw4 := hts (.fieldLink RX9 11 "PostHouse$Walk" "picks" "[LPostHouse$Thing;") (by decide +kernel)
  have hiX9 : ∀ w ∈ u_ws RX9 TX9 6, w ∈ wsX9_init := fun _ h => List.mem_cons_of_mem _ (List.mem_append_right _ h)
  have hw6 := hts (.arrayClass .boolean) (by decide +kernel)
  have hw7 := hts (.fieldLink RX9 17 "PostHouse$Walk" "marked" "[Z") (by decide +kernel)
  have hw8 := hts (.arrayClass .int) (by decide +kernel)
  have hw9 := hts (.fieldLink RX9 21 "PostHouse$Walk" "waySteps" "[I") (by decide +kernel)
  have hw10 := hts (.fieldLink RX9 25 "PostHouse$Walk" "best" "[I") (by decide +kernel)
  have hw11 := hts (.fieldLink RX9 28 "PostHouse$Walk" "nextBest" "[I") (by decide +kernel)
  refine lv_aload_n hx hb dX9_init_0 rfl (lv_at hl 0 rfl) ?_
  refine W.objInit hx hb hown hw0 hw1 hw2 rfl (by rw [hml]; exact hl.1) rfl dX9_init_1 (Nat.le_of_ble_eq_true rfl) (Nat.le_of_ble_eq_true rfl) ?_
  refine W.eq (g2 := F0 m 4 ls []) rfl ?_
  refine lv_aload_n hx hb dX9_init_4 rfl (lv_at hl 0 rfl) ?_
  refine lv_bipush (v := nI 10) hx hb dX9_init_5 (by decide) ?_
  refine zNewq (D := D) (C := RX8) (t := 8) (N' := 10) hx hb hown hw3 (hz.1.2.2.2.2.2.2.1 _ (List.mem_of_getElem? (i := 3) rfl)) rfl (by decide) (by decide) hH hS hA 23 (hB.2.1 23 (by omega)).1 (by decide) (by decide) (by decide) (Nat.le_of_ble_eq_true rfl) (Nat.le_of_ble_eq_true rfl) dX9_init_7 (fun q9 c9 H hH8 hS => ?_)
  obtain ⟨τ101, eτ101⟩ : ∃ t9 : zTy, t9 = (va_up τ.1 23 q9, va_up τ.2.1 23 c9, va_up τ.2.2.1 23 8, va_up τ.2.2.2 23 10) := ⟨_, rfl⟩
  obtain ⟨f102, ef102⟩ : ∃ f9 : zFi, f9 = va_up fi 23 (fun _ => 0) := ⟨_, rfl⟩
  obtain ⟨g103, eg103⟩ : ∃ f9 : zFr, f9 = va_up fr 23 (fun _ => none) := ⟨_, rfl⟩
  have hH : zH D A τ101 f102 g103 ol s H := by rw [eτ101, ef102, eg103]; exact hH8
  clear hH8
  have hqτ101 : τ101.1 23 = q9 := by rw [eτ101]; exact va_up_self τ.1 23 q9
  have haτ101 : ∀ i, i ≠ 23 → τ101.1 i = τ.1 i := fun i h => by rw [eτ101]; exact va_up_ne _ _ h
  have hkτ101 : τ101.2.2.1 23 = 8 := by rw [eτ101]; exact va_up_self τ.2.2.1 23 8
  have hnτ101 : τ101.2.2.2 23 = 10 := by rw [eτ101]; exact va_up_self τ.2.2.2 23 10
  have hbτ101 : ∀ i, i ≠ 23 → τ101.2.2.1 i = τ.2.2.1 i ∧ τ101.2.2.2 i = τ.2.2.2 i := fun i h => by rw [eτ101]; exact ⟨va_up_ne _ _ h, va_up_ne _ _ h⟩
  clear eτ101
  subst hqτ101
  rw [show τ.1 22 = τ101.1 22 from (haτ101 22 (by omega)).symm] at hl
  refine W.eq (g2 := F0 m 10 ls [.ref (τ101.1 23), .ref (τ101.1 22)]) (by rw [haτ101 22 (by omega)]) ?_
  have hB := zBI.born (i := 23) (a' := 24) (b' := 200) hB (by omega) (by omega) hkτ101 hnτ101 hbτ101 ef102 eg103 (by decide) (by decide) (by decide)
  have hAd : ∀ i, i ≤ 22 → τ101.1 i = τ.1 i := fun i h => by rw [haτ101 i (by omega)]
  have hV := hV.born ef102 (by omega)
  refine W.widen (k := 1) (n := 10) (by decide) (by decide) ?_
  refine zPutFR (D := D) (ci := 9) (ty := .array (.object "PostHouse$Thing")) (C := RX9) (T := TX9) (N := 6) hx hb hts hiX9 tyX9 tyX9_ok nmX9 hown hH hS ((hB.1 22 (by omega)).1.trans (by decide : zkt 22 = 25)) rfl 0 (by decide) rfl hw4 (fun _ h9 => h9) rfl hin rfl (by rw [((hB.1 23 (by omega)).1.trans (by decide : zkt 23 = 8))]; decide)  (by decide +kernel) rfl rfl dX9_init_10 (fun H locs hH hS => ?_)
  obtain ⟨g104, eg104⟩ : ∃ f9 : zFr, f9 = zur g103 22 0 (some 23) := ⟨_, rfl⟩
  rw [← eg104] at hH
  have hB := zBI.ref hB eg104 (by omega) (by omega) (by decide +kernel)
  refine lv_aload_n hx hb dX9_init_13 rfl (lv_at hl 0 rfl) ?_
  refine lv_bipush (v := nI 21) hx hb dX9_init_14 (by decide) ?_
  refine zNewa (D := D) (atype := .boolean) (t := 3) (N' := 21) hx hb hw6 rfl (by decide) (by decide) rfl hH hS hA 24 (hB.2.1 24 (by omega)).1 (by decide) (by decide) (by first | decide | (simp only [zT, componentBytes]; omega)) (Nat.le_of_ble_eq_true rfl) (Nat.le_of_ble_eq_true rfl) dX9_init_16 (fun q9 c9 H hH8 hS => ?_)
  obtain ⟨τ106, eτ106⟩ : ∃ t9 : zTy, t9 = (va_up τ101.1 24 q9, va_up τ101.2.1 24 c9, va_up τ101.2.2.1 24 3, va_up τ101.2.2.2 24 21) := ⟨_, rfl⟩
  obtain ⟨f107, ef107⟩ : ∃ f9 : zFi, f9 = va_up f102 24 (fun _ => 0) := ⟨_, rfl⟩
  obtain ⟨g108, eg108⟩ : ∃ f9 : zFr, f9 = va_up g104 24 (fun _ => none) := ⟨_, rfl⟩
  have hH : zH D A τ106 f107 g108 ol s H := by rw [eτ106, ef107, eg108]; exact hH8
  clear hH8
  have hqτ106 : τ106.1 24 = q9 := by rw [eτ106]; exact va_up_self τ101.1 24 q9
  have haτ106 : ∀ i, i ≠ 24 → τ106.1 i = τ101.1 i := fun i h => by rw [eτ106]; exact va_up_ne _ _ h
  have hkτ106 : τ106.2.2.1 24 = 3 := by rw [eτ106]; exact va_up_self τ101.2.2.1 24 3
  have hnτ106 : τ106.2.2.2 24 = 21 := by rw [eτ106]; exact va_up_self τ101.2.2.2 24 21
  have hbτ106 : ∀ i, i ≠ 24 → τ106.2.2.1 i = τ101.2.2.1 i ∧ τ106.2.2.2 i = τ101.2.2.2 i := fun i h => by rw [eτ106]; exact ⟨va_up_ne _ _ h, va_up_ne _ _ h⟩
  clear eτ106
  subst hqτ106
  rw [show τ101.1 22 = τ106.1 22 from (haτ106 22 (by omega)).symm] at hl
  refine W.eq (g2 := F0 m 18 ls [.ref (τ106.1 24), .ref (τ106.1 22)]) (by rw [haτ106 22 (by omega)]) ?_
  have hB := zBI.born (i := 24) (a' := 25) (b' := 200) hB (by omega) (by omega) hkτ106 hnτ106 hbτ106 ef107 eg108 (by decide) (by decide) (by decide)
  have hAd : ∀ i, i ≤ 22 → τ106.1 i = τ.1 i := fun i h => by rw [haτ106 i (by omega)]; exact hAd i h
  have hV := hV.born ef107 (by omega)
  refine W.widen (k := 2) (n := 31) (by decide) (by decide) ?_
  refine zPutFR (D := D) (ci := 9) (ty := .array .boolean) (C := RX9) (T := TX9) (N := 6) hx hb hts hiX9 tyX9 tyX9_ok nmX9 hown hH hS ((hB.1 22 (by omega)).1.trans (by decide : zkt 22 = 25)) rfl 2 (by decide) rfl hw7 (fun _ h9 => h9) rfl hin rfl (by rw [((hB.1 24 (by omega)).1.trans (by decide : zkt 24 = 3))]; decide)  (by decide +kernel) rfl rfl dX9_init_18 (fun H locs hH hS => ?_)
  obtain ⟨g109, eg109⟩ : ∃ f9 : zFr, f9 = zur g108 22 2 (some 24) := ⟨_, rfl⟩
  rw [← eg109] at hH
  have hB := zBI.ref hB eg109 (by omega) (by omega) (by decide +kernel)
  refine lv_aload_n hx hb dX9_init_21 rfl (lv_at hl 0 rfl) ?_
  refine lv_bipush (v := nI 6) hx hb dX9_init_22 (by decide) ?_
  refine zNewa (D := D) (atype := .int) (t := 1) (N' := 6) hx hb hw8 rfl (by decide) (by decide) rfl hH hS hA 25 (hB.2.1 25 (by omega)).1 (by decide) (by decide) (by first | decide | (simp only [zT, componentBytes]; omega)) (Nat.le_of_ble_eq_true rfl) (Nat.le_of_ble_eq_true rfl) dX9_init_24 (fun q9 c9 H hH8 hS => ?_)
  obtain ⟨τ111, eτ111⟩ : ∃ t9 : zTy, t9 = (va_up τ106.1 25 q9, va_up τ106.2.1 25 c9, va_up τ106.2.2.1 25 1, va_up τ106.2.2.2 25 6) := ⟨_, rfl⟩
  obtain ⟨f112, ef112⟩ : ∃ f9 : zFi, f9 = va_up f107 25 (fun _ => 0) := ⟨_, rfl⟩
  obtain ⟨g113, eg113⟩ : ∃ f9 : zFr, f9 = va_up g109 25 (fun _ => none) := ⟨_, rfl⟩
  have hH : zH D A τ111 f112 g113 ol s H := by rw [eτ111, ef112, eg113]; exact hH8
  clear hH8
  have hqτ111 : τ111.1 25 = q9 := by rw [eτ111]; exact va_up_self τ106.1 25 q9
  have haτ111 : ∀ i, i ≠ 25 → τ111.1 i = τ106.1 i := fun i h => by rw [eτ111]; exact va_up_ne _ _ h
  have hkτ111 : τ111.2.2.1 25 = 1 := by rw [eτ111]; exact va_up_self τ106.2.2.1 25 1
  have hnτ111 : τ111.2.2.2 25 = 6 := by rw [eτ111]; exact va_up_self τ106.2.2.2 25 6
  have hbτ111 : ∀ i, i ≠ 25 → τ111.2.2.1 i = τ106.2.2.1 i ∧ τ111.2.2.2 i = τ106.2.2.2 i := fun i h => by rw [eτ111]; exact ⟨va_up_ne _ _ h, va_up_ne _ _ h⟩
  clear eτ111
  subst hqτ111
  rw [show τ106.1 22 = τ111.1 22 from (haτ111 22 (by omega)).symm] at hl
  refine W.eq (g2 := F0 m 26 ls [.ref (τ111.1 25), .ref (τ111.1 22)]) (by rw [haτ111 22 (by omega)]) ?_
  have hB := zBI.born (i := 25) (a' := 26) (b' := 200) hB (by omega) (by omega) hkτ111 hnτ111 hbτ111 ef112 eg113 (by decide) (by decide) (by decide)
  have hAd : ∀ i, i ≤ 22 → τ111.1 i = τ.1 i := fun i h => by rw [haτ111 i (by omega)]; exact hAd i h
  have hV := hV.born ef112 (by omega)
  refine W.widen (k := 3) (n := 37) (by decide) (by decide) ?_
  refine zPutFR (D := D) (ci := 9) (ty := .array .int) (C := RX9) (T := TX9) (N := 6) hx hb hts hiX9 tyX9 tyX9_ok nmX9 hown hH hS ((hB.1 22 (by omega)).1.trans (by decide : zkt 22 = 25)) rfl 3 (by decide) rfl hw9 (fun _ h9 => h9) rfl hin rfl (by rw [((hB.1 25 (by omega)).1.trans (by decide : zkt 25 = 1))]; decide)  (by decide +kernel) rfl rfl dX9_init_26 (fun H locs hH hS => ?_)
  obtain ⟨g114, eg114⟩ : ∃ f9 : zFr, f9 = zur g113 22 3 (some 25) := ⟨_, rfl⟩
  rw [← eg114] at hH
  have hB := zBI.ref hB eg114 (by omega) (by omega) (by decide +kernel)
  refine lv_aload_n hx hb dX9_init_29 rfl (lv_at hl 0 rfl) ?_
  refine lv_bipush (v := nI 6) hx hb dX9_init_30 (by decide) ?_
  refine zNewa (D := D) (atype := .int) (t := 1) (N' := 6) hx hb hw8 rfl (by decide) (by decide) rfl hH hS hA 26 (hB.2.1 26 (by omega)).1 (by decide) (by decide) (by first | decide | (simp only [zT, componentBytes]; omega)) (Nat.le_of_ble_eq_true rfl) (Nat.le_of_ble_eq_true rfl) dX9_init_32 (fun q9 c9 H hH8 hS => ?_)
  obtain ⟨τ116, eτ116⟩ : ∃ t9 : zTy, t9 = (va_up τ111.1 26 q9, va_up τ111.2.1 26 c9, va_up τ111.2.2.1 26 1, va_up τ111.2.2.2 26 6) := ⟨_, rfl⟩
  obtain ⟨f117, ef117⟩ : ∃ f9 : zFi, f9 = va_up f112 26 (fun _ => 0) := ⟨_, rfl⟩
  obtain ⟨g118, eg118⟩ : ∃ f9 : zFr, f9 = va_up g114 26 (fun _ => none) := ⟨_, rfl⟩
  have hH : zH D A τ116 f117 g118 ol s H := by rw [eτ116, ef117, eg118]; exact hH8
  clear hH8
  have hqτ116 : τ116.1 26 = q9 := by rw [eτ116]; exact va_up_self τ111.1 26 q9
  have haτ116 : ∀ i, i ≠ 26 → τ116.1 i = τ111.1 i := fun i h => by rw [eτ116]; exact va_up_ne _ _ h
  have hkτ116 : τ116.2.2.1 26 = 1 := by rw [eτ116]; exact va_up_self τ111.2.2.1 26 1
  have hnτ116 : τ116.2.2.2 26 = 6 := by rw [eτ116]; exact va_up_self τ111.2.2.2 26 6
  have hbτ116 : ∀ i, i ≠ 26 → τ116.2.2.1 i = τ111.2.2.1 i ∧ τ116.2.2.2 i = τ111.2.2.2 i := fun i h => by rw [eτ116]; exact ⟨va_up_ne _ _ h, va_up_ne _ _ h⟩
  clear eτ116
  subst hqτ116
  rw [show τ111.1 22 = τ116.1 22 from (haτ116 22 (by omega)).symm] at hl
  refine W.eq (g2 := F0 m 34 ls [.ref (τ116.1 26), .ref (τ116.1 22)]) (by rw [haτ116 22 (by omega)]) ?_
  have hB := zBI.born (i := 26) (a' := 27) (b' := 200) hB (by omega) (by omega) hkτ116 hnτ116 hbτ116 ef117 eg118 (by decide) (by decide) (by decide)
  have hAd : ∀ i, i ≤ 22 → τ116.1 i = τ.1 i := fun i h => by rw [haτ116 i (by omega)]; exact hAd i h
  have hV := hV.born ef117 (by omega)
  refine W.widen (k := 4) (n := 43) (by decide) (by decide) ?_
  refine zPutFR (D := D) (ci := 9) (ty := .array .int) (C := RX9) (T := TX9) (N := 6) hx hb hts hiX9 tyX9 tyX9_ok nmX9 hown hH hS ((hB.1 22 (by omega)).1.trans (by decide : zkt 22 = 25)) rfl 4 (by decide) rfl hw10 (fun _ h9 => h9) rfl hin rfl (by rw [((hB.1 26 (by omega)).1.trans (by decide : zkt 26 = 1))]; decide)  (by decide +kernel) rfl rfl dX9_init_34 (fun H locs hH hS => ?_)
  obtain ⟨g119, eg119⟩ : ∃ f9 : zFr, f9 = zur g118 22 4 (some 26) := ⟨_, rfl⟩
  rw [← eg119] at hH
  have hB := zBI.ref hB eg119 (by omega) (by omega) (by decide +kernel)
  refine lv_aload_n hx hb dX9_init_37 rfl (lv_at hl 0 rfl) ?_
  refine lv_bipush (v := nI 6) hx hb dX9_init_38 (by decide) ?_
  refine zNewa (D := D) (atype := .int) (t := 1) (N' := 6) hx hb hw8 rfl (by decide) (by decide) rfl hH hS hA 27 (hB.2.1 27 (by omega)).1 (by decide) (by decide) (by first | decide | (simp only [zT, componentBytes]; omega)) (Nat.le_of_ble_eq_true rfl) (Nat.le_of_ble_eq_true rfl) dX9_init_40 (fun q9 c9 H hH8 hS => ?_)
  obtain ⟨τ121, eτ121⟩ : ∃ t9 : zTy, t9 = (va_up τ116.1 27 q9, va_up τ116.2.1 27 c9, va_up τ116.2.2.1 27 1, va_up τ116.2.2.2 27 6) := ⟨_, rfl⟩
  obtain ⟨f122, ef122⟩ : ∃ f9 : zFi, f9 = va_up f117 27 (fun _ => 0) := ⟨_, rfl⟩
  obtain ⟨g123, eg123⟩ : ∃ f9 : zFr, f9 = va_up g119 27 (fun _ => none) := ⟨_, rfl⟩
  have hH : zH D A τ121 f122 g123 ol s H := by rw [eτ121, ef122, eg123]; exact hH8
  clear hH8
  have hqτ121 : τ121.1 27 = q9 := by rw [eτ121]; exact va_up_self τ116.1 27 q9
  have haτ121 : ∀ i, i ≠ 27 → τ121.1 i = τ116.1 i := fun i h => by rw [eτ121]; exact va_up_ne _ _ h
  have hkτ121 : τ121.2.2.1 27 = 1 := by rw [eτ121]; exact va_up_self τ116.2.2.1 27 1
  have hnτ121 : τ121.2.2.2 27 = 6 := by rw [eτ121]; exact va_up_self τ116.2.2.2 27 6
  have hbτ121 : ∀ i, i ≠ 27 → τ121.2.2.1 i = τ116.2.2.1 i ∧ τ121.2.2.2 i = τ116.2.2.2 i := fun i h => by rw [eτ121]; exact ⟨va_up_ne _ _ h, va_up_ne _ _ h⟩
  clear eτ121
  subst hqτ121
  rw [show τ116.1 22 = τ121.1 22 from (haτ121 22 (by omega)).symm] at hl
  refine W.eq (g2 := F0 m 42 ls [.ref (τ121.1 27), .ref (τ121.1 22)]) (by rw [haτ121 22 (by omega)]) ?_
  have hB := zBI.born (i := 27) (a' := 28) (b' := 200) hB (by omega) (by omega) hkτ121 hnτ121 hbτ121 ef122 eg123 (by decide) (by decide) (by decide)
  have hAd : ∀ i, i ≤ 22 → τ121.1 i = τ.1 i := fun i h => by rw [haτ121 i (by omega)]; exact hAd i h
  have hV := hV.born ef122 (by omega)
  refine W.widen (k := 5) (n := 49) (by decide) (by decide) ?_
  refine zPutFR (D := D) (ci := 9) (ty := .array .int) (C := RX9) (T := TX9) (N := 6) hx hb hts hiX9 tyX9 tyX9_ok nmX9 hown hH hS ((hB.1 22 (by omega)).1.trans (by decide : zkt 22 = 25)) rfl 5 (by decide) rfl hw11 (fun _ h9 => h9) rfl hin rfl (by rw [((hB.1 27 (by omega)).1.trans (by decide : zkt 27 = 1))]; decide)  (by decide +kernel) rfl rfl dX9_init_42 (fun H locs hH hS => ?_)
  obtain ⟨g124, eg124⟩ : ∃ f9 : zFr, f9 = zur g123 22 5 (some 27) := ⟨_, rfl⟩
  rw [← eg124] at hH
  have hB := zBI.ref hB eg124 (by omega) (by omega) (by decide +kernel)
  refine W.widen (k := 5) (n := 49) (by decide) (by decide) ?_
  exact W.vret hx hb hr (fun t9 ht9 hW9 => ⟨⟨(τ121, f122, g124), rfl, (show zBI τ121 f122 g124 28 200 9 22 6 ∧ (∀ i, i ≤ 22 → τ121.1 i = τ.1 i) ∧ zIV fi f122 22 from ⟨hB, hAd, hV⟩), zEnd1 hH ht9 hW9⟩, hS.F ht9⟩) hS.2.2 dX9_init_45
set_option maxHeartbeats 4000000 in
set_option maxRecDepth 100000 in
/-- X11_init -/
theorem i_PH (l : Launch) (hl0 : l.stackTraces = false) (D : va_G) (A : Nat → Prop) (sad : Nat → Nat) (τ : zTy) (fi : zFi) (fr : zFr) (ol : Int64) (hB : zBI τ fi fr 1 200 0 0 0) : Met l yX11_init wsX11_init ({ frames := 2, cells := 27, slots := 2448, locals := 33 }) (va_Pc [.ref (τ.1 0)] (zQc D A sad τ fi fr ol)) (va_Qv (fun (u : zTy × zFi × zFr) => zBI u.1 u.2.1 u.2.2 28 200 10 22 6 ∧ (∀ i, i ≤ 0 → u.1.1 i = τ.1 i) ∧ zIV fi u.2.1 0 ∧ zRv u.2.1 10 11 ∧ u.2.1 0 14 = -1) (fun (u : zTy × zFi × zFr) (t : State) => zH D A u.1 u.2.1 u.2.2 ol t t.heap) A) 27 2448 A := by
  refine Met.ofW (cc := cX11_init) (maxL := 1) (ret := none) (by decide) rfl ?_
  intro p9 e9 s m args below meth c9 s₁ B hml hv
  obtain ⟨rfl, hz, hH, hA⟩ := hv
  have hx := B.exec
  have hb := B.bytes
  have hr := B.returns
  have hts := atoms_spec (ws := wsX11_init) B.pre
  have hown : s.vm.findClass RX11 = some m.cls := findClass_of_methodNamed B.named
  have hlocks := B.notSynchronized
  have hin : meth.name = "<init>" := (name_of_methodNamed B.named B.method).1
  replace hS : va_S A s.heap s.heap [] := va_S.rf
  have hl := lv_entry ([.ref (τ.1 0)]) (n := 1) (Nat.le_of_ble_eq_true rfl)
  rw [lg_entry_eq]
  generalize (lg_sl ([.ref (τ.1 0)]) ++ List.replicate (1 - (lg_sl ([.ref (τ.1 0)])).length) Slot.unset).toArray = ls at hl ⊢
  have hl : lv_has ls 1 [(0, .ref (τ.1 0))] := hl
  replace hV : zIV fi fi 0 := fun _ _ _ => rfl
  have hw0 := hts (.methodLink RX11 1 objectInit) (by decide +kernel)
  have hw1 := hts (.instanceMethod objectInit) (by decide +kernel)
  have hw2 := hts (.code objectInit ⟨#[0xb1]⟩ 1 none) (by decide +kernel)
  have hiX7 : ∀ w ∈ u_ws RX7 TX7 4, w ∈ wsX11_init := fun _ h => List.mem_cons_of_mem _ (List.mem_append_left _ (List.mem_append_left _ (List.mem_append_left _ (List.mem_append_left _ (List.mem_append_left _ (List.mem_append_left _ (List.mem_append_right _ h)))))))
  have hw4 := hts (.classLink RX11 7 RX7) (by decide +kernel)
  have hw5 := hts (.instantiable RX7 4) (by decide +kernel)
  have hw6 := hts (.initialized RX7) (by decide +kernel)
  have hw7 := hts (.instanceMethod yX7_init) (by decide +kernel)
  have hw8 := hts (.fieldLink RX11 10 "PostHouse" "tape" "LPostHouse$Tape;") (by decide +kernel)
  have hiX11 : ∀ w ∈ u_ws RX11 TX11 16, w ∈ wsX11_init := fun _ h => List.mem_cons_of_mem _ (List.mem_append_left _ (List.mem_append_left _ (List.mem_append_left _ (List.mem_append_left _ (List.mem_append_left _ (List.mem_append_right _ h))))))
  have hiX0 : ∀ w ∈ u_ws RX0 TX0 2, w ∈ wsX11_init := fun _ h => List.mem_cons_of_mem _ (List.mem_append_left _ (List.mem_append_left _ (List.mem_append_left _ (List.mem_append_left _ (List.mem_append_right _ h)))))
  have hw11 := hts (.classLink RX11 16 RX0) (by decide +kernel)
  have hw12 := hts (.instantiable RX0 2) (by decide +kernel)
  have hw13 := hts (.initialized RX0) (by decide +kernel)
  have hw14 := hts (.instanceMethod yX0_init) (by decide +kernel)
  have hw15 := hts (.fieldLink RX11 19 "PostHouse" "book" "LPostHouse$Book;") (by decide +kernel)
  have hiX1 : ∀ w ∈ u_ws RX1 TX1 4, w ∈ wsX11_init := fun _ h => List.mem_cons_of_mem _ (List.mem_append_left _ (List.mem_append_left _ (List.mem_append_left _ (List.mem_append_right _ h))))
  have hw17 := hts (.classLink RX11 23 RX1) (by decide +kernel)
  have hw18 := hts (.instantiable RX1 4) (by decide +kernel)
  have hw19 := hts (.initialized RX1) (by decide +kernel)
  have hw20 := hts (.instanceMethod yX1_init) (by decide +kernel)
  have hw21 := hts (.fieldLink RX11 26 "PostHouse" "comings" "LPostHouse$Comings;") (by decide +kernel)
  have hiX5 : ∀ w ∈ u_ws RX5 TX5 2, w ∈ wsX11_init := fun _ h => List.mem_cons_of_mem _ (List.mem_append_left _ (List.mem_append_left _ (List.mem_append_right _ h)))
  have hw23 := hts (.classLink RX11 30 RX5) (by decide +kernel)
  have hw24 := hts (.instantiable RX5 2) (by decide +kernel)
  have hw25 := hts (.initialized RX5) (by decide +kernel)
  have hw26 := hts (.methodLink RX11 32 yX5_init) (by decide +kernel)
  have hw27 := hts (.instanceMethod yX5_init) (by decide +kernel)
  have hw28 := hts (.fieldLink RX11 33 "PostHouse" "rules" "LPostHouse$Rules;") (by decide +kernel)
  have hw29 := hts (.fieldLink RX11 37 "PostHouse" "draft" "LPostHouse$Rules;") (by decide +kernel)
  have hw30 := hts (.classLink RX11 40 RX2) (by decide +kernel)
  have hw31 := hts (.fieldLink RX11 42 "PostHouse" "doubts" "[LPostHouse$Letter;") (by decide +kernel)
  have hw32 := hts (.classLink RX11 46 RX3) (by decide +kernel)
  have hw33 := hts (.fieldLink RX11 48 "PostHouse" "orders" "[LPostHouse$Order;") (by decide +kernel)
  have hw34 := hts (.classLink RX11 52 RX6) (by decide +kernel)
  have hw35 := hts (.fieldLink RX11 54 "PostHouse" "sendings" "[LPostHouse$Sending;") (by decide +kernel)
  have hiX4 : ∀ w ∈ u_ws RX4 TX4 5, w ∈ wsX11_init := fun _ h => List.mem_cons_of_mem _ (List.mem_append_left _ (List.mem_append_right _ h))
  have hw37 := hts (.classLink RX11 58 RX4) (by decide +kernel)
  have hw38 := hts (.instantiable RX4 5) (by decide +kernel)
  have hw39 := hts (.initialized RX4) (by decide +kernel)
  have hw40 := hts (.instanceMethod yX4_init) (by decide +kernel)
  have hw41 := hts (.fieldLink RX11 61 "PostHouse" "packing" "LPostHouse$Packing;") (by decide +kernel)
  have hiX9 : ∀ w ∈ u_ws RX9 TX9 6, w ∈ wsX11_init := fun _ h => List.mem_cons_of_mem _ (List.mem_append_right _ h)
  have hw43 := hts (.classLink RX11 65 RX9) (by decide +kernel)
  have hw44 := hts (.instantiable RX9 6) (by decide +kernel)
  have hw45 := hts (.initialized RX9) (by decide +kernel)
  have hw46 := hts (.instanceMethod yX9_init) (by decide +kernel)
  have hw47 := hts (.fieldLink RX11 68 "PostHouse" "walk" "LPostHouse$Walk;") (by decide +kernel)
  have hw48 := hts (.fieldLink RX11 72 "PostHouse" "fault" "I") (by decide +kernel)
  refine lv_aload_n hx hb dX11_init_0 rfl (lv_at hl 0 rfl) ?_
  refine W.objInit hx hb hown hw0 hw1 hw2 rfl (by rw [hml]; exact hl.1) rfl dX11_init_1 (Nat.le_of_ble_eq_true rfl) (Nat.le_of_ble_eq_true rfl) ?_
  refine W.eq (g2 := F0 m 4 ls []) rfl ?_
  refine lv_aload_n hx hb dX11_init_4 rfl (lv_at hl 0 rfl) ?_
  refine zNew (D := D) (fs := [.null, .int 0, .int 0, .int 0]) (ci := 7) (C := RX7) (T := TX7) (N := 4) hx hb hts hiX7 tyX7 tyX7_ok hown hw4 hw5 hw6 hH hS hA rfl 1 (hB.2.1 1 (by omega)).1 (fun _ => rfl) (by decide) (Nat.le_of_ble_eq_true rfl) (Nat.le_of_ble_eq_true rfl) dX11_init_5 (fun q9 c9 H hH8 hS => ?_)
  obtain ⟨τ101, eτ101⟩ : ∃ t9 : zTy, t9 = (va_up τ.1 1 q9, va_up τ.2.1 1 c9, va_up τ.2.2.1 1 23, va_up τ.2.2.2 1 0) := ⟨_, rfl⟩
  obtain ⟨f102, ef102⟩ : ∃ f9 : zFi, f9 = va_up fi 1 (fun _ => 0) := ⟨_, rfl⟩
  obtain ⟨g103, eg103⟩ : ∃ f9 : zFr, f9 = va_up fr 1 (fun _ => none) := ⟨_, rfl⟩
  replace hH : zH D A τ101 f102 g103 ol s H := by rw [eτ101, ef102, eg103]; exact hH8
  clear hH8
  have hqτ101 : τ101.1 1 = q9 := by rw [eτ101]; exact va_up_self τ.1 1 q9
  have haτ101 : ∀ i, i ≠ 1 → τ101.1 i = τ.1 i := fun i h => by rw [eτ101]; exact va_up_ne _ _ h
  have hkτ101 : τ101.2.2.1 1 = 23 := by rw [eτ101]; exact va_up_self τ.2.2.1 1 23
  have hnτ101 : τ101.2.2.2 1 = 0 := by rw [eτ101]; exact va_up_self τ.2.2.2 1 0
  have hbτ101 : ∀ i, i ≠ 1 → τ101.2.2.1 i = τ.2.2.1 i ∧ τ101.2.2.2 i = τ.2.2.2 i := fun i h => by rw [eτ101]; exact ⟨va_up_ne _ _ h, va_up_ne _ _ h⟩
  clear eτ101
  subst hqτ101
  rw [show τ.1 0 = τ101.1 0 from (haτ101 0 (by omega)).symm] at hl
  refine W.eq (g2 := F0 m 8 ls [.ref (τ101.1 1), .ref (τ101.1 0)]) (by rw [haτ101 0 (by omega)]) ?_
  replace hB := zBI.born (i := 1) (a' := 2) (b' := 200) hB (by omega) (by omega) hkτ101 hnτ101 hbτ101 ef102 eg103 (by decide) (by decide) (by decide)
  clear eg103 hkτ101 hnτ101 hbτ101
  replace hAd : ∀ i, i ≤ 0 → τ101.1 i = τ.1 i := fun i h => by rw [haτ101 i (by omega)]
  clear haτ101
  replace hV := hV.born ef102 (by omega)
  clear ef102
  replace hB := zBI.sw 1 hB (by decide +kernel)
  refine W.widen (k := 1) (n := 4) (by decide) (by decide) ?_
  refine lv_dup hx hb dX11_init_8 rfl ?_
  have hznn := hz.1.2.2.2.2.2.1 _ (List.mem_of_getElem? (i := 0) rfl)
  refine va_callv (va_runIN (host := RX11) (As := []) (rest := [.ref (τ101.1 1), .ref (τ101.1 0)]) ⟨hx, hb, hml, hown, hts⟩ (i_Tape l hl0 D A sad τ101 f102 g103 ol hB) ⟨va_cnB (host := RX11) (y := yX7_init) 0 hts gX11_init_X7_init_n9 rfl rfl rfl hznn hw6 (by decide +kernel) ⟨Nat.le_of_ble_eq_true rfl, Nat.le_of_ble_eq_true rfl⟩, rfl, hw7⟩ ⟨zQc_bl, zQc_at hz hS hA hH⟩ rfl rfl hl.1 rfl (lv_room (Nat.le_of_ble_eq_true rfl)) dX11_init_9 ⟨Nat.le_of_ble_eq_true rfl, Nat.le_of_ble_eq_true rfl⟩) hS (fun q _ h => h) (fun q h => h) (fun u9 t9 H1 locs ht9 hvm9 hw hB hz1 hk1 hS => ?_)
  obtain ⟨τ105, f106, g107⟩ := u9
  replace hH := zMv ht9 hvm9 hB
  clear hB
  simp only at hw hH
  generalize H1 = H at hH hS ⊢
  refine W.widen (k := 2) (n := 404) (by decide) (by decide) ?_
  obtain ⟨hB, ha8, hV8⟩ := hw
  rw [show τ101.1 0 = τ105.1 0 from (ha8 0 (by omega)).symm] at hl
  refine W.eq (g2 := F0 m 12 ls [.ref (τ105.1 1), .ref (τ105.1 0)]) (by rw [ha8 0 (by omega), ha8 1 (by omega)]) ?_
  replace hV := hV.call hV8 (by omega)
  replace hAd : ∀ i, i ≤ 0 → τ105.1 i = τ.1 i := fun i h => by rw [ha8 i (by omega)]; exact hAd i h
  refine zPutFR (D := D) (ci := 11) (ty := .object "PostHouse$Tape") (C := RX11) (T := TX11) (N := 16) hx hb hts hiX11 tyX11 tyX11_ok nmX11 hown hH hS ((hB.1 0 (by omega)).1.trans (by decide : zkt 0 = 27)) rfl 0 (by decide) rfl hw8 (fun _ h9 => h9) rfl hin rfl (by rw [((hB.1 1 (by omega)).1.trans (by decide : zkt 1 = 23))]; decide)  (by decide +kernel) rfl rfl dX11_init_12 (fun H locs hH hS => ?_)
  obtain ⟨g108, eg108⟩ : ∃ f9 : zFr, f9 = zur g107 0 0 (some 1) := ⟨_, rfl⟩
  rw [← eg108] at hH
  replace hB := zBI.ref0 hB eg108 (by omega) (by decide +kernel)
  clear eg108
  refine lv_aload_n hx hb dX11_init_15 rfl (lv_at hl 0 rfl) ?_
  refine zNew (D := D) (fs := [.null, .int 0]) (ci := 0) (C := RX0) (T := TX0) (N := 2) hx hb hts hiX0 tyX0 tyX0_ok hown hw11 hw12 hw13 hH hS hA rfl 3 (hB.2.1 3 (by omega)).1 (fun _ => rfl) (by decide) (Nat.le_of_ble_eq_true rfl) (Nat.le_of_ble_eq_true rfl) dX11_init_16 (fun q9 c9 H hH8 hS => ?_)
  obtain ⟨τ110, eτ110⟩ : ∃ t9 : zTy, t9 = (va_up τ105.1 3 q9, va_up τ105.2.1 3 c9, va_up τ105.2.2.1 3 16, va_up τ105.2.2.2 3 0) := ⟨_, rfl⟩
  obtain ⟨f111, ef111⟩ : ∃ f9 : zFi, f9 = va_up f106 3 (fun _ => 0) := ⟨_, rfl⟩
  obtain ⟨g112, eg112⟩ : ∃ f9 : zFr, f9 = va_up g108 3 (fun _ => none) := ⟨_, rfl⟩
  replace hH : zH D A τ110 f111 g112 ol s H := by rw [eτ110, ef111, eg112]; exact hH8
  clear hH8
  have hqτ110 : τ110.1 3 = q9 := by rw [eτ110]; exact va_up_self τ105.1 3 q9
  have haτ110 : ∀ i, i ≠ 3 → τ110.1 i = τ105.1 i := fun i h => by rw [eτ110]; exact va_up_ne _ _ h
  have hkτ110 : τ110.2.2.1 3 = 16 := by rw [eτ110]; exact va_up_self τ105.2.2.1 3 16
  have hnτ110 : τ110.2.2.2 3 = 0 := by rw [eτ110]; exact va_up_self τ105.2.2.2 3 0
  have hbτ110 : ∀ i, i ≠ 3 → τ110.2.2.1 i = τ105.2.2.1 i ∧ τ110.2.2.2 i = τ105.2.2.2 i := fun i h => by rw [eτ110]; exact ⟨va_up_ne _ _ h, va_up_ne _ _ h⟩
  clear eτ110
  subst hqτ110
  rw [show τ105.1 0 = τ110.1 0 from (haτ110 0 (by omega)).symm] at hl
  refine W.eq (g2 := F0 m 19 ls [.ref (τ110.1 3), .ref (τ110.1 0)]) (by rw [haτ110 0 (by omega)]) ?_
  replace hB := zBI.born (i := 3) (a' := 4) (b' := 200) hB (by omega) (by omega) hkτ110 hnτ110 hbτ110 ef111 eg112 (by decide) (by decide) (by decide)
  clear eg112 hkτ110 hnτ110 hbτ110
  replace hAd : ∀ i, i ≤ 0 → τ110.1 i = τ.1 i := fun i h => by rw [haτ110 i (by omega)]; exact hAd i h
  clear haτ110
  replace hV := hV.born ef111 (by omega)
  clear ef111
  replace hB := zBI.sw 3 hB (by decide +kernel)
  refine W.widen (k := 3) (n := 406) (by decide) (by decide) ?_
  refine lv_dup hx hb dX11_init_19 rfl ?_
  have hznn := hz.1.2.2.2.2.2.1 _ (List.mem_of_getElem? (i := 1) rfl)
  refine va_callv (va_runIN (host := RX11) (As := []) (rest := [.ref (τ110.1 3), .ref (τ110.1 0)]) ⟨hx, hb, hml, hown, hts⟩ (i_Book l hl0 D A sad τ110 f111 g112 ol hB) ⟨va_cnB (host := RX11) (y := yX0_init) 0 hts gX11_init_X0_init_n18 rfl rfl rfl hznn hw13 (by decide +kernel) ⟨Nat.le_of_ble_eq_true rfl, Nat.le_of_ble_eq_true rfl⟩, rfl, hw14⟩ ⟨zQc_bl, zQc_at hz hS hA hH⟩ rfl rfl hl.1 rfl (lv_room (Nat.le_of_ble_eq_true rfl)) dX11_init_20 ⟨Nat.le_of_ble_eq_true rfl, Nat.le_of_ble_eq_true rfl⟩) hS (fun q _ h => h) (fun q h => h) (fun u9 t9 H1 locs ht9 hvm9 hw hB hz1 hk1 hS => ?_)
  obtain ⟨τ114, f115, g116⟩ := u9
  replace hH := zMv ht9 hvm9 hB
  clear hB
  simp only at hw hH
  generalize H1 = H at hH hS ⊢
  refine W.widen (k := 4) (n := 436) (by decide) (by decide) ?_
  obtain ⟨hB, ha8, hV8⟩ := hw
  rw [show τ110.1 0 = τ114.1 0 from (ha8 0 (by omega)).symm] at hl
  refine W.eq (g2 := F0 m 23 ls [.ref (τ114.1 3), .ref (τ114.1 0)]) (by rw [ha8 0 (by omega), ha8 3 (by omega)]) ?_
  replace hV := hV.call hV8 (by omega)
  replace hAd : ∀ i, i ≤ 0 → τ114.1 i = τ.1 i := fun i h => by rw [ha8 i (by omega)]; exact hAd i h
  refine zPutFR (D := D) (ci := 11) (ty := .object "PostHouse$Book") (C := RX11) (T := TX11) (N := 16) hx hb hts hiX11 tyX11 tyX11_ok nmX11 hown hH hS ((hB.1 0 (by omega)).1.trans (by decide : zkt 0 = 27)) rfl 1 (by decide) rfl hw15 (fun _ h9 => h9) rfl hin rfl (by rw [((hB.1 3 (by omega)).1.trans (by decide : zkt 3 = 16))]; decide)  (by decide +kernel) rfl rfl dX11_init_23 (fun H locs hH hS => ?_)
  obtain ⟨g117, eg117⟩ : ∃ f9 : zFr, f9 = zur g116 0 1 (some 3) := ⟨_, rfl⟩
  rw [← eg117] at hH
  replace hB := zBI.ref0 hB eg117 (by omega) (by decide +kernel)
  clear eg117
  refine lv_aload_n hx hb dX11_init_26 rfl (lv_at hl 0 rfl) ?_
  refine zNew (D := D) (fs := [.null, .null, .null, .int 0]) (ci := 1) (C := RX1) (T := TX1) (N := 4) hx hb hts hiX1 tyX1 tyX1_ok hown hw17 hw18 hw19 hH hS hA rfl 5 (hB.2.1 5 (by omega)).1 (fun _ => rfl) (by decide) (Nat.le_of_ble_eq_true rfl) (Nat.le_of_ble_eq_true rfl) dX11_init_27 (fun q9 c9 H hH8 hS => ?_)
  obtain ⟨τ119, eτ119⟩ : ∃ t9 : zTy, t9 = (va_up τ114.1 5 q9, va_up τ114.2.1 5 c9, va_up τ114.2.2.1 5 17, va_up τ114.2.2.2 5 0) := ⟨_, rfl⟩
  obtain ⟨f120, ef120⟩ : ∃ f9 : zFi, f9 = va_up f115 5 (fun _ => 0) := ⟨_, rfl⟩
  obtain ⟨g121, eg121⟩ : ∃ f9 : zFr, f9 = va_up g117 5 (fun _ => none) := ⟨_, rfl⟩
  replace hH : zH D A τ119 f120 g121 ol s H := by rw [eτ119, ef120, eg121]; exact hH8
  clear hH8
  have hqτ119 : τ119.1 5 = q9 := by rw [eτ119]; exact va_up_self τ114.1 5 q9
  have haτ119 : ∀ i, i ≠ 5 → τ119.1 i = τ114.1 i := fun i h => by rw [eτ119]; exact va_up_ne _ _ h
  have hkτ119 : τ119.2.2.1 5 = 17 := by rw [eτ119]; exact va_up_self τ114.2.2.1 5 17
  have hnτ119 : τ119.2.2.2 5 = 0 := by rw [eτ119]; exact va_up_self τ114.2.2.2 5 0
  have hbτ119 : ∀ i, i ≠ 5 → τ119.2.2.1 i = τ114.2.2.1 i ∧ τ119.2.2.2 i = τ114.2.2.2 i := fun i h => by rw [eτ119]; exact ⟨va_up_ne _ _ h, va_up_ne _ _ h⟩
  clear eτ119
  subst hqτ119
  rw [show τ114.1 0 = τ119.1 0 from (haτ119 0 (by omega)).symm] at hl
  refine W.eq (g2 := F0 m 30 ls [.ref (τ119.1 5), .ref (τ119.1 0)]) (by rw [haτ119 0 (by omega)]) ?_
  replace hB := zBI.born (i := 5) (a' := 6) (b' := 200) hB (by omega) (by omega) hkτ119 hnτ119 hbτ119 ef120 eg121 (by decide) (by decide) (by decide)
  clear eg121 hkτ119 hnτ119 hbτ119
  replace hAd : ∀ i, i ≤ 0 → τ119.1 i = τ.1 i := fun i h => by rw [haτ119 i (by omega)]; exact hAd i h
  clear haτ119
  replace hV := hV.born ef120 (by omega)
  clear ef120
  replace hB := zBI.sw 5 hB (by decide +kernel)
  refine W.widen (k := 5) (n := 440) (by decide) (by decide) ?_
  refine lv_dup hx hb dX11_init_30 rfl ?_
  have hznn := hz.1.2.2.2.2.2.1 _ (List.mem_of_getElem? (i := 2) rfl)
  refine va_callv (va_runIN (host := RX11) (As := []) (rest := [.ref (τ119.1 5), .ref (τ119.1 0)]) ⟨hx, hb, hml, hown, hts⟩ (i_Com l hl0 D A sad τ119 f120 g121 ol hB) ⟨va_cnB (host := RX11) (y := yX1_init) 0 hts gX11_init_X1_init_n25 rfl rfl rfl hznn hw19 (by decide +kernel) ⟨Nat.le_of_ble_eq_true rfl, Nat.le_of_ble_eq_true rfl⟩, rfl, hw20⟩ ⟨zQc_bl, zQc_at hz hS hA hH⟩ rfl rfl hl.1 rfl (lv_room (Nat.le_of_ble_eq_true rfl)) dX11_init_31 ⟨Nat.le_of_ble_eq_true rfl, Nat.le_of_ble_eq_true rfl⟩) hS (fun q _ h => h) (fun q h => h) (fun u9 t9 H1 locs ht9 hvm9 hw hB hz1 hk1 hS => ?_)
  obtain ⟨τ123, f124, g125⟩ := u9
  replace hH := zMv ht9 hvm9 hB
  clear hB
  simp only at hw hH
  generalize H1 = H at hH hS ⊢
  refine W.widen (k := 8) (n := 620) (by decide) (by decide) ?_
  obtain ⟨hB, ha8, hV8⟩ := hw
  rw [show τ119.1 0 = τ123.1 0 from (ha8 0 (by omega)).symm] at hl
  refine W.eq (g2 := F0 m 34 ls [.ref (τ123.1 5), .ref (τ123.1 0)]) (by rw [ha8 0 (by omega), ha8 5 (by omega)]) ?_
  replace hV := hV.call hV8 (by omega)
  replace hAd : ∀ i, i ≤ 0 → τ123.1 i = τ.1 i := fun i h => by rw [ha8 i (by omega)]; exact hAd i h
  refine zPutFR (D := D) (ci := 11) (ty := .object "PostHouse$Comings") (C := RX11) (T := TX11) (N := 16) hx hb hts hiX11 tyX11 tyX11_ok nmX11 hown hH hS ((hB.1 0 (by omega)).1.trans (by decide : zkt 0 = 27)) rfl 2 (by decide) rfl hw21 (fun _ h9 => h9) rfl hin rfl (by rw [((hB.1 5 (by omega)).1.trans (by decide : zkt 5 = 17))]; decide)  (by decide +kernel) rfl rfl dX11_init_34 (fun H locs hH hS => ?_)
  obtain ⟨g126, eg126⟩ : ∃ f9 : zFr, f9 = zur g125 0 2 (some 5) := ⟨_, rfl⟩
  rw [← eg126] at hH
  replace hB := zBI.ref0 hB eg126 (by omega) (by decide +kernel)
  clear eg126
  refine lv_aload_n hx hb dX11_init_37 rfl (lv_at hl 0 rfl) ?_
  refine zNew (D := D) (fs := [.null, .null]) (ci := 5) (C := RX5) (T := TX5) (N := 2) hx hb hts hiX5 tyX5 tyX5_ok hown hw23 hw24 hw25 hH hS hA rfl 9 (hB.2.1 9 (by omega)).1 (fun _ => rfl) (by decide) (Nat.le_of_ble_eq_true rfl) (Nat.le_of_ble_eq_true rfl) dX11_init_38 (fun q9 c9 H hH8 hS => ?_)
  obtain ⟨τ128, eτ128⟩ : ∃ t9 : zTy, t9 = (va_up τ123.1 9 q9, va_up τ123.2.1 9 c9, va_up τ123.2.2.1 9 21, va_up τ123.2.2.2 9 0) := ⟨_, rfl⟩
  obtain ⟨f129, ef129⟩ : ∃ f9 : zFi, f9 = va_up f124 9 (fun _ => 0) := ⟨_, rfl⟩
  obtain ⟨g130, eg130⟩ : ∃ f9 : zFr, f9 = va_up g126 9 (fun _ => none) := ⟨_, rfl⟩
  replace hH : zH D A τ128 f129 g130 ol s H := by rw [eτ128, ef129, eg130]; exact hH8
  clear hH8
  have hqτ128 : τ128.1 9 = q9 := by rw [eτ128]; exact va_up_self τ123.1 9 q9
  have haτ128 : ∀ i, i ≠ 9 → τ128.1 i = τ123.1 i := fun i h => by rw [eτ128]; exact va_up_ne _ _ h
  have hkτ128 : τ128.2.2.1 9 = 21 := by rw [eτ128]; exact va_up_self τ123.2.2.1 9 21
  have hnτ128 : τ128.2.2.2 9 = 0 := by rw [eτ128]; exact va_up_self τ123.2.2.2 9 0
  have hbτ128 : ∀ i, i ≠ 9 → τ128.2.2.1 i = τ123.2.2.1 i ∧ τ128.2.2.2 i = τ123.2.2.2 i := fun i h => by rw [eτ128]; exact ⟨va_up_ne _ _ h, va_up_ne _ _ h⟩
  clear eτ128
  subst hqτ128
  rw [show τ123.1 0 = τ128.1 0 from (haτ128 0 (by omega)).symm] at hl
  refine W.eq (g2 := F0 m 41 ls [.ref (τ128.1 9), .ref (τ128.1 0)]) (by rw [haτ128 0 (by omega)]) ?_
  replace hB := zBI.born (i := 9) (a' := 10) (b' := 200) hB (by omega) (by omega) hkτ128 hnτ128 hbτ128 ef129 eg130 (by decide) (by decide) (by decide)
  clear eg130 hkτ128 hnτ128 hbτ128
  replace hAd : ∀ i, i ≤ 0 → τ128.1 i = τ.1 i := fun i h => by rw [haτ128 i (by omega)]; exact hAd i h
  clear haτ128
  replace hV := hV.born ef129 (by omega)
  clear ef129
  replace hB := zBI.sw 9 hB (by decide +kernel)
  refine W.widen (k := 9) (n := 622) (by decide) (by decide) ?_
  refine lv_dup hx hb dX11_init_41 rfl ?_
  refine va_callv (va_runI (As := []) (rest := [.ref (τ128.1 9), .ref (τ128.1 0)]) ⟨hx, hb, hml, hown, hts⟩ (i_Rul1 l hl0 D A sad τ128 f129 g130 ol hB) (cwI 0 hts gX11_init_X5_init rfl rfl rfl hw25 hw26 hw27 rfl (by decide +kernel) ⟨Nat.le_of_ble_eq_true rfl, Nat.le_of_ble_eq_true rfl⟩) ⟨zQc_bl, zQc_at hz hS hA hH⟩ rfl rfl hl.1 rfl (lv_room (Nat.le_of_ble_eq_true rfl)) dX11_init_42 ⟨Nat.le_of_ble_eq_true rfl, Nat.le_of_ble_eq_true rfl⟩) hS (fun q _ h => h) (fun q h => h) (fun u9 t9 H1 locs ht9 hvm9 hw hB hz1 hk1 hS => ?_)
  obtain ⟨τ132, f133, g134⟩ := u9
  replace hH := zMv ht9 hvm9 hB
  clear hB
  simp only at hw hH
  generalize H1 = H at hH hS ⊢
  refine W.widen (k := 11) (n := 656) (by decide) (by decide) ?_
  obtain ⟨hB, ha8, hV8, hRv⟩ := hw
  rw [show τ128.1 0 = τ132.1 0 from (ha8 0 (by omega)).symm] at hl
  refine W.eq (g2 := F0 m 45 ls [.ref (τ132.1 9), .ref (τ132.1 0)]) (by rw [ha8 0 (by omega), ha8 9 (by omega)]) ?_
  replace hV := hV.call hV8 (by omega)
  replace hAd : ∀ i, i ≤ 0 → τ132.1 i = τ.1 i := fun i h => by rw [ha8 i (by omega)]; exact hAd i h
  refine zPutFR (D := D) (ci := 11) (ty := .object "PostHouse$Rules") (C := RX11) (T := TX11) (N := 16) hx hb hts hiX11 tyX11 tyX11_ok nmX11 hown hH hS ((hB.1 0 (by omega)).1.trans (by decide : zkt 0 = 27)) rfl 3 (by decide) rfl hw28 (fun _ h9 => h9) rfl hin rfl (by rw [((hB.1 9 (by omega)).1.trans (by decide : zkt 9 = 21))]; decide)  (by decide +kernel) rfl rfl dX11_init_45 (fun H locs hH hS => ?_)
  obtain ⟨g135, eg135⟩ : ∃ f9 : zFr, f9 = zur g134 0 3 (some 9) := ⟨_, rfl⟩
  rw [← eg135] at hH
  replace hB := zBI.ref0 hB eg135 (by omega) (by decide +kernel)
  clear eg135
  refine lv_aload_n hx hb dX11_init_48 rfl (lv_at hl 0 rfl) ?_
  refine zNew (D := D) (fs := [.null, .null]) (ci := 5) (C := RX5) (T := TX5) (N := 2) hx hb hts hiX5 tyX5 tyX5_ok hown hw23 hw24 hw25 hH hS hA rfl 12 (hB.2.1 12 (by omega)).1 (fun _ => rfl) (by decide) (Nat.le_of_ble_eq_true rfl) (Nat.le_of_ble_eq_true rfl) dX11_init_49 (fun q9 c9 H hH8 hS => ?_)
  obtain ⟨τ137, eτ137⟩ : ∃ t9 : zTy, t9 = (va_up τ132.1 12 q9, va_up τ132.2.1 12 c9, va_up τ132.2.2.1 12 21, va_up τ132.2.2.2 12 0) := ⟨_, rfl⟩
  obtain ⟨f138, ef138⟩ : ∃ f9 : zFi, f9 = va_up f133 12 (fun _ => 0) := ⟨_, rfl⟩
  obtain ⟨g139, eg139⟩ : ∃ f9 : zFr, f9 = va_up g135 12 (fun _ => none) := ⟨_, rfl⟩
  replace hH : zH D A τ137 f138 g139 ol s H := by rw [eτ137, ef138, eg139]; exact hH8
  clear hH8
  have hqτ137 : τ137.1 12 = q9 := by rw [eτ137]; exact va_up_self τ132.1 12 q9
  have haτ137 : ∀ i, i ≠ 12 → τ137.1 i = τ132.1 i := fun i h => by rw [eτ137]; exact va_up_ne _ _ h
  have hkτ137 : τ137.2.2.1 12 = 21 := by rw [eτ137]; exact va_up_self τ132.2.2.1 12 21
  have hnτ137 : τ137.2.2.2 12 = 0 := by rw [eτ137]; exact va_up_self τ132.2.2.2 12 0
  have hbτ137 : ∀ i, i ≠ 12 → τ137.2.2.1 i = τ132.2.2.1 i ∧ τ137.2.2.2 i = τ132.2.2.2 i := fun i h => by rw [eτ137]; exact ⟨va_up_ne _ _ h, va_up_ne _ _ h⟩
  clear eτ137
  subst hqτ137
  rw [show τ132.1 0 = τ137.1 0 from (haτ137 0 (by omega)).symm] at hl
  refine W.eq (g2 := F0 m 52 ls [.ref (τ137.1 12), .ref (τ137.1 0)]) (by rw [haτ137 0 (by omega)]) ?_
  replace hB := zBI.born (i := 12) (a' := 13) (b' := 200) hB (by omega) (by omega) hkτ137 hnτ137 hbτ137 ef138 eg139 (by decide) (by decide) (by decide)
  clear eg139 hkτ137 hnτ137 hbτ137
  replace hAd : ∀ i, i ≤ 0 → τ137.1 i = τ.1 i := fun i h => by rw [haτ137 i (by omega)]; exact hAd i h
  clear haτ137
  replace hV := hV.born ef138 (by omega)
  have hRv := hRv.cg (f' := f138) (fun i k h => by rw [ef138, va_up_ne _ _ (by omega)])
  clear ef138
  replace hB := zBI.sw 12 hB (by decide +kernel)
  refine W.widen (k := 12) (n := 658) (by decide) (by decide) ?_
  refine lv_dup hx hb dX11_init_52 rfl ?_
  refine va_callv (va_runI (As := []) (rest := [.ref (τ137.1 12), .ref (τ137.1 0)]) ⟨hx, hb, hml, hown, hts⟩ (i_Rul2 l hl0 D A sad τ137 f138 g139 ol hB) (cwI 0 hts gX11_init_X5_init rfl rfl rfl hw25 hw26 hw27 rfl (by decide +kernel) ⟨Nat.le_of_ble_eq_true rfl, Nat.le_of_ble_eq_true rfl⟩) ⟨zQc_bl, zQc_at hz hS hA hH⟩ rfl rfl hl.1 rfl (lv_room (Nat.le_of_ble_eq_true rfl)) dX11_init_53 ⟨Nat.le_of_ble_eq_true rfl, Nat.le_of_ble_eq_true rfl⟩) hS (fun q _ h => h) (fun q h => h) (fun u9 t9 H1 locs ht9 hvm9 hw hB hz1 hk1 hS => ?_)
  obtain ⟨τ141, f142, g143⟩ := u9
  replace hH := zMv ht9 hvm9 hB
  clear hB
  simp only at hw hH
  generalize H1 = H at hH hS ⊢
  refine W.widen (k := 14) (n := 692) (by decide) (by decide) ?_
  obtain ⟨hB, ha8, hV8, -⟩ := hw
  rw [show τ137.1 0 = τ141.1 0 from (ha8 0 (by omega)).symm] at hl
  refine W.eq (g2 := F0 m 56 ls [.ref (τ141.1 12), .ref (τ141.1 0)]) (by rw [ha8 0 (by omega), ha8 12 (by omega)]) ?_
  replace hV := hV.call hV8 (by omega)
  have hRv := hRv.cg (f' := f142) (fun i k h => hV8 _ _ (by omega))
  replace hAd : ∀ i, i ≤ 0 → τ141.1 i = τ.1 i := fun i h => by rw [ha8 i (by omega)]; exact hAd i h
  refine zPutFR (D := D) (ci := 11) (ty := .object "PostHouse$Rules") (C := RX11) (T := TX11) (N := 16) hx hb hts hiX11 tyX11 tyX11_ok nmX11 hown hH hS ((hB.1 0 (by omega)).1.trans (by decide : zkt 0 = 27)) rfl 4 (by decide) rfl hw29 (fun _ h9 => h9) rfl hin rfl (by rw [((hB.1 12 (by omega)).1.trans (by decide : zkt 12 = 21))]; decide)  (by decide +kernel) rfl rfl dX11_init_56 (fun H locs hH hS => ?_)
  obtain ⟨g144, eg144⟩ : ∃ f9 : zFr, f9 = zur g143 0 4 (some 12) := ⟨_, rfl⟩
  rw [← eg144] at hH
  replace hB := zBI.ref0 hB eg144 (by omega) (by decide +kernel)
  clear eg144
  refine lv_aload_n hx hb dX11_init_59 rfl (lv_at hl 0 rfl) ?_
  refine lv_sipush (v := nI 512) hx hb dX11_init_60 (by decide) ?_
  refine zNewq (D := D) (C := RX2) (t := 5) (N' := 512) hx hb hown hw30 (hz.1.2.2.2.2.2.2.1 _ (List.mem_of_getElem? (i := 0) rfl)) rfl (by decide) (by decide) hH hS hA 15 (hB.2.1 15 (by omega)).1 (by decide) (by decide) (by decide) (Nat.le_of_ble_eq_true rfl) (Nat.le_of_ble_eq_true rfl) dX11_init_63 (fun q9 c9 H hH8 hS => ?_)
  obtain ⟨τ146, eτ146⟩ : ∃ t9 : zTy, t9 = (va_up τ141.1 15 q9, va_up τ141.2.1 15 c9, va_up τ141.2.2.1 15 5, va_up τ141.2.2.2 15 512) := ⟨_, rfl⟩
  obtain ⟨f147, ef147⟩ : ∃ f9 : zFi, f9 = va_up f142 15 (fun _ => 0) := ⟨_, rfl⟩
  obtain ⟨g148, eg148⟩ : ∃ f9 : zFr, f9 = va_up g144 15 (fun _ => none) := ⟨_, rfl⟩
  replace hH : zH D A τ146 f147 g148 ol s H := by rw [eτ146, ef147, eg148]; exact hH8
  clear hH8
  have hqτ146 : τ146.1 15 = q9 := by rw [eτ146]; exact va_up_self τ141.1 15 q9
  have haτ146 : ∀ i, i ≠ 15 → τ146.1 i = τ141.1 i := fun i h => by rw [eτ146]; exact va_up_ne _ _ h
  have hkτ146 : τ146.2.2.1 15 = 5 := by rw [eτ146]; exact va_up_self τ141.2.2.1 15 5
  have hnτ146 : τ146.2.2.2 15 = 512 := by rw [eτ146]; exact va_up_self τ141.2.2.2 15 512
  have hbτ146 : ∀ i, i ≠ 15 → τ146.2.2.1 i = τ141.2.2.1 i ∧ τ146.2.2.2 i = τ141.2.2.2 i := fun i h => by rw [eτ146]; exact ⟨va_up_ne _ _ h, va_up_ne _ _ h⟩
  clear eτ146
  subst hqτ146
  rw [show τ141.1 0 = τ146.1 0 from (haτ146 0 (by omega)).symm] at hl
  refine W.eq (g2 := F0 m 66 ls [.ref (τ146.1 15), .ref (τ146.1 0)]) (by rw [haτ146 0 (by omega)]) ?_
  replace hB := zBI.born (i := 15) (a' := 16) (b' := 200) hB (by omega) (by omega) hkτ146 hnτ146 hbτ146 ef147 eg148 (by decide) (by decide) (by decide)
  clear eg148 hkτ146 hnτ146 hbτ146
  replace hAd : ∀ i, i ≤ 0 → τ146.1 i = τ.1 i := fun i h => by rw [haτ146 i (by omega)]; exact hAd i h
  clear haτ146
  replace hV := hV.born ef147 (by omega)
  have hRv := hRv.cg (f' := f147) (fun i k h => by rw [ef147, va_up_ne _ _ (by omega)])
  clear ef147
  refine W.widen (k := 15) (n := 1204) (by decide) (by decide) ?_
  refine zPutFR (D := D) (ci := 11) (ty := .array (.object "PostHouse$Letter")) (C := RX11) (T := TX11) (N := 16) hx hb hts hiX11 tyX11 tyX11_ok nmX11 hown hH hS ((hB.1 0 (by omega)).1.trans (by decide : zkt 0 = 27)) rfl 5 (by decide) rfl hw31 (fun _ h9 => h9) rfl hin rfl (by rw [((hB.1 15 (by omega)).1.trans (by decide : zkt 15 = 5))]; decide)  (by decide +kernel) rfl rfl dX11_init_66 (fun H locs hH hS => ?_)
  obtain ⟨g149, eg149⟩ : ∃ f9 : zFr, f9 = zur g148 0 5 (some 15) := ⟨_, rfl⟩
  rw [← eg149] at hH
  replace hB := zBI.ref0 hB eg149 (by omega) (by decide +kernel)
  clear eg149
  refine lv_aload_n hx hb dX11_init_69 rfl (lv_at hl 0 rfl) ?_
  refine lv_bipush (v := nI 60) hx hb dX11_init_70 (by decide) ?_
  refine zNewq (D := D) (C := RX3) (t := 6) (N' := 60) hx hb hown hw32 (hz.1.2.2.2.2.2.2.1 _ (List.mem_of_getElem? (i := 1) rfl)) rfl (by decide) (by decide) hH hS hA 16 (hB.2.1 16 (by omega)).1 (by decide) (by decide) (by decide) (Nat.le_of_ble_eq_true rfl) (Nat.le_of_ble_eq_true rfl) dX11_init_72 (fun q9 c9 H hH8 hS => ?_)
  obtain ⟨τ151, eτ151⟩ : ∃ t9 : zTy, t9 = (va_up τ146.1 16 q9, va_up τ146.2.1 16 c9, va_up τ146.2.2.1 16 6, va_up τ146.2.2.2 16 60) := ⟨_, rfl⟩
  obtain ⟨f152, ef152⟩ : ∃ f9 : zFi, f9 = va_up f147 16 (fun _ => 0) := ⟨_, rfl⟩
  obtain ⟨g153, eg153⟩ : ∃ f9 : zFr, f9 = va_up g149 16 (fun _ => none) := ⟨_, rfl⟩
  replace hH : zH D A τ151 f152 g153 ol s H := by rw [eτ151, ef152, eg153]; exact hH8
  clear hH8
  have hqτ151 : τ151.1 16 = q9 := by rw [eτ151]; exact va_up_self τ146.1 16 q9
  have haτ151 : ∀ i, i ≠ 16 → τ151.1 i = τ146.1 i := fun i h => by rw [eτ151]; exact va_up_ne _ _ h
  have hkτ151 : τ151.2.2.1 16 = 6 := by rw [eτ151]; exact va_up_self τ146.2.2.1 16 6
  have hnτ151 : τ151.2.2.2 16 = 60 := by rw [eτ151]; exact va_up_self τ146.2.2.2 16 60
  have hbτ151 : ∀ i, i ≠ 16 → τ151.2.2.1 i = τ146.2.2.1 i ∧ τ151.2.2.2 i = τ146.2.2.2 i := fun i h => by rw [eτ151]; exact ⟨va_up_ne _ _ h, va_up_ne _ _ h⟩
  clear eτ151
  subst hqτ151
  rw [show τ146.1 0 = τ151.1 0 from (haτ151 0 (by omega)).symm] at hl
  refine W.eq (g2 := F0 m 75 ls [.ref (τ151.1 16), .ref (τ151.1 0)]) (by rw [haτ151 0 (by omega)]) ?_
  replace hB := zBI.born (i := 16) (a' := 17) (b' := 200) hB (by omega) (by omega) hkτ151 hnτ151 hbτ151 ef152 eg153 (by decide) (by decide) (by decide)
  clear eg153 hkτ151 hnτ151 hbτ151
  replace hAd : ∀ i, i ≤ 0 → τ151.1 i = τ.1 i := fun i h => by rw [haτ151 i (by omega)]; exact hAd i h
  clear haτ151
  replace hV := hV.born ef152 (by omega)
  have hRv := hRv.cg (f' := f152) (fun i k h => by rw [ef152, va_up_ne _ _ (by omega)])
  clear ef152
  refine W.widen (k := 16) (n := 1264) (by decide) (by decide) ?_
  refine zPutFR (D := D) (ci := 11) (ty := .array (.object "PostHouse$Order")) (C := RX11) (T := TX11) (N := 16) hx hb hts hiX11 tyX11 tyX11_ok nmX11 hown hH hS ((hB.1 0 (by omega)).1.trans (by decide : zkt 0 = 27)) rfl 6 (by decide) rfl hw33 (fun _ h9 => h9) rfl hin rfl (by rw [((hB.1 16 (by omega)).1.trans (by decide : zkt 16 = 6))]; decide)  (by decide +kernel) rfl rfl dX11_init_75 (fun H locs hH hS => ?_)
  obtain ⟨g154, eg154⟩ : ∃ f9 : zFr, f9 = zur g153 0 6 (some 16) := ⟨_, rfl⟩
  rw [← eg154] at hH
  replace hB := zBI.ref0 hB eg154 (by omega) (by decide +kernel)
  clear eg154
  refine lv_aload_n hx hb dX11_init_78 rfl (lv_at hl 0 rfl) ?_
  refine lv_sipush (v := nI 300) hx hb dX11_init_79 (by decide) ?_
  refine zNewq (D := D) (C := RX6) (t := 7) (N' := 300) hx hb hown hw34 (hz.1.2.2.2.2.2.2.1 _ (List.mem_of_getElem? (i := 2) rfl)) rfl (by decide) (by decide) hH hS hA 17 (hB.2.1 17 (by omega)).1 (by decide) (by decide) (by decide) (Nat.le_of_ble_eq_true rfl) (Nat.le_of_ble_eq_true rfl) dX11_init_82 (fun q9 c9 H hH8 hS => ?_)
  obtain ⟨τ156, eτ156⟩ : ∃ t9 : zTy, t9 = (va_up τ151.1 17 q9, va_up τ151.2.1 17 c9, va_up τ151.2.2.1 17 7, va_up τ151.2.2.2 17 300) := ⟨_, rfl⟩
  obtain ⟨f157, ef157⟩ : ∃ f9 : zFi, f9 = va_up f152 17 (fun _ => 0) := ⟨_, rfl⟩
  obtain ⟨g158, eg158⟩ : ∃ f9 : zFr, f9 = va_up g154 17 (fun _ => none) := ⟨_, rfl⟩
  replace hH : zH D A τ156 f157 g158 ol s H := by rw [eτ156, ef157, eg158]; exact hH8
  clear hH8
  have hqτ156 : τ156.1 17 = q9 := by rw [eτ156]; exact va_up_self τ151.1 17 q9
  have haτ156 : ∀ i, i ≠ 17 → τ156.1 i = τ151.1 i := fun i h => by rw [eτ156]; exact va_up_ne _ _ h
  have hkτ156 : τ156.2.2.1 17 = 7 := by rw [eτ156]; exact va_up_self τ151.2.2.1 17 7
  have hnτ156 : τ156.2.2.2 17 = 300 := by rw [eτ156]; exact va_up_self τ151.2.2.2 17 300
  have hbτ156 : ∀ i, i ≠ 17 → τ156.2.2.1 i = τ151.2.2.1 i ∧ τ156.2.2.2 i = τ151.2.2.2 i := fun i h => by rw [eτ156]; exact ⟨va_up_ne _ _ h, va_up_ne _ _ h⟩
  clear eτ156
  subst hqτ156
  rw [show τ151.1 0 = τ156.1 0 from (haτ156 0 (by omega)).symm] at hl
  refine W.eq (g2 := F0 m 85 ls [.ref (τ156.1 17), .ref (τ156.1 0)]) (by rw [haτ156 0 (by omega)]) ?_
  replace hB := zBI.born (i := 17) (a' := 18) (b' := 200) hB (by omega) (by omega) hkτ156 hnτ156 hbτ156 ef157 eg158 (by decide) (by decide) (by decide)
  clear eg158 hkτ156 hnτ156 hbτ156
  replace hAd : ∀ i, i ≤ 0 → τ156.1 i = τ.1 i := fun i h => by rw [haτ156 i (by omega)]; exact hAd i h
  clear haτ156
  replace hV := hV.born ef157 (by omega)
  have hRv := hRv.cg (f' := f157) (fun i k h => by rw [ef157, va_up_ne _ _ (by omega)])
  clear ef157
  refine W.widen (k := 17) (n := 1564) (by decide) (by decide) ?_
  refine zPutFR (D := D) (ci := 11) (ty := .array (.object "PostHouse$Sending")) (C := RX11) (T := TX11) (N := 16) hx hb hts hiX11 tyX11 tyX11_ok nmX11 hown hH hS ((hB.1 0 (by omega)).1.trans (by decide : zkt 0 = 27)) rfl 7 (by decide) rfl hw35 (fun _ h9 => h9) rfl hin rfl (by rw [((hB.1 17 (by omega)).1.trans (by decide : zkt 17 = 7))]; decide)  (by decide +kernel) rfl rfl dX11_init_85 (fun H locs hH hS => ?_)
  obtain ⟨g159, eg159⟩ : ∃ f9 : zFr, f9 = zur g158 0 7 (some 17) := ⟨_, rfl⟩
  rw [← eg159] at hH
  replace hB := zBI.ref0 hB eg159 (by omega) (by decide +kernel)
  clear eg159
  refine lv_aload_n hx hb dX11_init_88 rfl (lv_at hl 0 rfl) ?_
  refine zNew (D := D) (fs := [.null, .null, .null, .int 0, .int 0]) (ci := 4) (C := RX4) (T := TX4) (N := 5) hx hb hts hiX4 tyX4 tyX4_ok hown hw37 hw38 hw39 hH hS hA rfl 18 (hB.2.1 18 (by omega)).1 (fun _ => rfl) (by decide) (Nat.le_of_ble_eq_true rfl) (Nat.le_of_ble_eq_true rfl) dX11_init_89 (fun q9 c9 H hH8 hS => ?_)
  obtain ⟨τ161, eτ161⟩ : ∃ t9 : zTy, t9 = (va_up τ156.1 18 q9, va_up τ156.2.1 18 c9, va_up τ156.2.2.1 18 20, va_up τ156.2.2.2 18 0) := ⟨_, rfl⟩
  obtain ⟨f162, ef162⟩ : ∃ f9 : zFi, f9 = va_up f157 18 (fun _ => 0) := ⟨_, rfl⟩
  obtain ⟨g163, eg163⟩ : ∃ f9 : zFr, f9 = va_up g159 18 (fun _ => none) := ⟨_, rfl⟩
  replace hH : zH D A τ161 f162 g163 ol s H := by rw [eτ161, ef162, eg163]; exact hH8
  clear hH8
  have hqτ161 : τ161.1 18 = q9 := by rw [eτ161]; exact va_up_self τ156.1 18 q9
  have haτ161 : ∀ i, i ≠ 18 → τ161.1 i = τ156.1 i := fun i h => by rw [eτ161]; exact va_up_ne _ _ h
  have hkτ161 : τ161.2.2.1 18 = 20 := by rw [eτ161]; exact va_up_self τ156.2.2.1 18 20
  have hnτ161 : τ161.2.2.2 18 = 0 := by rw [eτ161]; exact va_up_self τ156.2.2.2 18 0
  have hbτ161 : ∀ i, i ≠ 18 → τ161.2.2.1 i = τ156.2.2.1 i ∧ τ161.2.2.2 i = τ156.2.2.2 i := fun i h => by rw [eτ161]; exact ⟨va_up_ne _ _ h, va_up_ne _ _ h⟩
  clear eτ161
  subst hqτ161
  rw [show τ156.1 0 = τ161.1 0 from (haτ161 0 (by omega)).symm] at hl
  refine W.eq (g2 := F0 m 92 ls [.ref (τ161.1 18), .ref (τ161.1 0)]) (by rw [haτ161 0 (by omega)]) ?_
  replace hB := zBI.born (i := 18) (a' := 19) (b' := 200) hB (by omega) (by omega) hkτ161 hnτ161 hbτ161 ef162 eg163 (by decide) (by decide) (by decide)
  clear eg163 hkτ161 hnτ161 hbτ161
  replace hAd : ∀ i, i ≤ 0 → τ161.1 i = τ.1 i := fun i h => by rw [haτ161 i (by omega)]; exact hAd i h
  clear haτ161
  replace hV := hV.born ef162 (by omega)
  have hRv := hRv.cg (f' := f162) (fun i k h => by rw [ef162, va_up_ne _ _ (by omega)])
  clear ef162
  replace hB := zBI.sw 18 hB (by decide +kernel)
  refine W.widen (k := 18) (n := 1569) (by decide) (by decide) ?_
  refine lv_dup hx hb dX11_init_92 rfl ?_
  have hznn := hz.1.2.2.2.2.2.1 _ (List.mem_of_getElem? (i := 3) rfl)
  refine va_callv (va_runIN (host := RX11) (As := []) (rest := [.ref (τ161.1 18), .ref (τ161.1 0)]) ⟨hx, hb, hml, hown, hts⟩ (i_Pack l hl0 D A sad τ161 f162 g163 ol hB) ⟨va_cnB (host := RX11) (y := yX4_init) 0 hts gX11_init_X4_init_n60 rfl rfl rfl hznn hw39 (by decide +kernel) ⟨Nat.le_of_ble_eq_true rfl, Nat.le_of_ble_eq_true rfl⟩, rfl, hw40⟩ ⟨zQc_bl, zQc_at hz hS hA hH⟩ rfl rfl hl.1 rfl (lv_room (Nat.le_of_ble_eq_true rfl)) dX11_init_93 ⟨Nat.le_of_ble_eq_true rfl, Nat.le_of_ble_eq_true rfl⟩) hS (fun q _ h => h) (fun q h => h) (fun u9 t9 H1 locs ht9 hvm9 hw hB hz1 hk1 hS => ?_)
  obtain ⟨τ165, f166, g167⟩ := u9
  replace hH := zMv ht9 hvm9 hB
  clear hB
  simp only at hw hH
  generalize H1 = H at hH hS ⊢
  refine W.widen (k := 21) (n := 2393) (by decide) (by decide) ?_
  obtain ⟨hB, ha8, hV8⟩ := hw
  rw [show τ161.1 0 = τ165.1 0 from (ha8 0 (by omega)).symm] at hl
  refine W.eq (g2 := F0 m 96 ls [.ref (τ165.1 18), .ref (τ165.1 0)]) (by rw [ha8 0 (by omega), ha8 18 (by omega)]) ?_
  replace hV := hV.call hV8 (by omega)
  have hRv := hRv.cg (f' := f166) (fun i k h => hV8 _ _ (by omega))
  replace hAd : ∀ i, i ≤ 0 → τ165.1 i = τ.1 i := fun i h => by rw [ha8 i (by omega)]; exact hAd i h
  refine zPutFR (D := D) (ci := 11) (ty := .object "PostHouse$Packing") (C := RX11) (T := TX11) (N := 16) hx hb hts hiX11 tyX11 tyX11_ok nmX11 hown hH hS ((hB.1 0 (by omega)).1.trans (by decide : zkt 0 = 27)) rfl 8 (by decide) rfl hw41 (fun _ h9 => h9) rfl hin rfl (by rw [((hB.1 18 (by omega)).1.trans (by decide : zkt 18 = 20))]; decide)  (by decide +kernel) rfl rfl dX11_init_96 (fun H locs hH hS => ?_)
  obtain ⟨g168, eg168⟩ : ∃ f9 : zFr, f9 = zur g167 0 8 (some 18) := ⟨_, rfl⟩
  rw [← eg168] at hH
  replace hB := zBI.ref0 hB eg168 (by omega) (by decide +kernel)
  clear eg168
  refine lv_aload_n hx hb dX11_init_99 rfl (lv_at hl 0 rfl) ?_
  refine zNew (D := D) (fs := [.null, .int 0, .null, .null, .null, .null]) (ci := 9) (C := RX9) (T := TX9) (N := 6) hx hb hts hiX9 tyX9 tyX9_ok hown hw43 hw44 hw45 hH hS hA rfl 22 (hB.2.1 22 (by omega)).1 (fun _ => rfl) (by decide) (Nat.le_of_ble_eq_true rfl) (Nat.le_of_ble_eq_true rfl) dX11_init_100 (fun q9 c9 H hH8 hS => ?_)
  obtain ⟨τ170, eτ170⟩ : ∃ t9 : zTy, t9 = (va_up τ165.1 22 q9, va_up τ165.2.1 22 c9, va_up τ165.2.2.1 22 25, va_up τ165.2.2.2 22 0) := ⟨_, rfl⟩
  obtain ⟨f171, ef171⟩ : ∃ f9 : zFi, f9 = va_up f166 22 (fun _ => 0) := ⟨_, rfl⟩
  obtain ⟨g172, eg172⟩ : ∃ f9 : zFr, f9 = va_up g168 22 (fun _ => none) := ⟨_, rfl⟩
  replace hH : zH D A τ170 f171 g172 ol s H := by rw [eτ170, ef171, eg172]; exact hH8
  clear hH8
  have hqτ170 : τ170.1 22 = q9 := by rw [eτ170]; exact va_up_self τ165.1 22 q9
  have haτ170 : ∀ i, i ≠ 22 → τ170.1 i = τ165.1 i := fun i h => by rw [eτ170]; exact va_up_ne _ _ h
  have hkτ170 : τ170.2.2.1 22 = 25 := by rw [eτ170]; exact va_up_self τ165.2.2.1 22 25
  have hnτ170 : τ170.2.2.2 22 = 0 := by rw [eτ170]; exact va_up_self τ165.2.2.2 22 0
  have hbτ170 : ∀ i, i ≠ 22 → τ170.2.2.1 i = τ165.2.2.1 i ∧ τ170.2.2.2 i = τ165.2.2.2 i := fun i h => by rw [eτ170]; exact ⟨va_up_ne _ _ h, va_up_ne _ _ h⟩
  clear eτ170
  subst hqτ170
  rw [show τ165.1 0 = τ170.1 0 from (haτ170 0 (by omega)).symm] at hl
  refine W.eq (g2 := F0 m 103 ls [.ref (τ170.1 22), .ref (τ170.1 0)]) (by rw [haτ170 0 (by omega)]) ?_
  replace hB := zBI.born (i := 22) (a' := 23) (b' := 200) hB (by omega) (by omega) hkτ170 hnτ170 hbτ170 ef171 eg172 (by decide) (by decide) (by decide)
  clear eg172 hkτ170 hnτ170 hbτ170
  replace hAd : ∀ i, i ≤ 0 → τ170.1 i = τ.1 i := fun i h => by rw [haτ170 i (by omega)]; exact hAd i h
  clear haτ170
  replace hV := hV.born ef171 (by omega)
  have hRv := hRv.cg (f' := f171) (fun i k h => by rw [ef171, va_up_ne _ _ (by omega)])
  clear ef171
  replace hB := zBI.sw 22 hB (by decide +kernel)
  refine W.widen (k := 22) (n := 2399) (by decide) (by decide) ?_
  refine lv_dup hx hb dX11_init_103 rfl ?_
  have hznn := hz.1.2.2.2.2.2.1 _ (List.mem_of_getElem? (i := 4) rfl)
  refine va_callv (va_runIN (host := RX11) (As := []) (rest := [.ref (τ170.1 22), .ref (τ170.1 0)]) ⟨hx, hb, hml, hown, hts⟩ (i_Walk l hl0 D A sad τ170 f171 g172 ol hB) ⟨va_cnB (host := RX11) (y := yX9_init) 0 hts gX11_init_X9_init_n67 rfl rfl rfl hznn hw45 (by decide +kernel) ⟨Nat.le_of_ble_eq_true rfl, Nat.le_of_ble_eq_true rfl⟩, rfl, hw46⟩ ⟨zQc_bl, zQc_at hz hS hA hH⟩ rfl rfl hl.1 rfl (lv_room (Nat.le_of_ble_eq_true rfl)) dX11_init_104 ⟨Nat.le_of_ble_eq_true rfl, Nat.le_of_ble_eq_true rfl⟩) hS (fun q _ h => h) (fun q h => h) (fun u9 t9 H1 locs ht9 hvm9 hw hB hz1 hk1 hS => ?_)
  obtain ⟨τ174, f175, g176⟩ := u9
  replace hH := zMv ht9 hvm9 hB
  clear hB
  simp only at hw hH
  generalize H1 = H at hH hS ⊢
  refine W.widen (k := 27) (n := 2448) (by decide) (by decide) ?_
  obtain ⟨hB, ha8, hV8⟩ := hw
  rw [show τ170.1 0 = τ174.1 0 from (ha8 0 (by omega)).symm] at hl
  refine W.eq (g2 := F0 m 107 ls [.ref (τ174.1 22), .ref (τ174.1 0)]) (by rw [ha8 0 (by omega), ha8 22 (by omega)]) ?_
  replace hV := hV.call hV8 (by omega)
  have hRv := hRv.cg (f' := f175) (fun i k h => hV8 _ _ (by omega))
  replace hAd : ∀ i, i ≤ 0 → τ174.1 i = τ.1 i := fun i h => by rw [ha8 i (by omega)]; exact hAd i h
  refine zPutFR (D := D) (ci := 11) (ty := .object "PostHouse$Walk") (C := RX11) (T := TX11) (N := 16) hx hb hts hiX11 tyX11 tyX11_ok nmX11 hown hH hS ((hB.1 0 (by omega)).1.trans (by decide : zkt 0 = 27)) rfl 9 (by decide) rfl hw47 (fun _ h9 => h9) rfl hin rfl (by rw [((hB.1 22 (by omega)).1.trans (by decide : zkt 22 = 25))]; decide)  (by decide +kernel) rfl rfl dX11_init_107 (fun H locs hH hS => ?_)
  obtain ⟨g177, eg177⟩ : ∃ f9 : zFr, f9 = zur g176 0 9 (some 22) := ⟨_, rfl⟩
  rw [← eg177] at hH
  replace hB := zBI.ref0 hB eg177 (by omega) (by decide +kernel)
  clear eg177
  refine lv_aload_n hx hb dX11_init_110 rfl (lv_at hl 0 rfl) ?_
  refine lv_iconst (v := (-1)) hx hb dX11_init_111 (by decide) ?_
  refine zPutI (D := D) (ci := 11) (ty := .int) (C := RX11) (T := TX11) (N := 16) hx hb hts hiX11 tyX11 tyX11_ok nmX11 hown hH hS ((hB.1 0 (by omega)).1.trans (by decide : zkt 0 = 27)) rfl 14 (by decide) rfl hw48 (fun _ h9 => h9) rfl (by decide +kernel) rfl rfl dX11_init_112 (fun H locs hH hS => ?_)
  obtain ⟨f179, ef179⟩ : ∃ f9 : zFi, f9 = zu f175 0 14 ((-1)) := ⟨_, rfl⟩
  rw [← ef179] at hH
  have q180 : f179 0 14 = (-1) := by rw [ef179]; exact zu_s
  replace hB := zBI.int hB ef179 (by unfold zXc; omega)
  replace hV := hV.int ef179 (by omega)
  have hRv := hRv.cg (f' := f179) (fun i k h => by rw [ef179, zu_n (by omega)])
  clear ef179
  refine W.widen (k := 27) (n := 2448) (by decide) (by decide) ?_
  exact W.vret hx hb hr (fun t9 ht9 hW9 => ⟨⟨(τ174, f179, g177), rfl, (show zBI τ174 f179 g177 28 200 10 22 6 ∧ (∀ i, i ≤ 0 → τ174.1 i = τ.1 i) ∧ zIV fi f179 0 ∧ zRv f179 10 11 ∧ f179 0 14 = -1 from ⟨hB, hAd, hV, hRv, q180⟩), zEnd1 hH ht9 hW9⟩, hS.F ht9⟩) hS.2.2 dX11_init_115
