/-! ===== THE CELLS ARE MADE ===== -/
def zkt (i : Nat) : Nat := if i < 100 then zKT.getD i 0 else if i = 200 then 3 else if 201 ≤ i ∧ i ≤ 207 then 1 else 0
def zkn (i : Nat) : Nat := if i < 100 then zKN.getD i 0 else if 200 ≤ i ∧ i ≤ 205 then 64 else if i = 206 ∨ i = 207 then 512 else 0
def zXc (i k : Nat) : Prop := i = 10 ∨ i = 11 ∨ i = 13 ∨ i = 14 ∨ (i = 0 ∧ k = 14) ∨ (i = 1 ∧ k = 3) ∨ (i = 30 ∧ k = 24) ∨ i = 44 ∨ i = 40
/-- the cells of L are there, the references of R stand, all other numbers are 0 -/
def zBI (τ : zTy) (fi : zFi) (fr : zFr) (L : List Nat) (R : List (Nat × Nat × Nat)) : Prop :=
  (∀ i, i ∈ L → τ.2.2.1 i = zkt i ∧ τ.2.2.2 i = zkn i) ∧ (∀ i, i ∉ L → τ.2.2.1 i = 0 ∧ τ.2.2.2 i = 0) ∧ (∀ q ∈ R, fr q.1 q.2.1 = some q.2.2) ∧ ∀ i k, ¬ zXc i k → fi i k = 0
theorem zBI.born {τ τ' : zTy} {fi fi' : zFi} {fr fr' : zFr} {L : List Nat} {R : List (Nat × Nat × Nat)} {i t n : Nat} (h : zBI τ fi fr L R) (hR : ∀ q ∈ R, q.1 ≠ i) (hk : τ'.2.2.1 i = t) (hn : τ'.2.2.2 i = n) (hb : ∀ j, j ≠ i → τ'.2.2.1 j = τ.2.2.1 j ∧ τ'.2.2.2 j = τ.2.2.2 j) (ef : fi' = va_up fi i (fun _ => 0)) (eg : fr' = va_up fr i (fun _ => none)) (ht : t = zkt i) (hn' : n = zkn i) : zBI τ' fi' fr' (i :: L) R := by
  obtain ⟨h1, h2, h3, h4⟩ := h
  refine ⟨fun j hj => ?_, fun j hj => ?_, fun q hq => ?_, fun j k hx => ?_⟩
  · by_cases e : j = i
    · subst e; exact ⟨by rw [hk, ht], by rw [hn, hn']⟩
    · rw [(hb j e).1, (hb j e).2]
      exact h1 j (by rcases List.mem_cons.mp hj with h | h; exact absurd h e; exact h)
  · have e : j ≠ i := fun e => hj (by rw [e]; exact List.mem_cons_self)
    rw [(hb j e).1, (hb j e).2]
    exact h2 j (fun h => hj (List.mem_cons_of_mem _ h))
  · rw [eg, va_up_ne _ _ (hR q hq)]; exact h3 q hq
  · by_cases e : j = i
    · subst e; rw [ef, va_up_self]
    · rw [ef, va_up_ne _ _ e]; exact h4 j k hx
theorem zBI.ref {τ : zTy} {fi : zFi} {fr fr' : zFr} {L : List Nat} {R : List (Nat × Nat × Nat)} {a k b : Nat} (h : zBI τ fi fr L R) (e : fr' = zur fr a k (some b)) (hR : ∀ q ∈ R, ¬ (q.1 = a ∧ q.2.1 = k)) : zBI τ fi fr' L ((a, k, b) :: R) := by
  obtain ⟨h1, h2, h3, h4⟩ := h
  refine ⟨h1, h2, fun q hq => ?_, h4⟩
  rcases List.mem_cons.mp hq with hq | hq
  · subst hq; rw [e]; exact zur_s
  · rw [e, zur_n (hR q hq)]; exact h3 q hq
theorem zBI.fi' {τ : zTy} {fi fi' : zFi} {fr : zFr} {L : List Nat} {R : List (Nat × Nat × Nat)} (h : zBI τ fi fr L R) (hf : ∀ i k, ¬ zXc i k → fi' i k = fi i k) : zBI τ fi' fr L R := ⟨h.1, h.2.1, h.2.2.1, fun i k hx => by rw [hf i k hx]; exact h.2.2.2 i k hx⟩
theorem zBI.int {τ : zTy} {fi fi' : zFi} {fr : zFr} {L : List Nat} {R : List (Nat × Nat × Nat)} {a k : Nat} {v : Int32} (h : zBI τ fi fr L R) (e : fi' = zu fi a k v) (hx : zXc a k) : zBI τ fi' fr L R := h.fi' (fun i j hn => by rw [e, zu_n (fun q => hn (by rw [q.1, q.2]; exact hx))])
theorem zBI.mk0 {τ : zTy} {fi fi' : zFi} {fr : zFr} {L : List Nat} {R : List (Nat × Nat × Nat)} (h : zBI τ fi fr L R) (h0 : ∀ i k, ¬ zXc i k → fi' i k = 0) : zBI τ fi' fr L R := ⟨h.1, h.2.1, h.2.2.1, h0⟩
set_option maxHeartbeats 4000000 in
set_option maxRecDepth 100000 in
/-- X7_init -/
theorem i_Tape (l : Launch) (hl0 : l.stackTraces = false) (D : va_G) (A : Nat → Prop) (sad : Nat → Nat) (τ : zTy) (fi : zFi) (fr : zFr) (ol : Int64) (hB : zBI τ fi fr [1, 0] []) : Met l yX7_init wsX7_init ({ frames := 1, cells := 1, slots := 400, locals := 12 }) (va_Pc [.ref (τ.1 1)] (zQc D A sad τ fi fr ol)) (va_Qv (fun (u : zTy × zFi × zFr) => zBI u.1 u.2.1 u.2.2 [2, 1, 0] [(1, 0, 2)] ∧ (∀ i, ¬ (i = 2) → u.1.1 i = τ.1 i)) (fun (u : zTy × zFi × zFr) (t : State) => zH D A u.1 u.2.1 u.2.2 ol t t.heap) A) 1 400 A := by
  refine Met.ofW (cc := cX7_init) (maxL := 1) (ret := none) (by decide) rfl ?_
  intro p9 e9 s m args below meth c9 s₁ B hml hv
  obtain ⟨rfl, hz, hH, hA⟩ := hv
  have hx := B.exec
  have hb := B.bytes
  have hr := B.returns
  have hts := atoms_spec (ws := wsX7_init) B.pre
  have hown : s.vm.findClass RX7 = some m.cls := findClass_of_methodNamed B.named
  have hlocks := B.notSynchronized
  have hin : meth.name = "<init>" := (name_of_methodNamed B.named B.method).1
  have hS : va_S A s.heap s.heap [] := va_S.rf
  have hl := lv_entry ([.ref (τ.1 1)]) (n := 1) (Nat.le_of_ble_eq_true rfl)
  rw [lg_entry_eq]
  generalize (lg_sl ([.ref (τ.1 1)]) ++ List.replicate (1 - (lg_sl ([.ref (τ.1 1)])).length) Slot.unset).toArray = ls at hl ⊢
  have hl : lv_has ls 1 [(0, .ref (τ.1 1))] := hl
  have hw0 := hts (.methodLink RX7 3 objectInit) (by decide +kernel)
  have hw1 := hts (.instanceMethod objectInit) (by decide +kernel)
  have hw2 := hts (.code objectInit ⟨#[0xb1]⟩ 1 none) (by decide +kernel)
  have hw3 := hts (.arrayClass .byte) (by decide +kernel)
  have hw4 := hts (.fieldLink RX7 11 "PostHouse$Tape" "bytes" "[B") (by decide +kernel)
  have hiX7 : ∀ w ∈ u_ws RX7 TX7 4, w ∈ wsX7_init := fun _ h => List.mem_cons_of_mem _ (List.mem_append_right _ h)
  have hw6 := hts (.fieldLink RX7 15 "PostHouse$Tape" "wrong" "I") (by decide +kernel)
  refine lv_aload_n hx hb dX7_init_0 rfl (lv_at hl 0 rfl) ?_
  refine W.objInit hx hb hown hw0 hw1 hw2 rfl (by rw [hml]; exact hl.1) rfl dX7_init_1 (Nat.le_of_ble_eq_true rfl) (Nat.le_of_ble_eq_true rfl) ?_
  refine W.eq (g2 := F0 m 4 ls []) rfl ?_
  refine lv_aload_n hx hb dX7_init_4 rfl (lv_at hl 0 rfl) ?_
  refine lv_sipush (v := nI 400) hx hb dX7_init_5 (by decide) ?_
  refine zNewa (D := D) (atype := .byte) (t := 2) (N' := 400) hx hb hw3 rfl (by decide) (by decide) rfl hH hS hA 2 (hB.2.1 2 (by decide)).1 (by decide) (by decide) (by first | decide | (simp only [zT, componentBytes]; omega)) (Nat.le_of_ble_eq_true rfl) (Nat.le_of_ble_eq_true rfl) dX7_init_8 (fun q9 c9 H hH8 hS => ?_)
  obtain ⟨τ101, eτ101⟩ : ∃ t9 : zTy, t9 = (va_up τ.1 2 q9, va_up τ.2.1 2 c9, va_up τ.2.2.1 2 2, va_up τ.2.2.2 2 400) := ⟨_, rfl⟩
  obtain ⟨f102, ef102⟩ : ∃ f9 : zFi, f9 = va_up fi 2 (fun _ => 0) := ⟨_, rfl⟩
  obtain ⟨g103, eg103⟩ : ∃ f9 : zFr, f9 = va_up fr 2 (fun _ => none) := ⟨_, rfl⟩
  have hH : zH D A τ101 f102 g103 ol s H := by rw [eτ101, ef102, eg103]; exact hH8
  clear hH8
  have hqτ101 : τ101.1 2 = q9 := by rw [eτ101]; exact va_up_self τ.1 2 q9
  have haτ101 : ∀ i, i ≠ 2 → τ101.1 i = τ.1 i := fun i h => by rw [eτ101]; exact va_up_ne _ _ h
  have hkτ101 : τ101.2.2.1 2 = 2 := by rw [eτ101]; exact va_up_self τ.2.2.1 2 2
  have hnτ101 : τ101.2.2.2 2 = 400 := by rw [eτ101]; exact va_up_self τ.2.2.2 2 400
  have hbτ101 : ∀ i, i ≠ 2 → τ101.2.2.1 i = τ.2.2.1 i ∧ τ101.2.2.2 i = τ.2.2.2 i := fun i h => by rw [eτ101]; exact ⟨va_up_ne _ _ h, va_up_ne _ _ h⟩
  clear eτ101
  subst hqτ101
  rw [show τ.1 1 = τ101.1 1 from (haτ101 1 (by omega)).symm] at hl
  refine W.eq (g2 := F0 m 10 ls [.ref (τ101.1 2), .ref (τ101.1 1)]) (by rw [haτ101 1 (by omega)]) ?_
  have hB := zBI.born (i := 2) hB (by decide) hkτ101 hnτ101 hbτ101 ef102 eg103 (by decide) (by decide)
  have hAd : ∀ i, ¬ (i = 2) → τ101.1 i = τ.1 i := fun i h => by rw [haτ101 i (by omega)]
  refine W.widen (k := 1) (n := 400) (by decide) (by decide) ?_
  refine zPutFR (D := D) (ci := 7) (ty := .array .byte) (C := RX7) (T := TX7) (N := 4) hx hb hts hiX7 tyX7 tyX7_ok nmX7 hown hH hS ((hB.1 1 (by decide)).1.trans (by decide : zkt 1 = 23)) rfl 0 (by decide) rfl hw4 (fun _ h9 => h9) rfl hin rfl (by rw [((hB.1 2 (by decide)).1.trans (by decide : zkt 2 = 2))]; decide)  (by decide +kernel) rfl rfl dX7_init_10 (fun H locs hH hS => ?_)
  obtain ⟨g104, eg104⟩ : ∃ f9 : zFr, f9 = zur g103 1 0 (some 2) := ⟨_, rfl⟩
  rw [← eg104] at hH
  have hB := zBI.ref hB eg104 (by decide)
  refine lv_aload_n hx hb dX7_init_13 rfl (lv_at hl 0 rfl) ?_
  refine lv_iconst (v := (-1)) hx hb dX7_init_14 (by decide) ?_
  refine zPutI (D := D) (ci := 7) (ty := .int) (C := RX7) (T := TX7) (N := 4) hx hb hts hiX7 tyX7 tyX7_ok nmX7 hown hH hS ((hB.1 1 (by decide)).1.trans (by decide : zkt 1 = 23)) rfl 3 (by decide) rfl hw6 (fun _ h9 => h9) rfl (by decide +kernel) rfl rfl dX7_init_15 (fun H locs hH hS => ?_)
  obtain ⟨f106, ef106⟩ : ∃ f9 : zFi, f9 = zu f102 1 3 ((-1)) := ⟨_, rfl⟩
  rw [← ef106] at hH
  have q107 : f106 1 3 = (-1) := by rw [ef106]; exact zu_s
  have hB := zBI.int hB ef106 (by unfold zXc; omega)
  refine W.widen (k := 1) (n := 400) (by decide) (by decide) ?_
  exact W.vret hx hb hr (fun t9 ht9 hW9 => ⟨⟨(τ101, f106, g104), rfl, (show zBI τ101 f106 g104 [2, 1, 0] [(1, 0, 2)] ∧ (∀ i, ¬ (i = 2) → τ101.1 i = τ.1 i) from ⟨hB, hAd⟩), zEnd1 hH ht9 hW9⟩, hS.F ht9⟩) hS.2.2 dX7_init_18
set_option maxHeartbeats 4000000 in
set_option maxRecDepth 100000 in
/-- X0_init -/
theorem i_Book (l : Launch) (hl0 : l.stackTraces = false) (D : va_G) (A : Nat → Prop) (sad : Nat → Nat) (τ : zTy) (fi : zFi) (fr : zFr) (ol : Int64) (hB : zBI τ fi fr [3, 2, 1, 0] [(0, 0, 1), (1, 0, 2)]) : Met l yX0_init wsX0_init ({ frames := 1, cells := 1, slots := 30, locals := 12 }) (va_Pc [.ref (τ.1 3)] (zQc D A sad τ fi fr ol)) (va_Qv (fun (u : zTy × zFi × zFr) => zBI u.1 u.2.1 u.2.2 [4, 3, 2, 1, 0] [(3, 0, 4), (0, 0, 1), (1, 0, 2)] ∧ (∀ i, ¬ (i = 4) → u.1.1 i = τ.1 i)) (fun (u : zTy × zFi × zFr) (t : State) => zH D A u.1 u.2.1 u.2.2 ol t t.heap) A) 1 30 A := by
  refine Met.ofW (cc := cX0_init) (maxL := 1) (ret := none) (by decide) rfl ?_
  intro p9 e9 s m args below meth c9 s₁ B hml hv
  obtain ⟨rfl, hz, hH, hA⟩ := hv
  have hx := B.exec
  have hb := B.bytes
  have hr := B.returns
  have hts := atoms_spec (ws := wsX0_init) B.pre
  have hown : s.vm.findClass RX0 = some m.cls := findClass_of_methodNamed B.named
  have hlocks := B.notSynchronized
  have hin : meth.name = "<init>" := (name_of_methodNamed B.named B.method).1
  have hS : va_S A s.heap s.heap [] := va_S.rf
  have hl := lv_entry ([.ref (τ.1 3)]) (n := 1) (Nat.le_of_ble_eq_true rfl)
  rw [lg_entry_eq]
  generalize (lg_sl ([.ref (τ.1 3)]) ++ List.replicate (1 - (lg_sl ([.ref (τ.1 3)])).length) Slot.unset).toArray = ls at hl ⊢
  have hl : lv_has ls 1 [(0, .ref (τ.1 3))] := hl
  have hw0 := hts (.methodLink RX0 3 objectInit) (by decide +kernel)
  have hw1 := hts (.instanceMethod objectInit) (by decide +kernel)
  have hw2 := hts (.code objectInit ⟨#[0xb1]⟩ 1 none) (by decide +kernel)
  have hw3 := hts (.classLink RX0 9 RX8) (by decide +kernel)
  have hw4 := hts (.fieldLink RX0 11 "PostHouse$Book" "things" "[LPostHouse$Thing;") (by decide +kernel)
  have hiX0 : ∀ w ∈ u_ws RX0 TX0 2, w ∈ wsX0_init := fun _ h => List.mem_cons_of_mem _ (List.mem_append_right _ h)
  refine lv_aload_n hx hb dX0_init_0 rfl (lv_at hl 0 rfl) ?_
  refine W.objInit hx hb hown hw0 hw1 hw2 rfl (by rw [hml]; exact hl.1) rfl dX0_init_1 (Nat.le_of_ble_eq_true rfl) (Nat.le_of_ble_eq_true rfl) ?_
  refine W.eq (g2 := F0 m 4 ls []) rfl ?_
  refine lv_aload_n hx hb dX0_init_4 rfl (lv_at hl 0 rfl) ?_
  refine lv_bipush (v := nI 30) hx hb dX0_init_5 (by decide) ?_
  refine zNewq (D := D) (C := RX8) (t := 8) (N' := 30) hx hb hown hw3 (hz.1.2.2.2.2.2.2.1 _ (List.mem_of_getElem? (i := 3) rfl)) rfl (by decide) (by decide) hH hS hA 4 (hB.2.1 4 (by decide)).1 (by decide) (by decide) (by decide) (Nat.le_of_ble_eq_true rfl) (Nat.le_of_ble_eq_true rfl) dX0_init_7 (fun q9 c9 H hH8 hS => ?_)
  obtain ⟨τ101, eτ101⟩ : ∃ t9 : zTy, t9 = (va_up τ.1 4 q9, va_up τ.2.1 4 c9, va_up τ.2.2.1 4 8, va_up τ.2.2.2 4 30) := ⟨_, rfl⟩
  obtain ⟨f102, ef102⟩ : ∃ f9 : zFi, f9 = va_up fi 4 (fun _ => 0) := ⟨_, rfl⟩
  obtain ⟨g103, eg103⟩ : ∃ f9 : zFr, f9 = va_up fr 4 (fun _ => none) := ⟨_, rfl⟩
  have hH : zH D A τ101 f102 g103 ol s H := by rw [eτ101, ef102, eg103]; exact hH8
  clear hH8
  have hqτ101 : τ101.1 4 = q9 := by rw [eτ101]; exact va_up_self τ.1 4 q9
  have haτ101 : ∀ i, i ≠ 4 → τ101.1 i = τ.1 i := fun i h => by rw [eτ101]; exact va_up_ne _ _ h
  have hkτ101 : τ101.2.2.1 4 = 8 := by rw [eτ101]; exact va_up_self τ.2.2.1 4 8
  have hnτ101 : τ101.2.2.2 4 = 30 := by rw [eτ101]; exact va_up_self τ.2.2.2 4 30
  have hbτ101 : ∀ i, i ≠ 4 → τ101.2.2.1 i = τ.2.2.1 i ∧ τ101.2.2.2 i = τ.2.2.2 i := fun i h => by rw [eτ101]; exact ⟨va_up_ne _ _ h, va_up_ne _ _ h⟩
  clear eτ101
  subst hqτ101
  rw [show τ.1 3 = τ101.1 3 from (haτ101 3 (by omega)).symm] at hl
  refine W.eq (g2 := F0 m 10 ls [.ref (τ101.1 4), .ref (τ101.1 3)]) (by rw [haτ101 3 (by omega)]) ?_
  have hB := zBI.born (i := 4) hB (by decide) hkτ101 hnτ101 hbτ101 ef102 eg103 (by decide) (by decide)
  have hAd : ∀ i, ¬ (i = 4) → τ101.1 i = τ.1 i := fun i h => by rw [haτ101 i (by omega)]
  refine W.widen (k := 1) (n := 30) (by decide) (by decide) ?_
  refine zPutFR (D := D) (ci := 0) (ty := .array (.object "PostHouse$Thing")) (C := RX0) (T := TX0) (N := 2) hx hb hts hiX0 tyX0 tyX0_ok nmX0 hown hH hS ((hB.1 3 (by decide)).1.trans (by decide : zkt 3 = 16)) rfl 0 (by decide) rfl hw4 (fun _ h9 => h9) rfl hin rfl (by rw [((hB.1 4 (by decide)).1.trans (by decide : zkt 4 = 8))]; decide)  (by decide +kernel) rfl rfl dX0_init_10 (fun H locs hH hS => ?_)
  obtain ⟨g104, eg104⟩ : ∃ f9 : zFr, f9 = zur g103 3 0 (some 4) := ⟨_, rfl⟩
  rw [← eg104] at hH
  have hB := zBI.ref hB eg104 (by decide)
  refine W.widen (k := 1) (n := 30) (by decide) (by decide) ?_
  exact W.vret hx hb hr (fun t9 ht9 hW9 => ⟨⟨(τ101, f102, g104), rfl, (show zBI τ101 f102 g104 [4, 3, 2, 1, 0] [(3, 0, 4), (0, 0, 1), (1, 0, 2)] ∧ (∀ i, ¬ (i = 4) → τ101.1 i = τ.1 i) from ⟨hB, hAd⟩), zEnd1 hH ht9 hW9⟩, hS.F ht9⟩) hS.2.2 dX0_init_13
set_option maxHeartbeats 4000000 in
set_option maxRecDepth 100000 in
/-- X1_init -/
theorem i_Com (l : Launch) (hl0 : l.stackTraces = false) (D : va_G) (A : Nat → Prop) (sad : Nat → Nat) (τ : zTy) (fi : zFi) (fr : zFr) (ol : Int64) (hB : zBI τ fi fr [5, 4, 3, 2, 1, 0] [(0, 1, 3), (3, 0, 4), (0, 0, 1), (1, 0, 2)]) : Met l yX1_init wsX1_init ({ frames := 1, cells := 3, slots := 180, locals := 12 }) (va_Pc [.ref (τ.1 5)] (zQc D A sad τ fi fr ol)) (va_Qv (fun (u : zTy × zFi × zFr) => zBI u.1 u.2.1 u.2.2 [8, 7, 6, 5, 4, 3, 2, 1, 0] [(5, 2, 8), (5, 1, 7), (5, 0, 6), (0, 1, 3), (3, 0, 4), (0, 0, 1), (1, 0, 2)] ∧ (∀ i, ¬ (i = 8 ∨ i = 7 ∨ i = 6) → u.1.1 i = τ.1 i)) (fun (u : zTy × zFi × zFr) (t : State) => zH D A u.1 u.2.1 u.2.2 ol t t.heap) A) 3 180 A := by
  refine Met.ofW (cc := cX1_init) (maxL := 1) (ret := none) (by decide) rfl ?_
  intro p9 e9 s m args below meth c9 s₁ B hml hv
  obtain ⟨rfl, hz, hH, hA⟩ := hv
  have hx := B.exec
  have hb := B.bytes
  have hr := B.returns
  have hts := atoms_spec (ws := wsX1_init) B.pre
  have hown : s.vm.findClass RX1 = some m.cls := findClass_of_methodNamed B.named
  have hlocks := B.notSynchronized
  have hin : meth.name = "<init>" := (name_of_methodNamed B.named B.method).1
  have hS : va_S A s.heap s.heap [] := va_S.rf
  have hl := lv_entry ([.ref (τ.1 5)]) (n := 1) (Nat.le_of_ble_eq_true rfl)
  rw [lg_entry_eq]
  generalize (lg_sl ([.ref (τ.1 5)]) ++ List.replicate (1 - (lg_sl ([.ref (τ.1 5)])).length) Slot.unset).toArray = ls at hl ⊢
  have hl : lv_has ls 1 [(0, .ref (τ.1 5))] := hl
  have hw0 := hts (.methodLink RX1 3 objectInit) (by decide +kernel)
  have hw1 := hts (.instanceMethod objectInit) (by decide +kernel)
  have hw2 := hts (.code objectInit ⟨#[0xb1]⟩ 1 none) (by decide +kernel)
  have hw3 := hts (.classLink RX1 9 RX8) (by decide +kernel)
  have hw4 := hts (.fieldLink RX1 11 "PostHouse$Comings" "things" "[LPostHouse$Thing;") (by decide +kernel)
  have hiX1 : ∀ w ∈ u_ws RX1 TX1 4, w ∈ wsX1_init := fun _ h => List.mem_cons_of_mem _ (List.mem_append_right _ h)
  have hw6 := hts (.arrayClass .int) (by decide +kernel)
  have hw7 := hts (.fieldLink RX1 17 "PostHouse$Comings" "days" "[I") (by decide +kernel)
  have hw8 := hts (.fieldLink RX1 21 "PostHouse$Comings" "pieces" "[I") (by decide +kernel)
  refine lv_aload_n hx hb dX1_init_0 rfl (lv_at hl 0 rfl) ?_
  refine W.objInit hx hb hown hw0 hw1 hw2 rfl (by rw [hml]; exact hl.1) rfl dX1_init_1 (Nat.le_of_ble_eq_true rfl) (Nat.le_of_ble_eq_true rfl) ?_
  refine W.eq (g2 := F0 m 4 ls []) rfl ?_
  refine lv_aload_n hx hb dX1_init_4 rfl (lv_at hl 0 rfl) ?_
  refine lv_bipush (v := nI 60) hx hb dX1_init_5 (by decide) ?_
  refine zNewq (D := D) (C := RX8) (t := 8) (N' := 60) hx hb hown hw3 (hz.1.2.2.2.2.2.2.1 _ (List.mem_of_getElem? (i := 3) rfl)) rfl (by decide) (by decide) hH hS hA 6 (hB.2.1 6 (by decide)).1 (by decide) (by decide) (by decide) (Nat.le_of_ble_eq_true rfl) (Nat.le_of_ble_eq_true rfl) dX1_init_7 (fun q9 c9 H hH8 hS => ?_)
  obtain ⟨τ101, eτ101⟩ : ∃ t9 : zTy, t9 = (va_up τ.1 6 q9, va_up τ.2.1 6 c9, va_up τ.2.2.1 6 8, va_up τ.2.2.2 6 60) := ⟨_, rfl⟩
  obtain ⟨f102, ef102⟩ : ∃ f9 : zFi, f9 = va_up fi 6 (fun _ => 0) := ⟨_, rfl⟩
  obtain ⟨g103, eg103⟩ : ∃ f9 : zFr, f9 = va_up fr 6 (fun _ => none) := ⟨_, rfl⟩
  have hH : zH D A τ101 f102 g103 ol s H := by rw [eτ101, ef102, eg103]; exact hH8
  clear hH8
  have hqτ101 : τ101.1 6 = q9 := by rw [eτ101]; exact va_up_self τ.1 6 q9
  have haτ101 : ∀ i, i ≠ 6 → τ101.1 i = τ.1 i := fun i h => by rw [eτ101]; exact va_up_ne _ _ h
  have hkτ101 : τ101.2.2.1 6 = 8 := by rw [eτ101]; exact va_up_self τ.2.2.1 6 8
  have hnτ101 : τ101.2.2.2 6 = 60 := by rw [eτ101]; exact va_up_self τ.2.2.2 6 60
  have hbτ101 : ∀ i, i ≠ 6 → τ101.2.2.1 i = τ.2.2.1 i ∧ τ101.2.2.2 i = τ.2.2.2 i := fun i h => by rw [eτ101]; exact ⟨va_up_ne _ _ h, va_up_ne _ _ h⟩
  clear eτ101
  subst hqτ101
  rw [show τ.1 5 = τ101.1 5 from (haτ101 5 (by omega)).symm] at hl
  refine W.eq (g2 := F0 m 10 ls [.ref (τ101.1 6), .ref (τ101.1 5)]) (by rw [haτ101 5 (by omega)]) ?_
  have hB := zBI.born (i := 6) hB (by decide) hkτ101 hnτ101 hbτ101 ef102 eg103 (by decide) (by decide)
  have hAd : ∀ i, ¬ (i = 6) → τ101.1 i = τ.1 i := fun i h => by rw [haτ101 i (by omega)]
  refine W.widen (k := 1) (n := 60) (by decide) (by decide) ?_
  refine zPutFR (D := D) (ci := 1) (ty := .array (.object "PostHouse$Thing")) (C := RX1) (T := TX1) (N := 4) hx hb hts hiX1 tyX1 tyX1_ok nmX1 hown hH hS ((hB.1 5 (by decide)).1.trans (by decide : zkt 5 = 17)) rfl 0 (by decide) rfl hw4 (fun _ h9 => h9) rfl hin rfl (by rw [((hB.1 6 (by decide)).1.trans (by decide : zkt 6 = 8))]; decide)  (by decide +kernel) rfl rfl dX1_init_10 (fun H locs hH hS => ?_)
  obtain ⟨g104, eg104⟩ : ∃ f9 : zFr, f9 = zur g103 5 0 (some 6) := ⟨_, rfl⟩
  rw [← eg104] at hH
  have hB := zBI.ref hB eg104 (by decide)
  refine lv_aload_n hx hb dX1_init_13 rfl (lv_at hl 0 rfl) ?_
  refine lv_bipush (v := nI 60) hx hb dX1_init_14 (by decide) ?_
  refine zNewa (D := D) (atype := .int) (t := 1) (N' := 60) hx hb hw6 rfl (by decide) (by decide) rfl hH hS hA 7 (hB.2.1 7 (by decide)).1 (by decide) (by decide) (by first | decide | (simp only [zT, componentBytes]; omega)) (Nat.le_of_ble_eq_true rfl) (Nat.le_of_ble_eq_true rfl) dX1_init_16 (fun q9 c9 H hH8 hS => ?_)
  obtain ⟨τ106, eτ106⟩ : ∃ t9 : zTy, t9 = (va_up τ101.1 7 q9, va_up τ101.2.1 7 c9, va_up τ101.2.2.1 7 1, va_up τ101.2.2.2 7 60) := ⟨_, rfl⟩
  obtain ⟨f107, ef107⟩ : ∃ f9 : zFi, f9 = va_up f102 7 (fun _ => 0) := ⟨_, rfl⟩
  obtain ⟨g108, eg108⟩ : ∃ f9 : zFr, f9 = va_up g104 7 (fun _ => none) := ⟨_, rfl⟩
  have hH : zH D A τ106 f107 g108 ol s H := by rw [eτ106, ef107, eg108]; exact hH8
  clear hH8
  have hqτ106 : τ106.1 7 = q9 := by rw [eτ106]; exact va_up_self τ101.1 7 q9
  have haτ106 : ∀ i, i ≠ 7 → τ106.1 i = τ101.1 i := fun i h => by rw [eτ106]; exact va_up_ne _ _ h
  have hkτ106 : τ106.2.2.1 7 = 1 := by rw [eτ106]; exact va_up_self τ101.2.2.1 7 1
  have hnτ106 : τ106.2.2.2 7 = 60 := by rw [eτ106]; exact va_up_self τ101.2.2.2 7 60
  have hbτ106 : ∀ i, i ≠ 7 → τ106.2.2.1 i = τ101.2.2.1 i ∧ τ106.2.2.2 i = τ101.2.2.2 i := fun i h => by rw [eτ106]; exact ⟨va_up_ne _ _ h, va_up_ne _ _ h⟩
  clear eτ106
  subst hqτ106
  rw [show τ101.1 5 = τ106.1 5 from (haτ106 5 (by omega)).symm] at hl
  refine W.eq (g2 := F0 m 18 ls [.ref (τ106.1 7), .ref (τ106.1 5)]) (by rw [haτ106 5 (by omega)]) ?_
  have hB := zBI.born (i := 7) hB (by decide) hkτ106 hnτ106 hbτ106 ef107 eg108 (by decide) (by decide)
  have hAd : ∀ i, ¬ (i = 7 ∨ i = 6) → τ106.1 i = τ.1 i := fun i h => by rw [haτ106 i (by omega)]; exact hAd i (by omega)
  refine W.widen (k := 2) (n := 120) (by decide) (by decide) ?_
  refine zPutFR (D := D) (ci := 1) (ty := .array .int) (C := RX1) (T := TX1) (N := 4) hx hb hts hiX1 tyX1 tyX1_ok nmX1 hown hH hS ((hB.1 5 (by decide)).1.trans (by decide : zkt 5 = 17)) rfl 1 (by decide) rfl hw7 (fun _ h9 => h9) rfl hin rfl (by rw [((hB.1 7 (by decide)).1.trans (by decide : zkt 7 = 1))]; decide)  (by decide +kernel) rfl rfl dX1_init_18 (fun H locs hH hS => ?_)
  obtain ⟨g109, eg109⟩ : ∃ f9 : zFr, f9 = zur g108 5 1 (some 7) := ⟨_, rfl⟩
  rw [← eg109] at hH
  have hB := zBI.ref hB eg109 (by decide)
  refine lv_aload_n hx hb dX1_init_21 rfl (lv_at hl 0 rfl) ?_
  refine lv_bipush (v := nI 60) hx hb dX1_init_22 (by decide) ?_
  refine zNewa (D := D) (atype := .int) (t := 1) (N' := 60) hx hb hw6 rfl (by decide) (by decide) rfl hH hS hA 8 (hB.2.1 8 (by decide)).1 (by decide) (by decide) (by first | decide | (simp only [zT, componentBytes]; omega)) (Nat.le_of_ble_eq_true rfl) (Nat.le_of_ble_eq_true rfl) dX1_init_24 (fun q9 c9 H hH8 hS => ?_)
  obtain ⟨τ111, eτ111⟩ : ∃ t9 : zTy, t9 = (va_up τ106.1 8 q9, va_up τ106.2.1 8 c9, va_up τ106.2.2.1 8 1, va_up τ106.2.2.2 8 60) := ⟨_, rfl⟩
  obtain ⟨f112, ef112⟩ : ∃ f9 : zFi, f9 = va_up f107 8 (fun _ => 0) := ⟨_, rfl⟩
  obtain ⟨g113, eg113⟩ : ∃ f9 : zFr, f9 = va_up g109 8 (fun _ => none) := ⟨_, rfl⟩
  have hH : zH D A τ111 f112 g113 ol s H := by rw [eτ111, ef112, eg113]; exact hH8
  clear hH8
  have hqτ111 : τ111.1 8 = q9 := by rw [eτ111]; exact va_up_self τ106.1 8 q9
  have haτ111 : ∀ i, i ≠ 8 → τ111.1 i = τ106.1 i := fun i h => by rw [eτ111]; exact va_up_ne _ _ h
  have hkτ111 : τ111.2.2.1 8 = 1 := by rw [eτ111]; exact va_up_self τ106.2.2.1 8 1
  have hnτ111 : τ111.2.2.2 8 = 60 := by rw [eτ111]; exact va_up_self τ106.2.2.2 8 60
  have hbτ111 : ∀ i, i ≠ 8 → τ111.2.2.1 i = τ106.2.2.1 i ∧ τ111.2.2.2 i = τ106.2.2.2 i := fun i h => by rw [eτ111]; exact ⟨va_up_ne _ _ h, va_up_ne _ _ h⟩
  clear eτ111
  subst hqτ111
  rw [show τ106.1 5 = τ111.1 5 from (haτ111 5 (by omega)).symm] at hl
  refine W.eq (g2 := F0 m 26 ls [.ref (τ111.1 8), .ref (τ111.1 5)]) (by rw [haτ111 5 (by omega)]) ?_
  have hB := zBI.born (i := 8) hB (by decide) hkτ111 hnτ111 hbτ111 ef112 eg113 (by decide) (by decide)
  have hAd : ∀ i, ¬ (i = 8 ∨ i = 7 ∨ i = 6) → τ111.1 i = τ.1 i := fun i h => by rw [haτ111 i (by omega)]; exact hAd i (by omega)
  refine W.widen (k := 3) (n := 180) (by decide) (by decide) ?_
  refine zPutFR (D := D) (ci := 1) (ty := .array .int) (C := RX1) (T := TX1) (N := 4) hx hb hts hiX1 tyX1 tyX1_ok nmX1 hown hH hS ((hB.1 5 (by decide)).1.trans (by decide : zkt 5 = 17)) rfl 2 (by decide) rfl hw8 (fun _ h9 => h9) rfl hin rfl (by rw [((hB.1 8 (by decide)).1.trans (by decide : zkt 8 = 1))]; decide)  (by decide +kernel) rfl rfl dX1_init_26 (fun H locs hH hS => ?_)
  obtain ⟨g114, eg114⟩ : ∃ f9 : zFr, f9 = zur g113 5 2 (some 8) := ⟨_, rfl⟩
  rw [← eg114] at hH
  have hB := zBI.ref hB eg114 (by decide)
  refine W.widen (k := 3) (n := 180) (by decide) (by decide) ?_
  exact W.vret hx hb hr (fun t9 ht9 hW9 => ⟨⟨(τ111, f112, g114), rfl, (show zBI τ111 f112 g114 [8, 7, 6, 5, 4, 3, 2, 1, 0] [(5, 2, 8), (5, 1, 7), (5, 0, 6), (0, 1, 3), (3, 0, 4), (0, 0, 1), (1, 0, 2)] ∧ (∀ i, ¬ (i = 8 ∨ i = 7 ∨ i = 6) → τ111.1 i = τ.1 i) from ⟨hB, hAd⟩), zEnd1 hH ht9 hW9⟩, hS.F ht9⟩) hS.2.2 dX1_init_29
set_option maxHeartbeats 4000000 in
set_option maxRecDepth 100000 in
/-- X5_init -/
theorem i_Rul1 (l : Launch) (hl0 : l.stackTraces = false) (D : va_G) (A : Nat → Prop) (sad : Nat → Nat) (τ : zTy) (fi : zFi) (fr : zFr) (ol : Int64) (hB : zBI τ fi fr [9, 8, 7, 6, 5, 4, 3, 2, 1, 0] [(0, 2, 5), (5, 2, 8), (5, 1, 7), (5, 0, 6), (0, 1, 3), (3, 0, 4), (0, 0, 1), (1, 0, 2)]) : Met l yX5_init wsX5_init ({ frames := 1, cells := 2, slots := 34, locals := 12 }) (va_Pc [.ref (τ.1 9)] (zQc D A sad τ fi fr ol)) (va_Qv (fun (u : zTy × zFi × zFr) => zBI u.1 u.2.1 u.2.2 [11, 10, 9, 8, 7, 6, 5, 4, 3, 2, 1, 0] [(9, 1, 11), (9, 0, 10), (0, 2, 5), (5, 2, 8), (5, 1, 7), (5, 0, 6), (0, 1, 3), (3, 0, 4), (0, 0, 1), (1, 0, 2)] ∧ (∀ i, ¬ (i = 11 ∨ i = 10) → u.1.1 i = τ.1 i)) (fun (u : zTy × zFi × zFr) (t : State) => zH D A u.1 u.2.1 u.2.2 ol t t.heap) A) 2 34 A := by
  refine Met.ofW (cc := cX5_init) (maxL := 2) (ret := none) (by decide) rfl ?_
  intro p9 e9 s m args below meth c9 s₁ B hml hv
  obtain ⟨rfl, hz, hH, hA⟩ := hv
  have hx := B.exec
  have hb := B.bytes
  have hr := B.returns
  have hts := atoms_spec (ws := wsX5_init) B.pre
  have hown : s.vm.findClass RX5 = some m.cls := findClass_of_methodNamed B.named
  have hlocks := B.notSynchronized
  have hin : meth.name = "<init>" := (name_of_methodNamed B.named B.method).1
  have hS : va_S A s.heap s.heap [] := va_S.rf
  have hl := lv_entry ([.ref (τ.1 9)]) (n := 2) (Nat.le_of_ble_eq_true rfl)
  rw [lg_entry_eq]
  generalize (lg_sl ([.ref (τ.1 9)]) ++ List.replicate (2 - (lg_sl ([.ref (τ.1 9)])).length) Slot.unset).toArray = ls at hl ⊢
  have hl : lv_has ls 2 [(0, .ref (τ.1 9))] := hl
  have hw0 := hts (.methodLink RX5 3 objectInit) (by decide +kernel)
  have hw1 := hts (.instanceMethod objectInit) (by decide +kernel)
  have hw2 := hts (.code objectInit ⟨#[0xb1]⟩ 1 none) (by decide +kernel)
  have hw3 := hts (.arrayClass .int) (by decide +kernel)
  have hw4 := hts (.fieldLink RX5 9 "PostHouse$Rules" "numbers" "[I") (by decide +kernel)
  have hiX5 : ∀ w ∈ u_ws RX5 TX5 2, w ∈ wsX5_init := fun _ h => List.mem_cons_of_mem _ (List.mem_append_right _ h)
  have hw6 := hts (.fieldLink RX5 15 "PostHouse$Rules" "places" "[I") (by decide +kernel)
  refine lv_aload_n hx hb dX5_init_0 rfl (lv_at hl 0 rfl) ?_
  refine W.objInit hx hb hown hw0 hw1 hw2 rfl (by rw [hml]; exact hl.1) rfl dX5_init_1 (Nat.le_of_ble_eq_true rfl) (Nat.le_of_ble_eq_true rfl) ?_
  refine W.eq (g2 := F0 m 4 ls []) rfl ?_
  refine lv_aload_n hx hb dX5_init_4 rfl (lv_at hl 0 rfl) ?_
  refine lv_iconst (v := nI 4) hx hb dX5_init_5 (by decide) ?_
  refine zNewa (D := D) (atype := .int) (t := 1) (N' := 4) hx hb hw3 rfl (by decide) (by decide) rfl hH hS hA 10 (hB.2.1 10 (by decide)).1 (by decide) (by decide) (by first | decide | (simp only [zT, componentBytes]; omega)) (Nat.le_of_ble_eq_true rfl) (Nat.le_of_ble_eq_true rfl) dX5_init_6 (fun q9 c9 H hH8 hS => ?_)
  obtain ⟨τ101, eτ101⟩ : ∃ t9 : zTy, t9 = (va_up τ.1 10 q9, va_up τ.2.1 10 c9, va_up τ.2.2.1 10 1, va_up τ.2.2.2 10 4) := ⟨_, rfl⟩
  obtain ⟨f102, ef102⟩ : ∃ f9 : zFi, f9 = va_up fi 10 (fun _ => 0) := ⟨_, rfl⟩
  obtain ⟨g103, eg103⟩ : ∃ f9 : zFr, f9 = va_up fr 10 (fun _ => none) := ⟨_, rfl⟩
  have hH : zH D A τ101 f102 g103 ol s H := by rw [eτ101, ef102, eg103]; exact hH8
  clear hH8
  have hqτ101 : τ101.1 10 = q9 := by rw [eτ101]; exact va_up_self τ.1 10 q9
  have haτ101 : ∀ i, i ≠ 10 → τ101.1 i = τ.1 i := fun i h => by rw [eτ101]; exact va_up_ne _ _ h
  have hkτ101 : τ101.2.2.1 10 = 1 := by rw [eτ101]; exact va_up_self τ.2.2.1 10 1
  have hnτ101 : τ101.2.2.2 10 = 4 := by rw [eτ101]; exact va_up_self τ.2.2.2 10 4
  have hbτ101 : ∀ i, i ≠ 10 → τ101.2.2.1 i = τ.2.2.1 i ∧ τ101.2.2.2 i = τ.2.2.2 i := fun i h => by rw [eτ101]; exact ⟨va_up_ne _ _ h, va_up_ne _ _ h⟩
  clear eτ101
  subst hqτ101
  rw [show τ.1 9 = τ101.1 9 from (haτ101 9 (by omega)).symm] at hl
  refine W.eq (g2 := F0 m 8 ls [.ref (τ101.1 10), .ref (τ101.1 9)]) (by rw [haτ101 9 (by omega)]) ?_
  have hB := zBI.born (i := 10) hB (by decide) hkτ101 hnτ101 hbτ101 ef102 eg103 (by decide) (by decide)
  have hAd : ∀ i, ¬ (i = 10) → τ101.1 i = τ.1 i := fun i h => by rw [haτ101 i (by omega)]
  refine W.widen (k := 1) (n := 4) (by decide) (by decide) ?_
  refine lv_dup hx hb dX5_init_8 rfl ?_
  refine lv_iconst (v := nI 0) hx hb dX5_init_9 (by decide) ?_
  refine lv_bipush (v := nI 10) hx hb dX5_init_10 (by decide) ?_
  refine zIastN (D := D) hx hb hH hS ((hB.1 10 (by decide)).1.trans (by decide : zkt 10 = 1)) ((hB.1 10 (by decide)).2.trans (by decide : zkn 10 = 4)) (by omega) (by omega) dX5_init_12 (fun H locs hH hS => ?_)
  obtain ⟨f104, ef104⟩ : ∃ f9 : zFi, f9 = zu f102 10 0 (nI 10) := ⟨_, rfl⟩
  rw [← ef104] at hH
  have q105 : f104 10 0 = nI 10 := by rw [ef104]; exact zu_s
  have hB := zBI.int hB ef104 (by unfold zXc; omega)
  refine lv_dup hx hb dX5_init_13 rfl ?_
  refine lv_iconst (v := nI 1) hx hb dX5_init_14 (by decide) ?_
  refine lv_bipush (v := nI 50) hx hb dX5_init_15 (by decide) ?_
  refine zIastN (D := D) hx hb hH hS ((hB.1 10 (by decide)).1.trans (by decide : zkt 10 = 1)) ((hB.1 10 (by decide)).2.trans (by decide : zkn 10 = 4)) (by omega) (by omega) dX5_init_17 (fun H locs hH hS => ?_)
  obtain ⟨f106, ef106⟩ : ∃ f9 : zFi, f9 = zu f104 10 1 (nI 50) := ⟨_, rfl⟩
  rw [← ef106] at hH
  have q107 : f106 10 0 = nI 10 := by rw [ef106, zu_n (fun h9 => absurd h9.2 (by decide))]; exact q105
  have q108 : f106 10 1 = nI 50 := by rw [ef106]; exact zu_s
  have hB := zBI.int hB ef106 (by unfold zXc; omega)
  refine lv_dup hx hb dX5_init_18 rfl ?_
  refine lv_iconst (v := nI 2) hx hb dX5_init_19 (by decide) ?_
  refine lv_sipush (v := nI 10000) hx hb dX5_init_20 (by decide) ?_
  refine zIastN (D := D) hx hb hH hS ((hB.1 10 (by decide)).1.trans (by decide : zkt 10 = 1)) ((hB.1 10 (by decide)).2.trans (by decide : zkn 10 = 4)) (by omega) (by omega) dX5_init_23 (fun H locs hH hS => ?_)
  obtain ⟨f109, ef109⟩ : ∃ f9 : zFi, f9 = zu f106 10 2 (nI 10000) := ⟨_, rfl⟩
  rw [← ef109] at hH
  have q110 : f109 10 0 = nI 10 := by rw [ef109, zu_n (fun h9 => absurd h9.2 (by decide))]; exact q107
  have q111 : f109 10 1 = nI 50 := by rw [ef109, zu_n (fun h9 => absurd h9.2 (by decide))]; exact q108
  have q112 : f109 10 2 = nI 10000 := by rw [ef109]; exact zu_s
  have hB := zBI.int hB ef109 (by unfold zXc; omega)
  refine lv_dup hx hb dX5_init_24 rfl ?_
  refine lv_iconst (v := nI 3) hx hb dX5_init_25 (by decide) ?_
  refine lv_bipush (v := nI 14) hx hb dX5_init_26 (by decide) ?_
  refine zIastN (D := D) hx hb hH hS ((hB.1 10 (by decide)).1.trans (by decide : zkt 10 = 1)) ((hB.1 10 (by decide)).2.trans (by decide : zkn 10 = 4)) (by omega) (by omega) dX5_init_28 (fun H locs hH hS => ?_)
  obtain ⟨f113, ef113⟩ : ∃ f9 : zFi, f9 = zu f109 10 3 (nI 14) := ⟨_, rfl⟩
  rw [← ef113] at hH
  have q114 : f113 10 0 = nI 10 := by rw [ef113, zu_n (fun h9 => absurd h9.2 (by decide))]; exact q110
  have q115 : f113 10 1 = nI 50 := by rw [ef113, zu_n (fun h9 => absurd h9.2 (by decide))]; exact q111
  have q116 : f113 10 2 = nI 10000 := by rw [ef113, zu_n (fun h9 => absurd h9.2 (by decide))]; exact q112
  have q117 : f113 10 3 = nI 14 := by rw [ef113]; exact zu_s
  have hB := zBI.int hB ef113 (by unfold zXc; omega)
  refine zPutFR (D := D) (ci := 5) (ty := .array .int) (C := RX5) (T := TX5) (N := 2) hx hb hts hiX5 tyX5 tyX5_ok nmX5 hown hH hS ((hB.1 9 (by decide)).1.trans (by decide : zkt 9 = 21)) rfl 0 (by decide) rfl hw4 (fun _ h9 => h9) rfl hin rfl (by rw [((hB.1 10 (by decide)).1.trans (by decide : zkt 10 = 1))]; decide)  (by decide +kernel) rfl rfl dX5_init_29 (fun H locs hH hS => ?_)
  obtain ⟨g118, eg118⟩ : ∃ f9 : zFr, f9 = zur g103 9 0 (some 10) := ⟨_, rfl⟩
  rw [← eg118] at hH
  have hB := zBI.ref hB eg118 (by decide)
  refine lv_aload_n hx hb dX5_init_32 rfl (lv_at hl 0 rfl) ?_
  refine lv_bipush (v := nI 30) hx hb dX5_init_33 (by decide) ?_
  refine zNewa (D := D) (atype := .int) (t := 1) (N' := 30) hx hb hw3 rfl (by decide) (by decide) rfl hH hS hA 11 (hB.2.1 11 (by decide)).1 (by decide) (by decide) (by first | decide | (simp only [zT, componentBytes]; omega)) (Nat.le_of_ble_eq_true rfl) (Nat.le_of_ble_eq_true rfl) dX5_init_35 (fun q9 c9 H hH8 hS => ?_)
  obtain ⟨τ120, eτ120⟩ : ∃ t9 : zTy, t9 = (va_up τ101.1 11 q9, va_up τ101.2.1 11 c9, va_up τ101.2.2.1 11 1, va_up τ101.2.2.2 11 30) := ⟨_, rfl⟩
  obtain ⟨f121, ef121⟩ : ∃ f9 : zFi, f9 = va_up f113 11 (fun _ => 0) := ⟨_, rfl⟩
  obtain ⟨g122, eg122⟩ : ∃ f9 : zFr, f9 = va_up g118 11 (fun _ => none) := ⟨_, rfl⟩
  have hH : zH D A τ120 f121 g122 ol s H := by rw [eτ120, ef121, eg122]; exact hH8
  clear hH8
  have hqτ120 : τ120.1 11 = q9 := by rw [eτ120]; exact va_up_self τ101.1 11 q9
  have haτ120 : ∀ i, i ≠ 11 → τ120.1 i = τ101.1 i := fun i h => by rw [eτ120]; exact va_up_ne _ _ h
  have hkτ120 : τ120.2.2.1 11 = 1 := by rw [eτ120]; exact va_up_self τ101.2.2.1 11 1
  have hnτ120 : τ120.2.2.2 11 = 30 := by rw [eτ120]; exact va_up_self τ101.2.2.2 11 30
  have hbτ120 : ∀ i, i ≠ 11 → τ120.2.2.1 i = τ101.2.2.1 i ∧ τ120.2.2.2 i = τ101.2.2.2 i := fun i h => by rw [eτ120]; exact ⟨va_up_ne _ _ h, va_up_ne _ _ h⟩
  clear eτ120
  subst hqτ120
  rw [show τ101.1 9 = τ120.1 9 from (haτ120 9 (by omega)).symm] at hl
  refine W.eq (g2 := F0 m 37 ls [.ref (τ120.1 11), .ref (τ120.1 9)]) (by rw [haτ120 9 (by omega)]) ?_
  have q123 : f121 10 0 = nI 10 := by rw [ef121, va_up_ne _ _ (by omega)]; exact q114
  have q124 : f121 10 1 = nI 50 := by rw [ef121, va_up_ne _ _ (by omega)]; exact q115
  have q125 : f121 10 2 = nI 10000 := by rw [ef121, va_up_ne _ _ (by omega)]; exact q116
  have q126 : f121 10 3 = nI 14 := by rw [ef121, va_up_ne _ _ (by omega)]; exact q117
  have hB := zBI.born (i := 11) hB (by decide) hkτ120 hnτ120 hbτ120 ef121 eg122 (by decide) (by decide)
  have hAd : ∀ i, ¬ (i = 11 ∨ i = 10) → τ120.1 i = τ.1 i := fun i h => by rw [haτ120 i (by omega)]; exact hAd i (by omega)
  refine W.widen (k := 2) (n := 34) (by decide) (by decide) ?_
  refine zPutFR (D := D) (ci := 5) (ty := .array .int) (C := RX5) (T := TX5) (N := 2) hx hb hts hiX5 tyX5 tyX5_ok nmX5 hown hH hS ((hB.1 9 (by decide)).1.trans (by decide : zkt 9 = 21)) rfl 1 (by decide) rfl hw6 (fun _ h9 => h9) rfl hin rfl (by rw [((hB.1 11 (by decide)).1.trans (by decide : zkt 11 = 1))]; decide)  (by decide +kernel) rfl rfl dX5_init_37 (fun H locs hH hS => ?_)
  obtain ⟨g127, eg127⟩ : ∃ f9 : zFr, f9 = zur g122 9 1 (some 11) := ⟨_, rfl⟩
  rw [← eg127] at hH
  have hB := zBI.ref hB eg127 (by decide)
  refine lv_iconst (v := nI 0) hx hb dX5_init_40 (by decide) ?_
  refine lv_istore_n (lv' := [(1, .int (nI 0)), (0, .ref (τ120.1 9))]) hx hb dX5_init_41 rfl hl (by decide) rfl (fun ls hl => ?_)
  refine zLp (σ := Nat × zFi) (fun x9 k9 H locs ls => (fun (i : Nat) (f : zFi) => k9 = 30 - i ∧ (i ≤ 30 ∧ ∀ a k, ¬ zXc a k → f a k = 0) ∧ zH D A τ120 f g127 ol s H ∧ va_S A s.heap H locs ∧ lv_has ls 2 [(0, .ref (τ120.1 9)), (1, .int (nI i))]) x9.1 x9.2) (0, f121) (30 - 0) (show 30 - 0 = 30 - 0 ∧ (0 ≤ 30 ∧ ∀ a k, ¬ zXc a k → f121 a k = 0) ∧ zH D A τ120 f121 g127 ol s _ ∧ va_S A s.heap _ _ ∧ lv_has _ 2 [(0, .ref (τ120.1 9)), (1, .int (nI 0))] from ⟨rfl, ⟨Nat.zero_le _, hB.2.2.2⟩, hH, hS, lv_sub hl [1, 0] rfl⟩) (fun k9 ih x9 H locs ls hv9 => ?_)
  obtain ⟨i, f⟩ := x9
  have hv9 : k9 = 30 - i ∧ (i ≤ 30 ∧ ∀ a k, ¬ zXc a k → f a k = 0) ∧ zH D A τ120 f g127 ol s H ∧ va_S A s.heap H locs ∧ lv_has ls 2 [(0, .ref (τ120.1 9)), (1, .int (nI i))] := hv9
  obtain ⟨hkih129, hv9, hH, hS, hl⟩ := hv9
  obtain ⟨h1, hz0⟩ := hv9
  have ih129 := ih
  clear ih
  have hB := zBI.mk0 hB hz0
  refine lv_iload_n hx hb dX5_init_42 rfl (lv_at hl 1 rfl) ?_
  refine lv_bipush (v := nI 30) hx hb dX5_init_43 (by decide) ?_
  refine lv_icmp_ge (tgt := 61) hx hb dX5_init_45 (by decide) (fun c130 => ?_) (fun c130 => ?_)
  · have zc130 := c130
    replace zc130 := zc_le (nI_toInt (by omega)) (nI_toInt (by omega)) zc130
    refine W.widen (k := 2) (n := 34) (by decide) (by decide) ?_
    exact W.vret hx hb hr (fun t9 ht9 hW9 => ⟨⟨(τ120, f, g127), rfl, (show zBI τ120 f g127 [11, 10, 9, 8, 7, 6, 5, 4, 3, 2, 1, 0] [(9, 1, 11), (9, 0, 10), (0, 2, 5), (5, 2, 8), (5, 1, 7), (5, 0, 6), (0, 1, 3), (3, 0, 4), (0, 0, 1), (1, 0, 2)] ∧ (∀ i, ¬ (i = 11 ∨ i = 10) → τ120.1 i = τ.1 i) from ⟨hB, hAd⟩), zEnd1 hH ht9 hW9⟩, hS.F ht9⟩) hS.2.2 dX5_init_61
  · have zc130 := c130
    replace zc130 := zc_nle (nI_toInt (by omega)) (nI_toInt (by omega)) zc130
    refine lv_aload_n hx hb dX5_init_48 rfl (lv_at hl 0 rfl) ?_
    refine zGetR (D := D) (ci := 5) (C := RX5) (T := TX5) (N := 2) hx hb hts hiX5 hown hH ((hB.1 9 (by decide)).1.trans (by decide : zkt 9 = 21)) rfl 1 (by decide) rfl hw6 (fun _ h9 => h9) dX5_init_49 (hB.2.2.1 (9, 1, 11) (by decide)) ?_
    refine lv_iload_n hx hb dX5_init_52 rfl (lv_at hl 1 rfl) ?_
    refine lv_iconst (v := (-1)) hx hb dX5_init_53 (by decide) ?_
    refine zIastN (D := D) hx hb hH hS ((hB.1 11 (by decide)).1.trans (by decide : zkt 11 = 1)) ((hB.1 11 (by decide)).2.trans (by decide : zkn 11 = 30)) (by omega) (by omega) dX5_init_54 (fun H locs hH hS => ?_)
    obtain ⟨f131, ef131⟩ : ∃ f9 : zFi, f9 = zu f 11 i ((-1)) := ⟨_, rfl⟩
    rw [← ef131] at hH
    have q132 : f131 11 i = (-1) := by rw [ef131]; exact zu_s
    have hB := zBI.int hB ef131 (by unfold zXc; omega)
    refine lv_iinc (v := nI (i + 1)) (lv' := [(1, .int (nI (i + 1))), (0, .ref (τ120.1 9))]) hx hb dX5_init_55 hl (k := 1) rfl (by rw [show (Int32.ofInt 1 : Int32) = nI 1 from by decide, nI_add]) (by decide) rfl (fun ls hl => ?_)
    refine lv_goto (tgt := 42) hx hb dX5_init_58 (by decide) ?_
    exact ih129 (30 - (i + 1)) (by omega) (i + 1, f131) _ _ _ (show 30 - (i + 1) = 30 - (i + 1) ∧ ((i + 1) ≤ 30 ∧ ∀ a k, ¬ zXc a k → f131 a k = 0) ∧ zH D A τ120 f131 g127 ol s _ ∧ va_S A s.heap _ _ ∧ lv_has _ 2 [(0, .ref (τ120.1 9)), (1, .int (nI (i + 1)))] from ⟨rfl, ⟨by omega, hB.2.2.2⟩, hH, hS, lv_sub hl [1, 0] rfl⟩)
set_option maxHeartbeats 4000000 in
set_option maxRecDepth 100000 in
/-- X5_init -/
theorem i_Rul2 (l : Launch) (hl0 : l.stackTraces = false) (D : va_G) (A : Nat → Prop) (sad : Nat → Nat) (τ : zTy) (fi : zFi) (fr : zFr) (ol : Int64) (hB : zBI τ fi fr [12, 11, 10, 9, 8, 7, 6, 5, 4, 3, 2, 1, 0] [(0, 3, 9), (9, 1, 11), (9, 0, 10), (0, 2, 5), (5, 2, 8), (5, 1, 7), (5, 0, 6), (0, 1, 3), (3, 0, 4), (0, 0, 1), (1, 0, 2)]) : Met l yX5_init wsX5_init ({ frames := 1, cells := 2, slots := 34, locals := 12 }) (va_Pc [.ref (τ.1 12)] (zQc D A sad τ fi fr ol)) (va_Qv (fun (u : zTy × zFi × zFr) => zBI u.1 u.2.1 u.2.2 [14, 13, 12, 11, 10, 9, 8, 7, 6, 5, 4, 3, 2, 1, 0] [(12, 1, 14), (12, 0, 13), (0, 3, 9), (9, 1, 11), (9, 0, 10), (0, 2, 5), (5, 2, 8), (5, 1, 7), (5, 0, 6), (0, 1, 3), (3, 0, 4), (0, 0, 1), (1, 0, 2)] ∧ (∀ i, ¬ (i = 14 ∨ i = 13) → u.1.1 i = τ.1 i)) (fun (u : zTy × zFi × zFr) (t : State) => zH D A u.1 u.2.1 u.2.2 ol t t.heap) A) 2 34 A := by
  refine Met.ofW (cc := cX5_init) (maxL := 2) (ret := none) (by decide) rfl ?_
  intro p9 e9 s m args below meth c9 s₁ B hml hv
  obtain ⟨rfl, hz, hH, hA⟩ := hv
  have hx := B.exec
  have hb := B.bytes
  have hr := B.returns
  have hts := atoms_spec (ws := wsX5_init) B.pre
  have hown : s.vm.findClass RX5 = some m.cls := findClass_of_methodNamed B.named
  have hlocks := B.notSynchronized
  have hin : meth.name = "<init>" := (name_of_methodNamed B.named B.method).1
  have hS : va_S A s.heap s.heap [] := va_S.rf
  have hl := lv_entry ([.ref (τ.1 12)]) (n := 2) (Nat.le_of_ble_eq_true rfl)
  rw [lg_entry_eq]
  generalize (lg_sl ([.ref (τ.1 12)]) ++ List.replicate (2 - (lg_sl ([.ref (τ.1 12)])).length) Slot.unset).toArray = ls at hl ⊢
  have hl : lv_has ls 2 [(0, .ref (τ.1 12))] := hl
  have hw0 := hts (.methodLink RX5 3 objectInit) (by decide +kernel)
  have hw1 := hts (.instanceMethod objectInit) (by decide +kernel)
  have hw2 := hts (.code objectInit ⟨#[0xb1]⟩ 1 none) (by decide +kernel)
  have hw3 := hts (.arrayClass .int) (by decide +kernel)
  have hw4 := hts (.fieldLink RX5 9 "PostHouse$Rules" "numbers" "[I") (by decide +kernel)
  have hiX5 : ∀ w ∈ u_ws RX5 TX5 2, w ∈ wsX5_init := fun _ h => List.mem_cons_of_mem _ (List.mem_append_right _ h)
  have hw6 := hts (.fieldLink RX5 15 "PostHouse$Rules" "places" "[I") (by decide +kernel)
  refine lv_aload_n hx hb dX5_init_0 rfl (lv_at hl 0 rfl) ?_
  refine W.objInit hx hb hown hw0 hw1 hw2 rfl (by rw [hml]; exact hl.1) rfl dX5_init_1 (Nat.le_of_ble_eq_true rfl) (Nat.le_of_ble_eq_true rfl) ?_
  refine W.eq (g2 := F0 m 4 ls []) rfl ?_
  refine lv_aload_n hx hb dX5_init_4 rfl (lv_at hl 0 rfl) ?_
  refine lv_iconst (v := nI 4) hx hb dX5_init_5 (by decide) ?_
  refine zNewa (D := D) (atype := .int) (t := 1) (N' := 4) hx hb hw3 rfl (by decide) (by decide) rfl hH hS hA 13 (hB.2.1 13 (by decide)).1 (by decide) (by decide) (by first | decide | (simp only [zT, componentBytes]; omega)) (Nat.le_of_ble_eq_true rfl) (Nat.le_of_ble_eq_true rfl) dX5_init_6 (fun q9 c9 H hH8 hS => ?_)
  obtain ⟨τ101, eτ101⟩ : ∃ t9 : zTy, t9 = (va_up τ.1 13 q9, va_up τ.2.1 13 c9, va_up τ.2.2.1 13 1, va_up τ.2.2.2 13 4) := ⟨_, rfl⟩
  obtain ⟨f102, ef102⟩ : ∃ f9 : zFi, f9 = va_up fi 13 (fun _ => 0) := ⟨_, rfl⟩
  obtain ⟨g103, eg103⟩ : ∃ f9 : zFr, f9 = va_up fr 13 (fun _ => none) := ⟨_, rfl⟩
  have hH : zH D A τ101 f102 g103 ol s H := by rw [eτ101, ef102, eg103]; exact hH8
  clear hH8
  have hqτ101 : τ101.1 13 = q9 := by rw [eτ101]; exact va_up_self τ.1 13 q9
  have haτ101 : ∀ i, i ≠ 13 → τ101.1 i = τ.1 i := fun i h => by rw [eτ101]; exact va_up_ne _ _ h
  have hkτ101 : τ101.2.2.1 13 = 1 := by rw [eτ101]; exact va_up_self τ.2.2.1 13 1
  have hnτ101 : τ101.2.2.2 13 = 4 := by rw [eτ101]; exact va_up_self τ.2.2.2 13 4
  have hbτ101 : ∀ i, i ≠ 13 → τ101.2.2.1 i = τ.2.2.1 i ∧ τ101.2.2.2 i = τ.2.2.2 i := fun i h => by rw [eτ101]; exact ⟨va_up_ne _ _ h, va_up_ne _ _ h⟩
  clear eτ101
  subst hqτ101
  rw [show τ.1 12 = τ101.1 12 from (haτ101 12 (by omega)).symm] at hl
  refine W.eq (g2 := F0 m 8 ls [.ref (τ101.1 13), .ref (τ101.1 12)]) (by rw [haτ101 12 (by omega)]) ?_
  have hB := zBI.born (i := 13) hB (by decide) hkτ101 hnτ101 hbτ101 ef102 eg103 (by decide) (by decide)
  have hAd : ∀ i, ¬ (i = 13) → τ101.1 i = τ.1 i := fun i h => by rw [haτ101 i (by omega)]
  refine W.widen (k := 1) (n := 4) (by decide) (by decide) ?_
  refine lv_dup hx hb dX5_init_8 rfl ?_
  refine lv_iconst (v := nI 0) hx hb dX5_init_9 (by decide) ?_
  refine lv_bipush (v := nI 10) hx hb dX5_init_10 (by decide) ?_
  refine zIastN (D := D) hx hb hH hS ((hB.1 13 (by decide)).1.trans (by decide : zkt 13 = 1)) ((hB.1 13 (by decide)).2.trans (by decide : zkn 13 = 4)) (by omega) (by omega) dX5_init_12 (fun H locs hH hS => ?_)
  obtain ⟨f104, ef104⟩ : ∃ f9 : zFi, f9 = zu f102 13 0 (nI 10) := ⟨_, rfl⟩
  rw [← ef104] at hH
  have q105 : f104 13 0 = nI 10 := by rw [ef104]; exact zu_s
  have hB := zBI.int hB ef104 (by unfold zXc; omega)
  refine lv_dup hx hb dX5_init_13 rfl ?_
  refine lv_iconst (v := nI 1) hx hb dX5_init_14 (by decide) ?_
  refine lv_bipush (v := nI 50) hx hb dX5_init_15 (by decide) ?_
  refine zIastN (D := D) hx hb hH hS ((hB.1 13 (by decide)).1.trans (by decide : zkt 13 = 1)) ((hB.1 13 (by decide)).2.trans (by decide : zkn 13 = 4)) (by omega) (by omega) dX5_init_17 (fun H locs hH hS => ?_)
  obtain ⟨f106, ef106⟩ : ∃ f9 : zFi, f9 = zu f104 13 1 (nI 50) := ⟨_, rfl⟩
  rw [← ef106] at hH
  have q107 : f106 13 0 = nI 10 := by rw [ef106, zu_n (fun h9 => absurd h9.2 (by decide))]; exact q105
  have q108 : f106 13 1 = nI 50 := by rw [ef106]; exact zu_s
  have hB := zBI.int hB ef106 (by unfold zXc; omega)
  refine lv_dup hx hb dX5_init_18 rfl ?_
  refine lv_iconst (v := nI 2) hx hb dX5_init_19 (by decide) ?_
  refine lv_sipush (v := nI 10000) hx hb dX5_init_20 (by decide) ?_
  refine zIastN (D := D) hx hb hH hS ((hB.1 13 (by decide)).1.trans (by decide : zkt 13 = 1)) ((hB.1 13 (by decide)).2.trans (by decide : zkn 13 = 4)) (by omega) (by omega) dX5_init_23 (fun H locs hH hS => ?_)
  obtain ⟨f109, ef109⟩ : ∃ f9 : zFi, f9 = zu f106 13 2 (nI 10000) := ⟨_, rfl⟩
  rw [← ef109] at hH
  have q110 : f109 13 0 = nI 10 := by rw [ef109, zu_n (fun h9 => absurd h9.2 (by decide))]; exact q107
  have q111 : f109 13 1 = nI 50 := by rw [ef109, zu_n (fun h9 => absurd h9.2 (by decide))]; exact q108
  have q112 : f109 13 2 = nI 10000 := by rw [ef109]; exact zu_s
  have hB := zBI.int hB ef109 (by unfold zXc; omega)
  refine lv_dup hx hb dX5_init_24 rfl ?_
  refine lv_iconst (v := nI 3) hx hb dX5_init_25 (by decide) ?_
  refine lv_bipush (v := nI 14) hx hb dX5_init_26 (by decide) ?_
  refine zIastN (D := D) hx hb hH hS ((hB.1 13 (by decide)).1.trans (by decide : zkt 13 = 1)) ((hB.1 13 (by decide)).2.trans (by decide : zkn 13 = 4)) (by omega) (by omega) dX5_init_28 (fun H locs hH hS => ?_)
  obtain ⟨f113, ef113⟩ : ∃ f9 : zFi, f9 = zu f109 13 3 (nI 14) := ⟨_, rfl⟩
  rw [← ef113] at hH
  have q114 : f113 13 0 = nI 10 := by rw [ef113, zu_n (fun h9 => absurd h9.2 (by decide))]; exact q110
  have q115 : f113 13 1 = nI 50 := by rw [ef113, zu_n (fun h9 => absurd h9.2 (by decide))]; exact q111
  have q116 : f113 13 2 = nI 10000 := by rw [ef113, zu_n (fun h9 => absurd h9.2 (by decide))]; exact q112
  have q117 : f113 13 3 = nI 14 := by rw [ef113]; exact zu_s
  have hB := zBI.int hB ef113 (by unfold zXc; omega)
  refine zPutFR (D := D) (ci := 5) (ty := .array .int) (C := RX5) (T := TX5) (N := 2) hx hb hts hiX5 tyX5 tyX5_ok nmX5 hown hH hS ((hB.1 12 (by decide)).1.trans (by decide : zkt 12 = 21)) rfl 0 (by decide) rfl hw4 (fun _ h9 => h9) rfl hin rfl (by rw [((hB.1 13 (by decide)).1.trans (by decide : zkt 13 = 1))]; decide)  (by decide +kernel) rfl rfl dX5_init_29 (fun H locs hH hS => ?_)
  obtain ⟨g118, eg118⟩ : ∃ f9 : zFr, f9 = zur g103 12 0 (some 13) := ⟨_, rfl⟩
  rw [← eg118] at hH
  have hB := zBI.ref hB eg118 (by decide)
  refine lv_aload_n hx hb dX5_init_32 rfl (lv_at hl 0 rfl) ?_
  refine lv_bipush (v := nI 30) hx hb dX5_init_33 (by decide) ?_
  refine zNewa (D := D) (atype := .int) (t := 1) (N' := 30) hx hb hw3 rfl (by decide) (by decide) rfl hH hS hA 14 (hB.2.1 14 (by decide)).1 (by decide) (by decide) (by first | decide | (simp only [zT, componentBytes]; omega)) (Nat.le_of_ble_eq_true rfl) (Nat.le_of_ble_eq_true rfl) dX5_init_35 (fun q9 c9 H hH8 hS => ?_)
  obtain ⟨τ120, eτ120⟩ : ∃ t9 : zTy, t9 = (va_up τ101.1 14 q9, va_up τ101.2.1 14 c9, va_up τ101.2.2.1 14 1, va_up τ101.2.2.2 14 30) := ⟨_, rfl⟩
  obtain ⟨f121, ef121⟩ : ∃ f9 : zFi, f9 = va_up f113 14 (fun _ => 0) := ⟨_, rfl⟩
  obtain ⟨g122, eg122⟩ : ∃ f9 : zFr, f9 = va_up g118 14 (fun _ => none) := ⟨_, rfl⟩
  have hH : zH D A τ120 f121 g122 ol s H := by rw [eτ120, ef121, eg122]; exact hH8
  clear hH8
  have hqτ120 : τ120.1 14 = q9 := by rw [eτ120]; exact va_up_self τ101.1 14 q9
  have haτ120 : ∀ i, i ≠ 14 → τ120.1 i = τ101.1 i := fun i h => by rw [eτ120]; exact va_up_ne _ _ h
  have hkτ120 : τ120.2.2.1 14 = 1 := by rw [eτ120]; exact va_up_self τ101.2.2.1 14 1
  have hnτ120 : τ120.2.2.2 14 = 30 := by rw [eτ120]; exact va_up_self τ101.2.2.2 14 30
  have hbτ120 : ∀ i, i ≠ 14 → τ120.2.2.1 i = τ101.2.2.1 i ∧ τ120.2.2.2 i = τ101.2.2.2 i := fun i h => by rw [eτ120]; exact ⟨va_up_ne _ _ h, va_up_ne _ _ h⟩
  clear eτ120
  subst hqτ120
  rw [show τ101.1 12 = τ120.1 12 from (haτ120 12 (by omega)).symm] at hl
  refine W.eq (g2 := F0 m 37 ls [.ref (τ120.1 14), .ref (τ120.1 12)]) (by rw [haτ120 12 (by omega)]) ?_
  have q123 : f121 13 0 = nI 10 := by rw [ef121, va_up_ne _ _ (by omega)]; exact q114
  have q124 : f121 13 1 = nI 50 := by rw [ef121, va_up_ne _ _ (by omega)]; exact q115
  have q125 : f121 13 2 = nI 10000 := by rw [ef121, va_up_ne _ _ (by omega)]; exact q116
  have q126 : f121 13 3 = nI 14 := by rw [ef121, va_up_ne _ _ (by omega)]; exact q117
  have hB := zBI.born (i := 14) hB (by decide) hkτ120 hnτ120 hbτ120 ef121 eg122 (by decide) (by decide)
  have hAd : ∀ i, ¬ (i = 14 ∨ i = 13) → τ120.1 i = τ.1 i := fun i h => by rw [haτ120 i (by omega)]; exact hAd i (by omega)
  refine W.widen (k := 2) (n := 34) (by decide) (by decide) ?_
  refine zPutFR (D := D) (ci := 5) (ty := .array .int) (C := RX5) (T := TX5) (N := 2) hx hb hts hiX5 tyX5 tyX5_ok nmX5 hown hH hS ((hB.1 12 (by decide)).1.trans (by decide : zkt 12 = 21)) rfl 1 (by decide) rfl hw6 (fun _ h9 => h9) rfl hin rfl (by rw [((hB.1 14 (by decide)).1.trans (by decide : zkt 14 = 1))]; decide)  (by decide +kernel) rfl rfl dX5_init_37 (fun H locs hH hS => ?_)
  obtain ⟨g127, eg127⟩ : ∃ f9 : zFr, f9 = zur g122 12 1 (some 14) := ⟨_, rfl⟩
  rw [← eg127] at hH
  have hB := zBI.ref hB eg127 (by decide)
  refine lv_iconst (v := nI 0) hx hb dX5_init_40 (by decide) ?_
  refine lv_istore_n (lv' := [(1, .int (nI 0)), (0, .ref (τ120.1 12))]) hx hb dX5_init_41 rfl hl (by decide) rfl (fun ls hl => ?_)
  refine zLp (σ := Nat × zFi) (fun x9 k9 H locs ls => (fun (i : Nat) (f : zFi) => k9 = 30 - i ∧ (i ≤ 30 ∧ ∀ a k, ¬ zXc a k → f a k = 0) ∧ zH D A τ120 f g127 ol s H ∧ va_S A s.heap H locs ∧ lv_has ls 2 [(0, .ref (τ120.1 12)), (1, .int (nI i))]) x9.1 x9.2) (0, f121) (30 - 0) (show 30 - 0 = 30 - 0 ∧ (0 ≤ 30 ∧ ∀ a k, ¬ zXc a k → f121 a k = 0) ∧ zH D A τ120 f121 g127 ol s _ ∧ va_S A s.heap _ _ ∧ lv_has _ 2 [(0, .ref (τ120.1 12)), (1, .int (nI 0))] from ⟨rfl, ⟨Nat.zero_le _, hB.2.2.2⟩, hH, hS, lv_sub hl [1, 0] rfl⟩) (fun k9 ih x9 H locs ls hv9 => ?_)
  obtain ⟨i, f⟩ := x9
  have hv9 : k9 = 30 - i ∧ (i ≤ 30 ∧ ∀ a k, ¬ zXc a k → f a k = 0) ∧ zH D A τ120 f g127 ol s H ∧ va_S A s.heap H locs ∧ lv_has ls 2 [(0, .ref (τ120.1 12)), (1, .int (nI i))] := hv9
  obtain ⟨hkih129, hv9, hH, hS, hl⟩ := hv9
  obtain ⟨h1, hz0⟩ := hv9
  have ih129 := ih
  clear ih
  have hB := zBI.mk0 hB hz0
  refine lv_iload_n hx hb dX5_init_42 rfl (lv_at hl 1 rfl) ?_
  refine lv_bipush (v := nI 30) hx hb dX5_init_43 (by decide) ?_
  refine lv_icmp_ge (tgt := 61) hx hb dX5_init_45 (by decide) (fun c130 => ?_) (fun c130 => ?_)
  · have zc130 := c130
    replace zc130 := zc_le (nI_toInt (by omega)) (nI_toInt (by omega)) zc130
    refine W.widen (k := 2) (n := 34) (by decide) (by decide) ?_
    exact W.vret hx hb hr (fun t9 ht9 hW9 => ⟨⟨(τ120, f, g127), rfl, (show zBI τ120 f g127 [14, 13, 12, 11, 10, 9, 8, 7, 6, 5, 4, 3, 2, 1, 0] [(12, 1, 14), (12, 0, 13), (0, 3, 9), (9, 1, 11), (9, 0, 10), (0, 2, 5), (5, 2, 8), (5, 1, 7), (5, 0, 6), (0, 1, 3), (3, 0, 4), (0, 0, 1), (1, 0, 2)] ∧ (∀ i, ¬ (i = 14 ∨ i = 13) → τ120.1 i = τ.1 i) from ⟨hB, hAd⟩), zEnd1 hH ht9 hW9⟩, hS.F ht9⟩) hS.2.2 dX5_init_61
  · have zc130 := c130
    replace zc130 := zc_nle (nI_toInt (by omega)) (nI_toInt (by omega)) zc130
    refine lv_aload_n hx hb dX5_init_48 rfl (lv_at hl 0 rfl) ?_
    refine zGetR (D := D) (ci := 5) (C := RX5) (T := TX5) (N := 2) hx hb hts hiX5 hown hH ((hB.1 12 (by decide)).1.trans (by decide : zkt 12 = 21)) rfl 1 (by decide) rfl hw6 (fun _ h9 => h9) dX5_init_49 (hB.2.2.1 (12, 1, 14) (by decide)) ?_
    refine lv_iload_n hx hb dX5_init_52 rfl (lv_at hl 1 rfl) ?_
    refine lv_iconst (v := (-1)) hx hb dX5_init_53 (by decide) ?_
    refine zIastN (D := D) hx hb hH hS ((hB.1 14 (by decide)).1.trans (by decide : zkt 14 = 1)) ((hB.1 14 (by decide)).2.trans (by decide : zkn 14 = 30)) (by omega) (by omega) dX5_init_54 (fun H locs hH hS => ?_)
    obtain ⟨f131, ef131⟩ : ∃ f9 : zFi, f9 = zu f 14 i ((-1)) := ⟨_, rfl⟩
    rw [← ef131] at hH
    have q132 : f131 14 i = (-1) := by rw [ef131]; exact zu_s
    have hB := zBI.int hB ef131 (by unfold zXc; omega)
    refine lv_iinc (v := nI (i + 1)) (lv' := [(1, .int (nI (i + 1))), (0, .ref (τ120.1 12))]) hx hb dX5_init_55 hl (k := 1) rfl (by rw [show (Int32.ofInt 1 : Int32) = nI 1 from by decide, nI_add]) (by decide) rfl (fun ls hl => ?_)
    refine lv_goto (tgt := 42) hx hb dX5_init_58 (by decide) ?_
    exact ih129 (30 - (i + 1)) (by omega) (i + 1, f131) _ _ _ (show 30 - (i + 1) = 30 - (i + 1) ∧ ((i + 1) ≤ 30 ∧ ∀ a k, ¬ zXc a k → f131 a k = 0) ∧ zH D A τ120 f131 g127 ol s _ ∧ va_S A s.heap _ _ ∧ lv_has _ 2 [(0, .ref (τ120.1 12)), (1, .int (nI (i + 1)))] from ⟨rfl, ⟨by omega, hB.2.2.2⟩, hH, hS, lv_sub hl [1, 0] rfl⟩)
set_option maxHeartbeats 4000000 in
set_option maxRecDepth 100000 in
/-- X4_init -/
theorem i_Pack (l : Launch) (hl0 : l.stackTraces = false) (D : va_G) (A : Nat → Prop) (sad : Nat → Nat) (τ : zTy) (fi : zFi) (fr : zFr) (ol : Int64) (hB : zBI τ fi fr [18, 17, 16, 15, 14, 13, 12, 11, 10, 9, 8, 7, 6, 5, 4, 3, 2, 1, 0] [(0, 7, 17), (0, 6, 16), (0, 5, 15), (0, 4, 12), (12, 1, 14), (12, 0, 13), (0, 3, 9), (9, 1, 11), (9, 0, 10), (0, 2, 5), (5, 2, 8), (5, 1, 7), (5, 0, 6), (0, 1, 3), (3, 0, 4), (0, 0, 1), (1, 0, 2)]) : Met l yX4_init wsX4_init ({ frames := 1, cells := 3, slots := 824, locals := 12 }) (va_Pc [.ref (τ.1 18)] (zQc D A sad τ fi fr ol)) (va_Qv (fun (u : zTy × zFi × zFr) => zBI u.1 u.2.1 u.2.2 [21, 20, 19, 18, 17, 16, 15, 14, 13, 12, 11, 10, 9, 8, 7, 6, 5, 4, 3, 2, 1, 0] [(18, 2, 21), (18, 1, 20), (18, 0, 19), (0, 7, 17), (0, 6, 16), (0, 5, 15), (0, 4, 12), (12, 1, 14), (12, 0, 13), (0, 3, 9), (9, 1, 11), (9, 0, 10), (0, 2, 5), (5, 2, 8), (5, 1, 7), (5, 0, 6), (0, 1, 3), (3, 0, 4), (0, 0, 1), (1, 0, 2)] ∧ (∀ i, ¬ (i = 21 ∨ i = 20 ∨ i = 19) → u.1.1 i = τ.1 i)) (fun (u : zTy × zFi × zFr) (t : State) => zH D A u.1 u.2.1 u.2.2 ol t t.heap) A) 3 824 A := by
  refine Met.ofW (cc := cX4_init) (maxL := 1) (ret := none) (by decide) rfl ?_
  intro p9 e9 s m args below meth c9 s₁ B hml hv
  obtain ⟨rfl, hz, hH, hA⟩ := hv
  have hx := B.exec
  have hb := B.bytes
  have hr := B.returns
  have hts := atoms_spec (ws := wsX4_init) B.pre
  have hown : s.vm.findClass RX4 = some m.cls := findClass_of_methodNamed B.named
  have hlocks := B.notSynchronized
  have hin : meth.name = "<init>" := (name_of_methodNamed B.named B.method).1
  have hS : va_S A s.heap s.heap [] := va_S.rf
  have hl := lv_entry ([.ref (τ.1 18)]) (n := 1) (Nat.le_of_ble_eq_true rfl)
  rw [lg_entry_eq]
  generalize (lg_sl ([.ref (τ.1 18)]) ++ List.replicate (1 - (lg_sl ([.ref (τ.1 18)])).length) Slot.unset).toArray = ls at hl ⊢
  have hl : lv_has ls 1 [(0, .ref (τ.1 18))] := hl
  have hw0 := hts (.methodLink RX4 3 objectInit) (by decide +kernel)
  have hw1 := hts (.instanceMethod objectInit) (by decide +kernel)
  have hw2 := hts (.code objectInit ⟨#[0xb1]⟩ 1 none) (by decide +kernel)
  have hw3 := hts (.arrayClass .int) (by decide +kernel)
  have hw4 := hts (.fieldLink RX4 11 "PostHouse$Packing" "weights" "[I") (by decide +kernel)
  have hiX4 : ∀ w ∈ u_ws RX4 TX4 5, w ∈ wsX4_init := fun _ h => List.mem_cons_of_mem _ (List.mem_append_right _ h)
  have hw6 := hts (.fieldLink RX4 15 "PostHouse$Packing" "counts" "[I") (by decide +kernel)
  have hw7 := hts (.fieldLink RX4 18 "PostHouse$Packing" "loads" "[I") (by decide +kernel)
  refine lv_aload_n hx hb dX4_init_0 rfl (lv_at hl 0 rfl) ?_
  refine W.objInit hx hb hown hw0 hw1 hw2 rfl (by rw [hml]; exact hl.1) rfl dX4_init_1 (Nat.le_of_ble_eq_true rfl) (Nat.le_of_ble_eq_true rfl) ?_
  refine W.eq (g2 := F0 m 4 ls []) rfl ?_
  refine lv_aload_n hx hb dX4_init_4 rfl (lv_at hl 0 rfl) ?_
  refine lv_bipush (v := nI 16) hx hb dX4_init_5 (by decide) ?_
  refine zNewa (D := D) (atype := .int) (t := 1) (N' := 16) hx hb hw3 rfl (by decide) (by decide) rfl hH hS hA 19 (hB.2.1 19 (by decide)).1 (by decide) (by decide) (by first | decide | (simp only [zT, componentBytes]; omega)) (Nat.le_of_ble_eq_true rfl) (Nat.le_of_ble_eq_true rfl) dX4_init_7 (fun q9 c9 H hH8 hS => ?_)
  obtain ⟨τ101, eτ101⟩ : ∃ t9 : zTy, t9 = (va_up τ.1 19 q9, va_up τ.2.1 19 c9, va_up τ.2.2.1 19 1, va_up τ.2.2.2 19 16) := ⟨_, rfl⟩
  obtain ⟨f102, ef102⟩ : ∃ f9 : zFi, f9 = va_up fi 19 (fun _ => 0) := ⟨_, rfl⟩
  obtain ⟨g103, eg103⟩ : ∃ f9 : zFr, f9 = va_up fr 19 (fun _ => none) := ⟨_, rfl⟩
  have hH : zH D A τ101 f102 g103 ol s H := by rw [eτ101, ef102, eg103]; exact hH8
  clear hH8
  have hqτ101 : τ101.1 19 = q9 := by rw [eτ101]; exact va_up_self τ.1 19 q9
  have haτ101 : ∀ i, i ≠ 19 → τ101.1 i = τ.1 i := fun i h => by rw [eτ101]; exact va_up_ne _ _ h
  have hkτ101 : τ101.2.2.1 19 = 1 := by rw [eτ101]; exact va_up_self τ.2.2.1 19 1
  have hnτ101 : τ101.2.2.2 19 = 16 := by rw [eτ101]; exact va_up_self τ.2.2.2 19 16
  have hbτ101 : ∀ i, i ≠ 19 → τ101.2.2.1 i = τ.2.2.1 i ∧ τ101.2.2.2 i = τ.2.2.2 i := fun i h => by rw [eτ101]; exact ⟨va_up_ne _ _ h, va_up_ne _ _ h⟩
  clear eτ101
  subst hqτ101
  rw [show τ.1 18 = τ101.1 18 from (haτ101 18 (by omega)).symm] at hl
  refine W.eq (g2 := F0 m 9 ls [.ref (τ101.1 19), .ref (τ101.1 18)]) (by rw [haτ101 18 (by omega)]) ?_
  have hB := zBI.born (i := 19) hB (by decide) hkτ101 hnτ101 hbτ101 ef102 eg103 (by decide) (by decide)
  have hAd : ∀ i, ¬ (i = 19) → τ101.1 i = τ.1 i := fun i h => by rw [haτ101 i (by omega)]
  refine W.widen (k := 1) (n := 16) (by decide) (by decide) ?_
  refine zPutFR (D := D) (ci := 4) (ty := .array .int) (C := RX4) (T := TX4) (N := 5) hx hb hts hiX4 tyX4 tyX4_ok nmX4 hown hH hS ((hB.1 18 (by decide)).1.trans (by decide : zkt 18 = 20)) rfl 0 (by decide) rfl hw4 (fun _ h9 => h9) rfl hin rfl (by rw [((hB.1 19 (by decide)).1.trans (by decide : zkt 19 = 1))]; decide)  (by decide +kernel) rfl rfl dX4_init_9 (fun H locs hH hS => ?_)
  obtain ⟨g104, eg104⟩ : ∃ f9 : zFr, f9 = zur g103 18 0 (some 19) := ⟨_, rfl⟩
  rw [← eg104] at hH
  have hB := zBI.ref hB eg104 (by decide)
  refine lv_aload_n hx hb dX4_init_12 rfl (lv_at hl 0 rfl) ?_
  refine lv_bipush (v := nI 16) hx hb dX4_init_13 (by decide) ?_
  refine zNewa (D := D) (atype := .int) (t := 1) (N' := 16) hx hb hw3 rfl (by decide) (by decide) rfl hH hS hA 20 (hB.2.1 20 (by decide)).1 (by decide) (by decide) (by first | decide | (simp only [zT, componentBytes]; omega)) (Nat.le_of_ble_eq_true rfl) (Nat.le_of_ble_eq_true rfl) dX4_init_15 (fun q9 c9 H hH8 hS => ?_)
  obtain ⟨τ106, eτ106⟩ : ∃ t9 : zTy, t9 = (va_up τ101.1 20 q9, va_up τ101.2.1 20 c9, va_up τ101.2.2.1 20 1, va_up τ101.2.2.2 20 16) := ⟨_, rfl⟩
  obtain ⟨f107, ef107⟩ : ∃ f9 : zFi, f9 = va_up f102 20 (fun _ => 0) := ⟨_, rfl⟩
  obtain ⟨g108, eg108⟩ : ∃ f9 : zFr, f9 = va_up g104 20 (fun _ => none) := ⟨_, rfl⟩
  have hH : zH D A τ106 f107 g108 ol s H := by rw [eτ106, ef107, eg108]; exact hH8
  clear hH8
  have hqτ106 : τ106.1 20 = q9 := by rw [eτ106]; exact va_up_self τ101.1 20 q9
  have haτ106 : ∀ i, i ≠ 20 → τ106.1 i = τ101.1 i := fun i h => by rw [eτ106]; exact va_up_ne _ _ h
  have hkτ106 : τ106.2.2.1 20 = 1 := by rw [eτ106]; exact va_up_self τ101.2.2.1 20 1
  have hnτ106 : τ106.2.2.2 20 = 16 := by rw [eτ106]; exact va_up_self τ101.2.2.2 20 16
  have hbτ106 : ∀ i, i ≠ 20 → τ106.2.2.1 i = τ101.2.2.1 i ∧ τ106.2.2.2 i = τ101.2.2.2 i := fun i h => by rw [eτ106]; exact ⟨va_up_ne _ _ h, va_up_ne _ _ h⟩
  clear eτ106
  subst hqτ106
  rw [show τ101.1 18 = τ106.1 18 from (haτ106 18 (by omega)).symm] at hl
  refine W.eq (g2 := F0 m 17 ls [.ref (τ106.1 20), .ref (τ106.1 18)]) (by rw [haτ106 18 (by omega)]) ?_
  have hB := zBI.born (i := 20) hB (by decide) hkτ106 hnτ106 hbτ106 ef107 eg108 (by decide) (by decide)
  have hAd : ∀ i, ¬ (i = 20 ∨ i = 19) → τ106.1 i = τ.1 i := fun i h => by rw [haτ106 i (by omega)]; exact hAd i (by omega)
  refine W.widen (k := 2) (n := 32) (by decide) (by decide) ?_
  refine zPutFR (D := D) (ci := 4) (ty := .array .int) (C := RX4) (T := TX4) (N := 5) hx hb hts hiX4 tyX4 tyX4_ok nmX4 hown hH hS ((hB.1 18 (by decide)).1.trans (by decide : zkt 18 = 20)) rfl 1 (by decide) rfl hw6 (fun _ h9 => h9) rfl hin rfl (by rw [((hB.1 20 (by decide)).1.trans (by decide : zkt 20 = 1))]; decide)  (by decide +kernel) rfl rfl dX4_init_17 (fun H locs hH hS => ?_)
  obtain ⟨g109, eg109⟩ : ∃ f9 : zFr, f9 = zur g108 18 1 (some 20) := ⟨_, rfl⟩
  rw [← eg109] at hH
  have hB := zBI.ref hB eg109 (by decide)
  refine lv_aload_n hx hb dX4_init_20 rfl (lv_at hl 0 rfl) ?_
  refine lv_sipush (v := nI 792) hx hb dX4_init_21 (by decide) ?_
  refine zNewa (D := D) (atype := .int) (t := 1) (N' := 792) hx hb hw3 rfl (by decide) (by decide) rfl hH hS hA 21 (hB.2.1 21 (by decide)).1 (by decide) (by decide) (by first | decide | (simp only [zT, componentBytes]; omega)) (Nat.le_of_ble_eq_true rfl) (Nat.le_of_ble_eq_true rfl) dX4_init_24 (fun q9 c9 H hH8 hS => ?_)
  obtain ⟨τ111, eτ111⟩ : ∃ t9 : zTy, t9 = (va_up τ106.1 21 q9, va_up τ106.2.1 21 c9, va_up τ106.2.2.1 21 1, va_up τ106.2.2.2 21 792) := ⟨_, rfl⟩
  obtain ⟨f112, ef112⟩ : ∃ f9 : zFi, f9 = va_up f107 21 (fun _ => 0) := ⟨_, rfl⟩
  obtain ⟨g113, eg113⟩ : ∃ f9 : zFr, f9 = va_up g109 21 (fun _ => none) := ⟨_, rfl⟩
  have hH : zH D A τ111 f112 g113 ol s H := by rw [eτ111, ef112, eg113]; exact hH8
  clear hH8
  have hqτ111 : τ111.1 21 = q9 := by rw [eτ111]; exact va_up_self τ106.1 21 q9
  have haτ111 : ∀ i, i ≠ 21 → τ111.1 i = τ106.1 i := fun i h => by rw [eτ111]; exact va_up_ne _ _ h
  have hkτ111 : τ111.2.2.1 21 = 1 := by rw [eτ111]; exact va_up_self τ106.2.2.1 21 1
  have hnτ111 : τ111.2.2.2 21 = 792 := by rw [eτ111]; exact va_up_self τ106.2.2.2 21 792
  have hbτ111 : ∀ i, i ≠ 21 → τ111.2.2.1 i = τ106.2.2.1 i ∧ τ111.2.2.2 i = τ106.2.2.2 i := fun i h => by rw [eτ111]; exact ⟨va_up_ne _ _ h, va_up_ne _ _ h⟩
  clear eτ111
  subst hqτ111
  rw [show τ106.1 18 = τ111.1 18 from (haτ111 18 (by omega)).symm] at hl
  refine W.eq (g2 := F0 m 26 ls [.ref (τ111.1 21), .ref (τ111.1 18)]) (by rw [haτ111 18 (by omega)]) ?_
  have hB := zBI.born (i := 21) hB (by decide) hkτ111 hnτ111 hbτ111 ef112 eg113 (by decide) (by decide)
  have hAd : ∀ i, ¬ (i = 21 ∨ i = 20 ∨ i = 19) → τ111.1 i = τ.1 i := fun i h => by rw [haτ111 i (by omega)]; exact hAd i (by omega)
  refine W.widen (k := 3) (n := 824) (by decide) (by decide) ?_
  refine zPutFR (D := D) (ci := 4) (ty := .array .int) (C := RX4) (T := TX4) (N := 5) hx hb hts hiX4 tyX4 tyX4_ok nmX4 hown hH hS ((hB.1 18 (by decide)).1.trans (by decide : zkt 18 = 20)) rfl 2 (by decide) rfl hw7 (fun _ h9 => h9) rfl hin rfl (by rw [((hB.1 21 (by decide)).1.trans (by decide : zkt 21 = 1))]; decide)  (by decide +kernel) rfl rfl dX4_init_26 (fun H locs hH hS => ?_)
  obtain ⟨g114, eg114⟩ : ∃ f9 : zFr, f9 = zur g113 18 2 (some 21) := ⟨_, rfl⟩
  rw [← eg114] at hH
  have hB := zBI.ref hB eg114 (by decide)
  refine W.widen (k := 3) (n := 824) (by decide) (by decide) ?_
  exact W.vret hx hb hr (fun t9 ht9 hW9 => ⟨⟨(τ111, f112, g114), rfl, (show zBI τ111 f112 g114 [21, 20, 19, 18, 17, 16, 15, 14, 13, 12, 11, 10, 9, 8, 7, 6, 5, 4, 3, 2, 1, 0] [(18, 2, 21), (18, 1, 20), (18, 0, 19), (0, 7, 17), (0, 6, 16), (0, 5, 15), (0, 4, 12), (12, 1, 14), (12, 0, 13), (0, 3, 9), (9, 1, 11), (9, 0, 10), (0, 2, 5), (5, 2, 8), (5, 1, 7), (5, 0, 6), (0, 1, 3), (3, 0, 4), (0, 0, 1), (1, 0, 2)] ∧ (∀ i, ¬ (i = 21 ∨ i = 20 ∨ i = 19) → τ111.1 i = τ.1 i) from ⟨hB, hAd⟩), zEnd1 hH ht9 hW9⟩, hS.F ht9⟩) hS.2.2 dX4_init_29
set_option maxHeartbeats 4000000 in
set_option maxRecDepth 100000 in
/-- X9_init -/
theorem i_Walk (l : Launch) (hl0 : l.stackTraces = false) (D : va_G) (A : Nat → Prop) (sad : Nat → Nat) (τ : zTy) (fi : zFi) (fr : zFr) (ol : Int64) (hB : zBI τ fi fr [22, 21, 20, 19, 18, 17, 16, 15, 14, 13, 12, 11, 10, 9, 8, 7, 6, 5, 4, 3, 2, 1, 0] [(0, 8, 18), (18, 2, 21), (18, 1, 20), (18, 0, 19), (0, 7, 17), (0, 6, 16), (0, 5, 15), (0, 4, 12), (12, 1, 14), (12, 0, 13), (0, 3, 9), (9, 1, 11), (9, 0, 10), (0, 2, 5), (5, 2, 8), (5, 1, 7), (5, 0, 6), (0, 1, 3), (3, 0, 4), (0, 0, 1), (1, 0, 2)]) : Met l yX9_init wsX9_init ({ frames := 1, cells := 5, slots := 49, locals := 12 }) (va_Pc [.ref (τ.1 22)] (zQc D A sad τ fi fr ol)) (va_Qv (fun (u : zTy × zFi × zFr) => zBI u.1 u.2.1 u.2.2 [27, 26, 25, 24, 23, 22, 21, 20, 19, 18, 17, 16, 15, 14, 13, 12, 11, 10, 9, 8, 7, 6, 5, 4, 3, 2, 1, 0] [(22, 5, 27), (22, 4, 26), (22, 3, 25), (22, 2, 24), (22, 0, 23), (0, 8, 18), (18, 2, 21), (18, 1, 20), (18, 0, 19), (0, 7, 17), (0, 6, 16), (0, 5, 15), (0, 4, 12), (12, 1, 14), (12, 0, 13), (0, 3, 9), (9, 1, 11), (9, 0, 10), (0, 2, 5), (5, 2, 8), (5, 1, 7), (5, 0, 6), (0, 1, 3), (3, 0, 4), (0, 0, 1), (1, 0, 2)] ∧ (∀ i, ¬ (i = 27 ∨ i = 26 ∨ i = 25 ∨ i = 24 ∨ i = 23) → u.1.1 i = τ.1 i)) (fun (u : zTy × zFi × zFr) (t : State) => zH D A u.1 u.2.1 u.2.2 ol t t.heap) A) 5 49 A := by
  refine Met.ofW (cc := cX9_init) (maxL := 1) (ret := none) (by decide) rfl ?_
  intro p9 e9 s m args below meth c9 s₁ B hml hv
  obtain ⟨rfl, hz, hH, hA⟩ := hv
  have hx := B.exec
  have hb := B.bytes
  have hr := B.returns
  have hts := atoms_spec (ws := wsX9_init) B.pre
  have hown : s.vm.findClass RX9 = some m.cls := findClass_of_methodNamed B.named
  have hlocks := B.notSynchronized
  have hin : meth.name = "<init>" := (name_of_methodNamed B.named B.method).1
  have hS : va_S A s.heap s.heap [] := va_S.rf
  have hl := lv_entry ([.ref (τ.1 22)]) (n := 1) (Nat.le_of_ble_eq_true rfl)
  rw [lg_entry_eq]
  generalize (lg_sl ([.ref (τ.1 22)]) ++ List.replicate (1 - (lg_sl ([.ref (τ.1 22)])).length) Slot.unset).toArray = ls at hl ⊢
  have hl : lv_has ls 1 [(0, .ref (τ.1 22))] := hl
  have hw0 := hts (.methodLink RX9 3 objectInit) (by decide +kernel)
  have hw1 := hts (.instanceMethod objectInit) (by decide +kernel)
  have hw2 := hts (.code objectInit ⟨#[0xb1]⟩ 1 none) (by decide +kernel)
  have hw3 := hts (.classLink RX9 9 RX8) (by decide +kernel)
  have hw4 := hts (.fieldLink RX9 11 "PostHouse$Walk" "picks" "[LPostHouse$Thing;") (by decide +kernel)
  have hiX9 : ∀ w ∈ u_ws RX9 TX9 6, w ∈ wsX9_init := fun _ h => List.mem_cons_of_mem _ (List.mem_append_right _ h)
  have hw6 := hts (.arrayClass .boolean) (by decide +kernel)
  have hw7 := hts (.fieldLink RX9 17 "PostHouse$Walk" "marked" "[Z") (by decide +kernel)
  have hw8 := hts (.arrayClass .int) (by decide +kernel)
  have hw9 := hts (.fieldLink RX9 21 "PostHouse$Walk" "waySteps" "[I") (by decide +kernel)
  have hw10 := hts (.fieldLink RX9 25 "PostHouse$Walk" "best" "[I") (by decide +kernel)
  have hw11 := hts (.fieldLink RX9 28 "PostHouse$Walk" "nextBest" "[I") (by decide +kernel)
  refine lv_aload_n hx hb dX9_init_0 rfl (lv_at hl 0 rfl) ?_
  refine W.objInit hx hb hown hw0 hw1 hw2 rfl (by rw [hml]; exact hl.1) rfl dX9_init_1 (Nat.le_of_ble_eq_true rfl) (Nat.le_of_ble_eq_true rfl) ?_
  refine W.eq (g2 := F0 m 4 ls []) rfl ?_
  refine lv_aload_n hx hb dX9_init_4 rfl (lv_at hl 0 rfl) ?_
  refine lv_bipush (v := nI 10) hx hb dX9_init_5 (by decide) ?_
  refine zNewq (D := D) (C := RX8) (t := 8) (N' := 10) hx hb hown hw3 (hz.1.2.2.2.2.2.2.1 _ (List.mem_of_getElem? (i := 3) rfl)) rfl (by decide) (by decide) hH hS hA 23 (hB.2.1 23 (by decide)).1 (by decide) (by decide) (by decide) (Nat.le_of_ble_eq_true rfl) (Nat.le_of_ble_eq_true rfl) dX9_init_7 (fun q9 c9 H hH8 hS => ?_)
  obtain ⟨τ101, eτ101⟩ : ∃ t9 : zTy, t9 = (va_up τ.1 23 q9, va_up τ.2.1 23 c9, va_up τ.2.2.1 23 8, va_up τ.2.2.2 23 10) := ⟨_, rfl⟩
  obtain ⟨f102, ef102⟩ : ∃ f9 : zFi, f9 = va_up fi 23 (fun _ => 0) := ⟨_, rfl⟩
  obtain ⟨g103, eg103⟩ : ∃ f9 : zFr, f9 = va_up fr 23 (fun _ => none) := ⟨_, rfl⟩
  have hH : zH D A τ101 f102 g103 ol s H := by rw [eτ101, ef102, eg103]; exact hH8
  clear hH8
  have hqτ101 : τ101.1 23 = q9 := by rw [eτ101]; exact va_up_self τ.1 23 q9
  have haτ101 : ∀ i, i ≠ 23 → τ101.1 i = τ.1 i := fun i h => by rw [eτ101]; exact va_up_ne _ _ h
  have hkτ101 : τ101.2.2.1 23 = 8 := by rw [eτ101]; exact va_up_self τ.2.2.1 23 8
  have hnτ101 : τ101.2.2.2 23 = 10 := by rw [eτ101]; exact va_up_self τ.2.2.2 23 10
  have hbτ101 : ∀ i, i ≠ 23 → τ101.2.2.1 i = τ.2.2.1 i ∧ τ101.2.2.2 i = τ.2.2.2 i := fun i h => by rw [eτ101]; exact ⟨va_up_ne _ _ h, va_up_ne _ _ h⟩
  clear eτ101
  subst hqτ101
  rw [show τ.1 22 = τ101.1 22 from (haτ101 22 (by omega)).symm] at hl
  refine W.eq (g2 := F0 m 10 ls [.ref (τ101.1 23), .ref (τ101.1 22)]) (by rw [haτ101 22 (by omega)]) ?_
  have hB := zBI.born (i := 23) hB (by decide) hkτ101 hnτ101 hbτ101 ef102 eg103 (by decide) (by decide)
  have hAd : ∀ i, ¬ (i = 23) → τ101.1 i = τ.1 i := fun i h => by rw [haτ101 i (by omega)]
  refine W.widen (k := 1) (n := 10) (by decide) (by decide) ?_
  refine zPutFR (D := D) (ci := 9) (ty := .array (.object "PostHouse$Thing")) (C := RX9) (T := TX9) (N := 6) hx hb hts hiX9 tyX9 tyX9_ok nmX9 hown hH hS ((hB.1 22 (by decide)).1.trans (by decide : zkt 22 = 25)) rfl 0 (by decide) rfl hw4 (fun _ h9 => h9) rfl hin rfl (by rw [((hB.1 23 (by decide)).1.trans (by decide : zkt 23 = 8))]; decide)  (by decide +kernel) rfl rfl dX9_init_10 (fun H locs hH hS => ?_)
  obtain ⟨g104, eg104⟩ : ∃ f9 : zFr, f9 = zur g103 22 0 (some 23) := ⟨_, rfl⟩
  rw [← eg104] at hH
  have hB := zBI.ref hB eg104 (by decide)
  refine lv_aload_n hx hb dX9_init_13 rfl (lv_at hl 0 rfl) ?_
  refine lv_bipush (v := nI 21) hx hb dX9_init_14 (by decide) ?_
  refine zNewa (D := D) (atype := .boolean) (t := 3) (N' := 21) hx hb hw6 rfl (by decide) (by decide) rfl hH hS hA 24 (hB.2.1 24 (by decide)).1 (by decide) (by decide) (by first | decide | (simp only [zT, componentBytes]; omega)) (Nat.le_of_ble_eq_true rfl) (Nat.le_of_ble_eq_true rfl) dX9_init_16 (fun q9 c9 H hH8 hS => ?_)
  obtain ⟨τ106, eτ106⟩ : ∃ t9 : zTy, t9 = (va_up τ101.1 24 q9, va_up τ101.2.1 24 c9, va_up τ101.2.2.1 24 3, va_up τ101.2.2.2 24 21) := ⟨_, rfl⟩
  obtain ⟨f107, ef107⟩ : ∃ f9 : zFi, f9 = va_up f102 24 (fun _ => 0) := ⟨_, rfl⟩
  obtain ⟨g108, eg108⟩ : ∃ f9 : zFr, f9 = va_up g104 24 (fun _ => none) := ⟨_, rfl⟩
  have hH : zH D A τ106 f107 g108 ol s H := by rw [eτ106, ef107, eg108]; exact hH8
  clear hH8
  have hqτ106 : τ106.1 24 = q9 := by rw [eτ106]; exact va_up_self τ101.1 24 q9
  have haτ106 : ∀ i, i ≠ 24 → τ106.1 i = τ101.1 i := fun i h => by rw [eτ106]; exact va_up_ne _ _ h
  have hkτ106 : τ106.2.2.1 24 = 3 := by rw [eτ106]; exact va_up_self τ101.2.2.1 24 3
  have hnτ106 : τ106.2.2.2 24 = 21 := by rw [eτ106]; exact va_up_self τ101.2.2.2 24 21
  have hbτ106 : ∀ i, i ≠ 24 → τ106.2.2.1 i = τ101.2.2.1 i ∧ τ106.2.2.2 i = τ101.2.2.2 i := fun i h => by rw [eτ106]; exact ⟨va_up_ne _ _ h, va_up_ne _ _ h⟩
  clear eτ106
  subst hqτ106
  rw [show τ101.1 22 = τ106.1 22 from (haτ106 22 (by omega)).symm] at hl
  refine W.eq (g2 := F0 m 18 ls [.ref (τ106.1 24), .ref (τ106.1 22)]) (by rw [haτ106 22 (by omega)]) ?_
  have hB := zBI.born (i := 24) hB (by decide) hkτ106 hnτ106 hbτ106 ef107 eg108 (by decide) (by decide)
  have hAd : ∀ i, ¬ (i = 24 ∨ i = 23) → τ106.1 i = τ.1 i := fun i h => by rw [haτ106 i (by omega)]; exact hAd i (by omega)
  refine W.widen (k := 2) (n := 31) (by decide) (by decide) ?_
  refine zPutFR (D := D) (ci := 9) (ty := .array .boolean) (C := RX9) (T := TX9) (N := 6) hx hb hts hiX9 tyX9 tyX9_ok nmX9 hown hH hS ((hB.1 22 (by decide)).1.trans (by decide : zkt 22 = 25)) rfl 2 (by decide) rfl hw7 (fun _ h9 => h9) rfl hin rfl (by rw [((hB.1 24 (by decide)).1.trans (by decide : zkt 24 = 3))]; decide)  (by decide +kernel) rfl rfl dX9_init_18 (fun H locs hH hS => ?_)
  obtain ⟨g109, eg109⟩ : ∃ f9 : zFr, f9 = zur g108 22 2 (some 24) := ⟨_, rfl⟩
  rw [← eg109] at hH
  have hB := zBI.ref hB eg109 (by decide)
  refine lv_aload_n hx hb dX9_init_21 rfl (lv_at hl 0 rfl) ?_
  refine lv_bipush (v := nI 6) hx hb dX9_init_22 (by decide) ?_
  refine zNewa (D := D) (atype := .int) (t := 1) (N' := 6) hx hb hw8 rfl (by decide) (by decide) rfl hH hS hA 25 (hB.2.1 25 (by decide)).1 (by decide) (by decide) (by first | decide | (simp only [zT, componentBytes]; omega)) (Nat.le_of_ble_eq_true rfl) (Nat.le_of_ble_eq_true rfl) dX9_init_24 (fun q9 c9 H hH8 hS => ?_)
  obtain ⟨τ111, eτ111⟩ : ∃ t9 : zTy, t9 = (va_up τ106.1 25 q9, va_up τ106.2.1 25 c9, va_up τ106.2.2.1 25 1, va_up τ106.2.2.2 25 6) := ⟨_, rfl⟩
  obtain ⟨f112, ef112⟩ : ∃ f9 : zFi, f9 = va_up f107 25 (fun _ => 0) := ⟨_, rfl⟩
  obtain ⟨g113, eg113⟩ : ∃ f9 : zFr, f9 = va_up g109 25 (fun _ => none) := ⟨_, rfl⟩
  have hH : zH D A τ111 f112 g113 ol s H := by rw [eτ111, ef112, eg113]; exact hH8
  clear hH8
  have hqτ111 : τ111.1 25 = q9 := by rw [eτ111]; exact va_up_self τ106.1 25 q9
  have haτ111 : ∀ i, i ≠ 25 → τ111.1 i = τ106.1 i := fun i h => by rw [eτ111]; exact va_up_ne _ _ h
  have hkτ111 : τ111.2.2.1 25 = 1 := by rw [eτ111]; exact va_up_self τ106.2.2.1 25 1
  have hnτ111 : τ111.2.2.2 25 = 6 := by rw [eτ111]; exact va_up_self τ106.2.2.2 25 6
  have hbτ111 : ∀ i, i ≠ 25 → τ111.2.2.1 i = τ106.2.2.1 i ∧ τ111.2.2.2 i = τ106.2.2.2 i := fun i h => by rw [eτ111]; exact ⟨va_up_ne _ _ h, va_up_ne _ _ h⟩
  clear eτ111
  subst hqτ111
  rw [show τ106.1 22 = τ111.1 22 from (haτ111 22 (by omega)).symm] at hl
  refine W.eq (g2 := F0 m 26 ls [.ref (τ111.1 25), .ref (τ111.1 22)]) (by rw [haτ111 22 (by omega)]) ?_
  have hB := zBI.born (i := 25) hB (by decide) hkτ111 hnτ111 hbτ111 ef112 eg113 (by decide) (by decide)
  have hAd : ∀ i, ¬ (i = 25 ∨ i = 24 ∨ i = 23) → τ111.1 i = τ.1 i := fun i h => by rw [haτ111 i (by omega)]; exact hAd i (by omega)
  refine W.widen (k := 3) (n := 37) (by decide) (by decide) ?_
  refine zPutFR (D := D) (ci := 9) (ty := .array .int) (C := RX9) (T := TX9) (N := 6) hx hb hts hiX9 tyX9 tyX9_ok nmX9 hown hH hS ((hB.1 22 (by decide)).1.trans (by decide : zkt 22 = 25)) rfl 3 (by decide) rfl hw9 (fun _ h9 => h9) rfl hin rfl (by rw [((hB.1 25 (by decide)).1.trans (by decide : zkt 25 = 1))]; decide)  (by decide +kernel) rfl rfl dX9_init_26 (fun H locs hH hS => ?_)
  obtain ⟨g114, eg114⟩ : ∃ f9 : zFr, f9 = zur g113 22 3 (some 25) := ⟨_, rfl⟩
  rw [← eg114] at hH
  have hB := zBI.ref hB eg114 (by decide)
  refine lv_aload_n hx hb dX9_init_29 rfl (lv_at hl 0 rfl) ?_
  refine lv_bipush (v := nI 6) hx hb dX9_init_30 (by decide) ?_
  refine zNewa (D := D) (atype := .int) (t := 1) (N' := 6) hx hb hw8 rfl (by decide) (by decide) rfl hH hS hA 26 (hB.2.1 26 (by decide)).1 (by decide) (by decide) (by first | decide | (simp only [zT, componentBytes]; omega)) (Nat.le_of_ble_eq_true rfl) (Nat.le_of_ble_eq_true rfl) dX9_init_32 (fun q9 c9 H hH8 hS => ?_)
  obtain ⟨τ116, eτ116⟩ : ∃ t9 : zTy, t9 = (va_up τ111.1 26 q9, va_up τ111.2.1 26 c9, va_up τ111.2.2.1 26 1, va_up τ111.2.2.2 26 6) := ⟨_, rfl⟩
  obtain ⟨f117, ef117⟩ : ∃ f9 : zFi, f9 = va_up f112 26 (fun _ => 0) := ⟨_, rfl⟩
  obtain ⟨g118, eg118⟩ : ∃ f9 : zFr, f9 = va_up g114 26 (fun _ => none) := ⟨_, rfl⟩
  have hH : zH D A τ116 f117 g118 ol s H := by rw [eτ116, ef117, eg118]; exact hH8
  clear hH8
  have hqτ116 : τ116.1 26 = q9 := by rw [eτ116]; exact va_up_self τ111.1 26 q9
  have haτ116 : ∀ i, i ≠ 26 → τ116.1 i = τ111.1 i := fun i h => by rw [eτ116]; exact va_up_ne _ _ h
  have hkτ116 : τ116.2.2.1 26 = 1 := by rw [eτ116]; exact va_up_self τ111.2.2.1 26 1
  have hnτ116 : τ116.2.2.2 26 = 6 := by rw [eτ116]; exact va_up_self τ111.2.2.2 26 6
  have hbτ116 : ∀ i, i ≠ 26 → τ116.2.2.1 i = τ111.2.2.1 i ∧ τ116.2.2.2 i = τ111.2.2.2 i := fun i h => by rw [eτ116]; exact ⟨va_up_ne _ _ h, va_up_ne _ _ h⟩
  clear eτ116
  subst hqτ116
  rw [show τ111.1 22 = τ116.1 22 from (haτ116 22 (by omega)).symm] at hl
  refine W.eq (g2 := F0 m 34 ls [.ref (τ116.1 26), .ref (τ116.1 22)]) (by rw [haτ116 22 (by omega)]) ?_
  have hB := zBI.born (i := 26) hB (by decide) hkτ116 hnτ116 hbτ116 ef117 eg118 (by decide) (by decide)
  have hAd : ∀ i, ¬ (i = 26 ∨ i = 25 ∨ i = 24 ∨ i = 23) → τ116.1 i = τ.1 i := fun i h => by rw [haτ116 i (by omega)]; exact hAd i (by omega)
  refine W.widen (k := 4) (n := 43) (by decide) (by decide) ?_
  refine zPutFR (D := D) (ci := 9) (ty := .array .int) (C := RX9) (T := TX9) (N := 6) hx hb hts hiX9 tyX9 tyX9_ok nmX9 hown hH hS ((hB.1 22 (by decide)).1.trans (by decide : zkt 22 = 25)) rfl 4 (by decide) rfl hw10 (fun _ h9 => h9) rfl hin rfl (by rw [((hB.1 26 (by decide)).1.trans (by decide : zkt 26 = 1))]; decide)  (by decide +kernel) rfl rfl dX9_init_34 (fun H locs hH hS => ?_)
  obtain ⟨g119, eg119⟩ : ∃ f9 : zFr, f9 = zur g118 22 4 (some 26) := ⟨_, rfl⟩
  rw [← eg119] at hH
  have hB := zBI.ref hB eg119 (by decide)
  refine lv_aload_n hx hb dX9_init_37 rfl (lv_at hl 0 rfl) ?_
  refine lv_bipush (v := nI 6) hx hb dX9_init_38 (by decide) ?_
  refine zNewa (D := D) (atype := .int) (t := 1) (N' := 6) hx hb hw8 rfl (by decide) (by decide) rfl hH hS hA 27 (hB.2.1 27 (by decide)).1 (by decide) (by decide) (by first | decide | (simp only [zT, componentBytes]; omega)) (Nat.le_of_ble_eq_true rfl) (Nat.le_of_ble_eq_true rfl) dX9_init_40 (fun q9 c9 H hH8 hS => ?_)
  obtain ⟨τ121, eτ121⟩ : ∃ t9 : zTy, t9 = (va_up τ116.1 27 q9, va_up τ116.2.1 27 c9, va_up τ116.2.2.1 27 1, va_up τ116.2.2.2 27 6) := ⟨_, rfl⟩
  obtain ⟨f122, ef122⟩ : ∃ f9 : zFi, f9 = va_up f117 27 (fun _ => 0) := ⟨_, rfl⟩
  obtain ⟨g123, eg123⟩ : ∃ f9 : zFr, f9 = va_up g119 27 (fun _ => none) := ⟨_, rfl⟩
  have hH : zH D A τ121 f122 g123 ol s H := by rw [eτ121, ef122, eg123]; exact hH8
  clear hH8
  have hqτ121 : τ121.1 27 = q9 := by rw [eτ121]; exact va_up_self τ116.1 27 q9
  have haτ121 : ∀ i, i ≠ 27 → τ121.1 i = τ116.1 i := fun i h => by rw [eτ121]; exact va_up_ne _ _ h
  have hkτ121 : τ121.2.2.1 27 = 1 := by rw [eτ121]; exact va_up_self τ116.2.2.1 27 1
  have hnτ121 : τ121.2.2.2 27 = 6 := by rw [eτ121]; exact va_up_self τ116.2.2.2 27 6
  have hbτ121 : ∀ i, i ≠ 27 → τ121.2.2.1 i = τ116.2.2.1 i ∧ τ121.2.2.2 i = τ116.2.2.2 i := fun i h => by rw [eτ121]; exact ⟨va_up_ne _ _ h, va_up_ne _ _ h⟩
  clear eτ121
  subst hqτ121
  rw [show τ116.1 22 = τ121.1 22 from (haτ121 22 (by omega)).symm] at hl
  refine W.eq (g2 := F0 m 42 ls [.ref (τ121.1 27), .ref (τ121.1 22)]) (by rw [haτ121 22 (by omega)]) ?_
  have hB := zBI.born (i := 27) hB (by decide) hkτ121 hnτ121 hbτ121 ef122 eg123 (by decide) (by decide)
  have hAd : ∀ i, ¬ (i = 27 ∨ i = 26 ∨ i = 25 ∨ i = 24 ∨ i = 23) → τ121.1 i = τ.1 i := fun i h => by rw [haτ121 i (by omega)]; exact hAd i (by omega)
  refine W.widen (k := 5) (n := 49) (by decide) (by decide) ?_
  refine zPutFR (D := D) (ci := 9) (ty := .array .int) (C := RX9) (T := TX9) (N := 6) hx hb hts hiX9 tyX9 tyX9_ok nmX9 hown hH hS ((hB.1 22 (by decide)).1.trans (by decide : zkt 22 = 25)) rfl 5 (by decide) rfl hw11 (fun _ h9 => h9) rfl hin rfl (by rw [((hB.1 27 (by decide)).1.trans (by decide : zkt 27 = 1))]; decide)  (by decide +kernel) rfl rfl dX9_init_42 (fun H locs hH hS => ?_)
  obtain ⟨g124, eg124⟩ : ∃ f9 : zFr, f9 = zur g123 22 5 (some 27) := ⟨_, rfl⟩
  rw [← eg124] at hH
  have hB := zBI.ref hB eg124 (by decide)
  refine W.widen (k := 5) (n := 49) (by decide) (by decide) ?_
  exact W.vret hx hb hr (fun t9 ht9 hW9 => ⟨⟨(τ121, f122, g124), rfl, (show zBI τ121 f122 g124 [27, 26, 25, 24, 23, 22, 21, 20, 19, 18, 17, 16, 15, 14, 13, 12, 11, 10, 9, 8, 7, 6, 5, 4, 3, 2, 1, 0] [(22, 5, 27), (22, 4, 26), (22, 3, 25), (22, 2, 24), (22, 0, 23), (0, 8, 18), (18, 2, 21), (18, 1, 20), (18, 0, 19), (0, 7, 17), (0, 6, 16), (0, 5, 15), (0, 4, 12), (12, 1, 14), (12, 0, 13), (0, 3, 9), (9, 1, 11), (9, 0, 10), (0, 2, 5), (5, 2, 8), (5, 1, 7), (5, 0, 6), (0, 1, 3), (3, 0, 4), (0, 0, 1), (1, 0, 2)] ∧ (∀ i, ¬ (i = 27 ∨ i = 26 ∨ i = 25 ∨ i = 24 ∨ i = 23) → τ121.1 i = τ.1 i) from ⟨hB, hAd⟩), zEnd1 hH ht9 hW9⟩, hS.F ht9⟩) hS.2.2 dX9_init_45
set_option maxHeartbeats 4000000 in
set_option maxRecDepth 100000 in
/-- X11_init -/
theorem i_PH (l : Launch) (hl0 : l.stackTraces = false) (D : va_G) (A : Nat → Prop) (sad : Nat → Nat) (τ : zTy) (fi : zFi) (fr : zFr) (ol : Int64) (hB : zBI τ fi fr [0] []) : Met l yX11_init wsX11_init ({ frames := 2, cells := 27, slots := 2448, locals := 33 }) (va_Pc [.ref (τ.1 0)] (zQc D A sad τ fi fr ol)) (va_Qv (fun (u : zTy × zFi × zFr) => zBI u.1 u.2.1 u.2.2 [27, 26, 25, 24, 23, 22, 21, 20, 19, 18, 17, 16, 15, 14, 13, 12, 11, 10, 9, 8, 7, 6, 5, 4, 3, 2, 1, 0] [(0, 9, 22), (22, 5, 27), (22, 4, 26), (22, 3, 25), (22, 2, 24), (22, 0, 23), (0, 8, 18), (18, 2, 21), (18, 1, 20), (18, 0, 19), (0, 7, 17), (0, 6, 16), (0, 5, 15), (0, 4, 12), (12, 1, 14), (12, 0, 13), (0, 3, 9), (9, 1, 11), (9, 0, 10), (0, 2, 5), (5, 2, 8), (5, 1, 7), (5, 0, 6), (0, 1, 3), (3, 0, 4), (0, 0, 1), (1, 0, 2)] ∧ (∀ i, ¬ (i = 27 ∨ i = 26 ∨ i = 25 ∨ i = 24 ∨ i = 23 ∨ i = 22 ∨ i = 21 ∨ i = 20 ∨ i = 19 ∨ i = 18 ∨ i = 17 ∨ i = 16 ∨ i = 15 ∨ i = 14 ∨ i = 13 ∨ i = 12 ∨ i = 11 ∨ i = 10 ∨ i = 9 ∨ i = 8 ∨ i = 7 ∨ i = 6 ∨ i = 5 ∨ i = 4 ∨ i = 3 ∨ i = 2 ∨ i = 1) → u.1.1 i = τ.1 i)) (fun (u : zTy × zFi × zFr) (t : State) => zH D A u.1 u.2.1 u.2.2 ol t t.heap) A) 27 2448 A := by
  refine Met.ofW (cc := cX11_init) (maxL := 1) (ret := none) (by decide) rfl ?_
  intro p9 e9 s m args below meth c9 s₁ B hml hv
  obtain ⟨rfl, hz, hH, hA⟩ := hv
  have hx := B.exec
  have hb := B.bytes
  have hr := B.returns
  have hts := atoms_spec (ws := wsX11_init) B.pre
  have hown : s.vm.findClass RX11 = some m.cls := findClass_of_methodNamed B.named
  have hlocks := B.notSynchronized
  have hin : meth.name = "<init>" := (name_of_methodNamed B.named B.method).1
  have hS : va_S A s.heap s.heap [] := va_S.rf
  have hl := lv_entry ([.ref (τ.1 0)]) (n := 1) (Nat.le_of_ble_eq_true rfl)
  rw [lg_entry_eq]
  generalize (lg_sl ([.ref (τ.1 0)]) ++ List.replicate (1 - (lg_sl ([.ref (τ.1 0)])).length) Slot.unset).toArray = ls at hl ⊢
  have hl : lv_has ls 1 [(0, .ref (τ.1 0))] := hl
  have hw0 := hts (.methodLink RX11 1 objectInit) (by decide +kernel)
  have hw1 := hts (.instanceMethod objectInit) (by decide +kernel)
  have hw2 := hts (.code objectInit ⟨#[0xb1]⟩ 1 none) (by decide +kernel)
  have hiX7 : ∀ w ∈ u_ws RX7 TX7 4, w ∈ wsX11_init := fun _ h => List.mem_cons_of_mem _ (List.mem_append_left _ (List.mem_append_left _ (List.mem_append_left _ (List.mem_append_left _ (List.mem_append_left _ (List.mem_append_left _ (List.mem_append_right _ h)))))))
  have hw4 := hts (.classLink RX11 7 RX7) (by decide +kernel)
  have hw5 := hts (.instantiable RX7 4) (by decide +kernel)
  have hw6 := hts (.initialized RX7) (by decide +kernel)
  have hw7 := hts (.instanceMethod yX7_init) (by decide +kernel)
  have hw8 := hts (.fieldLink RX11 10 "PostHouse" "tape" "LPostHouse$Tape;") (by decide +kernel)
  have hiX11 : ∀ w ∈ u_ws RX11 TX11 16, w ∈ wsX11_init := fun _ h => List.mem_cons_of_mem _ (List.mem_append_left _ (List.mem_append_left _ (List.mem_append_left _ (List.mem_append_left _ (List.mem_append_left _ (List.mem_append_right _ h))))))
  have hiX0 : ∀ w ∈ u_ws RX0 TX0 2, w ∈ wsX11_init := fun _ h => List.mem_cons_of_mem _ (List.mem_append_left _ (List.mem_append_left _ (List.mem_append_left _ (List.mem_append_left _ (List.mem_append_right _ h)))))
  have hw11 := hts (.classLink RX11 16 RX0) (by decide +kernel)
  have hw12 := hts (.instantiable RX0 2) (by decide +kernel)
  have hw13 := hts (.initialized RX0) (by decide +kernel)
  have hw14 := hts (.instanceMethod yX0_init) (by decide +kernel)
  have hw15 := hts (.fieldLink RX11 19 "PostHouse" "book" "LPostHouse$Book;") (by decide +kernel)
  have hiX1 : ∀ w ∈ u_ws RX1 TX1 4, w ∈ wsX11_init := fun _ h => List.mem_cons_of_mem _ (List.mem_append_left _ (List.mem_append_left _ (List.mem_append_left _ (List.mem_append_right _ h))))
  have hw17 := hts (.classLink RX11 23 RX1) (by decide +kernel)
  have hw18 := hts (.instantiable RX1 4) (by decide +kernel)
  have hw19 := hts (.initialized RX1) (by decide +kernel)
  have hw20 := hts (.instanceMethod yX1_init) (by decide +kernel)
  have hw21 := hts (.fieldLink RX11 26 "PostHouse" "comings" "LPostHouse$Comings;") (by decide +kernel)
  have hiX5 : ∀ w ∈ u_ws RX5 TX5 2, w ∈ wsX11_init := fun _ h => List.mem_cons_of_mem _ (List.mem_append_left _ (List.mem_append_left _ (List.mem_append_right _ h)))
  have hw23 := hts (.classLink RX11 30 RX5) (by decide +kernel)
  have hw24 := hts (.instantiable RX5 2) (by decide +kernel)
  have hw25 := hts (.initialized RX5) (by decide +kernel)
  have hw26 := hts (.methodLink RX11 32 yX5_init) (by decide +kernel)
  have hw27 := hts (.instanceMethod yX5_init) (by decide +kernel)
  have hw28 := hts (.fieldLink RX11 33 "PostHouse" "rules" "LPostHouse$Rules;") (by decide +kernel)
  have hw29 := hts (.fieldLink RX11 37 "PostHouse" "draft" "LPostHouse$Rules;") (by decide +kernel)
  have hw30 := hts (.classLink RX11 40 RX2) (by decide +kernel)
  have hw31 := hts (.fieldLink RX11 42 "PostHouse" "doubts" "[LPostHouse$Letter;") (by decide +kernel)
  have hw32 := hts (.classLink RX11 46 RX3) (by decide +kernel)
  have hw33 := hts (.fieldLink RX11 48 "PostHouse" "orders" "[LPostHouse$Order;") (by decide +kernel)
  have hw34 := hts (.classLink RX11 52 RX6) (by decide +kernel)
  have hw35 := hts (.fieldLink RX11 54 "PostHouse" "sendings" "[LPostHouse$Sending;") (by decide +kernel)
  have hiX4 : ∀ w ∈ u_ws RX4 TX4 5, w ∈ wsX11_init := fun _ h => List.mem_cons_of_mem _ (List.mem_append_left _ (List.mem_append_right _ h))
  have hw37 := hts (.classLink RX11 58 RX4) (by decide +kernel)
  have hw38 := hts (.instantiable RX4 5) (by decide +kernel)
  have hw39 := hts (.initialized RX4) (by decide +kernel)
  have hw40 := hts (.instanceMethod yX4_init) (by decide +kernel)
  have hw41 := hts (.fieldLink RX11 61 "PostHouse" "packing" "LPostHouse$Packing;") (by decide +kernel)
  have hiX9 : ∀ w ∈ u_ws RX9 TX9 6, w ∈ wsX11_init := fun _ h => List.mem_cons_of_mem _ (List.mem_append_right _ h)
  have hw43 := hts (.classLink RX11 65 RX9) (by decide +kernel)
  have hw44 := hts (.instantiable RX9 6) (by decide +kernel)
  have hw45 := hts (.initialized RX9) (by decide +kernel)
  have hw46 := hts (.instanceMethod yX9_init) (by decide +kernel)
  have hw47 := hts (.fieldLink RX11 68 "PostHouse" "walk" "LPostHouse$Walk;") (by decide +kernel)
  have hw48 := hts (.fieldLink RX11 72 "PostHouse" "fault" "I") (by decide +kernel)
  refine lv_aload_n hx hb dX11_init_0 rfl (lv_at hl 0 rfl) ?_
  refine W.objInit hx hb hown hw0 hw1 hw2 rfl (by rw [hml]; exact hl.1) rfl dX11_init_1 (Nat.le_of_ble_eq_true rfl) (Nat.le_of_ble_eq_true rfl) ?_
  refine W.eq (g2 := F0 m 4 ls []) rfl ?_
  refine lv_aload_n hx hb dX11_init_4 rfl (lv_at hl 0 rfl) ?_
  refine zNew (D := D) (fs := [.null, .int 0, .int 0, .int 0]) (ci := 7) (C := RX7) (T := TX7) (N := 4) hx hb hts hiX7 tyX7 tyX7_ok hown hw4 hw5 hw6 hH hS hA rfl 1 (hB.2.1 1 (by decide)).1 (fun _ => rfl) (by decide) (Nat.le_of_ble_eq_true rfl) (Nat.le_of_ble_eq_true rfl) dX11_init_5 (fun q9 c9 H hH8 hS => ?_)
  obtain ⟨τ101, eτ101⟩ : ∃ t9 : zTy, t9 = (va_up τ.1 1 q9, va_up τ.2.1 1 c9, va_up τ.2.2.1 1 23, va_up τ.2.2.2 1 0) := ⟨_, rfl⟩
  obtain ⟨f102, ef102⟩ : ∃ f9 : zFi, f9 = va_up fi 1 (fun _ => 0) := ⟨_, rfl⟩
  obtain ⟨g103, eg103⟩ : ∃ f9 : zFr, f9 = va_up fr 1 (fun _ => none) := ⟨_, rfl⟩
  have hH : zH D A τ101 f102 g103 ol s H := by rw [eτ101, ef102, eg103]; exact hH8
  clear hH8
  have hqτ101 : τ101.1 1 = q9 := by rw [eτ101]; exact va_up_self τ.1 1 q9
  have haτ101 : ∀ i, i ≠ 1 → τ101.1 i = τ.1 i := fun i h => by rw [eτ101]; exact va_up_ne _ _ h
  have hkτ101 : τ101.2.2.1 1 = 23 := by rw [eτ101]; exact va_up_self τ.2.2.1 1 23
  have hnτ101 : τ101.2.2.2 1 = 0 := by rw [eτ101]; exact va_up_self τ.2.2.2 1 0
  have hbτ101 : ∀ i, i ≠ 1 → τ101.2.2.1 i = τ.2.2.1 i ∧ τ101.2.2.2 i = τ.2.2.2 i := fun i h => by rw [eτ101]; exact ⟨va_up_ne _ _ h, va_up_ne _ _ h⟩
  clear eτ101
  subst hqτ101
  rw [show τ.1 0 = τ101.1 0 from (haτ101 0 (by omega)).symm] at hl
  refine W.eq (g2 := F0 m 8 ls [.ref (τ101.1 1), .ref (τ101.1 0)]) (by rw [haτ101 0 (by omega)]) ?_
  have hB := zBI.born (i := 1) hB (by decide) hkτ101 hnτ101 hbτ101 ef102 eg103 (by decide) (by decide)
  have hAd : ∀ i, ¬ (i = 1) → τ101.1 i = τ.1 i := fun i h => by rw [haτ101 i (by omega)]
  refine W.widen (k := 1) (n := 4) (by decide) (by decide) ?_
  refine lv_dup hx hb dX11_init_8 rfl ?_
  refine va_callv (va_runIN (host := RX11) (As := []) (rest := [.ref (τ101.1 1), .ref (τ101.1 0)]) ⟨hx, hb, hml, hown, hts⟩ (i_Tape l hl0 D A sad τ101 f102 g103 ol hB) ⟨va_cnB (host := RX11) (y := yX7_init) 0 hts gX11_init_X7_init_n9 rfl rfl rfl (hz.1.2.2.2.2.2.1 _ (List.mem_of_getElem? (i := 0) rfl)) hw6 (by decide +kernel) ⟨Nat.le_of_ble_eq_true rfl, Nat.le_of_ble_eq_true rfl⟩, rfl, hw7⟩ ⟨zQc_bl, zQc_at hz hS hA hH⟩ rfl rfl hl.1 rfl (lv_room (Nat.le_of_ble_eq_true rfl)) dX11_init_9 ⟨Nat.le_of_ble_eq_true rfl, Nat.le_of_ble_eq_true rfl⟩) hS (fun q _ h => h) (fun q h => h) (fun u9 t9 H1 locs ht9 hvm9 hw hB hz1 hk1 hS => ?_)
  obtain ⟨τ105, f106, g107⟩ := u9
  have hH := zMv ht9 hvm9 hB
  clear hB
  simp only at hw hH
  generalize H1 = H at hH hS ⊢
  refine W.widen (k := 2) (n := 404) (by decide) (by decide) ?_
  obtain ⟨hB, ha8⟩ := hw
  rw [show τ101.1 0 = τ105.1 0 from (ha8 0 (by omega)).symm] at hl
  refine W.eq (g2 := F0 m 12 ls [.ref (τ105.1 1), .ref (τ105.1 0)]) (by rw [ha8 0 (by omega), ha8 1 (by omega)]) ?_
  have hAd : ∀ i, ¬ (i = 2 ∨ i = 1) → τ105.1 i = τ.1 i := fun i h => by rw [ha8 i (by omega)]; exact hAd i (by omega)
  refine zPutFR (D := D) (ci := 11) (ty := .object "PostHouse$Tape") (C := RX11) (T := TX11) (N := 16) hx hb hts hiX11 tyX11 tyX11_ok nmX11 hown hH hS ((hB.1 0 (by decide)).1.trans (by decide : zkt 0 = 27)) rfl 0 (by decide) rfl hw8 (fun _ h9 => h9) rfl hin rfl (by rw [((hB.1 1 (by decide)).1.trans (by decide : zkt 1 = 23))]; decide)  (by decide +kernel) rfl rfl dX11_init_12 (fun H locs hH hS => ?_)
  obtain ⟨g108, eg108⟩ : ∃ f9 : zFr, f9 = zur g107 0 0 (some 1) := ⟨_, rfl⟩
  rw [← eg108] at hH
  have hB := zBI.ref hB eg108 (by decide)
  refine lv_aload_n hx hb dX11_init_15 rfl (lv_at hl 0 rfl) ?_
  refine zNew (D := D) (fs := [.null, .int 0]) (ci := 0) (C := RX0) (T := TX0) (N := 2) hx hb hts hiX0 tyX0 tyX0_ok hown hw11 hw12 hw13 hH hS hA rfl 3 (hB.2.1 3 (by decide)).1 (fun _ => rfl) (by decide) (Nat.le_of_ble_eq_true rfl) (Nat.le_of_ble_eq_true rfl) dX11_init_16 (fun q9 c9 H hH8 hS => ?_)
  obtain ⟨τ110, eτ110⟩ : ∃ t9 : zTy, t9 = (va_up τ105.1 3 q9, va_up τ105.2.1 3 c9, va_up τ105.2.2.1 3 16, va_up τ105.2.2.2 3 0) := ⟨_, rfl⟩
  obtain ⟨f111, ef111⟩ : ∃ f9 : zFi, f9 = va_up f106 3 (fun _ => 0) := ⟨_, rfl⟩
  obtain ⟨g112, eg112⟩ : ∃ f9 : zFr, f9 = va_up g108 3 (fun _ => none) := ⟨_, rfl⟩
  have hH : zH D A τ110 f111 g112 ol s H := by rw [eτ110, ef111, eg112]; exact hH8
  clear hH8
  have hqτ110 : τ110.1 3 = q9 := by rw [eτ110]; exact va_up_self τ105.1 3 q9
  have haτ110 : ∀ i, i ≠ 3 → τ110.1 i = τ105.1 i := fun i h => by rw [eτ110]; exact va_up_ne _ _ h
  have hkτ110 : τ110.2.2.1 3 = 16 := by rw [eτ110]; exact va_up_self τ105.2.2.1 3 16
  have hnτ110 : τ110.2.2.2 3 = 0 := by rw [eτ110]; exact va_up_self τ105.2.2.2 3 0
  have hbτ110 : ∀ i, i ≠ 3 → τ110.2.2.1 i = τ105.2.2.1 i ∧ τ110.2.2.2 i = τ105.2.2.2 i := fun i h => by rw [eτ110]; exact ⟨va_up_ne _ _ h, va_up_ne _ _ h⟩
  clear eτ110
  subst hqτ110
  rw [show τ105.1 0 = τ110.1 0 from (haτ110 0 (by omega)).symm] at hl
  refine W.eq (g2 := F0 m 19 ls [.ref (τ110.1 3), .ref (τ110.1 0)]) (by rw [haτ110 0 (by omega)]) ?_
  have hB := zBI.born (i := 3) hB (by decide) hkτ110 hnτ110 hbτ110 ef111 eg112 (by decide) (by decide)
  have hAd : ∀ i, ¬ (i = 3 ∨ i = 2 ∨ i = 1) → τ110.1 i = τ.1 i := fun i h => by rw [haτ110 i (by omega)]; exact hAd i (by omega)
  refine W.widen (k := 3) (n := 406) (by decide) (by decide) ?_
  refine lv_dup hx hb dX11_init_19 rfl ?_
  refine va_callv (va_runIN (host := RX11) (As := []) (rest := [.ref (τ110.1 3), .ref (τ110.1 0)]) ⟨hx, hb, hml, hown, hts⟩ (i_Book l hl0 D A sad τ110 f111 g112 ol hB) ⟨va_cnB (host := RX11) (y := yX0_init) 0 hts gX11_init_X0_init_n18 rfl rfl rfl (hz.1.2.2.2.2.2.1 _ (List.mem_of_getElem? (i := 1) rfl)) hw13 (by decide +kernel) ⟨Nat.le_of_ble_eq_true rfl, Nat.le_of_ble_eq_true rfl⟩, rfl, hw14⟩ ⟨zQc_bl, zQc_at hz hS hA hH⟩ rfl rfl hl.1 rfl (lv_room (Nat.le_of_ble_eq_true rfl)) dX11_init_20 ⟨Nat.le_of_ble_eq_true rfl, Nat.le_of_ble_eq_true rfl⟩) hS (fun q _ h => h) (fun q h => h) (fun u9 t9 H1 locs ht9 hvm9 hw hB hz1 hk1 hS => ?_)
  obtain ⟨τ114, f115, g116⟩ := u9
  have hH := zMv ht9 hvm9 hB
  clear hB
  simp only at hw hH
  generalize H1 = H at hH hS ⊢
  refine W.widen (k := 4) (n := 436) (by decide) (by decide) ?_
  obtain ⟨hB, ha8⟩ := hw
  rw [show τ110.1 0 = τ114.1 0 from (ha8 0 (by omega)).symm] at hl
  refine W.eq (g2 := F0 m 23 ls [.ref (τ114.1 3), .ref (τ114.1 0)]) (by rw [ha8 0 (by omega), ha8 3 (by omega)]) ?_
  have hAd : ∀ i, ¬ (i = 4 ∨ i = 3 ∨ i = 2 ∨ i = 1) → τ114.1 i = τ.1 i := fun i h => by rw [ha8 i (by omega)]; exact hAd i (by omega)
  refine zPutFR (D := D) (ci := 11) (ty := .object "PostHouse$Book") (C := RX11) (T := TX11) (N := 16) hx hb hts hiX11 tyX11 tyX11_ok nmX11 hown hH hS ((hB.1 0 (by decide)).1.trans (by decide : zkt 0 = 27)) rfl 1 (by decide) rfl hw15 (fun _ h9 => h9) rfl hin rfl (by rw [((hB.1 3 (by decide)).1.trans (by decide : zkt 3 = 16))]; decide)  (by decide +kernel) rfl rfl dX11_init_23 (fun H locs hH hS => ?_)
  obtain ⟨g117, eg117⟩ : ∃ f9 : zFr, f9 = zur g116 0 1 (some 3) := ⟨_, rfl⟩
  rw [← eg117] at hH
  have hB := zBI.ref hB eg117 (by decide)
  refine lv_aload_n hx hb dX11_init_26 rfl (lv_at hl 0 rfl) ?_
  refine zNew (D := D) (fs := [.null, .null, .null, .int 0]) (ci := 1) (C := RX1) (T := TX1) (N := 4) hx hb hts hiX1 tyX1 tyX1_ok hown hw17 hw18 hw19 hH hS hA rfl 5 (hB.2.1 5 (by decide)).1 (fun _ => rfl) (by decide) (Nat.le_of_ble_eq_true rfl) (Nat.le_of_ble_eq_true rfl) dX11_init_27 (fun q9 c9 H hH8 hS => ?_)
  obtain ⟨τ119, eτ119⟩ : ∃ t9 : zTy, t9 = (va_up τ114.1 5 q9, va_up τ114.2.1 5 c9, va_up τ114.2.2.1 5 17, va_up τ114.2.2.2 5 0) := ⟨_, rfl⟩
  obtain ⟨f120, ef120⟩ : ∃ f9 : zFi, f9 = va_up f115 5 (fun _ => 0) := ⟨_, rfl⟩
  obtain ⟨g121, eg121⟩ : ∃ f9 : zFr, f9 = va_up g117 5 (fun _ => none) := ⟨_, rfl⟩
  have hH : zH D A τ119 f120 g121 ol s H := by rw [eτ119, ef120, eg121]; exact hH8
  clear hH8
  have hqτ119 : τ119.1 5 = q9 := by rw [eτ119]; exact va_up_self τ114.1 5 q9
  have haτ119 : ∀ i, i ≠ 5 → τ119.1 i = τ114.1 i := fun i h => by rw [eτ119]; exact va_up_ne _ _ h
  have hkτ119 : τ119.2.2.1 5 = 17 := by rw [eτ119]; exact va_up_self τ114.2.2.1 5 17
  have hnτ119 : τ119.2.2.2 5 = 0 := by rw [eτ119]; exact va_up_self τ114.2.2.2 5 0
  have hbτ119 : ∀ i, i ≠ 5 → τ119.2.2.1 i = τ114.2.2.1 i ∧ τ119.2.2.2 i = τ114.2.2.2 i := fun i h => by rw [eτ119]; exact ⟨va_up_ne _ _ h, va_up_ne _ _ h⟩
  clear eτ119
  subst hqτ119
  rw [show τ114.1 0 = τ119.1 0 from (haτ119 0 (by omega)).symm] at hl
  refine W.eq (g2 := F0 m 30 ls [.ref (τ119.1 5), .ref (τ119.1 0)]) (by rw [haτ119 0 (by omega)]) ?_
  have hB := zBI.born (i := 5) hB (by decide) hkτ119 hnτ119 hbτ119 ef120 eg121 (by decide) (by decide)
  have hAd : ∀ i, ¬ (i = 5 ∨ i = 4 ∨ i = 3 ∨ i = 2 ∨ i = 1) → τ119.1 i = τ.1 i := fun i h => by rw [haτ119 i (by omega)]; exact hAd i (by omega)
  refine W.widen (k := 5) (n := 440) (by decide) (by decide) ?_
  refine lv_dup hx hb dX11_init_30 rfl ?_
  refine va_callv (va_runIN (host := RX11) (As := []) (rest := [.ref (τ119.1 5), .ref (τ119.1 0)]) ⟨hx, hb, hml, hown, hts⟩ (i_Com l hl0 D A sad τ119 f120 g121 ol hB) ⟨va_cnB (host := RX11) (y := yX1_init) 0 hts gX11_init_X1_init_n25 rfl rfl rfl (hz.1.2.2.2.2.2.1 _ (List.mem_of_getElem? (i := 2) rfl)) hw19 (by decide +kernel) ⟨Nat.le_of_ble_eq_true rfl, Nat.le_of_ble_eq_true rfl⟩, rfl, hw20⟩ ⟨zQc_bl, zQc_at hz hS hA hH⟩ rfl rfl hl.1 rfl (lv_room (Nat.le_of_ble_eq_true rfl)) dX11_init_31 ⟨Nat.le_of_ble_eq_true rfl, Nat.le_of_ble_eq_true rfl⟩) hS (fun q _ h => h) (fun q h => h) (fun u9 t9 H1 locs ht9 hvm9 hw hB hz1 hk1 hS => ?_)
  obtain ⟨τ123, f124, g125⟩ := u9
  have hH := zMv ht9 hvm9 hB
  clear hB
  simp only at hw hH
  generalize H1 = H at hH hS ⊢
  refine W.widen (k := 8) (n := 620) (by decide) (by decide) ?_
  obtain ⟨hB, ha8⟩ := hw
  rw [show τ119.1 0 = τ123.1 0 from (ha8 0 (by omega)).symm] at hl
  refine W.eq (g2 := F0 m 34 ls [.ref (τ123.1 5), .ref (τ123.1 0)]) (by rw [ha8 0 (by omega), ha8 5 (by omega)]) ?_
  have hAd : ∀ i, ¬ (i = 8 ∨ i = 7 ∨ i = 6 ∨ i = 5 ∨ i = 4 ∨ i = 3 ∨ i = 2 ∨ i = 1) → τ123.1 i = τ.1 i := fun i h => by rw [ha8 i (by omega)]; exact hAd i (by omega)
  refine zPutFR (D := D) (ci := 11) (ty := .object "PostHouse$Comings") (C := RX11) (T := TX11) (N := 16) hx hb hts hiX11 tyX11 tyX11_ok nmX11 hown hH hS ((hB.1 0 (by decide)).1.trans (by decide : zkt 0 = 27)) rfl 2 (by decide) rfl hw21 (fun _ h9 => h9) rfl hin rfl (by rw [((hB.1 5 (by decide)).1.trans (by decide : zkt 5 = 17))]; decide)  (by decide +kernel) rfl rfl dX11_init_34 (fun H locs hH hS => ?_)
  obtain ⟨g126, eg126⟩ : ∃ f9 : zFr, f9 = zur g125 0 2 (some 5) := ⟨_, rfl⟩
  rw [← eg126] at hH
  have hB := zBI.ref hB eg126 (by decide)
  refine lv_aload_n hx hb dX11_init_37 rfl (lv_at hl 0 rfl) ?_
  refine zNew (D := D) (fs := [.null, .null]) (ci := 5) (C := RX5) (T := TX5) (N := 2) hx hb hts hiX5 tyX5 tyX5_ok hown hw23 hw24 hw25 hH hS hA rfl 9 (hB.2.1 9 (by decide)).1 (fun _ => rfl) (by decide) (Nat.le_of_ble_eq_true rfl) (Nat.le_of_ble_eq_true rfl) dX11_init_38 (fun q9 c9 H hH8 hS => ?_)
  obtain ⟨τ128, eτ128⟩ : ∃ t9 : zTy, t9 = (va_up τ123.1 9 q9, va_up τ123.2.1 9 c9, va_up τ123.2.2.1 9 21, va_up τ123.2.2.2 9 0) := ⟨_, rfl⟩
  obtain ⟨f129, ef129⟩ : ∃ f9 : zFi, f9 = va_up f124 9 (fun _ => 0) := ⟨_, rfl⟩
  obtain ⟨g130, eg130⟩ : ∃ f9 : zFr, f9 = va_up g126 9 (fun _ => none) := ⟨_, rfl⟩
  have hH : zH D A τ128 f129 g130 ol s H := by rw [eτ128, ef129, eg130]; exact hH8
  clear hH8
  have hqτ128 : τ128.1 9 = q9 := by rw [eτ128]; exact va_up_self τ123.1 9 q9
  have haτ128 : ∀ i, i ≠ 9 → τ128.1 i = τ123.1 i := fun i h => by rw [eτ128]; exact va_up_ne _ _ h
  have hkτ128 : τ128.2.2.1 9 = 21 := by rw [eτ128]; exact va_up_self τ123.2.2.1 9 21
  have hnτ128 : τ128.2.2.2 9 = 0 := by rw [eτ128]; exact va_up_self τ123.2.2.2 9 0
  have hbτ128 : ∀ i, i ≠ 9 → τ128.2.2.1 i = τ123.2.2.1 i ∧ τ128.2.2.2 i = τ123.2.2.2 i := fun i h => by rw [eτ128]; exact ⟨va_up_ne _ _ h, va_up_ne _ _ h⟩
  clear eτ128
  subst hqτ128
  rw [show τ123.1 0 = τ128.1 0 from (haτ128 0 (by omega)).symm] at hl
  refine W.eq (g2 := F0 m 41 ls [.ref (τ128.1 9), .ref (τ128.1 0)]) (by rw [haτ128 0 (by omega)]) ?_
  have hB := zBI.born (i := 9) hB (by decide) hkτ128 hnτ128 hbτ128 ef129 eg130 (by decide) (by decide)
  have hAd : ∀ i, ¬ (i = 9 ∨ i = 8 ∨ i = 7 ∨ i = 6 ∨ i = 5 ∨ i = 4 ∨ i = 3 ∨ i = 2 ∨ i = 1) → τ128.1 i = τ.1 i := fun i h => by rw [haτ128 i (by omega)]; exact hAd i (by omega)
  refine W.widen (k := 9) (n := 622) (by decide) (by decide) ?_
  refine lv_dup hx hb dX11_init_41 rfl ?_
  refine va_callv (va_runI (As := []) (rest := [.ref (τ128.1 9), .ref (τ128.1 0)]) ⟨hx, hb, hml, hown, hts⟩ (i_Rul1 l hl0 D A sad τ128 f129 g130 ol hB) (cwI 0 hts gX11_init_X5_init rfl rfl rfl hw25 hw26 hw27 rfl (by decide +kernel) ⟨Nat.le_of_ble_eq_true rfl, Nat.le_of_ble_eq_true rfl⟩) ⟨zQc_bl, zQc_at hz hS hA hH⟩ rfl rfl hl.1 rfl (lv_room (Nat.le_of_ble_eq_true rfl)) dX11_init_42 ⟨Nat.le_of_ble_eq_true rfl, Nat.le_of_ble_eq_true rfl⟩) hS (fun q _ h => h) (fun q h => h) (fun u9 t9 H1 locs ht9 hvm9 hw hB hz1 hk1 hS => ?_)
  obtain ⟨τ132, f133, g134⟩ := u9
  have hH := zMv ht9 hvm9 hB
  clear hB
  simp only at hw hH
  generalize H1 = H at hH hS ⊢
  refine W.widen (k := 11) (n := 656) (by decide) (by decide) ?_
  obtain ⟨hB, ha8⟩ := hw
  rw [show τ128.1 0 = τ132.1 0 from (ha8 0 (by omega)).symm] at hl
  refine W.eq (g2 := F0 m 45 ls [.ref (τ132.1 9), .ref (τ132.1 0)]) (by rw [ha8 0 (by omega), ha8 9 (by omega)]) ?_
  have hAd : ∀ i, ¬ (i = 11 ∨ i = 10 ∨ i = 9 ∨ i = 8 ∨ i = 7 ∨ i = 6 ∨ i = 5 ∨ i = 4 ∨ i = 3 ∨ i = 2 ∨ i = 1) → τ132.1 i = τ.1 i := fun i h => by rw [ha8 i (by omega)]; exact hAd i (by omega)
  refine zPutFR (D := D) (ci := 11) (ty := .object "PostHouse$Rules") (C := RX11) (T := TX11) (N := 16) hx hb hts hiX11 tyX11 tyX11_ok nmX11 hown hH hS ((hB.1 0 (by decide)).1.trans (by decide : zkt 0 = 27)) rfl 3 (by decide) rfl hw28 (fun _ h9 => h9) rfl hin rfl (by rw [((hB.1 9 (by decide)).1.trans (by decide : zkt 9 = 21))]; decide)  (by decide +kernel) rfl rfl dX11_init_45 (fun H locs hH hS => ?_)
  obtain ⟨g135, eg135⟩ : ∃ f9 : zFr, f9 = zur g134 0 3 (some 9) := ⟨_, rfl⟩
  rw [← eg135] at hH
  have hB := zBI.ref hB eg135 (by decide)
  refine lv_aload_n hx hb dX11_init_48 rfl (lv_at hl 0 rfl) ?_
  refine zNew (D := D) (fs := [.null, .null]) (ci := 5) (C := RX5) (T := TX5) (N := 2) hx hb hts hiX5 tyX5 tyX5_ok hown hw23 hw24 hw25 hH hS hA rfl 12 (hB.2.1 12 (by decide)).1 (fun _ => rfl) (by decide) (Nat.le_of_ble_eq_true rfl) (Nat.le_of_ble_eq_true rfl) dX11_init_49 (fun q9 c9 H hH8 hS => ?_)
  obtain ⟨τ137, eτ137⟩ : ∃ t9 : zTy, t9 = (va_up τ132.1 12 q9, va_up τ132.2.1 12 c9, va_up τ132.2.2.1 12 21, va_up τ132.2.2.2 12 0) := ⟨_, rfl⟩
  obtain ⟨f138, ef138⟩ : ∃ f9 : zFi, f9 = va_up f133 12 (fun _ => 0) := ⟨_, rfl⟩
  obtain ⟨g139, eg139⟩ : ∃ f9 : zFr, f9 = va_up g135 12 (fun _ => none) := ⟨_, rfl⟩
  have hH : zH D A τ137 f138 g139 ol s H := by rw [eτ137, ef138, eg139]; exact hH8
  clear hH8
  have hqτ137 : τ137.1 12 = q9 := by rw [eτ137]; exact va_up_self τ132.1 12 q9
  have haτ137 : ∀ i, i ≠ 12 → τ137.1 i = τ132.1 i := fun i h => by rw [eτ137]; exact va_up_ne _ _ h
  have hkτ137 : τ137.2.2.1 12 = 21 := by rw [eτ137]; exact va_up_self τ132.2.2.1 12 21
  have hnτ137 : τ137.2.2.2 12 = 0 := by rw [eτ137]; exact va_up_self τ132.2.2.2 12 0
  have hbτ137 : ∀ i, i ≠ 12 → τ137.2.2.1 i = τ132.2.2.1 i ∧ τ137.2.2.2 i = τ132.2.2.2 i := fun i h => by rw [eτ137]; exact ⟨va_up_ne _ _ h, va_up_ne _ _ h⟩
  clear eτ137
  subst hqτ137
  rw [show τ132.1 0 = τ137.1 0 from (haτ137 0 (by omega)).symm] at hl
  refine W.eq (g2 := F0 m 52 ls [.ref (τ137.1 12), .ref (τ137.1 0)]) (by rw [haτ137 0 (by omega)]) ?_
  have hB := zBI.born (i := 12) hB (by decide) hkτ137 hnτ137 hbτ137 ef138 eg139 (by decide) (by decide)
  have hAd : ∀ i, ¬ (i = 12 ∨ i = 11 ∨ i = 10 ∨ i = 9 ∨ i = 8 ∨ i = 7 ∨ i = 6 ∨ i = 5 ∨ i = 4 ∨ i = 3 ∨ i = 2 ∨ i = 1) → τ137.1 i = τ.1 i := fun i h => by rw [haτ137 i (by omega)]; exact hAd i (by omega)
  refine W.widen (k := 12) (n := 658) (by decide) (by decide) ?_
  refine lv_dup hx hb dX11_init_52 rfl ?_
  refine va_callv (va_runI (As := []) (rest := [.ref (τ137.1 12), .ref (τ137.1 0)]) ⟨hx, hb, hml, hown, hts⟩ (i_Rul2 l hl0 D A sad τ137 f138 g139 ol hB) (cwI 0 hts gX11_init_X5_init rfl rfl rfl hw25 hw26 hw27 rfl (by decide +kernel) ⟨Nat.le_of_ble_eq_true rfl, Nat.le_of_ble_eq_true rfl⟩) ⟨zQc_bl, zQc_at hz hS hA hH⟩ rfl rfl hl.1 rfl (lv_room (Nat.le_of_ble_eq_true rfl)) dX11_init_53 ⟨Nat.le_of_ble_eq_true rfl, Nat.le_of_ble_eq_true rfl⟩) hS (fun q _ h => h) (fun q h => h) (fun u9 t9 H1 locs ht9 hvm9 hw hB hz1 hk1 hS => ?_)
  obtain ⟨τ141, f142, g143⟩ := u9
  have hH := zMv ht9 hvm9 hB
  clear hB
  simp only at hw hH
  generalize H1 = H at hH hS ⊢
  refine W.widen (k := 14) (n := 692) (by decide) (by decide) ?_
  obtain ⟨hB, ha8⟩ := hw
  rw [show τ137.1 0 = τ141.1 0 from (ha8 0 (by omega)).symm] at hl
  refine W.eq (g2 := F0 m 56 ls [.ref (τ141.1 12), .ref (τ141.1 0)]) (by rw [ha8 0 (by omega), ha8 12 (by omega)]) ?_
  have hAd : ∀ i, ¬ (i = 14 ∨ i = 13 ∨ i = 12 ∨ i = 11 ∨ i = 10 ∨ i = 9 ∨ i = 8 ∨ i = 7 ∨ i = 6 ∨ i = 5 ∨ i = 4 ∨ i = 3 ∨ i = 2 ∨ i = 1) → τ141.1 i = τ.1 i := fun i h => by rw [ha8 i (by omega)]; exact hAd i (by omega)
  refine zPutFR (D := D) (ci := 11) (ty := .object "PostHouse$Rules") (C := RX11) (T := TX11) (N := 16) hx hb hts hiX11 tyX11 tyX11_ok nmX11 hown hH hS ((hB.1 0 (by decide)).1.trans (by decide : zkt 0 = 27)) rfl 4 (by decide) rfl hw29 (fun _ h9 => h9) rfl hin rfl (by rw [((hB.1 12 (by decide)).1.trans (by decide : zkt 12 = 21))]; decide)  (by decide +kernel) rfl rfl dX11_init_56 (fun H locs hH hS => ?_)
  obtain ⟨g144, eg144⟩ : ∃ f9 : zFr, f9 = zur g143 0 4 (some 12) := ⟨_, rfl⟩
  rw [← eg144] at hH
  have hB := zBI.ref hB eg144 (by decide)
  refine lv_aload_n hx hb dX11_init_59 rfl (lv_at hl 0 rfl) ?_
  refine lv_sipush (v := nI 512) hx hb dX11_init_60 (by decide) ?_
  refine zNewq (D := D) (C := RX2) (t := 5) (N' := 512) hx hb hown hw30 (hz.1.2.2.2.2.2.2.1 _ (List.mem_of_getElem? (i := 0) rfl)) rfl (by decide) (by decide) hH hS hA 15 (hB.2.1 15 (by decide)).1 (by decide) (by decide) (by decide) (Nat.le_of_ble_eq_true rfl) (Nat.le_of_ble_eq_true rfl) dX11_init_63 (fun q9 c9 H hH8 hS => ?_)
  obtain ⟨τ146, eτ146⟩ : ∃ t9 : zTy, t9 = (va_up τ141.1 15 q9, va_up τ141.2.1 15 c9, va_up τ141.2.2.1 15 5, va_up τ141.2.2.2 15 512) := ⟨_, rfl⟩
  obtain ⟨f147, ef147⟩ : ∃ f9 : zFi, f9 = va_up f142 15 (fun _ => 0) := ⟨_, rfl⟩
  obtain ⟨g148, eg148⟩ : ∃ f9 : zFr, f9 = va_up g144 15 (fun _ => none) := ⟨_, rfl⟩
  have hH : zH D A τ146 f147 g148 ol s H := by rw [eτ146, ef147, eg148]; exact hH8
  clear hH8
  have hqτ146 : τ146.1 15 = q9 := by rw [eτ146]; exact va_up_self τ141.1 15 q9
  have haτ146 : ∀ i, i ≠ 15 → τ146.1 i = τ141.1 i := fun i h => by rw [eτ146]; exact va_up_ne _ _ h
  have hkτ146 : τ146.2.2.1 15 = 5 := by rw [eτ146]; exact va_up_self τ141.2.2.1 15 5
  have hnτ146 : τ146.2.2.2 15 = 512 := by rw [eτ146]; exact va_up_self τ141.2.2.2 15 512
  have hbτ146 : ∀ i, i ≠ 15 → τ146.2.2.1 i = τ141.2.2.1 i ∧ τ146.2.2.2 i = τ141.2.2.2 i := fun i h => by rw [eτ146]; exact ⟨va_up_ne _ _ h, va_up_ne _ _ h⟩
  clear eτ146
  subst hqτ146
  rw [show τ141.1 0 = τ146.1 0 from (haτ146 0 (by omega)).symm] at hl
  refine W.eq (g2 := F0 m 66 ls [.ref (τ146.1 15), .ref (τ146.1 0)]) (by rw [haτ146 0 (by omega)]) ?_
  have hB := zBI.born (i := 15) hB (by decide) hkτ146 hnτ146 hbτ146 ef147 eg148 (by decide) (by decide)
  have hAd : ∀ i, ¬ (i = 15 ∨ i = 14 ∨ i = 13 ∨ i = 12 ∨ i = 11 ∨ i = 10 ∨ i = 9 ∨ i = 8 ∨ i = 7 ∨ i = 6 ∨ i = 5 ∨ i = 4 ∨ i = 3 ∨ i = 2 ∨ i = 1) → τ146.1 i = τ.1 i := fun i h => by rw [haτ146 i (by omega)]; exact hAd i (by omega)
  refine W.widen (k := 15) (n := 1204) (by decide) (by decide) ?_
  refine zPutFR (D := D) (ci := 11) (ty := .array (.object "PostHouse$Letter")) (C := RX11) (T := TX11) (N := 16) hx hb hts hiX11 tyX11 tyX11_ok nmX11 hown hH hS ((hB.1 0 (by decide)).1.trans (by decide : zkt 0 = 27)) rfl 5 (by decide) rfl hw31 (fun _ h9 => h9) rfl hin rfl (by rw [((hB.1 15 (by decide)).1.trans (by decide : zkt 15 = 5))]; decide)  (by decide +kernel) rfl rfl dX11_init_66 (fun H locs hH hS => ?_)
  obtain ⟨g149, eg149⟩ : ∃ f9 : zFr, f9 = zur g148 0 5 (some 15) := ⟨_, rfl⟩
  rw [← eg149] at hH
  have hB := zBI.ref hB eg149 (by decide)
  refine lv_aload_n hx hb dX11_init_69 rfl (lv_at hl 0 rfl) ?_
  refine lv_bipush (v := nI 60) hx hb dX11_init_70 (by decide) ?_
  refine zNewq (D := D) (C := RX3) (t := 6) (N' := 60) hx hb hown hw32 (hz.1.2.2.2.2.2.2.1 _ (List.mem_of_getElem? (i := 1) rfl)) rfl (by decide) (by decide) hH hS hA 16 (hB.2.1 16 (by decide)).1 (by decide) (by decide) (by decide) (Nat.le_of_ble_eq_true rfl) (Nat.le_of_ble_eq_true rfl) dX11_init_72 (fun q9 c9 H hH8 hS => ?_)
  obtain ⟨τ151, eτ151⟩ : ∃ t9 : zTy, t9 = (va_up τ146.1 16 q9, va_up τ146.2.1 16 c9, va_up τ146.2.2.1 16 6, va_up τ146.2.2.2 16 60) := ⟨_, rfl⟩
  obtain ⟨f152, ef152⟩ : ∃ f9 : zFi, f9 = va_up f147 16 (fun _ => 0) := ⟨_, rfl⟩
  obtain ⟨g153, eg153⟩ : ∃ f9 : zFr, f9 = va_up g149 16 (fun _ => none) := ⟨_, rfl⟩
  have hH : zH D A τ151 f152 g153 ol s H := by rw [eτ151, ef152, eg153]; exact hH8
  clear hH8
  have hqτ151 : τ151.1 16 = q9 := by rw [eτ151]; exact va_up_self τ146.1 16 q9
  have haτ151 : ∀ i, i ≠ 16 → τ151.1 i = τ146.1 i := fun i h => by rw [eτ151]; exact va_up_ne _ _ h
  have hkτ151 : τ151.2.2.1 16 = 6 := by rw [eτ151]; exact va_up_self τ146.2.2.1 16 6
  have hnτ151 : τ151.2.2.2 16 = 60 := by rw [eτ151]; exact va_up_self τ146.2.2.2 16 60
  have hbτ151 : ∀ i, i ≠ 16 → τ151.2.2.1 i = τ146.2.2.1 i ∧ τ151.2.2.2 i = τ146.2.2.2 i := fun i h => by rw [eτ151]; exact ⟨va_up_ne _ _ h, va_up_ne _ _ h⟩
  clear eτ151
  subst hqτ151
  rw [show τ146.1 0 = τ151.1 0 from (haτ151 0 (by omega)).symm] at hl
  refine W.eq (g2 := F0 m 75 ls [.ref (τ151.1 16), .ref (τ151.1 0)]) (by rw [haτ151 0 (by omega)]) ?_
  have hB := zBI.born (i := 16) hB (by decide) hkτ151 hnτ151 hbτ151 ef152 eg153 (by decide) (by decide)
  have hAd : ∀ i, ¬ (i = 16 ∨ i = 15 ∨ i = 14 ∨ i = 13 ∨ i = 12 ∨ i = 11 ∨ i = 10 ∨ i = 9 ∨ i = 8 ∨ i = 7 ∨ i = 6 ∨ i = 5 ∨ i = 4 ∨ i = 3 ∨ i = 2 ∨ i = 1) → τ151.1 i = τ.1 i := fun i h => by rw [haτ151 i (by omega)]; exact hAd i (by omega)
  refine W.widen (k := 16) (n := 1264) (by decide) (by decide) ?_
  refine zPutFR (D := D) (ci := 11) (ty := .array (.object "PostHouse$Order")) (C := RX11) (T := TX11) (N := 16) hx hb hts hiX11 tyX11 tyX11_ok nmX11 hown hH hS ((hB.1 0 (by decide)).1.trans (by decide : zkt 0 = 27)) rfl 6 (by decide) rfl hw33 (fun _ h9 => h9) rfl hin rfl (by rw [((hB.1 16 (by decide)).1.trans (by decide : zkt 16 = 6))]; decide)  (by decide +kernel) rfl rfl dX11_init_75 (fun H locs hH hS => ?_)
  obtain ⟨g154, eg154⟩ : ∃ f9 : zFr, f9 = zur g153 0 6 (some 16) := ⟨_, rfl⟩
  rw [← eg154] at hH
  have hB := zBI.ref hB eg154 (by decide)
  refine lv_aload_n hx hb dX11_init_78 rfl (lv_at hl 0 rfl) ?_
  refine lv_sipush (v := nI 300) hx hb dX11_init_79 (by decide) ?_
  refine zNewq (D := D) (C := RX6) (t := 7) (N' := 300) hx hb hown hw34 (hz.1.2.2.2.2.2.2.1 _ (List.mem_of_getElem? (i := 2) rfl)) rfl (by decide) (by decide) hH hS hA 17 (hB.2.1 17 (by decide)).1 (by decide) (by decide) (by decide) (Nat.le_of_ble_eq_true rfl) (Nat.le_of_ble_eq_true rfl) dX11_init_82 (fun q9 c9 H hH8 hS => ?_)
  obtain ⟨τ156, eτ156⟩ : ∃ t9 : zTy, t9 = (va_up τ151.1 17 q9, va_up τ151.2.1 17 c9, va_up τ151.2.2.1 17 7, va_up τ151.2.2.2 17 300) := ⟨_, rfl⟩
  obtain ⟨f157, ef157⟩ : ∃ f9 : zFi, f9 = va_up f152 17 (fun _ => 0) := ⟨_, rfl⟩
  obtain ⟨g158, eg158⟩ : ∃ f9 : zFr, f9 = va_up g154 17 (fun _ => none) := ⟨_, rfl⟩
  have hH : zH D A τ156 f157 g158 ol s H := by rw [eτ156, ef157, eg158]; exact hH8
  clear hH8
  have hqτ156 : τ156.1 17 = q9 := by rw [eτ156]; exact va_up_self τ151.1 17 q9
  have haτ156 : ∀ i, i ≠ 17 → τ156.1 i = τ151.1 i := fun i h => by rw [eτ156]; exact va_up_ne _ _ h
  have hkτ156 : τ156.2.2.1 17 = 7 := by rw [eτ156]; exact va_up_self τ151.2.2.1 17 7
  have hnτ156 : τ156.2.2.2 17 = 300 := by rw [eτ156]; exact va_up_self τ151.2.2.2 17 300
  have hbτ156 : ∀ i, i ≠ 17 → τ156.2.2.1 i = τ151.2.2.1 i ∧ τ156.2.2.2 i = τ151.2.2.2 i := fun i h => by rw [eτ156]; exact ⟨va_up_ne _ _ h, va_up_ne _ _ h⟩
  clear eτ156
  subst hqτ156
  rw [show τ151.1 0 = τ156.1 0 from (haτ156 0 (by omega)).symm] at hl
  refine W.eq (g2 := F0 m 85 ls [.ref (τ156.1 17), .ref (τ156.1 0)]) (by rw [haτ156 0 (by omega)]) ?_
  have hB := zBI.born (i := 17) hB (by decide) hkτ156 hnτ156 hbτ156 ef157 eg158 (by decide) (by decide)
  have hAd : ∀ i, ¬ (i = 17 ∨ i = 16 ∨ i = 15 ∨ i = 14 ∨ i = 13 ∨ i = 12 ∨ i = 11 ∨ i = 10 ∨ i = 9 ∨ i = 8 ∨ i = 7 ∨ i = 6 ∨ i = 5 ∨ i = 4 ∨ i = 3 ∨ i = 2 ∨ i = 1) → τ156.1 i = τ.1 i := fun i h => by rw [haτ156 i (by omega)]; exact hAd i (by omega)
  refine W.widen (k := 17) (n := 1564) (by decide) (by decide) ?_
  refine zPutFR (D := D) (ci := 11) (ty := .array (.object "PostHouse$Sending")) (C := RX11) (T := TX11) (N := 16) hx hb hts hiX11 tyX11 tyX11_ok nmX11 hown hH hS ((hB.1 0 (by decide)).1.trans (by decide : zkt 0 = 27)) rfl 7 (by decide) rfl hw35 (fun _ h9 => h9) rfl hin rfl (by rw [((hB.1 17 (by decide)).1.trans (by decide : zkt 17 = 7))]; decide)  (by decide +kernel) rfl rfl dX11_init_85 (fun H locs hH hS => ?_)
  obtain ⟨g159, eg159⟩ : ∃ f9 : zFr, f9 = zur g158 0 7 (some 17) := ⟨_, rfl⟩
  rw [← eg159] at hH
  have hB := zBI.ref hB eg159 (by decide)
  refine lv_aload_n hx hb dX11_init_88 rfl (lv_at hl 0 rfl) ?_
  refine zNew (D := D) (fs := [.null, .null, .null, .int 0, .int 0]) (ci := 4) (C := RX4) (T := TX4) (N := 5) hx hb hts hiX4 tyX4 tyX4_ok hown hw37 hw38 hw39 hH hS hA rfl 18 (hB.2.1 18 (by decide)).1 (fun _ => rfl) (by decide) (Nat.le_of_ble_eq_true rfl) (Nat.le_of_ble_eq_true rfl) dX11_init_89 (fun q9 c9 H hH8 hS => ?_)
  obtain ⟨τ161, eτ161⟩ : ∃ t9 : zTy, t9 = (va_up τ156.1 18 q9, va_up τ156.2.1 18 c9, va_up τ156.2.2.1 18 20, va_up τ156.2.2.2 18 0) := ⟨_, rfl⟩
  obtain ⟨f162, ef162⟩ : ∃ f9 : zFi, f9 = va_up f157 18 (fun _ => 0) := ⟨_, rfl⟩
  obtain ⟨g163, eg163⟩ : ∃ f9 : zFr, f9 = va_up g159 18 (fun _ => none) := ⟨_, rfl⟩
  have hH : zH D A τ161 f162 g163 ol s H := by rw [eτ161, ef162, eg163]; exact hH8
  clear hH8
  have hqτ161 : τ161.1 18 = q9 := by rw [eτ161]; exact va_up_self τ156.1 18 q9
  have haτ161 : ∀ i, i ≠ 18 → τ161.1 i = τ156.1 i := fun i h => by rw [eτ161]; exact va_up_ne _ _ h
  have hkτ161 : τ161.2.2.1 18 = 20 := by rw [eτ161]; exact va_up_self τ156.2.2.1 18 20
  have hnτ161 : τ161.2.2.2 18 = 0 := by rw [eτ161]; exact va_up_self τ156.2.2.2 18 0
  have hbτ161 : ∀ i, i ≠ 18 → τ161.2.2.1 i = τ156.2.2.1 i ∧ τ161.2.2.2 i = τ156.2.2.2 i := fun i h => by rw [eτ161]; exact ⟨va_up_ne _ _ h, va_up_ne _ _ h⟩
  clear eτ161
  subst hqτ161
  rw [show τ156.1 0 = τ161.1 0 from (haτ161 0 (by omega)).symm] at hl
  refine W.eq (g2 := F0 m 92 ls [.ref (τ161.1 18), .ref (τ161.1 0)]) (by rw [haτ161 0 (by omega)]) ?_
  have hB := zBI.born (i := 18) hB (by decide) hkτ161 hnτ161 hbτ161 ef162 eg163 (by decide) (by decide)
  have hAd : ∀ i, ¬ (i = 18 ∨ i = 17 ∨ i = 16 ∨ i = 15 ∨ i = 14 ∨ i = 13 ∨ i = 12 ∨ i = 11 ∨ i = 10 ∨ i = 9 ∨ i = 8 ∨ i = 7 ∨ i = 6 ∨ i = 5 ∨ i = 4 ∨ i = 3 ∨ i = 2 ∨ i = 1) → τ161.1 i = τ.1 i := fun i h => by rw [haτ161 i (by omega)]; exact hAd i (by omega)
  refine W.widen (k := 18) (n := 1569) (by decide) (by decide) ?_
  refine lv_dup hx hb dX11_init_92 rfl ?_
  refine va_callv (va_runIN (host := RX11) (As := []) (rest := [.ref (τ161.1 18), .ref (τ161.1 0)]) ⟨hx, hb, hml, hown, hts⟩ (i_Pack l hl0 D A sad τ161 f162 g163 ol hB) ⟨va_cnB (host := RX11) (y := yX4_init) 0 hts gX11_init_X4_init_n60 rfl rfl rfl (hz.1.2.2.2.2.2.1 _ (List.mem_of_getElem? (i := 3) rfl)) hw39 (by decide +kernel) ⟨Nat.le_of_ble_eq_true rfl, Nat.le_of_ble_eq_true rfl⟩, rfl, hw40⟩ ⟨zQc_bl, zQc_at hz hS hA hH⟩ rfl rfl hl.1 rfl (lv_room (Nat.le_of_ble_eq_true rfl)) dX11_init_93 ⟨Nat.le_of_ble_eq_true rfl, Nat.le_of_ble_eq_true rfl⟩) hS (fun q _ h => h) (fun q h => h) (fun u9 t9 H1 locs ht9 hvm9 hw hB hz1 hk1 hS => ?_)
  obtain ⟨τ165, f166, g167⟩ := u9
  have hH := zMv ht9 hvm9 hB
  clear hB
  simp only at hw hH
  generalize H1 = H at hH hS ⊢
  refine W.widen (k := 21) (n := 2393) (by decide) (by decide) ?_
  obtain ⟨hB, ha8⟩ := hw
  rw [show τ161.1 0 = τ165.1 0 from (ha8 0 (by omega)).symm] at hl
  refine W.eq (g2 := F0 m 96 ls [.ref (τ165.1 18), .ref (τ165.1 0)]) (by rw [ha8 0 (by omega), ha8 18 (by omega)]) ?_
  have hAd : ∀ i, ¬ (i = 21 ∨ i = 20 ∨ i = 19 ∨ i = 18 ∨ i = 17 ∨ i = 16 ∨ i = 15 ∨ i = 14 ∨ i = 13 ∨ i = 12 ∨ i = 11 ∨ i = 10 ∨ i = 9 ∨ i = 8 ∨ i = 7 ∨ i = 6 ∨ i = 5 ∨ i = 4 ∨ i = 3 ∨ i = 2 ∨ i = 1) → τ165.1 i = τ.1 i := fun i h => by rw [ha8 i (by omega)]; exact hAd i (by omega)
  refine zPutFR (D := D) (ci := 11) (ty := .object "PostHouse$Packing") (C := RX11) (T := TX11) (N := 16) hx hb hts hiX11 tyX11 tyX11_ok nmX11 hown hH hS ((hB.1 0 (by decide)).1.trans (by decide : zkt 0 = 27)) rfl 8 (by decide) rfl hw41 (fun _ h9 => h9) rfl hin rfl (by rw [((hB.1 18 (by decide)).1.trans (by decide : zkt 18 = 20))]; decide)  (by decide +kernel) rfl rfl dX11_init_96 (fun H locs hH hS => ?_)
  obtain ⟨g168, eg168⟩ : ∃ f9 : zFr, f9 = zur g167 0 8 (some 18) := ⟨_, rfl⟩
  rw [← eg168] at hH
  have hB := zBI.ref hB eg168 (by decide)
  refine lv_aload_n hx hb dX11_init_99 rfl (lv_at hl 0 rfl) ?_
  refine zNew (D := D) (fs := [.null, .int 0, .null, .null, .null, .null]) (ci := 9) (C := RX9) (T := TX9) (N := 6) hx hb hts hiX9 tyX9 tyX9_ok hown hw43 hw44 hw45 hH hS hA rfl 22 (hB.2.1 22 (by decide)).1 (fun _ => rfl) (by decide) (Nat.le_of_ble_eq_true rfl) (Nat.le_of_ble_eq_true rfl) dX11_init_100 (fun q9 c9 H hH8 hS => ?_)
  obtain ⟨τ170, eτ170⟩ : ∃ t9 : zTy, t9 = (va_up τ165.1 22 q9, va_up τ165.2.1 22 c9, va_up τ165.2.2.1 22 25, va_up τ165.2.2.2 22 0) := ⟨_, rfl⟩
  obtain ⟨f171, ef171⟩ : ∃ f9 : zFi, f9 = va_up f166 22 (fun _ => 0) := ⟨_, rfl⟩
  obtain ⟨g172, eg172⟩ : ∃ f9 : zFr, f9 = va_up g168 22 (fun _ => none) := ⟨_, rfl⟩
  have hH : zH D A τ170 f171 g172 ol s H := by rw [eτ170, ef171, eg172]; exact hH8
  clear hH8
  have hqτ170 : τ170.1 22 = q9 := by rw [eτ170]; exact va_up_self τ165.1 22 q9
  have haτ170 : ∀ i, i ≠ 22 → τ170.1 i = τ165.1 i := fun i h => by rw [eτ170]; exact va_up_ne _ _ h
  have hkτ170 : τ170.2.2.1 22 = 25 := by rw [eτ170]; exact va_up_self τ165.2.2.1 22 25
  have hnτ170 : τ170.2.2.2 22 = 0 := by rw [eτ170]; exact va_up_self τ165.2.2.2 22 0
  have hbτ170 : ∀ i, i ≠ 22 → τ170.2.2.1 i = τ165.2.2.1 i ∧ τ170.2.2.2 i = τ165.2.2.2 i := fun i h => by rw [eτ170]; exact ⟨va_up_ne _ _ h, va_up_ne _ _ h⟩
  clear eτ170
  subst hqτ170
  rw [show τ165.1 0 = τ170.1 0 from (haτ170 0 (by omega)).symm] at hl
  refine W.eq (g2 := F0 m 103 ls [.ref (τ170.1 22), .ref (τ170.1 0)]) (by rw [haτ170 0 (by omega)]) ?_
  have hB := zBI.born (i := 22) hB (by decide) hkτ170 hnτ170 hbτ170 ef171 eg172 (by decide) (by decide)
  have hAd : ∀ i, ¬ (i = 22 ∨ i = 21 ∨ i = 20 ∨ i = 19 ∨ i = 18 ∨ i = 17 ∨ i = 16 ∨ i = 15 ∨ i = 14 ∨ i = 13 ∨ i = 12 ∨ i = 11 ∨ i = 10 ∨ i = 9 ∨ i = 8 ∨ i = 7 ∨ i = 6 ∨ i = 5 ∨ i = 4 ∨ i = 3 ∨ i = 2 ∨ i = 1) → τ170.1 i = τ.1 i := fun i h => by rw [haτ170 i (by omega)]; exact hAd i (by omega)
  refine W.widen (k := 22) (n := 2399) (by decide) (by decide) ?_
  refine lv_dup hx hb dX11_init_103 rfl ?_
  refine va_callv (va_runIN (host := RX11) (As := []) (rest := [.ref (τ170.1 22), .ref (τ170.1 0)]) ⟨hx, hb, hml, hown, hts⟩ (i_Walk l hl0 D A sad τ170 f171 g172 ol hB) ⟨va_cnB (host := RX11) (y := yX9_init) 0 hts gX11_init_X9_init_n67 rfl rfl rfl (hz.1.2.2.2.2.2.1 _ (List.mem_of_getElem? (i := 4) rfl)) hw45 (by decide +kernel) ⟨Nat.le_of_ble_eq_true rfl, Nat.le_of_ble_eq_true rfl⟩, rfl, hw46⟩ ⟨zQc_bl, zQc_at hz hS hA hH⟩ rfl rfl hl.1 rfl (lv_room (Nat.le_of_ble_eq_true rfl)) dX11_init_104 ⟨Nat.le_of_ble_eq_true rfl, Nat.le_of_ble_eq_true rfl⟩) hS (fun q _ h => h) (fun q h => h) (fun u9 t9 H1 locs ht9 hvm9 hw hB hz1 hk1 hS => ?_)
  obtain ⟨τ174, f175, g176⟩ := u9
  have hH := zMv ht9 hvm9 hB
  clear hB
  simp only at hw hH
  generalize H1 = H at hH hS ⊢
  refine W.widen (k := 27) (n := 2448) (by decide) (by decide) ?_
  obtain ⟨hB, ha8⟩ := hw
  rw [show τ170.1 0 = τ174.1 0 from (ha8 0 (by omega)).symm] at hl
  refine W.eq (g2 := F0 m 107 ls [.ref (τ174.1 22), .ref (τ174.1 0)]) (by rw [ha8 0 (by omega), ha8 22 (by omega)]) ?_
  have hAd : ∀ i, ¬ (i = 27 ∨ i = 26 ∨ i = 25 ∨ i = 24 ∨ i = 23 ∨ i = 22 ∨ i = 21 ∨ i = 20 ∨ i = 19 ∨ i = 18 ∨ i = 17 ∨ i = 16 ∨ i = 15 ∨ i = 14 ∨ i = 13 ∨ i = 12 ∨ i = 11 ∨ i = 10 ∨ i = 9 ∨ i = 8 ∨ i = 7 ∨ i = 6 ∨ i = 5 ∨ i = 4 ∨ i = 3 ∨ i = 2 ∨ i = 1) → τ174.1 i = τ.1 i := fun i h => by rw [ha8 i (by omega)]; exact hAd i (by omega)
  refine zPutFR (D := D) (ci := 11) (ty := .object "PostHouse$Walk") (C := RX11) (T := TX11) (N := 16) hx hb hts hiX11 tyX11 tyX11_ok nmX11 hown hH hS ((hB.1 0 (by decide)).1.trans (by decide : zkt 0 = 27)) rfl 9 (by decide) rfl hw47 (fun _ h9 => h9) rfl hin rfl (by rw [((hB.1 22 (by decide)).1.trans (by decide : zkt 22 = 25))]; decide)  (by decide +kernel) rfl rfl dX11_init_107 (fun H locs hH hS => ?_)
  obtain ⟨g177, eg177⟩ : ∃ f9 : zFr, f9 = zur g176 0 9 (some 22) := ⟨_, rfl⟩
  rw [← eg177] at hH
  have hB := zBI.ref hB eg177 (by decide)
  refine lv_aload_n hx hb dX11_init_110 rfl (lv_at hl 0 rfl) ?_
  refine lv_iconst (v := (-1)) hx hb dX11_init_111 (by decide) ?_
  refine zPutI (D := D) (ci := 11) (ty := .int) (C := RX11) (T := TX11) (N := 16) hx hb hts hiX11 tyX11 tyX11_ok nmX11 hown hH hS ((hB.1 0 (by decide)).1.trans (by decide : zkt 0 = 27)) rfl 14 (by decide) rfl hw48 (fun _ h9 => h9) rfl (by decide +kernel) rfl rfl dX11_init_112 (fun H locs hH hS => ?_)
  obtain ⟨f179, ef179⟩ : ∃ f9 : zFi, f9 = zu f175 0 14 ((-1)) := ⟨_, rfl⟩
  rw [← ef179] at hH
  have q180 : f179 0 14 = (-1) := by rw [ef179]; exact zu_s
  have hB := zBI.int hB ef179 (by unfold zXc; omega)
  refine W.widen (k := 27) (n := 2448) (by decide) (by decide) ?_
  exact W.vret hx hb hr (fun t9 ht9 hW9 => ⟨⟨(τ174, f179, g177), rfl, (show zBI τ174 f179 g177 [27, 26, 25, 24, 23, 22, 21, 20, 19, 18, 17, 16, 15, 14, 13, 12, 11, 10, 9, 8, 7, 6, 5, 4, 3, 2, 1, 0] [(0, 9, 22), (22, 5, 27), (22, 4, 26), (22, 3, 25), (22, 2, 24), (22, 0, 23), (0, 8, 18), (18, 2, 21), (18, 1, 20), (18, 0, 19), (0, 7, 17), (0, 6, 16), (0, 5, 15), (0, 4, 12), (12, 1, 14), (12, 0, 13), (0, 3, 9), (9, 1, 11), (9, 0, 10), (0, 2, 5), (5, 2, 8), (5, 1, 7), (5, 0, 6), (0, 1, 3), (3, 0, 4), (0, 0, 1), (1, 0, 2)] ∧ (∀ i, ¬ (i = 27 ∨ i = 26 ∨ i = 25 ∨ i = 24 ∨ i = 23 ∨ i = 22 ∨ i = 21 ∨ i = 20 ∨ i = 19 ∨ i = 18 ∨ i = 17 ∨ i = 16 ∨ i = 15 ∨ i = 14 ∨ i = 13 ∨ i = 12 ∨ i = 11 ∨ i = 10 ∨ i = 9 ∨ i = 8 ∨ i = 7 ∨ i = 6 ∨ i = 5 ∨ i = 4 ∨ i = 3 ∨ i = 2 ∨ i = 1) → τ174.1 i = τ.1 i) from ⟨hB, hAd⟩), zEnd1 hH ht9 hW9⟩, hS.F ht9⟩) hS.2.2 dX11_init_115
set_option maxHeartbeats 4000000 in
set_option maxRecDepth 100000 in
/-- X12_init -/
theorem i_M (l : Launch) (hl0 : l.stackTraces = false) (D : va_G) (A : Nat → Prop) (sad : Nat → Nat) (τ : zTy) (fi : zFi) (fr : zFr) (ol : Int64) (hB : zBI τ fi fr [30, 27, 26, 25, 24, 23, 22, 21, 20, 19, 18, 17, 16, 15, 14, 13, 12, 11, 10, 9, 8, 7, 6, 5, 4, 3, 2, 1, 0] [(0, 9, 22), (22, 5, 27), (22, 4, 26), (22, 3, 25), (22, 2, 24), (22, 0, 23), (0, 8, 18), (18, 2, 21), (18, 1, 20), (18, 0, 19), (0, 7, 17), (0, 6, 16), (0, 5, 15), (0, 4, 12), (12, 1, 14), (12, 0, 13), (0, 3, 9), (9, 1, 11), (9, 0, 10), (0, 2, 5), (5, 2, 8), (5, 1, 7), (5, 0, 6), (0, 1, 3), (3, 0, 4), (0, 0, 1), (1, 0, 2)]) : Met l yX12_init wsX12_init ({ frames := 1, cells := 50, slots := 19992, locals := 12 }) (va_Pc [.ref (τ.1 30)] (zQc D A sad τ fi fr ol)) (va_Qv (fun (u : zTy × zFi × zFr) => zBI u.1 u.2.1 u.2.2 [72, 71, 70, 69, 68, 67, 66, 65, 64, 63, 62, 61, 60, 59, 58, 57, 56, 55, 54, 53, 52, 51, 50, 207, 206, 205, 204, 203, 202, 201, 200, 49, 48, 47, 46, 45, 44, 43, 42, 41, 40, 39, 38, 37, 36, 35, 34, 33, 32, 31, 30, 27, 26, 25, 24, 23, 22, 21, 20, 19, 18, 17, 16, 15, 14, 13, 12, 11, 10, 9, 8, 7, 6, 5, 4, 3, 2, 1, 0] [(30, 70, 72), (30, 69, 71), (30, 67, 70), (30, 66, 69), (30, 65, 68), (30, 64, 67), (30, 63, 66), (30, 62, 65), (30, 60, 64), (30, 59, 63), (30, 58, 62), (30, 57, 61), (30, 56, 60), (30, 55, 59), (30, 54, 58), (30, 53, 57), (30, 52, 56), (30, 51, 55), (30, 50, 54), (30, 49, 53), (30, 48, 52), (30, 47, 51), (30, 46, 50), (30, 44, 207), (30, 43, 206), (30, 42, 205), (30, 41, 204), (30, 40, 203), (30, 39, 202), (30, 38, 201), (30, 37, 200), (30, 28, 49), (30, 27, 48), (30, 20, 47), (30, 19, 46), (30, 18, 45), (30, 17, 44), (30, 16, 43), (30, 15, 42), (30, 14, 41), (30, 12, 40), (30, 11, 39), (30, 10, 38), (30, 9, 37), (30, 8, 36), (30, 7, 35), (30, 6, 34), (30, 5, 33), (30, 4, 32), (30, 3, 31), (0, 9, 22), (22, 5, 27), (22, 4, 26), (22, 3, 25), (22, 2, 24), (22, 0, 23), (0, 8, 18), (18, 2, 21), (18, 1, 20), (18, 0, 19), (0, 7, 17), (0, 6, 16), (0, 5, 15), (0, 4, 12), (12, 1, 14), (12, 0, 13), (0, 3, 9), (9, 1, 11), (9, 0, 10), (0, 2, 5), (5, 2, 8), (5, 1, 7), (5, 0, 6), (0, 1, 3), (3, 0, 4), (0, 0, 1), (1, 0, 2)] ∧ (∀ i, ¬ (i = 72 ∨ i = 71 ∨ i = 70 ∨ i = 69 ∨ i = 68 ∨ i = 67 ∨ i = 66 ∨ i = 65 ∨ i = 64 ∨ i = 63 ∨ i = 62 ∨ i = 61 ∨ i = 60 ∨ i = 59 ∨ i = 58 ∨ i = 57 ∨ i = 56 ∨ i = 55 ∨ i = 54 ∨ i = 53 ∨ i = 52 ∨ i = 51 ∨ i = 50 ∨ i = 207 ∨ i = 206 ∨ i = 205 ∨ i = 204 ∨ i = 203 ∨ i = 202 ∨ i = 201 ∨ i = 200 ∨ i = 49 ∨ i = 48 ∨ i = 47 ∨ i = 46 ∨ i = 45 ∨ i = 44 ∨ i = 43 ∨ i = 42 ∨ i = 41 ∨ i = 40 ∨ i = 39 ∨ i = 38 ∨ i = 37 ∨ i = 36 ∨ i = 35 ∨ i = 34 ∨ i = 33 ∨ i = 32 ∨ i = 31) → u.1.1 i = τ.1 i) ∧ ∀ t, t < 30 → u.2.1 40 t = -1) (fun (u : zTy × zFi × zFr) (t : State) => zH D A u.1 u.2.1 u.2.2 ol t t.heap) A) 50 19992 A := by
  refine Met.ofW (cc := cX12_init) (maxL := 2) (ret := none) (by decide) rfl ?_
  intro p9 e9 s m args below meth c9 s₁ B hml hv
  obtain ⟨rfl, hz, hH, hA⟩ := hv
  have hx := B.exec
  have hb := B.bytes
  have hr := B.returns
  have hts := atoms_spec (ws := wsX12_init) B.pre
  have hown : s.vm.findClass RX12 = some m.cls := findClass_of_methodNamed B.named
  have hlocks := B.notSynchronized
  have hin : meth.name = "<init>" := (name_of_methodNamed B.named B.method).1
  have hS : va_S A s.heap s.heap [] := va_S.rf
  have hl := lv_entry ([.ref (τ.1 30)]) (n := 2) (Nat.le_of_ble_eq_true rfl)
  rw [lg_entry_eq]
  generalize (lg_sl ([.ref (τ.1 30)]) ++ List.replicate (2 - (lg_sl ([.ref (τ.1 30)])).length) Slot.unset).toArray = ls at hl ⊢
  have hl : lv_has ls 2 [(0, .ref (τ.1 30))] := hl
  have hw0 := hts (.methodLink RX12 1 objectInit) (by decide +kernel)
  have hw1 := hts (.instanceMethod objectInit) (by decide +kernel)
  have hw2 := hts (.code objectInit ⟨#[0xb1]⟩ 1 none) (by decide +kernel)
  have hw3 := hts (.arrayClass .int) (by decide +kernel)
  have hw4 := hts (.fieldLink RX12 7 "PostHouseModel" "code" "[I") (by decide +kernel)
  have hiX12 : ∀ w ∈ u_ws RX12 TX12 71, w ∈ wsX12_init := fun _ h => List.mem_cons_of_mem _ (List.mem_append_right _ h)
  have hw6 := hts (.fieldLink RX12 13 "PostHouseModel" "weight" "[I") (by decide +kernel)
  have hw7 := hts (.fieldLink RX12 16 "PostHouseModel" "street" "[I") (by decide +kernel)
  have hw8 := hts (.fieldLink RX12 19 "PostHouseModel" "place" "[I") (by decide +kernel)
  have hw9 := hts (.fieldLink RX12 22 "PostHouseModel" "stock" "[I") (by decide +kernel)
  have hw10 := hts (.fieldLink RX12 25 "PostHouseModel" "prices" "[I") (by decide +kernel)
  have hw11 := hts (.fieldLink RX12 28 "PostHouseModel" "priceMoney" "[I") (by decide +kernel)
  have hw12 := hts (.fieldLink RX12 31 "PostHouseModel" "priceFrom" "[I") (by decide +kernel)
  have hw13 := hts (.fieldLink RX12 34 "PostHouseModel" "priceTo" "[I") (by decide +kernel)
  have hw14 := hts (.fieldLink RX12 37 "PostHouseModel" "other" "[I") (by decide +kernel)
  have hw15 := hts (.fieldLink RX12 40 "PostHouseModel" "comingThing" "[I") (by decide +kernel)
  have hw16 := hts (.fieldLink RX12 43 "PostHouseModel" "comingDay" "[I") (by decide +kernel)
  have hw17 := hts (.fieldLink RX12 46 "PostHouseModel" "comingMany" "[I") (by decide +kernel)
  have hw18 := hts (.fieldLink RX12 49 "PostHouseModel" "rule" "[I") (by decide +kernel)
  have hw19 := hts (.fieldLink RX12 52 "PostHouseModel" "draft" "[I") (by decide +kernel)
  have hw20 := hts (.fieldLink RX12 55 "PostHouseModel" "draftOther" "[I") (by decide +kernel)
  have hw21 := hts (.fieldLink RX12 58 "PostHouseModel" "tape" "[I") (by decide +kernel)
  have hw22 := hts (.fieldLink RX12 61 "PostHouseModel" "fault" "I") (by decide +kernel)
  have hw23 := hts (.fieldLink RX12 65 "PostHouseModel" "lineCode" "[I") (by decide +kernel)
  have hw24 := hts (.fieldLink RX12 68 "PostHouseModel" "lineMany" "[I") (by decide +kernel)
  have hw25 := hts (.arrayClass .boolean) (by decide +kernel)
  have hw26 := hts (.fieldLink RX12 71 "PostHouseModel" "doubtWaits" "[Z") (by decide +kernel)
  have hw27 := hts (.fieldLink RX12 75 "PostHouseModel" "doubtMendings" "[I") (by decide +kernel)
  have hw28 := hts (.fieldLink RX12 78 "PostHouseModel" "doubtLines" "[I") (by decide +kernel)
  have hw29 := hts (.fieldLink RX12 81 "PostHouseModel" "doubtKnown" "[I") (by decide +kernel)
  have hw30 := hts (.fieldLink RX12 84 "PostHouseModel" "doubtSum" "[I") (by decide +kernel)
  have hw31 := hts (.fieldLink RX12 87 "PostHouseModel" "doubtMoney" "[I") (by decide +kernel)
  have hw32 := hts (.fieldLink RX12 90 "PostHouseModel" "doubtCode" "[I") (by decide +kernel)
  have hw33 := hts (.fieldLink RX12 93 "PostHouseModel" "doubtMany" "[I") (by decide +kernel)
  have hw34 := hts (.fieldLink RX12 96 "PostHouseModel" "orderDay" "[I") (by decide +kernel)
  have hw35 := hts (.fieldLink RX12 99 "PostHouseModel" "orderMoney" "[I") (by decide +kernel)
  have hw36 := hts (.fieldLink RX12 102 "PostHouseModel" "orderCredit" "[I") (by decide +kernel)
  have hw37 := hts (.fieldLink RX12 105 "PostHouseModel" "orderPost" "[I") (by decide +kernel)
  have hw38 := hts (.fieldLink RX12 108 "PostHouseModel" "wants" "[I") (by decide +kernel)
  have hw39 := hts (.fieldLink RX12 111 "PostHouseModel" "wantThing" "[I") (by decide +kernel)
  have hw40 := hts (.fieldLink RX12 114 "PostHouseModel" "wantMany" "[I") (by decide +kernel)
  have hw41 := hts (.fieldLink RX12 117 "PostHouseModel" "wantPrice" "[I") (by decide +kernel)
  have hw42 := hts (.fieldLink RX12 120 "PostHouseModel" "wantSent" "[I") (by decide +kernel)
  have hw43 := hts (.fieldLink RX12 123 "PostHouseModel" "wantPlaced" "[I") (by decide +kernel)
  have hw44 := hts (.fieldLink RX12 126 "PostHouseModel" "wantCancelled" "[I") (by decide +kernel)
  have hw45 := hts (.fieldLink RX12 129 "PostHouseModel" "wantReturned" "[I") (by decide +kernel)
  have hw46 := hts (.fieldLink RX12 132 "PostHouseModel" "wantPlacedBack" "[I") (by decide +kernel)
  have hw47 := hts (.fieldLink RX12 135 "PostHouseModel" "wantDay" "[I") (by decide +kernel)
  have hw48 := hts (.fieldLink RX12 138 "PostHouseModel" "wantOther" "[I") (by decide +kernel)
  have hw49 := hts (.fieldLink RX12 141 "PostHouseModel" "sendingOrder" "[I") (by decide +kernel)
  have hw50 := hts (.fieldLink RX12 144 "PostHouseModel" "sendingDay" "[I") (by decide +kernel)
  have hw51 := hts (.fieldLink RX12 147 "PostHouseModel" "sendingPieces" "[I") (by decide +kernel)
  have hw52 := hts (.fieldLink RX12 150 "PostHouseModel" "sendingParcels" "[I") (by decide +kernel)
  have hw53 := hts (.fieldLink RX12 153 "PostHouseModel" "piecesOf" "[I") (by decide +kernel)
  have hw54 := hts (.fieldLink RX12 156 "PostHouseModel" "parcel" "[I") (by decide +kernel)
  have hw55 := hts (.fieldLink RX12 159 "PostHouseModel" "pick" "[I") (by decide +kernel)
  have hw56 := hts (.fieldLink RX12 162 "PostHouseModel" "way" "[I") (by decide +kernel)
  refine lv_aload_n hx hb dX12_init_0 rfl (lv_at hl 0 rfl) ?_
  refine W.objInit hx hb hown hw0 hw1 hw2 rfl (by rw [hml]; exact hl.1) rfl dX12_init_1 (Nat.le_of_ble_eq_true rfl) (Nat.le_of_ble_eq_true rfl) ?_
  refine W.eq (g2 := F0 m 4 ls []) rfl ?_
  refine lv_aload_n hx hb dX12_init_4 rfl (lv_at hl 0 rfl) ?_
  refine lv_bipush (v := nI 30) hx hb dX12_init_5 (by decide) ?_
  refine zNewa (D := D) (atype := .int) (t := 1) (N' := 30) hx hb hw3 rfl (by decide) (by decide) rfl hH hS hA 31 (hB.2.1 31 (by decide)).1 (by decide) (by decide) (by first | decide | (simp only [zT, componentBytes]; omega)) (Nat.le_of_ble_eq_true rfl) (Nat.le_of_ble_eq_true rfl) dX12_init_7 (fun q9 c9 H hH8 hS => ?_)
  obtain ⟨τ101, eτ101⟩ : ∃ t9 : zTy, t9 = (va_up τ.1 31 q9, va_up τ.2.1 31 c9, va_up τ.2.2.1 31 1, va_up τ.2.2.2 31 30) := ⟨_, rfl⟩
  obtain ⟨f102, ef102⟩ : ∃ f9 : zFi, f9 = va_up fi 31 (fun _ => 0) := ⟨_, rfl⟩
  obtain ⟨g103, eg103⟩ : ∃ f9 : zFr, f9 = va_up fr 31 (fun _ => none) := ⟨_, rfl⟩
  have hH : zH D A τ101 f102 g103 ol s H := by rw [eτ101, ef102, eg103]; exact hH8
  clear hH8
  have hqτ101 : τ101.1 31 = q9 := by rw [eτ101]; exact va_up_self τ.1 31 q9
  have haτ101 : ∀ i, i ≠ 31 → τ101.1 i = τ.1 i := fun i h => by rw [eτ101]; exact va_up_ne _ _ h
  have hkτ101 : τ101.2.2.1 31 = 1 := by rw [eτ101]; exact va_up_self τ.2.2.1 31 1
  have hnτ101 : τ101.2.2.2 31 = 30 := by rw [eτ101]; exact va_up_self τ.2.2.2 31 30
  have hbτ101 : ∀ i, i ≠ 31 → τ101.2.2.1 i = τ.2.2.1 i ∧ τ101.2.2.2 i = τ.2.2.2 i := fun i h => by rw [eτ101]; exact ⟨va_up_ne _ _ h, va_up_ne _ _ h⟩
  clear eτ101
  subst hqτ101
  rw [show τ.1 30 = τ101.1 30 from (haτ101 30 (by omega)).symm] at hl
  refine W.eq (g2 := F0 m 9 ls [.ref (τ101.1 31), .ref (τ101.1 30)]) (by rw [haτ101 30 (by omega)]) ?_
  have hB := zBI.born (i := 31) hB (by decide) hkτ101 hnτ101 hbτ101 ef102 eg103 (by decide) (by decide)
  have hAd : ∀ i, ¬ (i = 31) → τ101.1 i = τ.1 i := fun i h => by rw [haτ101 i (by omega)]
  refine W.widen (k := 1) (n := 30) (by decide) (by decide) ?_
  refine zPutFR (D := D) (ci := 12) (ty := .array .int) (C := RX12) (T := TX12) (N := 71) hx hb hts hiX12 tyX12 tyX12_ok nmX12 hown hH hS ((hB.1 30 (by decide)).1.trans (by decide : zkt 30 = 28)) rfl 3 (by decide) rfl hw4 (fun _ h9 => h9) rfl hin rfl (by rw [((hB.1 31 (by decide)).1.trans (by decide : zkt 31 = 1))]; decide)  (by decide +kernel) rfl rfl dX12_init_9 (fun H locs hH hS => ?_)
  obtain ⟨g104, eg104⟩ : ∃ f9 : zFr, f9 = zur g103 30 3 (some 31) := ⟨_, rfl⟩
  rw [← eg104] at hH
  have hB := zBI.ref hB eg104 (by decide)
  refine lv_aload_n hx hb dX12_init_12 rfl (lv_at hl 0 rfl) ?_
  refine lv_bipush (v := nI 30) hx hb dX12_init_13 (by decide) ?_
  refine zNewa (D := D) (atype := .int) (t := 1) (N' := 30) hx hb hw3 rfl (by decide) (by decide) rfl hH hS hA 32 (hB.2.1 32 (by decide)).1 (by decide) (by decide) (by first | decide | (simp only [zT, componentBytes]; omega)) (Nat.le_of_ble_eq_true rfl) (Nat.le_of_ble_eq_true rfl) dX12_init_15 (fun q9 c9 H hH8 hS => ?_)
  obtain ⟨τ106, eτ106⟩ : ∃ t9 : zTy, t9 = (va_up τ101.1 32 q9, va_up τ101.2.1 32 c9, va_up τ101.2.2.1 32 1, va_up τ101.2.2.2 32 30) := ⟨_, rfl⟩
  obtain ⟨f107, ef107⟩ : ∃ f9 : zFi, f9 = va_up f102 32 (fun _ => 0) := ⟨_, rfl⟩
  obtain ⟨g108, eg108⟩ : ∃ f9 : zFr, f9 = va_up g104 32 (fun _ => none) := ⟨_, rfl⟩
  have hH : zH D A τ106 f107 g108 ol s H := by rw [eτ106, ef107, eg108]; exact hH8
  clear hH8
  have hqτ106 : τ106.1 32 = q9 := by rw [eτ106]; exact va_up_self τ101.1 32 q9
  have haτ106 : ∀ i, i ≠ 32 → τ106.1 i = τ101.1 i := fun i h => by rw [eτ106]; exact va_up_ne _ _ h
  have hkτ106 : τ106.2.2.1 32 = 1 := by rw [eτ106]; exact va_up_self τ101.2.2.1 32 1
  have hnτ106 : τ106.2.2.2 32 = 30 := by rw [eτ106]; exact va_up_self τ101.2.2.2 32 30
  have hbτ106 : ∀ i, i ≠ 32 → τ106.2.2.1 i = τ101.2.2.1 i ∧ τ106.2.2.2 i = τ101.2.2.2 i := fun i h => by rw [eτ106]; exact ⟨va_up_ne _ _ h, va_up_ne _ _ h⟩
  clear eτ106
  subst hqτ106
  rw [show τ101.1 30 = τ106.1 30 from (haτ106 30 (by omega)).symm] at hl
  refine W.eq (g2 := F0 m 17 ls [.ref (τ106.1 32), .ref (τ106.1 30)]) (by rw [haτ106 30 (by omega)]) ?_
  have hB := zBI.born (i := 32) hB (by decide) hkτ106 hnτ106 hbτ106 ef107 eg108 (by decide) (by decide)
  have hAd : ∀ i, ¬ (i = 32 ∨ i = 31) → τ106.1 i = τ.1 i := fun i h => by rw [haτ106 i (by omega)]; exact hAd i (by omega)
  refine W.widen (k := 2) (n := 60) (by decide) (by decide) ?_
  refine zPutFR (D := D) (ci := 12) (ty := .array .int) (C := RX12) (T := TX12) (N := 71) hx hb hts hiX12 tyX12 tyX12_ok nmX12 hown hH hS ((hB.1 30 (by decide)).1.trans (by decide : zkt 30 = 28)) rfl 4 (by decide) rfl hw6 (fun _ h9 => h9) rfl hin rfl (by rw [((hB.1 32 (by decide)).1.trans (by decide : zkt 32 = 1))]; decide)  (by decide +kernel) rfl rfl dX12_init_17 (fun H locs hH hS => ?_)
  obtain ⟨g109, eg109⟩ : ∃ f9 : zFr, f9 = zur g108 30 4 (some 32) := ⟨_, rfl⟩
  rw [← eg109] at hH
  have hB := zBI.ref hB eg109 (by decide)
  refine lv_aload_n hx hb dX12_init_20 rfl (lv_at hl 0 rfl) ?_
  refine lv_bipush (v := nI 30) hx hb dX12_init_21 (by decide) ?_
  refine zNewa (D := D) (atype := .int) (t := 1) (N' := 30) hx hb hw3 rfl (by decide) (by decide) rfl hH hS hA 33 (hB.2.1 33 (by decide)).1 (by decide) (by decide) (by first | decide | (simp only [zT, componentBytes]; omega)) (Nat.le_of_ble_eq_true rfl) (Nat.le_of_ble_eq_true rfl) dX12_init_23 (fun q9 c9 H hH8 hS => ?_)
  obtain ⟨τ111, eτ111⟩ : ∃ t9 : zTy, t9 = (va_up τ106.1 33 q9, va_up τ106.2.1 33 c9, va_up τ106.2.2.1 33 1, va_up τ106.2.2.2 33 30) := ⟨_, rfl⟩
  obtain ⟨f112, ef112⟩ : ∃ f9 : zFi, f9 = va_up f107 33 (fun _ => 0) := ⟨_, rfl⟩
  obtain ⟨g113, eg113⟩ : ∃ f9 : zFr, f9 = va_up g109 33 (fun _ => none) := ⟨_, rfl⟩
  have hH : zH D A τ111 f112 g113 ol s H := by rw [eτ111, ef112, eg113]; exact hH8
  clear hH8
  have hqτ111 : τ111.1 33 = q9 := by rw [eτ111]; exact va_up_self τ106.1 33 q9
  have haτ111 : ∀ i, i ≠ 33 → τ111.1 i = τ106.1 i := fun i h => by rw [eτ111]; exact va_up_ne _ _ h
  have hkτ111 : τ111.2.2.1 33 = 1 := by rw [eτ111]; exact va_up_self τ106.2.2.1 33 1
  have hnτ111 : τ111.2.2.2 33 = 30 := by rw [eτ111]; exact va_up_self τ106.2.2.2 33 30
  have hbτ111 : ∀ i, i ≠ 33 → τ111.2.2.1 i = τ106.2.2.1 i ∧ τ111.2.2.2 i = τ106.2.2.2 i := fun i h => by rw [eτ111]; exact ⟨va_up_ne _ _ h, va_up_ne _ _ h⟩
  clear eτ111
  subst hqτ111
  rw [show τ106.1 30 = τ111.1 30 from (haτ111 30 (by omega)).symm] at hl
  refine W.eq (g2 := F0 m 25 ls [.ref (τ111.1 33), .ref (τ111.1 30)]) (by rw [haτ111 30 (by omega)]) ?_
  have hB := zBI.born (i := 33) hB (by decide) hkτ111 hnτ111 hbτ111 ef112 eg113 (by decide) (by decide)
  have hAd : ∀ i, ¬ (i = 33 ∨ i = 32 ∨ i = 31) → τ111.1 i = τ.1 i := fun i h => by rw [haτ111 i (by omega)]; exact hAd i (by omega)
  refine W.widen (k := 3) (n := 90) (by decide) (by decide) ?_
  refine zPutFR (D := D) (ci := 12) (ty := .array .int) (C := RX12) (T := TX12) (N := 71) hx hb hts hiX12 tyX12 tyX12_ok nmX12 hown hH hS ((hB.1 30 (by decide)).1.trans (by decide : zkt 30 = 28)) rfl 5 (by decide) rfl hw7 (fun _ h9 => h9) rfl hin rfl (by rw [((hB.1 33 (by decide)).1.trans (by decide : zkt 33 = 1))]; decide)  (by decide +kernel) rfl rfl dX12_init_25 (fun H locs hH hS => ?_)
  obtain ⟨g114, eg114⟩ : ∃ f9 : zFr, f9 = zur g113 30 5 (some 33) := ⟨_, rfl⟩
  rw [← eg114] at hH
  have hB := zBI.ref hB eg114 (by decide)
  refine lv_aload_n hx hb dX12_init_28 rfl (lv_at hl 0 rfl) ?_
  refine lv_bipush (v := nI 30) hx hb dX12_init_29 (by decide) ?_
  refine zNewa (D := D) (atype := .int) (t := 1) (N' := 30) hx hb hw3 rfl (by decide) (by decide) rfl hH hS hA 34 (hB.2.1 34 (by decide)).1 (by decide) (by decide) (by first | decide | (simp only [zT, componentBytes]; omega)) (Nat.le_of_ble_eq_true rfl) (Nat.le_of_ble_eq_true rfl) dX12_init_31 (fun q9 c9 H hH8 hS => ?_)
  obtain ⟨τ116, eτ116⟩ : ∃ t9 : zTy, t9 = (va_up τ111.1 34 q9, va_up τ111.2.1 34 c9, va_up τ111.2.2.1 34 1, va_up τ111.2.2.2 34 30) := ⟨_, rfl⟩
  obtain ⟨f117, ef117⟩ : ∃ f9 : zFi, f9 = va_up f112 34 (fun _ => 0) := ⟨_, rfl⟩
  obtain ⟨g118, eg118⟩ : ∃ f9 : zFr, f9 = va_up g114 34 (fun _ => none) := ⟨_, rfl⟩
  have hH : zH D A τ116 f117 g118 ol s H := by rw [eτ116, ef117, eg118]; exact hH8
  clear hH8
  have hqτ116 : τ116.1 34 = q9 := by rw [eτ116]; exact va_up_self τ111.1 34 q9
  have haτ116 : ∀ i, i ≠ 34 → τ116.1 i = τ111.1 i := fun i h => by rw [eτ116]; exact va_up_ne _ _ h
  have hkτ116 : τ116.2.2.1 34 = 1 := by rw [eτ116]; exact va_up_self τ111.2.2.1 34 1
  have hnτ116 : τ116.2.2.2 34 = 30 := by rw [eτ116]; exact va_up_self τ111.2.2.2 34 30
  have hbτ116 : ∀ i, i ≠ 34 → τ116.2.2.1 i = τ111.2.2.1 i ∧ τ116.2.2.2 i = τ111.2.2.2 i := fun i h => by rw [eτ116]; exact ⟨va_up_ne _ _ h, va_up_ne _ _ h⟩
  clear eτ116
  subst hqτ116
  rw [show τ111.1 30 = τ116.1 30 from (haτ116 30 (by omega)).symm] at hl
  refine W.eq (g2 := F0 m 33 ls [.ref (τ116.1 34), .ref (τ116.1 30)]) (by rw [haτ116 30 (by omega)]) ?_
  have hB := zBI.born (i := 34) hB (by decide) hkτ116 hnτ116 hbτ116 ef117 eg118 (by decide) (by decide)
  have hAd : ∀ i, ¬ (i = 34 ∨ i = 33 ∨ i = 32 ∨ i = 31) → τ116.1 i = τ.1 i := fun i h => by rw [haτ116 i (by omega)]; exact hAd i (by omega)
  refine W.widen (k := 4) (n := 120) (by decide) (by decide) ?_
  refine zPutFR (D := D) (ci := 12) (ty := .array .int) (C := RX12) (T := TX12) (N := 71) hx hb hts hiX12 tyX12 tyX12_ok nmX12 hown hH hS ((hB.1 30 (by decide)).1.trans (by decide : zkt 30 = 28)) rfl 6 (by decide) rfl hw8 (fun _ h9 => h9) rfl hin rfl (by rw [((hB.1 34 (by decide)).1.trans (by decide : zkt 34 = 1))]; decide)  (by decide +kernel) rfl rfl dX12_init_33 (fun H locs hH hS => ?_)
  obtain ⟨g119, eg119⟩ : ∃ f9 : zFr, f9 = zur g118 30 6 (some 34) := ⟨_, rfl⟩
  rw [← eg119] at hH
  have hB := zBI.ref hB eg119 (by decide)
  refine lv_aload_n hx hb dX12_init_36 rfl (lv_at hl 0 rfl) ?_
  refine lv_bipush (v := nI 30) hx hb dX12_init_37 (by decide) ?_
  refine zNewa (D := D) (atype := .int) (t := 1) (N' := 30) hx hb hw3 rfl (by decide) (by decide) rfl hH hS hA 35 (hB.2.1 35 (by decide)).1 (by decide) (by decide) (by first | decide | (simp only [zT, componentBytes]; omega)) (Nat.le_of_ble_eq_true rfl) (Nat.le_of_ble_eq_true rfl) dX12_init_39 (fun q9 c9 H hH8 hS => ?_)
  obtain ⟨τ121, eτ121⟩ : ∃ t9 : zTy, t9 = (va_up τ116.1 35 q9, va_up τ116.2.1 35 c9, va_up τ116.2.2.1 35 1, va_up τ116.2.2.2 35 30) := ⟨_, rfl⟩
  obtain ⟨f122, ef122⟩ : ∃ f9 : zFi, f9 = va_up f117 35 (fun _ => 0) := ⟨_, rfl⟩
  obtain ⟨g123, eg123⟩ : ∃ f9 : zFr, f9 = va_up g119 35 (fun _ => none) := ⟨_, rfl⟩
  have hH : zH D A τ121 f122 g123 ol s H := by rw [eτ121, ef122, eg123]; exact hH8
  clear hH8
  have hqτ121 : τ121.1 35 = q9 := by rw [eτ121]; exact va_up_self τ116.1 35 q9
  have haτ121 : ∀ i, i ≠ 35 → τ121.1 i = τ116.1 i := fun i h => by rw [eτ121]; exact va_up_ne _ _ h
  have hkτ121 : τ121.2.2.1 35 = 1 := by rw [eτ121]; exact va_up_self τ116.2.2.1 35 1
  have hnτ121 : τ121.2.2.2 35 = 30 := by rw [eτ121]; exact va_up_self τ116.2.2.2 35 30
  have hbτ121 : ∀ i, i ≠ 35 → τ121.2.2.1 i = τ116.2.2.1 i ∧ τ121.2.2.2 i = τ116.2.2.2 i := fun i h => by rw [eτ121]; exact ⟨va_up_ne _ _ h, va_up_ne _ _ h⟩
  clear eτ121
  subst hqτ121
  rw [show τ116.1 30 = τ121.1 30 from (haτ121 30 (by omega)).symm] at hl
  refine W.eq (g2 := F0 m 41 ls [.ref (τ121.1 35), .ref (τ121.1 30)]) (by rw [haτ121 30 (by omega)]) ?_
  have hB := zBI.born (i := 35) hB (by decide) hkτ121 hnτ121 hbτ121 ef122 eg123 (by decide) (by decide)
  have hAd : ∀ i, ¬ (i = 35 ∨ i = 34 ∨ i = 33 ∨ i = 32 ∨ i = 31) → τ121.1 i = τ.1 i := fun i h => by rw [haτ121 i (by omega)]; exact hAd i (by omega)
  refine W.widen (k := 5) (n := 150) (by decide) (by decide) ?_
  refine zPutFR (D := D) (ci := 12) (ty := .array .int) (C := RX12) (T := TX12) (N := 71) hx hb hts hiX12 tyX12 tyX12_ok nmX12 hown hH hS ((hB.1 30 (by decide)).1.trans (by decide : zkt 30 = 28)) rfl 7 (by decide) rfl hw9 (fun _ h9 => h9) rfl hin rfl (by rw [((hB.1 35 (by decide)).1.trans (by decide : zkt 35 = 1))]; decide)  (by decide +kernel) rfl rfl dX12_init_41 (fun H locs hH hS => ?_)
  obtain ⟨g124, eg124⟩ : ∃ f9 : zFr, f9 = zur g123 30 7 (some 35) := ⟨_, rfl⟩
  rw [← eg124] at hH
  have hB := zBI.ref hB eg124 (by decide)
  refine lv_aload_n hx hb dX12_init_44 rfl (lv_at hl 0 rfl) ?_
  refine lv_bipush (v := nI 30) hx hb dX12_init_45 (by decide) ?_
  refine zNewa (D := D) (atype := .int) (t := 1) (N' := 30) hx hb hw3 rfl (by decide) (by decide) rfl hH hS hA 36 (hB.2.1 36 (by decide)).1 (by decide) (by decide) (by first | decide | (simp only [zT, componentBytes]; omega)) (Nat.le_of_ble_eq_true rfl) (Nat.le_of_ble_eq_true rfl) dX12_init_47 (fun q9 c9 H hH8 hS => ?_)
  obtain ⟨τ126, eτ126⟩ : ∃ t9 : zTy, t9 = (va_up τ121.1 36 q9, va_up τ121.2.1 36 c9, va_up τ121.2.2.1 36 1, va_up τ121.2.2.2 36 30) := ⟨_, rfl⟩
  obtain ⟨f127, ef127⟩ : ∃ f9 : zFi, f9 = va_up f122 36 (fun _ => 0) := ⟨_, rfl⟩
  obtain ⟨g128, eg128⟩ : ∃ f9 : zFr, f9 = va_up g124 36 (fun _ => none) := ⟨_, rfl⟩
  have hH : zH D A τ126 f127 g128 ol s H := by rw [eτ126, ef127, eg128]; exact hH8
  clear hH8
  have hqτ126 : τ126.1 36 = q9 := by rw [eτ126]; exact va_up_self τ121.1 36 q9
  have haτ126 : ∀ i, i ≠ 36 → τ126.1 i = τ121.1 i := fun i h => by rw [eτ126]; exact va_up_ne _ _ h
  have hkτ126 : τ126.2.2.1 36 = 1 := by rw [eτ126]; exact va_up_self τ121.2.2.1 36 1
  have hnτ126 : τ126.2.2.2 36 = 30 := by rw [eτ126]; exact va_up_self τ121.2.2.2 36 30
  have hbτ126 : ∀ i, i ≠ 36 → τ126.2.2.1 i = τ121.2.2.1 i ∧ τ126.2.2.2 i = τ121.2.2.2 i := fun i h => by rw [eτ126]; exact ⟨va_up_ne _ _ h, va_up_ne _ _ h⟩
  clear eτ126
  subst hqτ126
  rw [show τ121.1 30 = τ126.1 30 from (haτ126 30 (by omega)).symm] at hl
  refine W.eq (g2 := F0 m 49 ls [.ref (τ126.1 36), .ref (τ126.1 30)]) (by rw [haτ126 30 (by omega)]) ?_
  have hB := zBI.born (i := 36) hB (by decide) hkτ126 hnτ126 hbτ126 ef127 eg128 (by decide) (by decide)
  have hAd : ∀ i, ¬ (i = 36 ∨ i = 35 ∨ i = 34 ∨ i = 33 ∨ i = 32 ∨ i = 31) → τ126.1 i = τ.1 i := fun i h => by rw [haτ126 i (by omega)]; exact hAd i (by omega)
  refine W.widen (k := 6) (n := 180) (by decide) (by decide) ?_
  refine zPutFR (D := D) (ci := 12) (ty := .array .int) (C := RX12) (T := TX12) (N := 71) hx hb hts hiX12 tyX12 tyX12_ok nmX12 hown hH hS ((hB.1 30 (by decide)).1.trans (by decide : zkt 30 = 28)) rfl 8 (by decide) rfl hw10 (fun _ h9 => h9) rfl hin rfl (by rw [((hB.1 36 (by decide)).1.trans (by decide : zkt 36 = 1))]; decide)  (by decide +kernel) rfl rfl dX12_init_49 (fun H locs hH hS => ?_)
  obtain ⟨g129, eg129⟩ : ∃ f9 : zFr, f9 = zur g128 30 8 (some 36) := ⟨_, rfl⟩
  rw [← eg129] at hH
  have hB := zBI.ref hB eg129 (by decide)
  refine lv_aload_n hx hb dX12_init_52 rfl (lv_at hl 0 rfl) ?_
  refine lv_bipush (v := nI 120) hx hb dX12_init_53 (by decide) ?_
  refine zNewa (D := D) (atype := .int) (t := 1) (N' := 120) hx hb hw3 rfl (by decide) (by decide) rfl hH hS hA 37 (hB.2.1 37 (by decide)).1 (by decide) (by decide) (by first | decide | (simp only [zT, componentBytes]; omega)) (Nat.le_of_ble_eq_true rfl) (Nat.le_of_ble_eq_true rfl) dX12_init_55 (fun q9 c9 H hH8 hS => ?_)
  obtain ⟨τ131, eτ131⟩ : ∃ t9 : zTy, t9 = (va_up τ126.1 37 q9, va_up τ126.2.1 37 c9, va_up τ126.2.2.1 37 1, va_up τ126.2.2.2 37 120) := ⟨_, rfl⟩
  obtain ⟨f132, ef132⟩ : ∃ f9 : zFi, f9 = va_up f127 37 (fun _ => 0) := ⟨_, rfl⟩
  obtain ⟨g133, eg133⟩ : ∃ f9 : zFr, f9 = va_up g129 37 (fun _ => none) := ⟨_, rfl⟩
  have hH : zH D A τ131 f132 g133 ol s H := by rw [eτ131, ef132, eg133]; exact hH8
  clear hH8
  have hqτ131 : τ131.1 37 = q9 := by rw [eτ131]; exact va_up_self τ126.1 37 q9
  have haτ131 : ∀ i, i ≠ 37 → τ131.1 i = τ126.1 i := fun i h => by rw [eτ131]; exact va_up_ne _ _ h
  have hkτ131 : τ131.2.2.1 37 = 1 := by rw [eτ131]; exact va_up_self τ126.2.2.1 37 1
  have hnτ131 : τ131.2.2.2 37 = 120 := by rw [eτ131]; exact va_up_self τ126.2.2.2 37 120
  have hbτ131 : ∀ i, i ≠ 37 → τ131.2.2.1 i = τ126.2.2.1 i ∧ τ131.2.2.2 i = τ126.2.2.2 i := fun i h => by rw [eτ131]; exact ⟨va_up_ne _ _ h, va_up_ne _ _ h⟩
  clear eτ131
  subst hqτ131
  rw [show τ126.1 30 = τ131.1 30 from (haτ131 30 (by omega)).symm] at hl
  refine W.eq (g2 := F0 m 57 ls [.ref (τ131.1 37), .ref (τ131.1 30)]) (by rw [haτ131 30 (by omega)]) ?_
  have hB := zBI.born (i := 37) hB (by decide) hkτ131 hnτ131 hbτ131 ef132 eg133 (by decide) (by decide)
  have hAd : ∀ i, ¬ (i = 37 ∨ i = 36 ∨ i = 35 ∨ i = 34 ∨ i = 33 ∨ i = 32 ∨ i = 31) → τ131.1 i = τ.1 i := fun i h => by rw [haτ131 i (by omega)]; exact hAd i (by omega)
  refine W.widen (k := 7) (n := 300) (by decide) (by decide) ?_
  refine zPutFR (D := D) (ci := 12) (ty := .array .int) (C := RX12) (T := TX12) (N := 71) hx hb hts hiX12 tyX12 tyX12_ok nmX12 hown hH hS ((hB.1 30 (by decide)).1.trans (by decide : zkt 30 = 28)) rfl 9 (by decide) rfl hw11 (fun _ h9 => h9) rfl hin rfl (by rw [((hB.1 37 (by decide)).1.trans (by decide : zkt 37 = 1))]; decide)  (by decide +kernel) rfl rfl dX12_init_57 (fun H locs hH hS => ?_)
  obtain ⟨g134, eg134⟩ : ∃ f9 : zFr, f9 = zur g133 30 9 (some 37) := ⟨_, rfl⟩
  rw [← eg134] at hH
  have hB := zBI.ref hB eg134 (by decide)
  refine lv_aload_n hx hb dX12_init_60 rfl (lv_at hl 0 rfl) ?_
  refine lv_bipush (v := nI 120) hx hb dX12_init_61 (by decide) ?_
  refine zNewa (D := D) (atype := .int) (t := 1) (N' := 120) hx hb hw3 rfl (by decide) (by decide) rfl hH hS hA 38 (hB.2.1 38 (by decide)).1 (by decide) (by decide) (by first | decide | (simp only [zT, componentBytes]; omega)) (Nat.le_of_ble_eq_true rfl) (Nat.le_of_ble_eq_true rfl) dX12_init_63 (fun q9 c9 H hH8 hS => ?_)
  obtain ⟨τ136, eτ136⟩ : ∃ t9 : zTy, t9 = (va_up τ131.1 38 q9, va_up τ131.2.1 38 c9, va_up τ131.2.2.1 38 1, va_up τ131.2.2.2 38 120) := ⟨_, rfl⟩
  obtain ⟨f137, ef137⟩ : ∃ f9 : zFi, f9 = va_up f132 38 (fun _ => 0) := ⟨_, rfl⟩
  obtain ⟨g138, eg138⟩ : ∃ f9 : zFr, f9 = va_up g134 38 (fun _ => none) := ⟨_, rfl⟩
  have hH : zH D A τ136 f137 g138 ol s H := by rw [eτ136, ef137, eg138]; exact hH8
  clear hH8
  have hqτ136 : τ136.1 38 = q9 := by rw [eτ136]; exact va_up_self τ131.1 38 q9
  have haτ136 : ∀ i, i ≠ 38 → τ136.1 i = τ131.1 i := fun i h => by rw [eτ136]; exact va_up_ne _ _ h
  have hkτ136 : τ136.2.2.1 38 = 1 := by rw [eτ136]; exact va_up_self τ131.2.2.1 38 1
  have hnτ136 : τ136.2.2.2 38 = 120 := by rw [eτ136]; exact va_up_self τ131.2.2.2 38 120
  have hbτ136 : ∀ i, i ≠ 38 → τ136.2.2.1 i = τ131.2.2.1 i ∧ τ136.2.2.2 i = τ131.2.2.2 i := fun i h => by rw [eτ136]; exact ⟨va_up_ne _ _ h, va_up_ne _ _ h⟩
  clear eτ136
  subst hqτ136
  rw [show τ131.1 30 = τ136.1 30 from (haτ136 30 (by omega)).symm] at hl
  refine W.eq (g2 := F0 m 65 ls [.ref (τ136.1 38), .ref (τ136.1 30)]) (by rw [haτ136 30 (by omega)]) ?_
  have hB := zBI.born (i := 38) hB (by decide) hkτ136 hnτ136 hbτ136 ef137 eg138 (by decide) (by decide)
  have hAd : ∀ i, ¬ (i = 38 ∨ i = 37 ∨ i = 36 ∨ i = 35 ∨ i = 34 ∨ i = 33 ∨ i = 32 ∨ i = 31) → τ136.1 i = τ.1 i := fun i h => by rw [haτ136 i (by omega)]; exact hAd i (by omega)
  refine W.widen (k := 8) (n := 420) (by decide) (by decide) ?_
  refine zPutFR (D := D) (ci := 12) (ty := .array .int) (C := RX12) (T := TX12) (N := 71) hx hb hts hiX12 tyX12 tyX12_ok nmX12 hown hH hS ((hB.1 30 (by decide)).1.trans (by decide : zkt 30 = 28)) rfl 10 (by decide) rfl hw12 (fun _ h9 => h9) rfl hin rfl (by rw [((hB.1 38 (by decide)).1.trans (by decide : zkt 38 = 1))]; decide)  (by decide +kernel) rfl rfl dX12_init_65 (fun H locs hH hS => ?_)
  obtain ⟨g139, eg139⟩ : ∃ f9 : zFr, f9 = zur g138 30 10 (some 38) := ⟨_, rfl⟩
  rw [← eg139] at hH
  have hB := zBI.ref hB eg139 (by decide)
  refine lv_aload_n hx hb dX12_init_68 rfl (lv_at hl 0 rfl) ?_
  refine lv_bipush (v := nI 120) hx hb dX12_init_69 (by decide) ?_
  refine zNewa (D := D) (atype := .int) (t := 1) (N' := 120) hx hb hw3 rfl (by decide) (by decide) rfl hH hS hA 39 (hB.2.1 39 (by decide)).1 (by decide) (by decide) (by first | decide | (simp only [zT, componentBytes]; omega)) (Nat.le_of_ble_eq_true rfl) (Nat.le_of_ble_eq_true rfl) dX12_init_71 (fun q9 c9 H hH8 hS => ?_)
  obtain ⟨τ141, eτ141⟩ : ∃ t9 : zTy, t9 = (va_up τ136.1 39 q9, va_up τ136.2.1 39 c9, va_up τ136.2.2.1 39 1, va_up τ136.2.2.2 39 120) := ⟨_, rfl⟩
  obtain ⟨f142, ef142⟩ : ∃ f9 : zFi, f9 = va_up f137 39 (fun _ => 0) := ⟨_, rfl⟩
  obtain ⟨g143, eg143⟩ : ∃ f9 : zFr, f9 = va_up g139 39 (fun _ => none) := ⟨_, rfl⟩
  have hH : zH D A τ141 f142 g143 ol s H := by rw [eτ141, ef142, eg143]; exact hH8
  clear hH8
  have hqτ141 : τ141.1 39 = q9 := by rw [eτ141]; exact va_up_self τ136.1 39 q9
  have haτ141 : ∀ i, i ≠ 39 → τ141.1 i = τ136.1 i := fun i h => by rw [eτ141]; exact va_up_ne _ _ h
  have hkτ141 : τ141.2.2.1 39 = 1 := by rw [eτ141]; exact va_up_self τ136.2.2.1 39 1
  have hnτ141 : τ141.2.2.2 39 = 120 := by rw [eτ141]; exact va_up_self τ136.2.2.2 39 120
  have hbτ141 : ∀ i, i ≠ 39 → τ141.2.2.1 i = τ136.2.2.1 i ∧ τ141.2.2.2 i = τ136.2.2.2 i := fun i h => by rw [eτ141]; exact ⟨va_up_ne _ _ h, va_up_ne _ _ h⟩
  clear eτ141
  subst hqτ141
  rw [show τ136.1 30 = τ141.1 30 from (haτ141 30 (by omega)).symm] at hl
  refine W.eq (g2 := F0 m 73 ls [.ref (τ141.1 39), .ref (τ141.1 30)]) (by rw [haτ141 30 (by omega)]) ?_
  have hB := zBI.born (i := 39) hB (by decide) hkτ141 hnτ141 hbτ141 ef142 eg143 (by decide) (by decide)
  have hAd : ∀ i, ¬ (i = 39 ∨ i = 38 ∨ i = 37 ∨ i = 36 ∨ i = 35 ∨ i = 34 ∨ i = 33 ∨ i = 32 ∨ i = 31) → τ141.1 i = τ.1 i := fun i h => by rw [haτ141 i (by omega)]; exact hAd i (by omega)
  refine W.widen (k := 9) (n := 540) (by decide) (by decide) ?_
  refine zPutFR (D := D) (ci := 12) (ty := .array .int) (C := RX12) (T := TX12) (N := 71) hx hb hts hiX12 tyX12 tyX12_ok nmX12 hown hH hS ((hB.1 30 (by decide)).1.trans (by decide : zkt 30 = 28)) rfl 11 (by decide) rfl hw13 (fun _ h9 => h9) rfl hin rfl (by rw [((hB.1 39 (by decide)).1.trans (by decide : zkt 39 = 1))]; decide)  (by decide +kernel) rfl rfl dX12_init_73 (fun H locs hH hS => ?_)
  obtain ⟨g144, eg144⟩ : ∃ f9 : zFr, f9 = zur g143 30 11 (some 39) := ⟨_, rfl⟩
  rw [← eg144] at hH
  have hB := zBI.ref hB eg144 (by decide)
  refine lv_aload_n hx hb dX12_init_76 rfl (lv_at hl 0 rfl) ?_
  refine lv_bipush (v := nI 30) hx hb dX12_init_77 (by decide) ?_
  refine zNewa (D := D) (atype := .int) (t := 1) (N' := 30) hx hb hw3 rfl (by decide) (by decide) rfl hH hS hA 40 (hB.2.1 40 (by decide)).1 (by decide) (by decide) (by first | decide | (simp only [zT, componentBytes]; omega)) (Nat.le_of_ble_eq_true rfl) (Nat.le_of_ble_eq_true rfl) dX12_init_79 (fun q9 c9 H hH8 hS => ?_)
  obtain ⟨τ146, eτ146⟩ : ∃ t9 : zTy, t9 = (va_up τ141.1 40 q9, va_up τ141.2.1 40 c9, va_up τ141.2.2.1 40 1, va_up τ141.2.2.2 40 30) := ⟨_, rfl⟩
  obtain ⟨f147, ef147⟩ : ∃ f9 : zFi, f9 = va_up f142 40 (fun _ => 0) := ⟨_, rfl⟩
  obtain ⟨g148, eg148⟩ : ∃ f9 : zFr, f9 = va_up g144 40 (fun _ => none) := ⟨_, rfl⟩
  have hH : zH D A τ146 f147 g148 ol s H := by rw [eτ146, ef147, eg148]; exact hH8
  clear hH8
  have hqτ146 : τ146.1 40 = q9 := by rw [eτ146]; exact va_up_self τ141.1 40 q9
  have haτ146 : ∀ i, i ≠ 40 → τ146.1 i = τ141.1 i := fun i h => by rw [eτ146]; exact va_up_ne _ _ h
  have hkτ146 : τ146.2.2.1 40 = 1 := by rw [eτ146]; exact va_up_self τ141.2.2.1 40 1
  have hnτ146 : τ146.2.2.2 40 = 30 := by rw [eτ146]; exact va_up_self τ141.2.2.2 40 30
  have hbτ146 : ∀ i, i ≠ 40 → τ146.2.2.1 i = τ141.2.2.1 i ∧ τ146.2.2.2 i = τ141.2.2.2 i := fun i h => by rw [eτ146]; exact ⟨va_up_ne _ _ h, va_up_ne _ _ h⟩
  clear eτ146
  subst hqτ146
  rw [show τ141.1 30 = τ146.1 30 from (haτ146 30 (by omega)).symm] at hl
  refine W.eq (g2 := F0 m 81 ls [.ref (τ146.1 40), .ref (τ146.1 30)]) (by rw [haτ146 30 (by omega)]) ?_
  have hB := zBI.born (i := 40) hB (by decide) hkτ146 hnτ146 hbτ146 ef147 eg148 (by decide) (by decide)
  have hAd : ∀ i, ¬ (i = 40 ∨ i = 39 ∨ i = 38 ∨ i = 37 ∨ i = 36 ∨ i = 35 ∨ i = 34 ∨ i = 33 ∨ i = 32 ∨ i = 31) → τ146.1 i = τ.1 i := fun i h => by rw [haτ146 i (by omega)]; exact hAd i (by omega)
  refine W.widen (k := 10) (n := 570) (by decide) (by decide) ?_
  refine zPutFR (D := D) (ci := 12) (ty := .array .int) (C := RX12) (T := TX12) (N := 71) hx hb hts hiX12 tyX12 tyX12_ok nmX12 hown hH hS ((hB.1 30 (by decide)).1.trans (by decide : zkt 30 = 28)) rfl 12 (by decide) rfl hw14 (fun _ h9 => h9) rfl hin rfl (by rw [((hB.1 40 (by decide)).1.trans (by decide : zkt 40 = 1))]; decide)  (by decide +kernel) rfl rfl dX12_init_81 (fun H locs hH hS => ?_)
  obtain ⟨g149, eg149⟩ : ∃ f9 : zFr, f9 = zur g148 30 12 (some 40) := ⟨_, rfl⟩
  rw [← eg149] at hH
  have hB := zBI.ref hB eg149 (by decide)
  refine lv_aload_n hx hb dX12_init_84 rfl (lv_at hl 0 rfl) ?_
  refine lv_bipush (v := nI 60) hx hb dX12_init_85 (by decide) ?_
  refine zNewa (D := D) (atype := .int) (t := 1) (N' := 60) hx hb hw3 rfl (by decide) (by decide) rfl hH hS hA 41 (hB.2.1 41 (by decide)).1 (by decide) (by decide) (by first | decide | (simp only [zT, componentBytes]; omega)) (Nat.le_of_ble_eq_true rfl) (Nat.le_of_ble_eq_true rfl) dX12_init_87 (fun q9 c9 H hH8 hS => ?_)
  obtain ⟨τ151, eτ151⟩ : ∃ t9 : zTy, t9 = (va_up τ146.1 41 q9, va_up τ146.2.1 41 c9, va_up τ146.2.2.1 41 1, va_up τ146.2.2.2 41 60) := ⟨_, rfl⟩
  obtain ⟨f152, ef152⟩ : ∃ f9 : zFi, f9 = va_up f147 41 (fun _ => 0) := ⟨_, rfl⟩
  obtain ⟨g153, eg153⟩ : ∃ f9 : zFr, f9 = va_up g149 41 (fun _ => none) := ⟨_, rfl⟩
  have hH : zH D A τ151 f152 g153 ol s H := by rw [eτ151, ef152, eg153]; exact hH8
  clear hH8
  have hqτ151 : τ151.1 41 = q9 := by rw [eτ151]; exact va_up_self τ146.1 41 q9
  have haτ151 : ∀ i, i ≠ 41 → τ151.1 i = τ146.1 i := fun i h => by rw [eτ151]; exact va_up_ne _ _ h
  have hkτ151 : τ151.2.2.1 41 = 1 := by rw [eτ151]; exact va_up_self τ146.2.2.1 41 1
  have hnτ151 : τ151.2.2.2 41 = 60 := by rw [eτ151]; exact va_up_self τ146.2.2.2 41 60
  have hbτ151 : ∀ i, i ≠ 41 → τ151.2.2.1 i = τ146.2.2.1 i ∧ τ151.2.2.2 i = τ146.2.2.2 i := fun i h => by rw [eτ151]; exact ⟨va_up_ne _ _ h, va_up_ne _ _ h⟩
  clear eτ151
  subst hqτ151
  rw [show τ146.1 30 = τ151.1 30 from (haτ151 30 (by omega)).symm] at hl
  refine W.eq (g2 := F0 m 89 ls [.ref (τ151.1 41), .ref (τ151.1 30)]) (by rw [haτ151 30 (by omega)]) ?_
  have hB := zBI.born (i := 41) hB (by decide) hkτ151 hnτ151 hbτ151 ef152 eg153 (by decide) (by decide)
  have hAd : ∀ i, ¬ (i = 41 ∨ i = 40 ∨ i = 39 ∨ i = 38 ∨ i = 37 ∨ i = 36 ∨ i = 35 ∨ i = 34 ∨ i = 33 ∨ i = 32 ∨ i = 31) → τ151.1 i = τ.1 i := fun i h => by rw [haτ151 i (by omega)]; exact hAd i (by omega)
  refine W.widen (k := 11) (n := 630) (by decide) (by decide) ?_
  refine zPutFR (D := D) (ci := 12) (ty := .array .int) (C := RX12) (T := TX12) (N := 71) hx hb hts hiX12 tyX12 tyX12_ok nmX12 hown hH hS ((hB.1 30 (by decide)).1.trans (by decide : zkt 30 = 28)) rfl 14 (by decide) rfl hw15 (fun _ h9 => h9) rfl hin rfl (by rw [((hB.1 41 (by decide)).1.trans (by decide : zkt 41 = 1))]; decide)  (by decide +kernel) rfl rfl dX12_init_89 (fun H locs hH hS => ?_)
  obtain ⟨g154, eg154⟩ : ∃ f9 : zFr, f9 = zur g153 30 14 (some 41) := ⟨_, rfl⟩
  rw [← eg154] at hH
  have hB := zBI.ref hB eg154 (by decide)
  refine lv_aload_n hx hb dX12_init_92 rfl (lv_at hl 0 rfl) ?_
  refine lv_bipush (v := nI 60) hx hb dX12_init_93 (by decide) ?_
  refine zNewa (D := D) (atype := .int) (t := 1) (N' := 60) hx hb hw3 rfl (by decide) (by decide) rfl hH hS hA 42 (hB.2.1 42 (by decide)).1 (by decide) (by decide) (by first | decide | (simp only [zT, componentBytes]; omega)) (Nat.le_of_ble_eq_true rfl) (Nat.le_of_ble_eq_true rfl) dX12_init_95 (fun q9 c9 H hH8 hS => ?_)
  obtain ⟨τ156, eτ156⟩ : ∃ t9 : zTy, t9 = (va_up τ151.1 42 q9, va_up τ151.2.1 42 c9, va_up τ151.2.2.1 42 1, va_up τ151.2.2.2 42 60) := ⟨_, rfl⟩
  obtain ⟨f157, ef157⟩ : ∃ f9 : zFi, f9 = va_up f152 42 (fun _ => 0) := ⟨_, rfl⟩
  obtain ⟨g158, eg158⟩ : ∃ f9 : zFr, f9 = va_up g154 42 (fun _ => none) := ⟨_, rfl⟩
  have hH : zH D A τ156 f157 g158 ol s H := by rw [eτ156, ef157, eg158]; exact hH8
  clear hH8
  have hqτ156 : τ156.1 42 = q9 := by rw [eτ156]; exact va_up_self τ151.1 42 q9
  have haτ156 : ∀ i, i ≠ 42 → τ156.1 i = τ151.1 i := fun i h => by rw [eτ156]; exact va_up_ne _ _ h
  have hkτ156 : τ156.2.2.1 42 = 1 := by rw [eτ156]; exact va_up_self τ151.2.2.1 42 1
  have hnτ156 : τ156.2.2.2 42 = 60 := by rw [eτ156]; exact va_up_self τ151.2.2.2 42 60
  have hbτ156 : ∀ i, i ≠ 42 → τ156.2.2.1 i = τ151.2.2.1 i ∧ τ156.2.2.2 i = τ151.2.2.2 i := fun i h => by rw [eτ156]; exact ⟨va_up_ne _ _ h, va_up_ne _ _ h⟩
  clear eτ156
  subst hqτ156
  rw [show τ151.1 30 = τ156.1 30 from (haτ156 30 (by omega)).symm] at hl
  refine W.eq (g2 := F0 m 97 ls [.ref (τ156.1 42), .ref (τ156.1 30)]) (by rw [haτ156 30 (by omega)]) ?_
  have hB := zBI.born (i := 42) hB (by decide) hkτ156 hnτ156 hbτ156 ef157 eg158 (by decide) (by decide)
  have hAd : ∀ i, ¬ (i = 42 ∨ i = 41 ∨ i = 40 ∨ i = 39 ∨ i = 38 ∨ i = 37 ∨ i = 36 ∨ i = 35 ∨ i = 34 ∨ i = 33 ∨ i = 32 ∨ i = 31) → τ156.1 i = τ.1 i := fun i h => by rw [haτ156 i (by omega)]; exact hAd i (by omega)
  refine W.widen (k := 12) (n := 690) (by decide) (by decide) ?_
  refine zPutFR (D := D) (ci := 12) (ty := .array .int) (C := RX12) (T := TX12) (N := 71) hx hb hts hiX12 tyX12 tyX12_ok nmX12 hown hH hS ((hB.1 30 (by decide)).1.trans (by decide : zkt 30 = 28)) rfl 15 (by decide) rfl hw16 (fun _ h9 => h9) rfl hin rfl (by rw [((hB.1 42 (by decide)).1.trans (by decide : zkt 42 = 1))]; decide)  (by decide +kernel) rfl rfl dX12_init_97 (fun H locs hH hS => ?_)
  obtain ⟨g159, eg159⟩ : ∃ f9 : zFr, f9 = zur g158 30 15 (some 42) := ⟨_, rfl⟩
  rw [← eg159] at hH
  have hB := zBI.ref hB eg159 (by decide)
  refine lv_aload_n hx hb dX12_init_100 rfl (lv_at hl 0 rfl) ?_
  refine lv_bipush (v := nI 60) hx hb dX12_init_101 (by decide) ?_
  refine zNewa (D := D) (atype := .int) (t := 1) (N' := 60) hx hb hw3 rfl (by decide) (by decide) rfl hH hS hA 43 (hB.2.1 43 (by decide)).1 (by decide) (by decide) (by first | decide | (simp only [zT, componentBytes]; omega)) (Nat.le_of_ble_eq_true rfl) (Nat.le_of_ble_eq_true rfl) dX12_init_103 (fun q9 c9 H hH8 hS => ?_)
  obtain ⟨τ161, eτ161⟩ : ∃ t9 : zTy, t9 = (va_up τ156.1 43 q9, va_up τ156.2.1 43 c9, va_up τ156.2.2.1 43 1, va_up τ156.2.2.2 43 60) := ⟨_, rfl⟩
  obtain ⟨f162, ef162⟩ : ∃ f9 : zFi, f9 = va_up f157 43 (fun _ => 0) := ⟨_, rfl⟩
  obtain ⟨g163, eg163⟩ : ∃ f9 : zFr, f9 = va_up g159 43 (fun _ => none) := ⟨_, rfl⟩
  have hH : zH D A τ161 f162 g163 ol s H := by rw [eτ161, ef162, eg163]; exact hH8
  clear hH8
  have hqτ161 : τ161.1 43 = q9 := by rw [eτ161]; exact va_up_self τ156.1 43 q9
  have haτ161 : ∀ i, i ≠ 43 → τ161.1 i = τ156.1 i := fun i h => by rw [eτ161]; exact va_up_ne _ _ h
  have hkτ161 : τ161.2.2.1 43 = 1 := by rw [eτ161]; exact va_up_self τ156.2.2.1 43 1
  have hnτ161 : τ161.2.2.2 43 = 60 := by rw [eτ161]; exact va_up_self τ156.2.2.2 43 60
  have hbτ161 : ∀ i, i ≠ 43 → τ161.2.2.1 i = τ156.2.2.1 i ∧ τ161.2.2.2 i = τ156.2.2.2 i := fun i h => by rw [eτ161]; exact ⟨va_up_ne _ _ h, va_up_ne _ _ h⟩
  clear eτ161
  subst hqτ161
  rw [show τ156.1 30 = τ161.1 30 from (haτ161 30 (by omega)).symm] at hl
  refine W.eq (g2 := F0 m 105 ls [.ref (τ161.1 43), .ref (τ161.1 30)]) (by rw [haτ161 30 (by omega)]) ?_
  have hB := zBI.born (i := 43) hB (by decide) hkτ161 hnτ161 hbτ161 ef162 eg163 (by decide) (by decide)
  have hAd : ∀ i, ¬ (i = 43 ∨ i = 42 ∨ i = 41 ∨ i = 40 ∨ i = 39 ∨ i = 38 ∨ i = 37 ∨ i = 36 ∨ i = 35 ∨ i = 34 ∨ i = 33 ∨ i = 32 ∨ i = 31) → τ161.1 i = τ.1 i := fun i h => by rw [haτ161 i (by omega)]; exact hAd i (by omega)
  refine W.widen (k := 13) (n := 750) (by decide) (by decide) ?_
  refine zPutFR (D := D) (ci := 12) (ty := .array .int) (C := RX12) (T := TX12) (N := 71) hx hb hts hiX12 tyX12 tyX12_ok nmX12 hown hH hS ((hB.1 30 (by decide)).1.trans (by decide : zkt 30 = 28)) rfl 16 (by decide) rfl hw17 (fun _ h9 => h9) rfl hin rfl (by rw [((hB.1 43 (by decide)).1.trans (by decide : zkt 43 = 1))]; decide)  (by decide +kernel) rfl rfl dX12_init_105 (fun H locs hH hS => ?_)
  obtain ⟨g164, eg164⟩ : ∃ f9 : zFr, f9 = zur g163 30 16 (some 43) := ⟨_, rfl⟩
  rw [← eg164] at hH
  have hB := zBI.ref hB eg164 (by decide)
  refine lv_aload_n hx hb dX12_init_108 rfl (lv_at hl 0 rfl) ?_
  refine lv_iconst (v := nI 4) hx hb dX12_init_109 (by decide) ?_
  refine zNewa (D := D) (atype := .int) (t := 1) (N' := 4) hx hb hw3 rfl (by decide) (by decide) rfl hH hS hA 44 (hB.2.1 44 (by decide)).1 (by decide) (by decide) (by first | decide | (simp only [zT, componentBytes]; omega)) (Nat.le_of_ble_eq_true rfl) (Nat.le_of_ble_eq_true rfl) dX12_init_110 (fun q9 c9 H hH8 hS => ?_)
  obtain ⟨τ166, eτ166⟩ : ∃ t9 : zTy, t9 = (va_up τ161.1 44 q9, va_up τ161.2.1 44 c9, va_up τ161.2.2.1 44 1, va_up τ161.2.2.2 44 4) := ⟨_, rfl⟩
  obtain ⟨f167, ef167⟩ : ∃ f9 : zFi, f9 = va_up f162 44 (fun _ => 0) := ⟨_, rfl⟩
  obtain ⟨g168, eg168⟩ : ∃ f9 : zFr, f9 = va_up g164 44 (fun _ => none) := ⟨_, rfl⟩
  have hH : zH D A τ166 f167 g168 ol s H := by rw [eτ166, ef167, eg168]; exact hH8
  clear hH8
  have hqτ166 : τ166.1 44 = q9 := by rw [eτ166]; exact va_up_self τ161.1 44 q9
  have haτ166 : ∀ i, i ≠ 44 → τ166.1 i = τ161.1 i := fun i h => by rw [eτ166]; exact va_up_ne _ _ h
  have hkτ166 : τ166.2.2.1 44 = 1 := by rw [eτ166]; exact va_up_self τ161.2.2.1 44 1
  have hnτ166 : τ166.2.2.2 44 = 4 := by rw [eτ166]; exact va_up_self τ161.2.2.2 44 4
  have hbτ166 : ∀ i, i ≠ 44 → τ166.2.2.1 i = τ161.2.2.1 i ∧ τ166.2.2.2 i = τ161.2.2.2 i := fun i h => by rw [eτ166]; exact ⟨va_up_ne _ _ h, va_up_ne _ _ h⟩
  clear eτ166
  subst hqτ166
  rw [show τ161.1 30 = τ166.1 30 from (haτ166 30 (by omega)).symm] at hl
  refine W.eq (g2 := F0 m 112 ls [.ref (τ166.1 44), .ref (τ166.1 30)]) (by rw [haτ166 30 (by omega)]) ?_
  have hB := zBI.born (i := 44) hB (by decide) hkτ166 hnτ166 hbτ166 ef167 eg168 (by decide) (by decide)
  have hAd : ∀ i, ¬ (i = 44 ∨ i = 43 ∨ i = 42 ∨ i = 41 ∨ i = 40 ∨ i = 39 ∨ i = 38 ∨ i = 37 ∨ i = 36 ∨ i = 35 ∨ i = 34 ∨ i = 33 ∨ i = 32 ∨ i = 31) → τ166.1 i = τ.1 i := fun i h => by rw [haτ166 i (by omega)]; exact hAd i (by omega)
  refine W.widen (k := 14) (n := 754) (by decide) (by decide) ?_
  refine zPutFR (D := D) (ci := 12) (ty := .array .int) (C := RX12) (T := TX12) (N := 71) hx hb hts hiX12 tyX12 tyX12_ok nmX12 hown hH hS ((hB.1 30 (by decide)).1.trans (by decide : zkt 30 = 28)) rfl 17 (by decide) rfl hw18 (fun _ h9 => h9) rfl hin rfl (by rw [((hB.1 44 (by decide)).1.trans (by decide : zkt 44 = 1))]; decide)  (by decide +kernel) rfl rfl dX12_init_112 (fun H locs hH hS => ?_)
  obtain ⟨g169, eg169⟩ : ∃ f9 : zFr, f9 = zur g168 30 17 (some 44) := ⟨_, rfl⟩
  rw [← eg169] at hH
  have hB := zBI.ref hB eg169 (by decide)
  refine lv_aload_n hx hb dX12_init_115 rfl (lv_at hl 0 rfl) ?_
  refine lv_iconst (v := nI 4) hx hb dX12_init_116 (by decide) ?_
  refine zNewa (D := D) (atype := .int) (t := 1) (N' := 4) hx hb hw3 rfl (by decide) (by decide) rfl hH hS hA 45 (hB.2.1 45 (by decide)).1 (by decide) (by decide) (by first | decide | (simp only [zT, componentBytes]; omega)) (Nat.le_of_ble_eq_true rfl) (Nat.le_of_ble_eq_true rfl) dX12_init_117 (fun q9 c9 H hH8 hS => ?_)
  obtain ⟨τ171, eτ171⟩ : ∃ t9 : zTy, t9 = (va_up τ166.1 45 q9, va_up τ166.2.1 45 c9, va_up τ166.2.2.1 45 1, va_up τ166.2.2.2 45 4) := ⟨_, rfl⟩
  obtain ⟨f172, ef172⟩ : ∃ f9 : zFi, f9 = va_up f167 45 (fun _ => 0) := ⟨_, rfl⟩
  obtain ⟨g173, eg173⟩ : ∃ f9 : zFr, f9 = va_up g169 45 (fun _ => none) := ⟨_, rfl⟩
  have hH : zH D A τ171 f172 g173 ol s H := by rw [eτ171, ef172, eg173]; exact hH8
  clear hH8
  have hqτ171 : τ171.1 45 = q9 := by rw [eτ171]; exact va_up_self τ166.1 45 q9
  have haτ171 : ∀ i, i ≠ 45 → τ171.1 i = τ166.1 i := fun i h => by rw [eτ171]; exact va_up_ne _ _ h
  have hkτ171 : τ171.2.2.1 45 = 1 := by rw [eτ171]; exact va_up_self τ166.2.2.1 45 1
  have hnτ171 : τ171.2.2.2 45 = 4 := by rw [eτ171]; exact va_up_self τ166.2.2.2 45 4
  have hbτ171 : ∀ i, i ≠ 45 → τ171.2.2.1 i = τ166.2.2.1 i ∧ τ171.2.2.2 i = τ166.2.2.2 i := fun i h => by rw [eτ171]; exact ⟨va_up_ne _ _ h, va_up_ne _ _ h⟩
  clear eτ171
  subst hqτ171
  rw [show τ166.1 30 = τ171.1 30 from (haτ171 30 (by omega)).symm] at hl
  refine W.eq (g2 := F0 m 119 ls [.ref (τ171.1 45), .ref (τ171.1 30)]) (by rw [haτ171 30 (by omega)]) ?_
  have hB := zBI.born (i := 45) hB (by decide) hkτ171 hnτ171 hbτ171 ef172 eg173 (by decide) (by decide)
  have hAd : ∀ i, ¬ (i = 45 ∨ i = 44 ∨ i = 43 ∨ i = 42 ∨ i = 41 ∨ i = 40 ∨ i = 39 ∨ i = 38 ∨ i = 37 ∨ i = 36 ∨ i = 35 ∨ i = 34 ∨ i = 33 ∨ i = 32 ∨ i = 31) → τ171.1 i = τ.1 i := fun i h => by rw [haτ171 i (by omega)]; exact hAd i (by omega)
  refine W.widen (k := 15) (n := 758) (by decide) (by decide) ?_
  refine zPutFR (D := D) (ci := 12) (ty := .array .int) (C := RX12) (T := TX12) (N := 71) hx hb hts hiX12 tyX12 tyX12_ok nmX12 hown hH hS ((hB.1 30 (by decide)).1.trans (by decide : zkt 30 = 28)) rfl 18 (by decide) rfl hw19 (fun _ h9 => h9) rfl hin rfl (by rw [((hB.1 45 (by decide)).1.trans (by decide : zkt 45 = 1))]; decide)  (by decide +kernel) rfl rfl dX12_init_119 (fun H locs hH hS => ?_)
  obtain ⟨g174, eg174⟩ : ∃ f9 : zFr, f9 = zur g173 30 18 (some 45) := ⟨_, rfl⟩
  rw [← eg174] at hH
  have hB := zBI.ref hB eg174 (by decide)
  refine lv_aload_n hx hb dX12_init_122 rfl (lv_at hl 0 rfl) ?_
  refine lv_bipush (v := nI 30) hx hb dX12_init_123 (by decide) ?_
  refine zNewa (D := D) (atype := .int) (t := 1) (N' := 30) hx hb hw3 rfl (by decide) (by decide) rfl hH hS hA 46 (hB.2.1 46 (by decide)).1 (by decide) (by decide) (by first | decide | (simp only [zT, componentBytes]; omega)) (Nat.le_of_ble_eq_true rfl) (Nat.le_of_ble_eq_true rfl) dX12_init_125 (fun q9 c9 H hH8 hS => ?_)
  obtain ⟨τ176, eτ176⟩ : ∃ t9 : zTy, t9 = (va_up τ171.1 46 q9, va_up τ171.2.1 46 c9, va_up τ171.2.2.1 46 1, va_up τ171.2.2.2 46 30) := ⟨_, rfl⟩
  obtain ⟨f177, ef177⟩ : ∃ f9 : zFi, f9 = va_up f172 46 (fun _ => 0) := ⟨_, rfl⟩
  obtain ⟨g178, eg178⟩ : ∃ f9 : zFr, f9 = va_up g174 46 (fun _ => none) := ⟨_, rfl⟩
  have hH : zH D A τ176 f177 g178 ol s H := by rw [eτ176, ef177, eg178]; exact hH8
  clear hH8
  have hqτ176 : τ176.1 46 = q9 := by rw [eτ176]; exact va_up_self τ171.1 46 q9
  have haτ176 : ∀ i, i ≠ 46 → τ176.1 i = τ171.1 i := fun i h => by rw [eτ176]; exact va_up_ne _ _ h
  have hkτ176 : τ176.2.2.1 46 = 1 := by rw [eτ176]; exact va_up_self τ171.2.2.1 46 1
  have hnτ176 : τ176.2.2.2 46 = 30 := by rw [eτ176]; exact va_up_self τ171.2.2.2 46 30
  have hbτ176 : ∀ i, i ≠ 46 → τ176.2.2.1 i = τ171.2.2.1 i ∧ τ176.2.2.2 i = τ171.2.2.2 i := fun i h => by rw [eτ176]; exact ⟨va_up_ne _ _ h, va_up_ne _ _ h⟩
  clear eτ176
  subst hqτ176
  rw [show τ171.1 30 = τ176.1 30 from (haτ176 30 (by omega)).symm] at hl
  refine W.eq (g2 := F0 m 127 ls [.ref (τ176.1 46), .ref (τ176.1 30)]) (by rw [haτ176 30 (by omega)]) ?_
  have hB := zBI.born (i := 46) hB (by decide) hkτ176 hnτ176 hbτ176 ef177 eg178 (by decide) (by decide)
  have hAd : ∀ i, ¬ (i = 46 ∨ i = 45 ∨ i = 44 ∨ i = 43 ∨ i = 42 ∨ i = 41 ∨ i = 40 ∨ i = 39 ∨ i = 38 ∨ i = 37 ∨ i = 36 ∨ i = 35 ∨ i = 34 ∨ i = 33 ∨ i = 32 ∨ i = 31) → τ176.1 i = τ.1 i := fun i h => by rw [haτ176 i (by omega)]; exact hAd i (by omega)
  refine W.widen (k := 16) (n := 788) (by decide) (by decide) ?_
  refine zPutFR (D := D) (ci := 12) (ty := .array .int) (C := RX12) (T := TX12) (N := 71) hx hb hts hiX12 tyX12 tyX12_ok nmX12 hown hH hS ((hB.1 30 (by decide)).1.trans (by decide : zkt 30 = 28)) rfl 19 (by decide) rfl hw20 (fun _ h9 => h9) rfl hin rfl (by rw [((hB.1 46 (by decide)).1.trans (by decide : zkt 46 = 1))]; decide)  (by decide +kernel) rfl rfl dX12_init_127 (fun H locs hH hS => ?_)
  obtain ⟨g179, eg179⟩ : ∃ f9 : zFr, f9 = zur g178 30 19 (some 46) := ⟨_, rfl⟩
  rw [← eg179] at hH
  have hB := zBI.ref hB eg179 (by decide)
  refine lv_aload_n hx hb dX12_init_130 rfl (lv_at hl 0 rfl) ?_
  refine lv_sipush (v := nI 400) hx hb dX12_init_131 (by decide) ?_
  refine zNewa (D := D) (atype := .int) (t := 1) (N' := 400) hx hb hw3 rfl (by decide) (by decide) rfl hH hS hA 47 (hB.2.1 47 (by decide)).1 (by decide) (by decide) (by first | decide | (simp only [zT, componentBytes]; omega)) (Nat.le_of_ble_eq_true rfl) (Nat.le_of_ble_eq_true rfl) dX12_init_134 (fun q9 c9 H hH8 hS => ?_)
  obtain ⟨τ181, eτ181⟩ : ∃ t9 : zTy, t9 = (va_up τ176.1 47 q9, va_up τ176.2.1 47 c9, va_up τ176.2.2.1 47 1, va_up τ176.2.2.2 47 400) := ⟨_, rfl⟩
  obtain ⟨f182, ef182⟩ : ∃ f9 : zFi, f9 = va_up f177 47 (fun _ => 0) := ⟨_, rfl⟩
  obtain ⟨g183, eg183⟩ : ∃ f9 : zFr, f9 = va_up g179 47 (fun _ => none) := ⟨_, rfl⟩
  have hH : zH D A τ181 f182 g183 ol s H := by rw [eτ181, ef182, eg183]; exact hH8
  clear hH8
  have hqτ181 : τ181.1 47 = q9 := by rw [eτ181]; exact va_up_self τ176.1 47 q9
  have haτ181 : ∀ i, i ≠ 47 → τ181.1 i = τ176.1 i := fun i h => by rw [eτ181]; exact va_up_ne _ _ h
  have hkτ181 : τ181.2.2.1 47 = 1 := by rw [eτ181]; exact va_up_self τ176.2.2.1 47 1
  have hnτ181 : τ181.2.2.2 47 = 400 := by rw [eτ181]; exact va_up_self τ176.2.2.2 47 400
  have hbτ181 : ∀ i, i ≠ 47 → τ181.2.2.1 i = τ176.2.2.1 i ∧ τ181.2.2.2 i = τ176.2.2.2 i := fun i h => by rw [eτ181]; exact ⟨va_up_ne _ _ h, va_up_ne _ _ h⟩
  clear eτ181
  subst hqτ181
  rw [show τ176.1 30 = τ181.1 30 from (haτ181 30 (by omega)).symm] at hl
  refine W.eq (g2 := F0 m 136 ls [.ref (τ181.1 47), .ref (τ181.1 30)]) (by rw [haτ181 30 (by omega)]) ?_
  have hB := zBI.born (i := 47) hB (by decide) hkτ181 hnτ181 hbτ181 ef182 eg183 (by decide) (by decide)
  have hAd : ∀ i, ¬ (i = 47 ∨ i = 46 ∨ i = 45 ∨ i = 44 ∨ i = 43 ∨ i = 42 ∨ i = 41 ∨ i = 40 ∨ i = 39 ∨ i = 38 ∨ i = 37 ∨ i = 36 ∨ i = 35 ∨ i = 34 ∨ i = 33 ∨ i = 32 ∨ i = 31) → τ181.1 i = τ.1 i := fun i h => by rw [haτ181 i (by omega)]; exact hAd i (by omega)
  refine W.widen (k := 17) (n := 1188) (by decide) (by decide) ?_
  refine zPutFR (D := D) (ci := 12) (ty := .array .int) (C := RX12) (T := TX12) (N := 71) hx hb hts hiX12 tyX12 tyX12_ok nmX12 hown hH hS ((hB.1 30 (by decide)).1.trans (by decide : zkt 30 = 28)) rfl 20 (by decide) rfl hw21 (fun _ h9 => h9) rfl hin rfl (by rw [((hB.1 47 (by decide)).1.trans (by decide : zkt 47 = 1))]; decide)  (by decide +kernel) rfl rfl dX12_init_136 (fun H locs hH hS => ?_)
  obtain ⟨g184, eg184⟩ : ∃ f9 : zFr, f9 = zur g183 30 20 (some 47) := ⟨_, rfl⟩
  rw [← eg184] at hH
  have hB := zBI.ref hB eg184 (by decide)
  refine lv_aload_n hx hb dX12_init_139 rfl (lv_at hl 0 rfl) ?_
  refine lv_iconst (v := (-1)) hx hb dX12_init_140 (by decide) ?_
  refine zPutI (D := D) (ci := 12) (ty := .int) (C := RX12) (T := TX12) (N := 71) hx hb hts hiX12 tyX12 tyX12_ok nmX12 hown hH hS ((hB.1 30 (by decide)).1.trans (by decide : zkt 30 = 28)) rfl 24 (by decide) rfl hw22 (fun _ h9 => h9) rfl (by decide +kernel) rfl rfl dX12_init_141 (fun H locs hH hS => ?_)
  obtain ⟨f186, ef186⟩ : ∃ f9 : zFi, f9 = zu f182 30 24 ((-1)) := ⟨_, rfl⟩
  rw [← ef186] at hH
  have q187 : f186 30 24 = (-1) := by rw [ef186]; exact zu_s
  have hB := zBI.int hB ef186 (by unfold zXc; omega)
  refine lv_aload_n hx hb dX12_init_144 rfl (lv_at hl 0 rfl) ?_
  refine lv_bipush (v := nI 8) hx hb dX12_init_145 (by decide) ?_
  refine zNewa (D := D) (atype := .int) (t := 1) (N' := 8) hx hb hw3 rfl (by decide) (by decide) rfl hH hS hA 48 (hB.2.1 48 (by decide)).1 (by decide) (by decide) (by first | decide | (simp only [zT, componentBytes]; omega)) (Nat.le_of_ble_eq_true rfl) (Nat.le_of_ble_eq_true rfl) dX12_init_147 (fun q9 c9 H hH8 hS => ?_)
  obtain ⟨τ188, eτ188⟩ : ∃ t9 : zTy, t9 = (va_up τ181.1 48 q9, va_up τ181.2.1 48 c9, va_up τ181.2.2.1 48 1, va_up τ181.2.2.2 48 8) := ⟨_, rfl⟩
  obtain ⟨f189, ef189⟩ : ∃ f9 : zFi, f9 = va_up f186 48 (fun _ => 0) := ⟨_, rfl⟩
  obtain ⟨g190, eg190⟩ : ∃ f9 : zFr, f9 = va_up g184 48 (fun _ => none) := ⟨_, rfl⟩
  have hH : zH D A τ188 f189 g190 ol s H := by rw [eτ188, ef189, eg190]; exact hH8
  clear hH8
  have hqτ188 : τ188.1 48 = q9 := by rw [eτ188]; exact va_up_self τ181.1 48 q9
  have haτ188 : ∀ i, i ≠ 48 → τ188.1 i = τ181.1 i := fun i h => by rw [eτ188]; exact va_up_ne _ _ h
  have hkτ188 : τ188.2.2.1 48 = 1 := by rw [eτ188]; exact va_up_self τ181.2.2.1 48 1
  have hnτ188 : τ188.2.2.2 48 = 8 := by rw [eτ188]; exact va_up_self τ181.2.2.2 48 8
  have hbτ188 : ∀ i, i ≠ 48 → τ188.2.2.1 i = τ181.2.2.1 i ∧ τ188.2.2.2 i = τ181.2.2.2 i := fun i h => by rw [eτ188]; exact ⟨va_up_ne _ _ h, va_up_ne _ _ h⟩
  clear eτ188
  subst hqτ188
  rw [show τ181.1 30 = τ188.1 30 from (haτ188 30 (by omega)).symm] at hl
  refine W.eq (g2 := F0 m 149 ls [.ref (τ188.1 48), .ref (τ188.1 30)]) (by rw [haτ188 30 (by omega)]) ?_
  have q191 : f189 30 24 = (-1) := by rw [ef189, va_up_ne _ _ (by omega)]; exact q187
  have hB := zBI.born (i := 48) hB (by decide) hkτ188 hnτ188 hbτ188 ef189 eg190 (by decide) (by decide)
  have hAd : ∀ i, ¬ (i = 48 ∨ i = 47 ∨ i = 46 ∨ i = 45 ∨ i = 44 ∨ i = 43 ∨ i = 42 ∨ i = 41 ∨ i = 40 ∨ i = 39 ∨ i = 38 ∨ i = 37 ∨ i = 36 ∨ i = 35 ∨ i = 34 ∨ i = 33 ∨ i = 32 ∨ i = 31) → τ188.1 i = τ.1 i := fun i h => by rw [haτ188 i (by omega)]; exact hAd i (by omega)
  refine W.widen (k := 18) (n := 1196) (by decide) (by decide) ?_
  refine zPutFR (D := D) (ci := 12) (ty := .array .int) (C := RX12) (T := TX12) (N := 71) hx hb hts hiX12 tyX12 tyX12_ok nmX12 hown hH hS ((hB.1 30 (by decide)).1.trans (by decide : zkt 30 = 28)) rfl 27 (by decide) rfl hw23 (fun _ h9 => h9) rfl hin rfl (by rw [((hB.1 48 (by decide)).1.trans (by decide : zkt 48 = 1))]; decide)  (by decide +kernel) rfl rfl dX12_init_149 (fun H locs hH hS => ?_)
  obtain ⟨g192, eg192⟩ : ∃ f9 : zFr, f9 = zur g190 30 27 (some 48) := ⟨_, rfl⟩
  rw [← eg192] at hH
  have hB := zBI.ref hB eg192 (by decide)
  refine lv_aload_n hx hb dX12_init_152 rfl (lv_at hl 0 rfl) ?_
  refine lv_bipush (v := nI 8) hx hb dX12_init_153 (by decide) ?_
  refine zNewa (D := D) (atype := .int) (t := 1) (N' := 8) hx hb hw3 rfl (by decide) (by decide) rfl hH hS hA 49 (hB.2.1 49 (by decide)).1 (by decide) (by decide) (by first | decide | (simp only [zT, componentBytes]; omega)) (Nat.le_of_ble_eq_true rfl) (Nat.le_of_ble_eq_true rfl) dX12_init_155 (fun q9 c9 H hH8 hS => ?_)
  obtain ⟨τ194, eτ194⟩ : ∃ t9 : zTy, t9 = (va_up τ188.1 49 q9, va_up τ188.2.1 49 c9, va_up τ188.2.2.1 49 1, va_up τ188.2.2.2 49 8) := ⟨_, rfl⟩
  obtain ⟨f195, ef195⟩ : ∃ f9 : zFi, f9 = va_up f189 49 (fun _ => 0) := ⟨_, rfl⟩
  obtain ⟨g196, eg196⟩ : ∃ f9 : zFr, f9 = va_up g192 49 (fun _ => none) := ⟨_, rfl⟩
  have hH : zH D A τ194 f195 g196 ol s H := by rw [eτ194, ef195, eg196]; exact hH8
  clear hH8
  have hqτ194 : τ194.1 49 = q9 := by rw [eτ194]; exact va_up_self τ188.1 49 q9
  have haτ194 : ∀ i, i ≠ 49 → τ194.1 i = τ188.1 i := fun i h => by rw [eτ194]; exact va_up_ne _ _ h
  have hkτ194 : τ194.2.2.1 49 = 1 := by rw [eτ194]; exact va_up_self τ188.2.2.1 49 1
  have hnτ194 : τ194.2.2.2 49 = 8 := by rw [eτ194]; exact va_up_self τ188.2.2.2 49 8
  have hbτ194 : ∀ i, i ≠ 49 → τ194.2.2.1 i = τ188.2.2.1 i ∧ τ194.2.2.2 i = τ188.2.2.2 i := fun i h => by rw [eτ194]; exact ⟨va_up_ne _ _ h, va_up_ne _ _ h⟩
  clear eτ194
  subst hqτ194
  rw [show τ188.1 30 = τ194.1 30 from (haτ194 30 (by omega)).symm] at hl
  refine W.eq (g2 := F0 m 157 ls [.ref (τ194.1 49), .ref (τ194.1 30)]) (by rw [haτ194 30 (by omega)]) ?_
  have hB := zBI.born (i := 49) hB (by decide) hkτ194 hnτ194 hbτ194 ef195 eg196 (by decide) (by decide)
  have hAd : ∀ i, ¬ (i = 49 ∨ i = 48 ∨ i = 47 ∨ i = 46 ∨ i = 45 ∨ i = 44 ∨ i = 43 ∨ i = 42 ∨ i = 41 ∨ i = 40 ∨ i = 39 ∨ i = 38 ∨ i = 37 ∨ i = 36 ∨ i = 35 ∨ i = 34 ∨ i = 33 ∨ i = 32 ∨ i = 31) → τ194.1 i = τ.1 i := fun i h => by rw [haτ194 i (by omega)]; exact hAd i (by omega)
  refine W.widen (k := 19) (n := 1204) (by decide) (by decide) ?_
  refine zPutFR (D := D) (ci := 12) (ty := .array .int) (C := RX12) (T := TX12) (N := 71) hx hb hts hiX12 tyX12 tyX12_ok nmX12 hown hH hS ((hB.1 30 (by decide)).1.trans (by decide : zkt 30 = 28)) rfl 28 (by decide) rfl hw24 (fun _ h9 => h9) rfl hin rfl (by rw [((hB.1 49 (by decide)).1.trans (by decide : zkt 49 = 1))]; decide)  (by decide +kernel) rfl rfl dX12_init_157 (fun H locs hH hS => ?_)
  obtain ⟨g197, eg197⟩ : ∃ f9 : zFr, f9 = zur g196 30 28 (some 49) := ⟨_, rfl⟩
  rw [← eg197] at hH
  have hB := zBI.ref hB eg197 (by decide)
  refine lv_aload_n hx hb dX12_init_160 rfl (lv_at hl 0 rfl) ?_
  refine lv_bipush (v := nI 64) hx hb dX12_init_161 (by decide) ?_
  refine zNewa (D := D) (atype := .boolean) (t := 3) (N' := 64) hx hb hw25 rfl (by decide) (by decide) rfl hH hS hA 200 (hB.2.1 200 (by decide)).1 (by decide) (by decide) (by first | decide | (simp only [zT, componentBytes]; omega)) (Nat.le_of_ble_eq_true rfl) (Nat.le_of_ble_eq_true rfl) dX12_init_163 (fun q9 c9 H hH8 hS => ?_)
  obtain ⟨τ199, eτ199⟩ : ∃ t9 : zTy, t9 = (va_up τ194.1 200 q9, va_up τ194.2.1 200 c9, va_up τ194.2.2.1 200 3, va_up τ194.2.2.2 200 64) := ⟨_, rfl⟩
  obtain ⟨f200, ef200⟩ : ∃ f9 : zFi, f9 = va_up f195 200 (fun _ => 0) := ⟨_, rfl⟩
  obtain ⟨g201, eg201⟩ : ∃ f9 : zFr, f9 = va_up g197 200 (fun _ => none) := ⟨_, rfl⟩
  have hH : zH D A τ199 f200 g201 ol s H := by rw [eτ199, ef200, eg201]; exact hH8
  clear hH8
  have hqτ199 : τ199.1 200 = q9 := by rw [eτ199]; exact va_up_self τ194.1 200 q9
  have haτ199 : ∀ i, i ≠ 200 → τ199.1 i = τ194.1 i := fun i h => by rw [eτ199]; exact va_up_ne _ _ h
  have hkτ199 : τ199.2.2.1 200 = 3 := by rw [eτ199]; exact va_up_self τ194.2.2.1 200 3
  have hnτ199 : τ199.2.2.2 200 = 64 := by rw [eτ199]; exact va_up_self τ194.2.2.2 200 64
  have hbτ199 : ∀ i, i ≠ 200 → τ199.2.2.1 i = τ194.2.2.1 i ∧ τ199.2.2.2 i = τ194.2.2.2 i := fun i h => by rw [eτ199]; exact ⟨va_up_ne _ _ h, va_up_ne _ _ h⟩
  clear eτ199
  subst hqτ199
  rw [show τ194.1 30 = τ199.1 30 from (haτ199 30 (by omega)).symm] at hl
  refine W.eq (g2 := F0 m 165 ls [.ref (τ199.1 200), .ref (τ199.1 30)]) (by rw [haτ199 30 (by omega)]) ?_
  have hB := zBI.born (i := 200) hB (by decide) hkτ199 hnτ199 hbτ199 ef200 eg201 (by decide) (by decide)
  have hAd : ∀ i, ¬ (i = 200 ∨ i = 49 ∨ i = 48 ∨ i = 47 ∨ i = 46 ∨ i = 45 ∨ i = 44 ∨ i = 43 ∨ i = 42 ∨ i = 41 ∨ i = 40 ∨ i = 39 ∨ i = 38 ∨ i = 37 ∨ i = 36 ∨ i = 35 ∨ i = 34 ∨ i = 33 ∨ i = 32 ∨ i = 31) → τ199.1 i = τ.1 i := fun i h => by rw [haτ199 i (by omega)]; exact hAd i (by omega)
  refine W.widen (k := 20) (n := 1268) (by decide) (by decide) ?_
  refine zPutR (D := D) (ci := 12) (ty := .array .boolean) (C := RX12) (T := TX12) (N := 71) hx hb hts hiX12 tyX12 tyX12_ok nmX12 hown hH hS ((hB.1 30 (by decide)).1.trans (by decide : zkt 30 = 28)) rfl 37 (by decide) rfl hw26 (fun _ h9 => h9) rfl (by rw [((hB.1 200 (by decide)).1.trans (by decide : zkt 200 = 3))]; decide)  (by decide +kernel) rfl rfl dX12_init_165 (fun H locs hH hS => ?_)
  obtain ⟨g202, eg202⟩ : ∃ f9 : zFr, f9 = zur g201 30 37 (some 200) := ⟨_, rfl⟩
  rw [← eg202] at hH
  have hB := zBI.ref hB eg202 (by decide)
  refine lv_aload_n hx hb dX12_init_168 rfl (lv_at hl 0 rfl) ?_
  refine lv_bipush (v := nI 64) hx hb dX12_init_169 (by decide) ?_
  refine zNewa (D := D) (atype := .int) (t := 1) (N' := 64) hx hb hw3 rfl (by decide) (by decide) rfl hH hS hA 201 (hB.2.1 201 (by decide)).1 (by decide) (by decide) (by first | decide | (simp only [zT, componentBytes]; omega)) (Nat.le_of_ble_eq_true rfl) (Nat.le_of_ble_eq_true rfl) dX12_init_171 (fun q9 c9 H hH8 hS => ?_)
  obtain ⟨τ204, eτ204⟩ : ∃ t9 : zTy, t9 = (va_up τ199.1 201 q9, va_up τ199.2.1 201 c9, va_up τ199.2.2.1 201 1, va_up τ199.2.2.2 201 64) := ⟨_, rfl⟩
  obtain ⟨f205, ef205⟩ : ∃ f9 : zFi, f9 = va_up f200 201 (fun _ => 0) := ⟨_, rfl⟩
  obtain ⟨g206, eg206⟩ : ∃ f9 : zFr, f9 = va_up g202 201 (fun _ => none) := ⟨_, rfl⟩
  have hH : zH D A τ204 f205 g206 ol s H := by rw [eτ204, ef205, eg206]; exact hH8
  clear hH8
  have hqτ204 : τ204.1 201 = q9 := by rw [eτ204]; exact va_up_self τ199.1 201 q9
  have haτ204 : ∀ i, i ≠ 201 → τ204.1 i = τ199.1 i := fun i h => by rw [eτ204]; exact va_up_ne _ _ h
  have hkτ204 : τ204.2.2.1 201 = 1 := by rw [eτ204]; exact va_up_self τ199.2.2.1 201 1
  have hnτ204 : τ204.2.2.2 201 = 64 := by rw [eτ204]; exact va_up_self τ199.2.2.2 201 64
  have hbτ204 : ∀ i, i ≠ 201 → τ204.2.2.1 i = τ199.2.2.1 i ∧ τ204.2.2.2 i = τ199.2.2.2 i := fun i h => by rw [eτ204]; exact ⟨va_up_ne _ _ h, va_up_ne _ _ h⟩
  clear eτ204
  subst hqτ204
  rw [show τ199.1 30 = τ204.1 30 from (haτ204 30 (by omega)).symm] at hl
  refine W.eq (g2 := F0 m 173 ls [.ref (τ204.1 201), .ref (τ204.1 30)]) (by rw [haτ204 30 (by omega)]) ?_
  have hB := zBI.born (i := 201) hB (by decide) hkτ204 hnτ204 hbτ204 ef205 eg206 (by decide) (by decide)
  have hAd : ∀ i, ¬ (i = 201 ∨ i = 200 ∨ i = 49 ∨ i = 48 ∨ i = 47 ∨ i = 46 ∨ i = 45 ∨ i = 44 ∨ i = 43 ∨ i = 42 ∨ i = 41 ∨ i = 40 ∨ i = 39 ∨ i = 38 ∨ i = 37 ∨ i = 36 ∨ i = 35 ∨ i = 34 ∨ i = 33 ∨ i = 32 ∨ i = 31) → τ204.1 i = τ.1 i := fun i h => by rw [haτ204 i (by omega)]; exact hAd i (by omega)
  refine W.widen (k := 21) (n := 1332) (by decide) (by decide) ?_
  refine zPutR (D := D) (ci := 12) (ty := .array .int) (C := RX12) (T := TX12) (N := 71) hx hb hts hiX12 tyX12 tyX12_ok nmX12 hown hH hS ((hB.1 30 (by decide)).1.trans (by decide : zkt 30 = 28)) rfl 38 (by decide) rfl hw27 (fun _ h9 => h9) rfl (by rw [((hB.1 201 (by decide)).1.trans (by decide : zkt 201 = 1))]; decide)  (by decide +kernel) rfl rfl dX12_init_173 (fun H locs hH hS => ?_)
  obtain ⟨g207, eg207⟩ : ∃ f9 : zFr, f9 = zur g206 30 38 (some 201) := ⟨_, rfl⟩
  rw [← eg207] at hH
  have hB := zBI.ref hB eg207 (by decide)
  refine lv_aload_n hx hb dX12_init_176 rfl (lv_at hl 0 rfl) ?_
  refine lv_bipush (v := nI 64) hx hb dX12_init_177 (by decide) ?_
  refine zNewa (D := D) (atype := .int) (t := 1) (N' := 64) hx hb hw3 rfl (by decide) (by decide) rfl hH hS hA 202 (hB.2.1 202 (by decide)).1 (by decide) (by decide) (by first | decide | (simp only [zT, componentBytes]; omega)) (Nat.le_of_ble_eq_true rfl) (Nat.le_of_ble_eq_true rfl) dX12_init_179 (fun q9 c9 H hH8 hS => ?_)
  obtain ⟨τ209, eτ209⟩ : ∃ t9 : zTy, t9 = (va_up τ204.1 202 q9, va_up τ204.2.1 202 c9, va_up τ204.2.2.1 202 1, va_up τ204.2.2.2 202 64) := ⟨_, rfl⟩
  obtain ⟨f210, ef210⟩ : ∃ f9 : zFi, f9 = va_up f205 202 (fun _ => 0) := ⟨_, rfl⟩
  obtain ⟨g211, eg211⟩ : ∃ f9 : zFr, f9 = va_up g207 202 (fun _ => none) := ⟨_, rfl⟩
  have hH : zH D A τ209 f210 g211 ol s H := by rw [eτ209, ef210, eg211]; exact hH8
  clear hH8
  have hqτ209 : τ209.1 202 = q9 := by rw [eτ209]; exact va_up_self τ204.1 202 q9
  have haτ209 : ∀ i, i ≠ 202 → τ209.1 i = τ204.1 i := fun i h => by rw [eτ209]; exact va_up_ne _ _ h
  have hkτ209 : τ209.2.2.1 202 = 1 := by rw [eτ209]; exact va_up_self τ204.2.2.1 202 1
  have hnτ209 : τ209.2.2.2 202 = 64 := by rw [eτ209]; exact va_up_self τ204.2.2.2 202 64
  have hbτ209 : ∀ i, i ≠ 202 → τ209.2.2.1 i = τ204.2.2.1 i ∧ τ209.2.2.2 i = τ204.2.2.2 i := fun i h => by rw [eτ209]; exact ⟨va_up_ne _ _ h, va_up_ne _ _ h⟩
  clear eτ209
  subst hqτ209
  rw [show τ204.1 30 = τ209.1 30 from (haτ209 30 (by omega)).symm] at hl
  refine W.eq (g2 := F0 m 181 ls [.ref (τ209.1 202), .ref (τ209.1 30)]) (by rw [haτ209 30 (by omega)]) ?_
  have hB := zBI.born (i := 202) hB (by decide) hkτ209 hnτ209 hbτ209 ef210 eg211 (by decide) (by decide)
  have hAd : ∀ i, ¬ (i = 202 ∨ i = 201 ∨ i = 200 ∨ i = 49 ∨ i = 48 ∨ i = 47 ∨ i = 46 ∨ i = 45 ∨ i = 44 ∨ i = 43 ∨ i = 42 ∨ i = 41 ∨ i = 40 ∨ i = 39 ∨ i = 38 ∨ i = 37 ∨ i = 36 ∨ i = 35 ∨ i = 34 ∨ i = 33 ∨ i = 32 ∨ i = 31) → τ209.1 i = τ.1 i := fun i h => by rw [haτ209 i (by omega)]; exact hAd i (by omega)
  refine W.widen (k := 22) (n := 1396) (by decide) (by decide) ?_
  refine zPutR (D := D) (ci := 12) (ty := .array .int) (C := RX12) (T := TX12) (N := 71) hx hb hts hiX12 tyX12 tyX12_ok nmX12 hown hH hS ((hB.1 30 (by decide)).1.trans (by decide : zkt 30 = 28)) rfl 39 (by decide) rfl hw28 (fun _ h9 => h9) rfl (by rw [((hB.1 202 (by decide)).1.trans (by decide : zkt 202 = 1))]; decide)  (by decide +kernel) rfl rfl dX12_init_181 (fun H locs hH hS => ?_)
  obtain ⟨g212, eg212⟩ : ∃ f9 : zFr, f9 = zur g211 30 39 (some 202) := ⟨_, rfl⟩
  rw [← eg212] at hH
  have hB := zBI.ref hB eg212 (by decide)
  refine lv_aload_n hx hb dX12_init_184 rfl (lv_at hl 0 rfl) ?_
  refine lv_bipush (v := nI 64) hx hb dX12_init_185 (by decide) ?_
  refine zNewa (D := D) (atype := .int) (t := 1) (N' := 64) hx hb hw3 rfl (by decide) (by decide) rfl hH hS hA 203 (hB.2.1 203 (by decide)).1 (by decide) (by decide) (by first | decide | (simp only [zT, componentBytes]; omega)) (Nat.le_of_ble_eq_true rfl) (Nat.le_of_ble_eq_true rfl) dX12_init_187 (fun q9 c9 H hH8 hS => ?_)
  obtain ⟨τ214, eτ214⟩ : ∃ t9 : zTy, t9 = (va_up τ209.1 203 q9, va_up τ209.2.1 203 c9, va_up τ209.2.2.1 203 1, va_up τ209.2.2.2 203 64) := ⟨_, rfl⟩
  obtain ⟨f215, ef215⟩ : ∃ f9 : zFi, f9 = va_up f210 203 (fun _ => 0) := ⟨_, rfl⟩
  obtain ⟨g216, eg216⟩ : ∃ f9 : zFr, f9 = va_up g212 203 (fun _ => none) := ⟨_, rfl⟩
  have hH : zH D A τ214 f215 g216 ol s H := by rw [eτ214, ef215, eg216]; exact hH8
  clear hH8
  have hqτ214 : τ214.1 203 = q9 := by rw [eτ214]; exact va_up_self τ209.1 203 q9
  have haτ214 : ∀ i, i ≠ 203 → τ214.1 i = τ209.1 i := fun i h => by rw [eτ214]; exact va_up_ne _ _ h
  have hkτ214 : τ214.2.2.1 203 = 1 := by rw [eτ214]; exact va_up_self τ209.2.2.1 203 1
  have hnτ214 : τ214.2.2.2 203 = 64 := by rw [eτ214]; exact va_up_self τ209.2.2.2 203 64
  have hbτ214 : ∀ i, i ≠ 203 → τ214.2.2.1 i = τ209.2.2.1 i ∧ τ214.2.2.2 i = τ209.2.2.2 i := fun i h => by rw [eτ214]; exact ⟨va_up_ne _ _ h, va_up_ne _ _ h⟩
  clear eτ214
  subst hqτ214
  rw [show τ209.1 30 = τ214.1 30 from (haτ214 30 (by omega)).symm] at hl
  refine W.eq (g2 := F0 m 189 ls [.ref (τ214.1 203), .ref (τ214.1 30)]) (by rw [haτ214 30 (by omega)]) ?_
  have hB := zBI.born (i := 203) hB (by decide) hkτ214 hnτ214 hbτ214 ef215 eg216 (by decide) (by decide)
  have hAd : ∀ i, ¬ (i = 203 ∨ i = 202 ∨ i = 201 ∨ i = 200 ∨ i = 49 ∨ i = 48 ∨ i = 47 ∨ i = 46 ∨ i = 45 ∨ i = 44 ∨ i = 43 ∨ i = 42 ∨ i = 41 ∨ i = 40 ∨ i = 39 ∨ i = 38 ∨ i = 37 ∨ i = 36 ∨ i = 35 ∨ i = 34 ∨ i = 33 ∨ i = 32 ∨ i = 31) → τ214.1 i = τ.1 i := fun i h => by rw [haτ214 i (by omega)]; exact hAd i (by omega)
  refine W.widen (k := 23) (n := 1460) (by decide) (by decide) ?_
  refine zPutR (D := D) (ci := 12) (ty := .array .int) (C := RX12) (T := TX12) (N := 71) hx hb hts hiX12 tyX12 tyX12_ok nmX12 hown hH hS ((hB.1 30 (by decide)).1.trans (by decide : zkt 30 = 28)) rfl 40 (by decide) rfl hw29 (fun _ h9 => h9) rfl (by rw [((hB.1 203 (by decide)).1.trans (by decide : zkt 203 = 1))]; decide)  (by decide +kernel) rfl rfl dX12_init_189 (fun H locs hH hS => ?_)
  obtain ⟨g217, eg217⟩ : ∃ f9 : zFr, f9 = zur g216 30 40 (some 203) := ⟨_, rfl⟩
  rw [← eg217] at hH
  have hB := zBI.ref hB eg217 (by decide)
  refine lv_aload_n hx hb dX12_init_192 rfl (lv_at hl 0 rfl) ?_
  refine lv_bipush (v := nI 64) hx hb dX12_init_193 (by decide) ?_
  refine zNewa (D := D) (atype := .int) (t := 1) (N' := 64) hx hb hw3 rfl (by decide) (by decide) rfl hH hS hA 204 (hB.2.1 204 (by decide)).1 (by decide) (by decide) (by first | decide | (simp only [zT, componentBytes]; omega)) (Nat.le_of_ble_eq_true rfl) (Nat.le_of_ble_eq_true rfl) dX12_init_195 (fun q9 c9 H hH8 hS => ?_)
  obtain ⟨τ219, eτ219⟩ : ∃ t9 : zTy, t9 = (va_up τ214.1 204 q9, va_up τ214.2.1 204 c9, va_up τ214.2.2.1 204 1, va_up τ214.2.2.2 204 64) := ⟨_, rfl⟩
  obtain ⟨f220, ef220⟩ : ∃ f9 : zFi, f9 = va_up f215 204 (fun _ => 0) := ⟨_, rfl⟩
  obtain ⟨g221, eg221⟩ : ∃ f9 : zFr, f9 = va_up g217 204 (fun _ => none) := ⟨_, rfl⟩
  have hH : zH D A τ219 f220 g221 ol s H := by rw [eτ219, ef220, eg221]; exact hH8
  clear hH8
  have hqτ219 : τ219.1 204 = q9 := by rw [eτ219]; exact va_up_self τ214.1 204 q9
  have haτ219 : ∀ i, i ≠ 204 → τ219.1 i = τ214.1 i := fun i h => by rw [eτ219]; exact va_up_ne _ _ h
  have hkτ219 : τ219.2.2.1 204 = 1 := by rw [eτ219]; exact va_up_self τ214.2.2.1 204 1
  have hnτ219 : τ219.2.2.2 204 = 64 := by rw [eτ219]; exact va_up_self τ214.2.2.2 204 64
  have hbτ219 : ∀ i, i ≠ 204 → τ219.2.2.1 i = τ214.2.2.1 i ∧ τ219.2.2.2 i = τ214.2.2.2 i := fun i h => by rw [eτ219]; exact ⟨va_up_ne _ _ h, va_up_ne _ _ h⟩
  clear eτ219
  subst hqτ219
  rw [show τ214.1 30 = τ219.1 30 from (haτ219 30 (by omega)).symm] at hl
  refine W.eq (g2 := F0 m 197 ls [.ref (τ219.1 204), .ref (τ219.1 30)]) (by rw [haτ219 30 (by omega)]) ?_
  have hB := zBI.born (i := 204) hB (by decide) hkτ219 hnτ219 hbτ219 ef220 eg221 (by decide) (by decide)
  have hAd : ∀ i, ¬ (i = 204 ∨ i = 203 ∨ i = 202 ∨ i = 201 ∨ i = 200 ∨ i = 49 ∨ i = 48 ∨ i = 47 ∨ i = 46 ∨ i = 45 ∨ i = 44 ∨ i = 43 ∨ i = 42 ∨ i = 41 ∨ i = 40 ∨ i = 39 ∨ i = 38 ∨ i = 37 ∨ i = 36 ∨ i = 35 ∨ i = 34 ∨ i = 33 ∨ i = 32 ∨ i = 31) → τ219.1 i = τ.1 i := fun i h => by rw [haτ219 i (by omega)]; exact hAd i (by omega)
  refine W.widen (k := 24) (n := 1524) (by decide) (by decide) ?_
  refine zPutR (D := D) (ci := 12) (ty := .array .int) (C := RX12) (T := TX12) (N := 71) hx hb hts hiX12 tyX12 tyX12_ok nmX12 hown hH hS ((hB.1 30 (by decide)).1.trans (by decide : zkt 30 = 28)) rfl 41 (by decide) rfl hw30 (fun _ h9 => h9) rfl (by rw [((hB.1 204 (by decide)).1.trans (by decide : zkt 204 = 1))]; decide)  (by decide +kernel) rfl rfl dX12_init_197 (fun H locs hH hS => ?_)
  obtain ⟨g222, eg222⟩ : ∃ f9 : zFr, f9 = zur g221 30 41 (some 204) := ⟨_, rfl⟩
  rw [← eg222] at hH
  have hB := zBI.ref hB eg222 (by decide)
  refine lv_aload_n hx hb dX12_init_200 rfl (lv_at hl 0 rfl) ?_
  refine lv_bipush (v := nI 64) hx hb dX12_init_201 (by decide) ?_
  refine zNewa (D := D) (atype := .int) (t := 1) (N' := 64) hx hb hw3 rfl (by decide) (by decide) rfl hH hS hA 205 (hB.2.1 205 (by decide)).1 (by decide) (by decide) (by first | decide | (simp only [zT, componentBytes]; omega)) (Nat.le_of_ble_eq_true rfl) (Nat.le_of_ble_eq_true rfl) dX12_init_203 (fun q9 c9 H hH8 hS => ?_)
  obtain ⟨τ224, eτ224⟩ : ∃ t9 : zTy, t9 = (va_up τ219.1 205 q9, va_up τ219.2.1 205 c9, va_up τ219.2.2.1 205 1, va_up τ219.2.2.2 205 64) := ⟨_, rfl⟩
  obtain ⟨f225, ef225⟩ : ∃ f9 : zFi, f9 = va_up f220 205 (fun _ => 0) := ⟨_, rfl⟩
  obtain ⟨g226, eg226⟩ : ∃ f9 : zFr, f9 = va_up g222 205 (fun _ => none) := ⟨_, rfl⟩
  have hH : zH D A τ224 f225 g226 ol s H := by rw [eτ224, ef225, eg226]; exact hH8
  clear hH8
  have hqτ224 : τ224.1 205 = q9 := by rw [eτ224]; exact va_up_self τ219.1 205 q9
  have haτ224 : ∀ i, i ≠ 205 → τ224.1 i = τ219.1 i := fun i h => by rw [eτ224]; exact va_up_ne _ _ h
  have hkτ224 : τ224.2.2.1 205 = 1 := by rw [eτ224]; exact va_up_self τ219.2.2.1 205 1
  have hnτ224 : τ224.2.2.2 205 = 64 := by rw [eτ224]; exact va_up_self τ219.2.2.2 205 64
  have hbτ224 : ∀ i, i ≠ 205 → τ224.2.2.1 i = τ219.2.2.1 i ∧ τ224.2.2.2 i = τ219.2.2.2 i := fun i h => by rw [eτ224]; exact ⟨va_up_ne _ _ h, va_up_ne _ _ h⟩
  clear eτ224
  subst hqτ224
  rw [show τ219.1 30 = τ224.1 30 from (haτ224 30 (by omega)).symm] at hl
  refine W.eq (g2 := F0 m 205 ls [.ref (τ224.1 205), .ref (τ224.1 30)]) (by rw [haτ224 30 (by omega)]) ?_
  have hB := zBI.born (i := 205) hB (by decide) hkτ224 hnτ224 hbτ224 ef225 eg226 (by decide) (by decide)
  have hAd : ∀ i, ¬ (i = 205 ∨ i = 204 ∨ i = 203 ∨ i = 202 ∨ i = 201 ∨ i = 200 ∨ i = 49 ∨ i = 48 ∨ i = 47 ∨ i = 46 ∨ i = 45 ∨ i = 44 ∨ i = 43 ∨ i = 42 ∨ i = 41 ∨ i = 40 ∨ i = 39 ∨ i = 38 ∨ i = 37 ∨ i = 36 ∨ i = 35 ∨ i = 34 ∨ i = 33 ∨ i = 32 ∨ i = 31) → τ224.1 i = τ.1 i := fun i h => by rw [haτ224 i (by omega)]; exact hAd i (by omega)
  refine W.widen (k := 25) (n := 1588) (by decide) (by decide) ?_
  refine zPutR (D := D) (ci := 12) (ty := .array .int) (C := RX12) (T := TX12) (N := 71) hx hb hts hiX12 tyX12 tyX12_ok nmX12 hown hH hS ((hB.1 30 (by decide)).1.trans (by decide : zkt 30 = 28)) rfl 42 (by decide) rfl hw31 (fun _ h9 => h9) rfl (by rw [((hB.1 205 (by decide)).1.trans (by decide : zkt 205 = 1))]; decide)  (by decide +kernel) rfl rfl dX12_init_205 (fun H locs hH hS => ?_)
  obtain ⟨g227, eg227⟩ : ∃ f9 : zFr, f9 = zur g226 30 42 (some 205) := ⟨_, rfl⟩
  rw [← eg227] at hH
  have hB := zBI.ref hB eg227 (by decide)
  refine lv_aload_n hx hb dX12_init_208 rfl (lv_at hl 0 rfl) ?_
  refine lv_sipush (v := nI 512) hx hb dX12_init_209 (by decide) ?_
  refine zNewa (D := D) (atype := .int) (t := 1) (N' := 512) hx hb hw3 rfl (by decide) (by decide) rfl hH hS hA 206 (hB.2.1 206 (by decide)).1 (by decide) (by decide) (by first | decide | (simp only [zT, componentBytes]; omega)) (Nat.le_of_ble_eq_true rfl) (Nat.le_of_ble_eq_true rfl) dX12_init_212 (fun q9 c9 H hH8 hS => ?_)
  obtain ⟨τ229, eτ229⟩ : ∃ t9 : zTy, t9 = (va_up τ224.1 206 q9, va_up τ224.2.1 206 c9, va_up τ224.2.2.1 206 1, va_up τ224.2.2.2 206 512) := ⟨_, rfl⟩
  obtain ⟨f230, ef230⟩ : ∃ f9 : zFi, f9 = va_up f225 206 (fun _ => 0) := ⟨_, rfl⟩
  obtain ⟨g231, eg231⟩ : ∃ f9 : zFr, f9 = va_up g227 206 (fun _ => none) := ⟨_, rfl⟩
  have hH : zH D A τ229 f230 g231 ol s H := by rw [eτ229, ef230, eg231]; exact hH8
  clear hH8
  have hqτ229 : τ229.1 206 = q9 := by rw [eτ229]; exact va_up_self τ224.1 206 q9
  have haτ229 : ∀ i, i ≠ 206 → τ229.1 i = τ224.1 i := fun i h => by rw [eτ229]; exact va_up_ne _ _ h
  have hkτ229 : τ229.2.2.1 206 = 1 := by rw [eτ229]; exact va_up_self τ224.2.2.1 206 1
  have hnτ229 : τ229.2.2.2 206 = 512 := by rw [eτ229]; exact va_up_self τ224.2.2.2 206 512
  have hbτ229 : ∀ i, i ≠ 206 → τ229.2.2.1 i = τ224.2.2.1 i ∧ τ229.2.2.2 i = τ224.2.2.2 i := fun i h => by rw [eτ229]; exact ⟨va_up_ne _ _ h, va_up_ne _ _ h⟩
  clear eτ229
  subst hqτ229
  rw [show τ224.1 30 = τ229.1 30 from (haτ229 30 (by omega)).symm] at hl
  refine W.eq (g2 := F0 m 214 ls [.ref (τ229.1 206), .ref (τ229.1 30)]) (by rw [haτ229 30 (by omega)]) ?_
  have hB := zBI.born (i := 206) hB (by decide) hkτ229 hnτ229 hbτ229 ef230 eg231 (by decide) (by decide)
  have hAd : ∀ i, ¬ (i = 206 ∨ i = 205 ∨ i = 204 ∨ i = 203 ∨ i = 202 ∨ i = 201 ∨ i = 200 ∨ i = 49 ∨ i = 48 ∨ i = 47 ∨ i = 46 ∨ i = 45 ∨ i = 44 ∨ i = 43 ∨ i = 42 ∨ i = 41 ∨ i = 40 ∨ i = 39 ∨ i = 38 ∨ i = 37 ∨ i = 36 ∨ i = 35 ∨ i = 34 ∨ i = 33 ∨ i = 32 ∨ i = 31) → τ229.1 i = τ.1 i := fun i h => by rw [haτ229 i (by omega)]; exact hAd i (by omega)
  refine W.widen (k := 26) (n := 2100) (by decide) (by decide) ?_
  refine zPutR (D := D) (ci := 12) (ty := .array .int) (C := RX12) (T := TX12) (N := 71) hx hb hts hiX12 tyX12 tyX12_ok nmX12 hown hH hS ((hB.1 30 (by decide)).1.trans (by decide : zkt 30 = 28)) rfl 43 (by decide) rfl hw32 (fun _ h9 => h9) rfl (by rw [((hB.1 206 (by decide)).1.trans (by decide : zkt 206 = 1))]; decide)  (by decide +kernel) rfl rfl dX12_init_214 (fun H locs hH hS => ?_)
  obtain ⟨g232, eg232⟩ : ∃ f9 : zFr, f9 = zur g231 30 43 (some 206) := ⟨_, rfl⟩
  rw [← eg232] at hH
  have hB := zBI.ref hB eg232 (by decide)
  refine lv_aload_n hx hb dX12_init_217 rfl (lv_at hl 0 rfl) ?_
  refine lv_sipush (v := nI 512) hx hb dX12_init_218 (by decide) ?_
  refine zNewa (D := D) (atype := .int) (t := 1) (N' := 512) hx hb hw3 rfl (by decide) (by decide) rfl hH hS hA 207 (hB.2.1 207 (by decide)).1 (by decide) (by decide) (by first | decide | (simp only [zT, componentBytes]; omega)) (Nat.le_of_ble_eq_true rfl) (Nat.le_of_ble_eq_true rfl) dX12_init_221 (fun q9 c9 H hH8 hS => ?_)
  obtain ⟨τ234, eτ234⟩ : ∃ t9 : zTy, t9 = (va_up τ229.1 207 q9, va_up τ229.2.1 207 c9, va_up τ229.2.2.1 207 1, va_up τ229.2.2.2 207 512) := ⟨_, rfl⟩
  obtain ⟨f235, ef235⟩ : ∃ f9 : zFi, f9 = va_up f230 207 (fun _ => 0) := ⟨_, rfl⟩
  obtain ⟨g236, eg236⟩ : ∃ f9 : zFr, f9 = va_up g232 207 (fun _ => none) := ⟨_, rfl⟩
  have hH : zH D A τ234 f235 g236 ol s H := by rw [eτ234, ef235, eg236]; exact hH8
  clear hH8
  have hqτ234 : τ234.1 207 = q9 := by rw [eτ234]; exact va_up_self τ229.1 207 q9
  have haτ234 : ∀ i, i ≠ 207 → τ234.1 i = τ229.1 i := fun i h => by rw [eτ234]; exact va_up_ne _ _ h
  have hkτ234 : τ234.2.2.1 207 = 1 := by rw [eτ234]; exact va_up_self τ229.2.2.1 207 1
  have hnτ234 : τ234.2.2.2 207 = 512 := by rw [eτ234]; exact va_up_self τ229.2.2.2 207 512
  have hbτ234 : ∀ i, i ≠ 207 → τ234.2.2.1 i = τ229.2.2.1 i ∧ τ234.2.2.2 i = τ229.2.2.2 i := fun i h => by rw [eτ234]; exact ⟨va_up_ne _ _ h, va_up_ne _ _ h⟩
  clear eτ234
  subst hqτ234
  rw [show τ229.1 30 = τ234.1 30 from (haτ234 30 (by omega)).symm] at hl
  refine W.eq (g2 := F0 m 223 ls [.ref (τ234.1 207), .ref (τ234.1 30)]) (by rw [haτ234 30 (by omega)]) ?_
  have hB := zBI.born (i := 207) hB (by decide) hkτ234 hnτ234 hbτ234 ef235 eg236 (by decide) (by decide)
  have hAd : ∀ i, ¬ (i = 207 ∨ i = 206 ∨ i = 205 ∨ i = 204 ∨ i = 203 ∨ i = 202 ∨ i = 201 ∨ i = 200 ∨ i = 49 ∨ i = 48 ∨ i = 47 ∨ i = 46 ∨ i = 45 ∨ i = 44 ∨ i = 43 ∨ i = 42 ∨ i = 41 ∨ i = 40 ∨ i = 39 ∨ i = 38 ∨ i = 37 ∨ i = 36 ∨ i = 35 ∨ i = 34 ∨ i = 33 ∨ i = 32 ∨ i = 31) → τ234.1 i = τ.1 i := fun i h => by rw [haτ234 i (by omega)]; exact hAd i (by omega)
  refine W.widen (k := 27) (n := 2612) (by decide) (by decide) ?_
  refine zPutR (D := D) (ci := 12) (ty := .array .int) (C := RX12) (T := TX12) (N := 71) hx hb hts hiX12 tyX12 tyX12_ok nmX12 hown hH hS ((hB.1 30 (by decide)).1.trans (by decide : zkt 30 = 28)) rfl 44 (by decide) rfl hw33 (fun _ h9 => h9) rfl (by rw [((hB.1 207 (by decide)).1.trans (by decide : zkt 207 = 1))]; decide)  (by decide +kernel) rfl rfl dX12_init_223 (fun H locs hH hS => ?_)
  obtain ⟨g237, eg237⟩ : ∃ f9 : zFr, f9 = zur g236 30 44 (some 207) := ⟨_, rfl⟩
  rw [← eg237] at hH
  have hB := zBI.ref hB eg237 (by decide)
  refine lv_aload_n hx hb dX12_init_226 rfl (lv_at hl 0 rfl) ?_
  refine lv_bipush (v := nI 60) hx hb dX12_init_227 (by decide) ?_
  refine zNewa (D := D) (atype := .int) (t := 1) (N' := 60) hx hb hw3 rfl (by decide) (by decide) rfl hH hS hA 50 (hB.2.1 50 (by decide)).1 (by decide) (by decide) (by first | decide | (simp only [zT, componentBytes]; omega)) (Nat.le_of_ble_eq_true rfl) (Nat.le_of_ble_eq_true rfl) dX12_init_229 (fun q9 c9 H hH8 hS => ?_)
  obtain ⟨τ239, eτ239⟩ : ∃ t9 : zTy, t9 = (va_up τ234.1 50 q9, va_up τ234.2.1 50 c9, va_up τ234.2.2.1 50 1, va_up τ234.2.2.2 50 60) := ⟨_, rfl⟩
  obtain ⟨f240, ef240⟩ : ∃ f9 : zFi, f9 = va_up f235 50 (fun _ => 0) := ⟨_, rfl⟩
  obtain ⟨g241, eg241⟩ : ∃ f9 : zFr, f9 = va_up g237 50 (fun _ => none) := ⟨_, rfl⟩
  have hH : zH D A τ239 f240 g241 ol s H := by rw [eτ239, ef240, eg241]; exact hH8
  clear hH8
  have hqτ239 : τ239.1 50 = q9 := by rw [eτ239]; exact va_up_self τ234.1 50 q9
  have haτ239 : ∀ i, i ≠ 50 → τ239.1 i = τ234.1 i := fun i h => by rw [eτ239]; exact va_up_ne _ _ h
  have hkτ239 : τ239.2.2.1 50 = 1 := by rw [eτ239]; exact va_up_self τ234.2.2.1 50 1
  have hnτ239 : τ239.2.2.2 50 = 60 := by rw [eτ239]; exact va_up_self τ234.2.2.2 50 60
  have hbτ239 : ∀ i, i ≠ 50 → τ239.2.2.1 i = τ234.2.2.1 i ∧ τ239.2.2.2 i = τ234.2.2.2 i := fun i h => by rw [eτ239]; exact ⟨va_up_ne _ _ h, va_up_ne _ _ h⟩
  clear eτ239
  subst hqτ239
  rw [show τ234.1 30 = τ239.1 30 from (haτ239 30 (by omega)).symm] at hl
  refine W.eq (g2 := F0 m 231 ls [.ref (τ239.1 50), .ref (τ239.1 30)]) (by rw [haτ239 30 (by omega)]) ?_
  have hB := zBI.born (i := 50) hB (by decide) hkτ239 hnτ239 hbτ239 ef240 eg241 (by decide) (by decide)
  have hAd : ∀ i, ¬ (i = 50 ∨ i = 207 ∨ i = 206 ∨ i = 205 ∨ i = 204 ∨ i = 203 ∨ i = 202 ∨ i = 201 ∨ i = 200 ∨ i = 49 ∨ i = 48 ∨ i = 47 ∨ i = 46 ∨ i = 45 ∨ i = 44 ∨ i = 43 ∨ i = 42 ∨ i = 41 ∨ i = 40 ∨ i = 39 ∨ i = 38 ∨ i = 37 ∨ i = 36 ∨ i = 35 ∨ i = 34 ∨ i = 33 ∨ i = 32 ∨ i = 31) → τ239.1 i = τ.1 i := fun i h => by rw [haτ239 i (by omega)]; exact hAd i (by omega)
  refine W.widen (k := 28) (n := 2672) (by decide) (by decide) ?_
  refine zPutFR (D := D) (ci := 12) (ty := .array .int) (C := RX12) (T := TX12) (N := 71) hx hb hts hiX12 tyX12 tyX12_ok nmX12 hown hH hS ((hB.1 30 (by decide)).1.trans (by decide : zkt 30 = 28)) rfl 46 (by decide) rfl hw34 (fun _ h9 => h9) rfl hin rfl (by rw [((hB.1 50 (by decide)).1.trans (by decide : zkt 50 = 1))]; decide)  (by decide +kernel) rfl rfl dX12_init_231 (fun H locs hH hS => ?_)
  obtain ⟨g242, eg242⟩ : ∃ f9 : zFr, f9 = zur g241 30 46 (some 50) := ⟨_, rfl⟩
  rw [← eg242] at hH
  have hB := zBI.ref hB eg242 (by decide)
  refine lv_aload_n hx hb dX12_init_234 rfl (lv_at hl 0 rfl) ?_
  refine lv_bipush (v := nI 60) hx hb dX12_init_235 (by decide) ?_
  refine zNewa (D := D) (atype := .int) (t := 1) (N' := 60) hx hb hw3 rfl (by decide) (by decide) rfl hH hS hA 51 (hB.2.1 51 (by decide)).1 (by decide) (by decide) (by first | decide | (simp only [zT, componentBytes]; omega)) (Nat.le_of_ble_eq_true rfl) (Nat.le_of_ble_eq_true rfl) dX12_init_237 (fun q9 c9 H hH8 hS => ?_)
  obtain ⟨τ244, eτ244⟩ : ∃ t9 : zTy, t9 = (va_up τ239.1 51 q9, va_up τ239.2.1 51 c9, va_up τ239.2.2.1 51 1, va_up τ239.2.2.2 51 60) := ⟨_, rfl⟩
  obtain ⟨f245, ef245⟩ : ∃ f9 : zFi, f9 = va_up f240 51 (fun _ => 0) := ⟨_, rfl⟩
  obtain ⟨g246, eg246⟩ : ∃ f9 : zFr, f9 = va_up g242 51 (fun _ => none) := ⟨_, rfl⟩
  have hH : zH D A τ244 f245 g246 ol s H := by rw [eτ244, ef245, eg246]; exact hH8
  clear hH8
  have hqτ244 : τ244.1 51 = q9 := by rw [eτ244]; exact va_up_self τ239.1 51 q9
  have haτ244 : ∀ i, i ≠ 51 → τ244.1 i = τ239.1 i := fun i h => by rw [eτ244]; exact va_up_ne _ _ h
  have hkτ244 : τ244.2.2.1 51 = 1 := by rw [eτ244]; exact va_up_self τ239.2.2.1 51 1
  have hnτ244 : τ244.2.2.2 51 = 60 := by rw [eτ244]; exact va_up_self τ239.2.2.2 51 60
  have hbτ244 : ∀ i, i ≠ 51 → τ244.2.2.1 i = τ239.2.2.1 i ∧ τ244.2.2.2 i = τ239.2.2.2 i := fun i h => by rw [eτ244]; exact ⟨va_up_ne _ _ h, va_up_ne _ _ h⟩
  clear eτ244
  subst hqτ244
  rw [show τ239.1 30 = τ244.1 30 from (haτ244 30 (by omega)).symm] at hl
  refine W.eq (g2 := F0 m 239 ls [.ref (τ244.1 51), .ref (τ244.1 30)]) (by rw [haτ244 30 (by omega)]) ?_
  have hB := zBI.born (i := 51) hB (by decide) hkτ244 hnτ244 hbτ244 ef245 eg246 (by decide) (by decide)
  have hAd : ∀ i, ¬ (i = 51 ∨ i = 50 ∨ i = 207 ∨ i = 206 ∨ i = 205 ∨ i = 204 ∨ i = 203 ∨ i = 202 ∨ i = 201 ∨ i = 200 ∨ i = 49 ∨ i = 48 ∨ i = 47 ∨ i = 46 ∨ i = 45 ∨ i = 44 ∨ i = 43 ∨ i = 42 ∨ i = 41 ∨ i = 40 ∨ i = 39 ∨ i = 38 ∨ i = 37 ∨ i = 36 ∨ i = 35 ∨ i = 34 ∨ i = 33 ∨ i = 32 ∨ i = 31) → τ244.1 i = τ.1 i := fun i h => by rw [haτ244 i (by omega)]; exact hAd i (by omega)
  refine W.widen (k := 29) (n := 2732) (by decide) (by decide) ?_
  refine zPutFR (D := D) (ci := 12) (ty := .array .int) (C := RX12) (T := TX12) (N := 71) hx hb hts hiX12 tyX12 tyX12_ok nmX12 hown hH hS ((hB.1 30 (by decide)).1.trans (by decide : zkt 30 = 28)) rfl 47 (by decide) rfl hw35 (fun _ h9 => h9) rfl hin rfl (by rw [((hB.1 51 (by decide)).1.trans (by decide : zkt 51 = 1))]; decide)  (by decide +kernel) rfl rfl dX12_init_239 (fun H locs hH hS => ?_)
  obtain ⟨g247, eg247⟩ : ∃ f9 : zFr, f9 = zur g246 30 47 (some 51) := ⟨_, rfl⟩
  rw [← eg247] at hH
  have hB := zBI.ref hB eg247 (by decide)
  refine lv_aload_n hx hb dX12_init_242 rfl (lv_at hl 0 rfl) ?_
  refine lv_bipush (v := nI 60) hx hb dX12_init_243 (by decide) ?_
  refine zNewa (D := D) (atype := .int) (t := 1) (N' := 60) hx hb hw3 rfl (by decide) (by decide) rfl hH hS hA 52 (hB.2.1 52 (by decide)).1 (by decide) (by decide) (by first | decide | (simp only [zT, componentBytes]; omega)) (Nat.le_of_ble_eq_true rfl) (Nat.le_of_ble_eq_true rfl) dX12_init_245 (fun q9 c9 H hH8 hS => ?_)
  obtain ⟨τ249, eτ249⟩ : ∃ t9 : zTy, t9 = (va_up τ244.1 52 q9, va_up τ244.2.1 52 c9, va_up τ244.2.2.1 52 1, va_up τ244.2.2.2 52 60) := ⟨_, rfl⟩
  obtain ⟨f250, ef250⟩ : ∃ f9 : zFi, f9 = va_up f245 52 (fun _ => 0) := ⟨_, rfl⟩
  obtain ⟨g251, eg251⟩ : ∃ f9 : zFr, f9 = va_up g247 52 (fun _ => none) := ⟨_, rfl⟩
  have hH : zH D A τ249 f250 g251 ol s H := by rw [eτ249, ef250, eg251]; exact hH8
  clear hH8
  have hqτ249 : τ249.1 52 = q9 := by rw [eτ249]; exact va_up_self τ244.1 52 q9
  have haτ249 : ∀ i, i ≠ 52 → τ249.1 i = τ244.1 i := fun i h => by rw [eτ249]; exact va_up_ne _ _ h
  have hkτ249 : τ249.2.2.1 52 = 1 := by rw [eτ249]; exact va_up_self τ244.2.2.1 52 1
  have hnτ249 : τ249.2.2.2 52 = 60 := by rw [eτ249]; exact va_up_self τ244.2.2.2 52 60
  have hbτ249 : ∀ i, i ≠ 52 → τ249.2.2.1 i = τ244.2.2.1 i ∧ τ249.2.2.2 i = τ244.2.2.2 i := fun i h => by rw [eτ249]; exact ⟨va_up_ne _ _ h, va_up_ne _ _ h⟩
  clear eτ249
  subst hqτ249
  rw [show τ244.1 30 = τ249.1 30 from (haτ249 30 (by omega)).symm] at hl
  refine W.eq (g2 := F0 m 247 ls [.ref (τ249.1 52), .ref (τ249.1 30)]) (by rw [haτ249 30 (by omega)]) ?_
  have hB := zBI.born (i := 52) hB (by decide) hkτ249 hnτ249 hbτ249 ef250 eg251 (by decide) (by decide)
  have hAd : ∀ i, ¬ (i = 52 ∨ i = 51 ∨ i = 50 ∨ i = 207 ∨ i = 206 ∨ i = 205 ∨ i = 204 ∨ i = 203 ∨ i = 202 ∨ i = 201 ∨ i = 200 ∨ i = 49 ∨ i = 48 ∨ i = 47 ∨ i = 46 ∨ i = 45 ∨ i = 44 ∨ i = 43 ∨ i = 42 ∨ i = 41 ∨ i = 40 ∨ i = 39 ∨ i = 38 ∨ i = 37 ∨ i = 36 ∨ i = 35 ∨ i = 34 ∨ i = 33 ∨ i = 32 ∨ i = 31) → τ249.1 i = τ.1 i := fun i h => by rw [haτ249 i (by omega)]; exact hAd i (by omega)
  refine W.widen (k := 30) (n := 2792) (by decide) (by decide) ?_
  refine zPutFR (D := D) (ci := 12) (ty := .array .int) (C := RX12) (T := TX12) (N := 71) hx hb hts hiX12 tyX12 tyX12_ok nmX12 hown hH hS ((hB.1 30 (by decide)).1.trans (by decide : zkt 30 = 28)) rfl 48 (by decide) rfl hw36 (fun _ h9 => h9) rfl hin rfl (by rw [((hB.1 52 (by decide)).1.trans (by decide : zkt 52 = 1))]; decide)  (by decide +kernel) rfl rfl dX12_init_247 (fun H locs hH hS => ?_)
  obtain ⟨g252, eg252⟩ : ∃ f9 : zFr, f9 = zur g251 30 48 (some 52) := ⟨_, rfl⟩
  rw [← eg252] at hH
  have hB := zBI.ref hB eg252 (by decide)
  refine lv_aload_n hx hb dX12_init_250 rfl (lv_at hl 0 rfl) ?_
  refine lv_bipush (v := nI 60) hx hb dX12_init_251 (by decide) ?_
  refine zNewa (D := D) (atype := .int) (t := 1) (N' := 60) hx hb hw3 rfl (by decide) (by decide) rfl hH hS hA 53 (hB.2.1 53 (by decide)).1 (by decide) (by decide) (by first | decide | (simp only [zT, componentBytes]; omega)) (Nat.le_of_ble_eq_true rfl) (Nat.le_of_ble_eq_true rfl) dX12_init_253 (fun q9 c9 H hH8 hS => ?_)
  obtain ⟨τ254, eτ254⟩ : ∃ t9 : zTy, t9 = (va_up τ249.1 53 q9, va_up τ249.2.1 53 c9, va_up τ249.2.2.1 53 1, va_up τ249.2.2.2 53 60) := ⟨_, rfl⟩
  obtain ⟨f255, ef255⟩ : ∃ f9 : zFi, f9 = va_up f250 53 (fun _ => 0) := ⟨_, rfl⟩
  obtain ⟨g256, eg256⟩ : ∃ f9 : zFr, f9 = va_up g252 53 (fun _ => none) := ⟨_, rfl⟩
  have hH : zH D A τ254 f255 g256 ol s H := by rw [eτ254, ef255, eg256]; exact hH8
  clear hH8
  have hqτ254 : τ254.1 53 = q9 := by rw [eτ254]; exact va_up_self τ249.1 53 q9
  have haτ254 : ∀ i, i ≠ 53 → τ254.1 i = τ249.1 i := fun i h => by rw [eτ254]; exact va_up_ne _ _ h
  have hkτ254 : τ254.2.2.1 53 = 1 := by rw [eτ254]; exact va_up_self τ249.2.2.1 53 1
  have hnτ254 : τ254.2.2.2 53 = 60 := by rw [eτ254]; exact va_up_self τ249.2.2.2 53 60
  have hbτ254 : ∀ i, i ≠ 53 → τ254.2.2.1 i = τ249.2.2.1 i ∧ τ254.2.2.2 i = τ249.2.2.2 i := fun i h => by rw [eτ254]; exact ⟨va_up_ne _ _ h, va_up_ne _ _ h⟩
  clear eτ254
  subst hqτ254
  rw [show τ249.1 30 = τ254.1 30 from (haτ254 30 (by omega)).symm] at hl
  refine W.eq (g2 := F0 m 255 ls [.ref (τ254.1 53), .ref (τ254.1 30)]) (by rw [haτ254 30 (by omega)]) ?_
  have hB := zBI.born (i := 53) hB (by decide) hkτ254 hnτ254 hbτ254 ef255 eg256 (by decide) (by decide)
  have hAd : ∀ i, ¬ (i = 53 ∨ i = 52 ∨ i = 51 ∨ i = 50 ∨ i = 207 ∨ i = 206 ∨ i = 205 ∨ i = 204 ∨ i = 203 ∨ i = 202 ∨ i = 201 ∨ i = 200 ∨ i = 49 ∨ i = 48 ∨ i = 47 ∨ i = 46 ∨ i = 45 ∨ i = 44 ∨ i = 43 ∨ i = 42 ∨ i = 41 ∨ i = 40 ∨ i = 39 ∨ i = 38 ∨ i = 37 ∨ i = 36 ∨ i = 35 ∨ i = 34 ∨ i = 33 ∨ i = 32 ∨ i = 31) → τ254.1 i = τ.1 i := fun i h => by rw [haτ254 i (by omega)]; exact hAd i (by omega)
  refine W.widen (k := 31) (n := 2852) (by decide) (by decide) ?_
  refine zPutFR (D := D) (ci := 12) (ty := .array .int) (C := RX12) (T := TX12) (N := 71) hx hb hts hiX12 tyX12 tyX12_ok nmX12 hown hH hS ((hB.1 30 (by decide)).1.trans (by decide : zkt 30 = 28)) rfl 49 (by decide) rfl hw37 (fun _ h9 => h9) rfl hin rfl (by rw [((hB.1 53 (by decide)).1.trans (by decide : zkt 53 = 1))]; decide)  (by decide +kernel) rfl rfl dX12_init_255 (fun H locs hH hS => ?_)
  obtain ⟨g257, eg257⟩ : ∃ f9 : zFr, f9 = zur g256 30 49 (some 53) := ⟨_, rfl⟩
  rw [← eg257] at hH
  have hB := zBI.ref hB eg257 (by decide)
  refine lv_aload_n hx hb dX12_init_258 rfl (lv_at hl 0 rfl) ?_
  refine lv_bipush (v := nI 60) hx hb dX12_init_259 (by decide) ?_
  refine zNewa (D := D) (atype := .int) (t := 1) (N' := 60) hx hb hw3 rfl (by decide) (by decide) rfl hH hS hA 54 (hB.2.1 54 (by decide)).1 (by decide) (by decide) (by first | decide | (simp only [zT, componentBytes]; omega)) (Nat.le_of_ble_eq_true rfl) (Nat.le_of_ble_eq_true rfl) dX12_init_261 (fun q9 c9 H hH8 hS => ?_)
  obtain ⟨τ259, eτ259⟩ : ∃ t9 : zTy, t9 = (va_up τ254.1 54 q9, va_up τ254.2.1 54 c9, va_up τ254.2.2.1 54 1, va_up τ254.2.2.2 54 60) := ⟨_, rfl⟩
  obtain ⟨f260, ef260⟩ : ∃ f9 : zFi, f9 = va_up f255 54 (fun _ => 0) := ⟨_, rfl⟩
  obtain ⟨g261, eg261⟩ : ∃ f9 : zFr, f9 = va_up g257 54 (fun _ => none) := ⟨_, rfl⟩
  have hH : zH D A τ259 f260 g261 ol s H := by rw [eτ259, ef260, eg261]; exact hH8
  clear hH8
  have hqτ259 : τ259.1 54 = q9 := by rw [eτ259]; exact va_up_self τ254.1 54 q9
  have haτ259 : ∀ i, i ≠ 54 → τ259.1 i = τ254.1 i := fun i h => by rw [eτ259]; exact va_up_ne _ _ h
  have hkτ259 : τ259.2.2.1 54 = 1 := by rw [eτ259]; exact va_up_self τ254.2.2.1 54 1
  have hnτ259 : τ259.2.2.2 54 = 60 := by rw [eτ259]; exact va_up_self τ254.2.2.2 54 60
  have hbτ259 : ∀ i, i ≠ 54 → τ259.2.2.1 i = τ254.2.2.1 i ∧ τ259.2.2.2 i = τ254.2.2.2 i := fun i h => by rw [eτ259]; exact ⟨va_up_ne _ _ h, va_up_ne _ _ h⟩
  clear eτ259
  subst hqτ259
  rw [show τ254.1 30 = τ259.1 30 from (haτ259 30 (by omega)).symm] at hl
  refine W.eq (g2 := F0 m 263 ls [.ref (τ259.1 54), .ref (τ259.1 30)]) (by rw [haτ259 30 (by omega)]) ?_
  have hB := zBI.born (i := 54) hB (by decide) hkτ259 hnτ259 hbτ259 ef260 eg261 (by decide) (by decide)
  have hAd : ∀ i, ¬ (i = 54 ∨ i = 53 ∨ i = 52 ∨ i = 51 ∨ i = 50 ∨ i = 207 ∨ i = 206 ∨ i = 205 ∨ i = 204 ∨ i = 203 ∨ i = 202 ∨ i = 201 ∨ i = 200 ∨ i = 49 ∨ i = 48 ∨ i = 47 ∨ i = 46 ∨ i = 45 ∨ i = 44 ∨ i = 43 ∨ i = 42 ∨ i = 41 ∨ i = 40 ∨ i = 39 ∨ i = 38 ∨ i = 37 ∨ i = 36 ∨ i = 35 ∨ i = 34 ∨ i = 33 ∨ i = 32 ∨ i = 31) → τ259.1 i = τ.1 i := fun i h => by rw [haτ259 i (by omega)]; exact hAd i (by omega)
  refine W.widen (k := 32) (n := 2912) (by decide) (by decide) ?_
  refine zPutFR (D := D) (ci := 12) (ty := .array .int) (C := RX12) (T := TX12) (N := 71) hx hb hts hiX12 tyX12 tyX12_ok nmX12 hown hH hS ((hB.1 30 (by decide)).1.trans (by decide : zkt 30 = 28)) rfl 50 (by decide) rfl hw38 (fun _ h9 => h9) rfl hin rfl (by rw [((hB.1 54 (by decide)).1.trans (by decide : zkt 54 = 1))]; decide)  (by decide +kernel) rfl rfl dX12_init_263 (fun H locs hH hS => ?_)
  obtain ⟨g262, eg262⟩ : ∃ f9 : zFr, f9 = zur g261 30 50 (some 54) := ⟨_, rfl⟩
  rw [← eg262] at hH
  have hB := zBI.ref hB eg262 (by decide)
  refine lv_aload_n hx hb dX12_init_266 rfl (lv_at hl 0 rfl) ?_
  refine lv_sipush (v := nI 480) hx hb dX12_init_267 (by decide) ?_
  refine zNewa (D := D) (atype := .int) (t := 1) (N' := 480) hx hb hw3 rfl (by decide) (by decide) rfl hH hS hA 55 (hB.2.1 55 (by decide)).1 (by decide) (by decide) (by first | decide | (simp only [zT, componentBytes]; omega)) (Nat.le_of_ble_eq_true rfl) (Nat.le_of_ble_eq_true rfl) dX12_init_270 (fun q9 c9 H hH8 hS => ?_)
  obtain ⟨τ264, eτ264⟩ : ∃ t9 : zTy, t9 = (va_up τ259.1 55 q9, va_up τ259.2.1 55 c9, va_up τ259.2.2.1 55 1, va_up τ259.2.2.2 55 480) := ⟨_, rfl⟩
  obtain ⟨f265, ef265⟩ : ∃ f9 : zFi, f9 = va_up f260 55 (fun _ => 0) := ⟨_, rfl⟩
  obtain ⟨g266, eg266⟩ : ∃ f9 : zFr, f9 = va_up g262 55 (fun _ => none) := ⟨_, rfl⟩
  have hH : zH D A τ264 f265 g266 ol s H := by rw [eτ264, ef265, eg266]; exact hH8
  clear hH8
  have hqτ264 : τ264.1 55 = q9 := by rw [eτ264]; exact va_up_self τ259.1 55 q9
  have haτ264 : ∀ i, i ≠ 55 → τ264.1 i = τ259.1 i := fun i h => by rw [eτ264]; exact va_up_ne _ _ h
  have hkτ264 : τ264.2.2.1 55 = 1 := by rw [eτ264]; exact va_up_self τ259.2.2.1 55 1
  have hnτ264 : τ264.2.2.2 55 = 480 := by rw [eτ264]; exact va_up_self τ259.2.2.2 55 480
  have hbτ264 : ∀ i, i ≠ 55 → τ264.2.2.1 i = τ259.2.2.1 i ∧ τ264.2.2.2 i = τ259.2.2.2 i := fun i h => by rw [eτ264]; exact ⟨va_up_ne _ _ h, va_up_ne _ _ h⟩
  clear eτ264
  subst hqτ264
  rw [show τ259.1 30 = τ264.1 30 from (haτ264 30 (by omega)).symm] at hl
  refine W.eq (g2 := F0 m 272 ls [.ref (τ264.1 55), .ref (τ264.1 30)]) (by rw [haτ264 30 (by omega)]) ?_
  have hB := zBI.born (i := 55) hB (by decide) hkτ264 hnτ264 hbτ264 ef265 eg266 (by decide) (by decide)
  have hAd : ∀ i, ¬ (i = 55 ∨ i = 54 ∨ i = 53 ∨ i = 52 ∨ i = 51 ∨ i = 50 ∨ i = 207 ∨ i = 206 ∨ i = 205 ∨ i = 204 ∨ i = 203 ∨ i = 202 ∨ i = 201 ∨ i = 200 ∨ i = 49 ∨ i = 48 ∨ i = 47 ∨ i = 46 ∨ i = 45 ∨ i = 44 ∨ i = 43 ∨ i = 42 ∨ i = 41 ∨ i = 40 ∨ i = 39 ∨ i = 38 ∨ i = 37 ∨ i = 36 ∨ i = 35 ∨ i = 34 ∨ i = 33 ∨ i = 32 ∨ i = 31) → τ264.1 i = τ.1 i := fun i h => by rw [haτ264 i (by omega)]; exact hAd i (by omega)
  refine W.widen (k := 33) (n := 3392) (by decide) (by decide) ?_
  refine zPutFR (D := D) (ci := 12) (ty := .array .int) (C := RX12) (T := TX12) (N := 71) hx hb hts hiX12 tyX12 tyX12_ok nmX12 hown hH hS ((hB.1 30 (by decide)).1.trans (by decide : zkt 30 = 28)) rfl 51 (by decide) rfl hw39 (fun _ h9 => h9) rfl hin rfl (by rw [((hB.1 55 (by decide)).1.trans (by decide : zkt 55 = 1))]; decide)  (by decide +kernel) rfl rfl dX12_init_272 (fun H locs hH hS => ?_)
  obtain ⟨g267, eg267⟩ : ∃ f9 : zFr, f9 = zur g266 30 51 (some 55) := ⟨_, rfl⟩
  rw [← eg267] at hH
  have hB := zBI.ref hB eg267 (by decide)
  refine lv_aload_n hx hb dX12_init_275 rfl (lv_at hl 0 rfl) ?_
  refine lv_sipush (v := nI 480) hx hb dX12_init_276 (by decide) ?_
  refine zNewa (D := D) (atype := .int) (t := 1) (N' := 480) hx hb hw3 rfl (by decide) (by decide) rfl hH hS hA 56 (hB.2.1 56 (by decide)).1 (by decide) (by decide) (by first | decide | (simp only [zT, componentBytes]; omega)) (Nat.le_of_ble_eq_true rfl) (Nat.le_of_ble_eq_true rfl) dX12_init_279 (fun q9 c9 H hH8 hS => ?_)
  obtain ⟨τ269, eτ269⟩ : ∃ t9 : zTy, t9 = (va_up τ264.1 56 q9, va_up τ264.2.1 56 c9, va_up τ264.2.2.1 56 1, va_up τ264.2.2.2 56 480) := ⟨_, rfl⟩
  obtain ⟨f270, ef270⟩ : ∃ f9 : zFi, f9 = va_up f265 56 (fun _ => 0) := ⟨_, rfl⟩
  obtain ⟨g271, eg271⟩ : ∃ f9 : zFr, f9 = va_up g267 56 (fun _ => none) := ⟨_, rfl⟩
  have hH : zH D A τ269 f270 g271 ol s H := by rw [eτ269, ef270, eg271]; exact hH8
  clear hH8
  have hqτ269 : τ269.1 56 = q9 := by rw [eτ269]; exact va_up_self τ264.1 56 q9
  have haτ269 : ∀ i, i ≠ 56 → τ269.1 i = τ264.1 i := fun i h => by rw [eτ269]; exact va_up_ne _ _ h
  have hkτ269 : τ269.2.2.1 56 = 1 := by rw [eτ269]; exact va_up_self τ264.2.2.1 56 1
  have hnτ269 : τ269.2.2.2 56 = 480 := by rw [eτ269]; exact va_up_self τ264.2.2.2 56 480
  have hbτ269 : ∀ i, i ≠ 56 → τ269.2.2.1 i = τ264.2.2.1 i ∧ τ269.2.2.2 i = τ264.2.2.2 i := fun i h => by rw [eτ269]; exact ⟨va_up_ne _ _ h, va_up_ne _ _ h⟩
  clear eτ269
  subst hqτ269
  rw [show τ264.1 30 = τ269.1 30 from (haτ269 30 (by omega)).symm] at hl
  refine W.eq (g2 := F0 m 281 ls [.ref (τ269.1 56), .ref (τ269.1 30)]) (by rw [haτ269 30 (by omega)]) ?_
  have hB := zBI.born (i := 56) hB (by decide) hkτ269 hnτ269 hbτ269 ef270 eg271 (by decide) (by decide)
  have hAd : ∀ i, ¬ (i = 56 ∨ i = 55 ∨ i = 54 ∨ i = 53 ∨ i = 52 ∨ i = 51 ∨ i = 50 ∨ i = 207 ∨ i = 206 ∨ i = 205 ∨ i = 204 ∨ i = 203 ∨ i = 202 ∨ i = 201 ∨ i = 200 ∨ i = 49 ∨ i = 48 ∨ i = 47 ∨ i = 46 ∨ i = 45 ∨ i = 44 ∨ i = 43 ∨ i = 42 ∨ i = 41 ∨ i = 40 ∨ i = 39 ∨ i = 38 ∨ i = 37 ∨ i = 36 ∨ i = 35 ∨ i = 34 ∨ i = 33 ∨ i = 32 ∨ i = 31) → τ269.1 i = τ.1 i := fun i h => by rw [haτ269 i (by omega)]; exact hAd i (by omega)
  refine W.widen (k := 34) (n := 3872) (by decide) (by decide) ?_
  refine zPutFR (D := D) (ci := 12) (ty := .array .int) (C := RX12) (T := TX12) (N := 71) hx hb hts hiX12 tyX12 tyX12_ok nmX12 hown hH hS ((hB.1 30 (by decide)).1.trans (by decide : zkt 30 = 28)) rfl 52 (by decide) rfl hw40 (fun _ h9 => h9) rfl hin rfl (by rw [((hB.1 56 (by decide)).1.trans (by decide : zkt 56 = 1))]; decide)  (by decide +kernel) rfl rfl dX12_init_281 (fun H locs hH hS => ?_)
  obtain ⟨g272, eg272⟩ : ∃ f9 : zFr, f9 = zur g271 30 52 (some 56) := ⟨_, rfl⟩
  rw [← eg272] at hH
  have hB := zBI.ref hB eg272 (by decide)
  refine lv_aload_n hx hb dX12_init_284 rfl (lv_at hl 0 rfl) ?_
  refine lv_sipush (v := nI 480) hx hb dX12_init_285 (by decide) ?_
  refine zNewa (D := D) (atype := .int) (t := 1) (N' := 480) hx hb hw3 rfl (by decide) (by decide) rfl hH hS hA 57 (hB.2.1 57 (by decide)).1 (by decide) (by decide) (by first | decide | (simp only [zT, componentBytes]; omega)) (Nat.le_of_ble_eq_true rfl) (Nat.le_of_ble_eq_true rfl) dX12_init_288 (fun q9 c9 H hH8 hS => ?_)
  obtain ⟨τ274, eτ274⟩ : ∃ t9 : zTy, t9 = (va_up τ269.1 57 q9, va_up τ269.2.1 57 c9, va_up τ269.2.2.1 57 1, va_up τ269.2.2.2 57 480) := ⟨_, rfl⟩
  obtain ⟨f275, ef275⟩ : ∃ f9 : zFi, f9 = va_up f270 57 (fun _ => 0) := ⟨_, rfl⟩
  obtain ⟨g276, eg276⟩ : ∃ f9 : zFr, f9 = va_up g272 57 (fun _ => none) := ⟨_, rfl⟩
  have hH : zH D A τ274 f275 g276 ol s H := by rw [eτ274, ef275, eg276]; exact hH8
  clear hH8
  have hqτ274 : τ274.1 57 = q9 := by rw [eτ274]; exact va_up_self τ269.1 57 q9
  have haτ274 : ∀ i, i ≠ 57 → τ274.1 i = τ269.1 i := fun i h => by rw [eτ274]; exact va_up_ne _ _ h
  have hkτ274 : τ274.2.2.1 57 = 1 := by rw [eτ274]; exact va_up_self τ269.2.2.1 57 1
  have hnτ274 : τ274.2.2.2 57 = 480 := by rw [eτ274]; exact va_up_self τ269.2.2.2 57 480
  have hbτ274 : ∀ i, i ≠ 57 → τ274.2.2.1 i = τ269.2.2.1 i ∧ τ274.2.2.2 i = τ269.2.2.2 i := fun i h => by rw [eτ274]; exact ⟨va_up_ne _ _ h, va_up_ne _ _ h⟩
  clear eτ274
  subst hqτ274
  rw [show τ269.1 30 = τ274.1 30 from (haτ274 30 (by omega)).symm] at hl
  refine W.eq (g2 := F0 m 290 ls [.ref (τ274.1 57), .ref (τ274.1 30)]) (by rw [haτ274 30 (by omega)]) ?_
  have hB := zBI.born (i := 57) hB (by decide) hkτ274 hnτ274 hbτ274 ef275 eg276 (by decide) (by decide)
  have hAd : ∀ i, ¬ (i = 57 ∨ i = 56 ∨ i = 55 ∨ i = 54 ∨ i = 53 ∨ i = 52 ∨ i = 51 ∨ i = 50 ∨ i = 207 ∨ i = 206 ∨ i = 205 ∨ i = 204 ∨ i = 203 ∨ i = 202 ∨ i = 201 ∨ i = 200 ∨ i = 49 ∨ i = 48 ∨ i = 47 ∨ i = 46 ∨ i = 45 ∨ i = 44 ∨ i = 43 ∨ i = 42 ∨ i = 41 ∨ i = 40 ∨ i = 39 ∨ i = 38 ∨ i = 37 ∨ i = 36 ∨ i = 35 ∨ i = 34 ∨ i = 33 ∨ i = 32 ∨ i = 31) → τ274.1 i = τ.1 i := fun i h => by rw [haτ274 i (by omega)]; exact hAd i (by omega)
  refine W.widen (k := 35) (n := 4352) (by decide) (by decide) ?_
  refine zPutFR (D := D) (ci := 12) (ty := .array .int) (C := RX12) (T := TX12) (N := 71) hx hb hts hiX12 tyX12 tyX12_ok nmX12 hown hH hS ((hB.1 30 (by decide)).1.trans (by decide : zkt 30 = 28)) rfl 53 (by decide) rfl hw41 (fun _ h9 => h9) rfl hin rfl (by rw [((hB.1 57 (by decide)).1.trans (by decide : zkt 57 = 1))]; decide)  (by decide +kernel) rfl rfl dX12_init_290 (fun H locs hH hS => ?_)
  obtain ⟨g277, eg277⟩ : ∃ f9 : zFr, f9 = zur g276 30 53 (some 57) := ⟨_, rfl⟩
  rw [← eg277] at hH
  have hB := zBI.ref hB eg277 (by decide)
  refine lv_aload_n hx hb dX12_init_293 rfl (lv_at hl 0 rfl) ?_
  refine lv_sipush (v := nI 480) hx hb dX12_init_294 (by decide) ?_
  refine zNewa (D := D) (atype := .int) (t := 1) (N' := 480) hx hb hw3 rfl (by decide) (by decide) rfl hH hS hA 58 (hB.2.1 58 (by decide)).1 (by decide) (by decide) (by first | decide | (simp only [zT, componentBytes]; omega)) (Nat.le_of_ble_eq_true rfl) (Nat.le_of_ble_eq_true rfl) dX12_init_297 (fun q9 c9 H hH8 hS => ?_)
  obtain ⟨τ279, eτ279⟩ : ∃ t9 : zTy, t9 = (va_up τ274.1 58 q9, va_up τ274.2.1 58 c9, va_up τ274.2.2.1 58 1, va_up τ274.2.2.2 58 480) := ⟨_, rfl⟩
  obtain ⟨f280, ef280⟩ : ∃ f9 : zFi, f9 = va_up f275 58 (fun _ => 0) := ⟨_, rfl⟩
  obtain ⟨g281, eg281⟩ : ∃ f9 : zFr, f9 = va_up g277 58 (fun _ => none) := ⟨_, rfl⟩
  have hH : zH D A τ279 f280 g281 ol s H := by rw [eτ279, ef280, eg281]; exact hH8
  clear hH8
  have hqτ279 : τ279.1 58 = q9 := by rw [eτ279]; exact va_up_self τ274.1 58 q9
  have haτ279 : ∀ i, i ≠ 58 → τ279.1 i = τ274.1 i := fun i h => by rw [eτ279]; exact va_up_ne _ _ h
  have hkτ279 : τ279.2.2.1 58 = 1 := by rw [eτ279]; exact va_up_self τ274.2.2.1 58 1
  have hnτ279 : τ279.2.2.2 58 = 480 := by rw [eτ279]; exact va_up_self τ274.2.2.2 58 480
  have hbτ279 : ∀ i, i ≠ 58 → τ279.2.2.1 i = τ274.2.2.1 i ∧ τ279.2.2.2 i = τ274.2.2.2 i := fun i h => by rw [eτ279]; exact ⟨va_up_ne _ _ h, va_up_ne _ _ h⟩
  clear eτ279
  subst hqτ279
  rw [show τ274.1 30 = τ279.1 30 from (haτ279 30 (by omega)).symm] at hl
  refine W.eq (g2 := F0 m 299 ls [.ref (τ279.1 58), .ref (τ279.1 30)]) (by rw [haτ279 30 (by omega)]) ?_
  have hB := zBI.born (i := 58) hB (by decide) hkτ279 hnτ279 hbτ279 ef280 eg281 (by decide) (by decide)
  have hAd : ∀ i, ¬ (i = 58 ∨ i = 57 ∨ i = 56 ∨ i = 55 ∨ i = 54 ∨ i = 53 ∨ i = 52 ∨ i = 51 ∨ i = 50 ∨ i = 207 ∨ i = 206 ∨ i = 205 ∨ i = 204 ∨ i = 203 ∨ i = 202 ∨ i = 201 ∨ i = 200 ∨ i = 49 ∨ i = 48 ∨ i = 47 ∨ i = 46 ∨ i = 45 ∨ i = 44 ∨ i = 43 ∨ i = 42 ∨ i = 41 ∨ i = 40 ∨ i = 39 ∨ i = 38 ∨ i = 37 ∨ i = 36 ∨ i = 35 ∨ i = 34 ∨ i = 33 ∨ i = 32 ∨ i = 31) → τ279.1 i = τ.1 i := fun i h => by rw [haτ279 i (by omega)]; exact hAd i (by omega)
  refine W.widen (k := 36) (n := 4832) (by decide) (by decide) ?_
  refine zPutFR (D := D) (ci := 12) (ty := .array .int) (C := RX12) (T := TX12) (N := 71) hx hb hts hiX12 tyX12 tyX12_ok nmX12 hown hH hS ((hB.1 30 (by decide)).1.trans (by decide : zkt 30 = 28)) rfl 54 (by decide) rfl hw42 (fun _ h9 => h9) rfl hin rfl (by rw [((hB.1 58 (by decide)).1.trans (by decide : zkt 58 = 1))]; decide)  (by decide +kernel) rfl rfl dX12_init_299 (fun H locs hH hS => ?_)
  obtain ⟨g282, eg282⟩ : ∃ f9 : zFr, f9 = zur g281 30 54 (some 58) := ⟨_, rfl⟩
  rw [← eg282] at hH
  have hB := zBI.ref hB eg282 (by decide)
  refine lv_aload_n hx hb dX12_init_302 rfl (lv_at hl 0 rfl) ?_
  refine lv_sipush (v := nI 480) hx hb dX12_init_303 (by decide) ?_
  refine zNewa (D := D) (atype := .int) (t := 1) (N' := 480) hx hb hw3 rfl (by decide) (by decide) rfl hH hS hA 59 (hB.2.1 59 (by decide)).1 (by decide) (by decide) (by first | decide | (simp only [zT, componentBytes]; omega)) (Nat.le_of_ble_eq_true rfl) (Nat.le_of_ble_eq_true rfl) dX12_init_306 (fun q9 c9 H hH8 hS => ?_)
  obtain ⟨τ284, eτ284⟩ : ∃ t9 : zTy, t9 = (va_up τ279.1 59 q9, va_up τ279.2.1 59 c9, va_up τ279.2.2.1 59 1, va_up τ279.2.2.2 59 480) := ⟨_, rfl⟩
  obtain ⟨f285, ef285⟩ : ∃ f9 : zFi, f9 = va_up f280 59 (fun _ => 0) := ⟨_, rfl⟩
  obtain ⟨g286, eg286⟩ : ∃ f9 : zFr, f9 = va_up g282 59 (fun _ => none) := ⟨_, rfl⟩
  have hH : zH D A τ284 f285 g286 ol s H := by rw [eτ284, ef285, eg286]; exact hH8
  clear hH8
  have hqτ284 : τ284.1 59 = q9 := by rw [eτ284]; exact va_up_self τ279.1 59 q9
  have haτ284 : ∀ i, i ≠ 59 → τ284.1 i = τ279.1 i := fun i h => by rw [eτ284]; exact va_up_ne _ _ h
  have hkτ284 : τ284.2.2.1 59 = 1 := by rw [eτ284]; exact va_up_self τ279.2.2.1 59 1
  have hnτ284 : τ284.2.2.2 59 = 480 := by rw [eτ284]; exact va_up_self τ279.2.2.2 59 480
  have hbτ284 : ∀ i, i ≠ 59 → τ284.2.2.1 i = τ279.2.2.1 i ∧ τ284.2.2.2 i = τ279.2.2.2 i := fun i h => by rw [eτ284]; exact ⟨va_up_ne _ _ h, va_up_ne _ _ h⟩
  clear eτ284
  subst hqτ284
  rw [show τ279.1 30 = τ284.1 30 from (haτ284 30 (by omega)).symm] at hl
  refine W.eq (g2 := F0 m 308 ls [.ref (τ284.1 59), .ref (τ284.1 30)]) (by rw [haτ284 30 (by omega)]) ?_
  have hB := zBI.born (i := 59) hB (by decide) hkτ284 hnτ284 hbτ284 ef285 eg286 (by decide) (by decide)
  have hAd : ∀ i, ¬ (i = 59 ∨ i = 58 ∨ i = 57 ∨ i = 56 ∨ i = 55 ∨ i = 54 ∨ i = 53 ∨ i = 52 ∨ i = 51 ∨ i = 50 ∨ i = 207 ∨ i = 206 ∨ i = 205 ∨ i = 204 ∨ i = 203 ∨ i = 202 ∨ i = 201 ∨ i = 200 ∨ i = 49 ∨ i = 48 ∨ i = 47 ∨ i = 46 ∨ i = 45 ∨ i = 44 ∨ i = 43 ∨ i = 42 ∨ i = 41 ∨ i = 40 ∨ i = 39 ∨ i = 38 ∨ i = 37 ∨ i = 36 ∨ i = 35 ∨ i = 34 ∨ i = 33 ∨ i = 32 ∨ i = 31) → τ284.1 i = τ.1 i := fun i h => by rw [haτ284 i (by omega)]; exact hAd i (by omega)
  refine W.widen (k := 37) (n := 5312) (by decide) (by decide) ?_
  refine zPutFR (D := D) (ci := 12) (ty := .array .int) (C := RX12) (T := TX12) (N := 71) hx hb hts hiX12 tyX12 tyX12_ok nmX12 hown hH hS ((hB.1 30 (by decide)).1.trans (by decide : zkt 30 = 28)) rfl 55 (by decide) rfl hw43 (fun _ h9 => h9) rfl hin rfl (by rw [((hB.1 59 (by decide)).1.trans (by decide : zkt 59 = 1))]; decide)  (by decide +kernel) rfl rfl dX12_init_308 (fun H locs hH hS => ?_)
  obtain ⟨g287, eg287⟩ : ∃ f9 : zFr, f9 = zur g286 30 55 (some 59) := ⟨_, rfl⟩
  rw [← eg287] at hH
  have hB := zBI.ref hB eg287 (by decide)
  refine lv_aload_n hx hb dX12_init_311 rfl (lv_at hl 0 rfl) ?_
  refine lv_sipush (v := nI 480) hx hb dX12_init_312 (by decide) ?_
  refine zNewa (D := D) (atype := .int) (t := 1) (N' := 480) hx hb hw3 rfl (by decide) (by decide) rfl hH hS hA 60 (hB.2.1 60 (by decide)).1 (by decide) (by decide) (by first | decide | (simp only [zT, componentBytes]; omega)) (Nat.le_of_ble_eq_true rfl) (Nat.le_of_ble_eq_true rfl) dX12_init_315 (fun q9 c9 H hH8 hS => ?_)
  obtain ⟨τ289, eτ289⟩ : ∃ t9 : zTy, t9 = (va_up τ284.1 60 q9, va_up τ284.2.1 60 c9, va_up τ284.2.2.1 60 1, va_up τ284.2.2.2 60 480) := ⟨_, rfl⟩
  obtain ⟨f290, ef290⟩ : ∃ f9 : zFi, f9 = va_up f285 60 (fun _ => 0) := ⟨_, rfl⟩
  obtain ⟨g291, eg291⟩ : ∃ f9 : zFr, f9 = va_up g287 60 (fun _ => none) := ⟨_, rfl⟩
  have hH : zH D A τ289 f290 g291 ol s H := by rw [eτ289, ef290, eg291]; exact hH8
  clear hH8
  have hqτ289 : τ289.1 60 = q9 := by rw [eτ289]; exact va_up_self τ284.1 60 q9
  have haτ289 : ∀ i, i ≠ 60 → τ289.1 i = τ284.1 i := fun i h => by rw [eτ289]; exact va_up_ne _ _ h
  have hkτ289 : τ289.2.2.1 60 = 1 := by rw [eτ289]; exact va_up_self τ284.2.2.1 60 1
  have hnτ289 : τ289.2.2.2 60 = 480 := by rw [eτ289]; exact va_up_self τ284.2.2.2 60 480
  have hbτ289 : ∀ i, i ≠ 60 → τ289.2.2.1 i = τ284.2.2.1 i ∧ τ289.2.2.2 i = τ284.2.2.2 i := fun i h => by rw [eτ289]; exact ⟨va_up_ne _ _ h, va_up_ne _ _ h⟩
  clear eτ289
  subst hqτ289
  rw [show τ284.1 30 = τ289.1 30 from (haτ289 30 (by omega)).symm] at hl
  refine W.eq (g2 := F0 m 317 ls [.ref (τ289.1 60), .ref (τ289.1 30)]) (by rw [haτ289 30 (by omega)]) ?_
  have hB := zBI.born (i := 60) hB (by decide) hkτ289 hnτ289 hbτ289 ef290 eg291 (by decide) (by decide)
  have hAd : ∀ i, ¬ (i = 60 ∨ i = 59 ∨ i = 58 ∨ i = 57 ∨ i = 56 ∨ i = 55 ∨ i = 54 ∨ i = 53 ∨ i = 52 ∨ i = 51 ∨ i = 50 ∨ i = 207 ∨ i = 206 ∨ i = 205 ∨ i = 204 ∨ i = 203 ∨ i = 202 ∨ i = 201 ∨ i = 200 ∨ i = 49 ∨ i = 48 ∨ i = 47 ∨ i = 46 ∨ i = 45 ∨ i = 44 ∨ i = 43 ∨ i = 42 ∨ i = 41 ∨ i = 40 ∨ i = 39 ∨ i = 38 ∨ i = 37 ∨ i = 36 ∨ i = 35 ∨ i = 34 ∨ i = 33 ∨ i = 32 ∨ i = 31) → τ289.1 i = τ.1 i := fun i h => by rw [haτ289 i (by omega)]; exact hAd i (by omega)
  refine W.widen (k := 38) (n := 5792) (by decide) (by decide) ?_
  refine zPutFR (D := D) (ci := 12) (ty := .array .int) (C := RX12) (T := TX12) (N := 71) hx hb hts hiX12 tyX12 tyX12_ok nmX12 hown hH hS ((hB.1 30 (by decide)).1.trans (by decide : zkt 30 = 28)) rfl 56 (by decide) rfl hw44 (fun _ h9 => h9) rfl hin rfl (by rw [((hB.1 60 (by decide)).1.trans (by decide : zkt 60 = 1))]; decide)  (by decide +kernel) rfl rfl dX12_init_317 (fun H locs hH hS => ?_)
  obtain ⟨g292, eg292⟩ : ∃ f9 : zFr, f9 = zur g291 30 56 (some 60) := ⟨_, rfl⟩
  rw [← eg292] at hH
  have hB := zBI.ref hB eg292 (by decide)
  refine lv_aload_n hx hb dX12_init_320 rfl (lv_at hl 0 rfl) ?_
  refine lv_sipush (v := nI 480) hx hb dX12_init_321 (by decide) ?_
  refine zNewa (D := D) (atype := .int) (t := 1) (N' := 480) hx hb hw3 rfl (by decide) (by decide) rfl hH hS hA 61 (hB.2.1 61 (by decide)).1 (by decide) (by decide) (by first | decide | (simp only [zT, componentBytes]; omega)) (Nat.le_of_ble_eq_true rfl) (Nat.le_of_ble_eq_true rfl) dX12_init_324 (fun q9 c9 H hH8 hS => ?_)
  obtain ⟨τ294, eτ294⟩ : ∃ t9 : zTy, t9 = (va_up τ289.1 61 q9, va_up τ289.2.1 61 c9, va_up τ289.2.2.1 61 1, va_up τ289.2.2.2 61 480) := ⟨_, rfl⟩
  obtain ⟨f295, ef295⟩ : ∃ f9 : zFi, f9 = va_up f290 61 (fun _ => 0) := ⟨_, rfl⟩
  obtain ⟨g296, eg296⟩ : ∃ f9 : zFr, f9 = va_up g292 61 (fun _ => none) := ⟨_, rfl⟩
  have hH : zH D A τ294 f295 g296 ol s H := by rw [eτ294, ef295, eg296]; exact hH8
  clear hH8
  have hqτ294 : τ294.1 61 = q9 := by rw [eτ294]; exact va_up_self τ289.1 61 q9
  have haτ294 : ∀ i, i ≠ 61 → τ294.1 i = τ289.1 i := fun i h => by rw [eτ294]; exact va_up_ne _ _ h
  have hkτ294 : τ294.2.2.1 61 = 1 := by rw [eτ294]; exact va_up_self τ289.2.2.1 61 1
  have hnτ294 : τ294.2.2.2 61 = 480 := by rw [eτ294]; exact va_up_self τ289.2.2.2 61 480
  have hbτ294 : ∀ i, i ≠ 61 → τ294.2.2.1 i = τ289.2.2.1 i ∧ τ294.2.2.2 i = τ289.2.2.2 i := fun i h => by rw [eτ294]; exact ⟨va_up_ne _ _ h, va_up_ne _ _ h⟩
  clear eτ294
  subst hqτ294
  rw [show τ289.1 30 = τ294.1 30 from (haτ294 30 (by omega)).symm] at hl
  refine W.eq (g2 := F0 m 326 ls [.ref (τ294.1 61), .ref (τ294.1 30)]) (by rw [haτ294 30 (by omega)]) ?_
  have hB := zBI.born (i := 61) hB (by decide) hkτ294 hnτ294 hbτ294 ef295 eg296 (by decide) (by decide)
  have hAd : ∀ i, ¬ (i = 61 ∨ i = 60 ∨ i = 59 ∨ i = 58 ∨ i = 57 ∨ i = 56 ∨ i = 55 ∨ i = 54 ∨ i = 53 ∨ i = 52 ∨ i = 51 ∨ i = 50 ∨ i = 207 ∨ i = 206 ∨ i = 205 ∨ i = 204 ∨ i = 203 ∨ i = 202 ∨ i = 201 ∨ i = 200 ∨ i = 49 ∨ i = 48 ∨ i = 47 ∨ i = 46 ∨ i = 45 ∨ i = 44 ∨ i = 43 ∨ i = 42 ∨ i = 41 ∨ i = 40 ∨ i = 39 ∨ i = 38 ∨ i = 37 ∨ i = 36 ∨ i = 35 ∨ i = 34 ∨ i = 33 ∨ i = 32 ∨ i = 31) → τ294.1 i = τ.1 i := fun i h => by rw [haτ294 i (by omega)]; exact hAd i (by omega)
  refine W.widen (k := 39) (n := 6272) (by decide) (by decide) ?_
  refine zPutFR (D := D) (ci := 12) (ty := .array .int) (C := RX12) (T := TX12) (N := 71) hx hb hts hiX12 tyX12 tyX12_ok nmX12 hown hH hS ((hB.1 30 (by decide)).1.trans (by decide : zkt 30 = 28)) rfl 57 (by decide) rfl hw45 (fun _ h9 => h9) rfl hin rfl (by rw [((hB.1 61 (by decide)).1.trans (by decide : zkt 61 = 1))]; decide)  (by decide +kernel) rfl rfl dX12_init_326 (fun H locs hH hS => ?_)
  obtain ⟨g297, eg297⟩ : ∃ f9 : zFr, f9 = zur g296 30 57 (some 61) := ⟨_, rfl⟩
  rw [← eg297] at hH
  have hB := zBI.ref hB eg297 (by decide)
  refine lv_aload_n hx hb dX12_init_329 rfl (lv_at hl 0 rfl) ?_
  refine lv_sipush (v := nI 480) hx hb dX12_init_330 (by decide) ?_
  refine zNewa (D := D) (atype := .int) (t := 1) (N' := 480) hx hb hw3 rfl (by decide) (by decide) rfl hH hS hA 62 (hB.2.1 62 (by decide)).1 (by decide) (by decide) (by first | decide | (simp only [zT, componentBytes]; omega)) (Nat.le_of_ble_eq_true rfl) (Nat.le_of_ble_eq_true rfl) dX12_init_333 (fun q9 c9 H hH8 hS => ?_)
  obtain ⟨τ299, eτ299⟩ : ∃ t9 : zTy, t9 = (va_up τ294.1 62 q9, va_up τ294.2.1 62 c9, va_up τ294.2.2.1 62 1, va_up τ294.2.2.2 62 480) := ⟨_, rfl⟩
  obtain ⟨f300, ef300⟩ : ∃ f9 : zFi, f9 = va_up f295 62 (fun _ => 0) := ⟨_, rfl⟩
  obtain ⟨g301, eg301⟩ : ∃ f9 : zFr, f9 = va_up g297 62 (fun _ => none) := ⟨_, rfl⟩
  have hH : zH D A τ299 f300 g301 ol s H := by rw [eτ299, ef300, eg301]; exact hH8
  clear hH8
  have hqτ299 : τ299.1 62 = q9 := by rw [eτ299]; exact va_up_self τ294.1 62 q9
  have haτ299 : ∀ i, i ≠ 62 → τ299.1 i = τ294.1 i := fun i h => by rw [eτ299]; exact va_up_ne _ _ h
  have hkτ299 : τ299.2.2.1 62 = 1 := by rw [eτ299]; exact va_up_self τ294.2.2.1 62 1
  have hnτ299 : τ299.2.2.2 62 = 480 := by rw [eτ299]; exact va_up_self τ294.2.2.2 62 480
  have hbτ299 : ∀ i, i ≠ 62 → τ299.2.2.1 i = τ294.2.2.1 i ∧ τ299.2.2.2 i = τ294.2.2.2 i := fun i h => by rw [eτ299]; exact ⟨va_up_ne _ _ h, va_up_ne _ _ h⟩
  clear eτ299
  subst hqτ299
  rw [show τ294.1 30 = τ299.1 30 from (haτ299 30 (by omega)).symm] at hl
  refine W.eq (g2 := F0 m 335 ls [.ref (τ299.1 62), .ref (τ299.1 30)]) (by rw [haτ299 30 (by omega)]) ?_
  have hB := zBI.born (i := 62) hB (by decide) hkτ299 hnτ299 hbτ299 ef300 eg301 (by decide) (by decide)
  have hAd : ∀ i, ¬ (i = 62 ∨ i = 61 ∨ i = 60 ∨ i = 59 ∨ i = 58 ∨ i = 57 ∨ i = 56 ∨ i = 55 ∨ i = 54 ∨ i = 53 ∨ i = 52 ∨ i = 51 ∨ i = 50 ∨ i = 207 ∨ i = 206 ∨ i = 205 ∨ i = 204 ∨ i = 203 ∨ i = 202 ∨ i = 201 ∨ i = 200 ∨ i = 49 ∨ i = 48 ∨ i = 47 ∨ i = 46 ∨ i = 45 ∨ i = 44 ∨ i = 43 ∨ i = 42 ∨ i = 41 ∨ i = 40 ∨ i = 39 ∨ i = 38 ∨ i = 37 ∨ i = 36 ∨ i = 35 ∨ i = 34 ∨ i = 33 ∨ i = 32 ∨ i = 31) → τ299.1 i = τ.1 i := fun i h => by rw [haτ299 i (by omega)]; exact hAd i (by omega)
  refine W.widen (k := 40) (n := 6752) (by decide) (by decide) ?_
  refine zPutFR (D := D) (ci := 12) (ty := .array .int) (C := RX12) (T := TX12) (N := 71) hx hb hts hiX12 tyX12 tyX12_ok nmX12 hown hH hS ((hB.1 30 (by decide)).1.trans (by decide : zkt 30 = 28)) rfl 58 (by decide) rfl hw46 (fun _ h9 => h9) rfl hin rfl (by rw [((hB.1 62 (by decide)).1.trans (by decide : zkt 62 = 1))]; decide)  (by decide +kernel) rfl rfl dX12_init_335 (fun H locs hH hS => ?_)
  obtain ⟨g302, eg302⟩ : ∃ f9 : zFr, f9 = zur g301 30 58 (some 62) := ⟨_, rfl⟩
  rw [← eg302] at hH
  have hB := zBI.ref hB eg302 (by decide)
  refine lv_aload_n hx hb dX12_init_338 rfl (lv_at hl 0 rfl) ?_
  refine lv_sipush (v := nI 480) hx hb dX12_init_339 (by decide) ?_
  refine zNewa (D := D) (atype := .int) (t := 1) (N' := 480) hx hb hw3 rfl (by decide) (by decide) rfl hH hS hA 63 (hB.2.1 63 (by decide)).1 (by decide) (by decide) (by first | decide | (simp only [zT, componentBytes]; omega)) (Nat.le_of_ble_eq_true rfl) (Nat.le_of_ble_eq_true rfl) dX12_init_342 (fun q9 c9 H hH8 hS => ?_)
  obtain ⟨τ304, eτ304⟩ : ∃ t9 : zTy, t9 = (va_up τ299.1 63 q9, va_up τ299.2.1 63 c9, va_up τ299.2.2.1 63 1, va_up τ299.2.2.2 63 480) := ⟨_, rfl⟩
  obtain ⟨f305, ef305⟩ : ∃ f9 : zFi, f9 = va_up f300 63 (fun _ => 0) := ⟨_, rfl⟩
  obtain ⟨g306, eg306⟩ : ∃ f9 : zFr, f9 = va_up g302 63 (fun _ => none) := ⟨_, rfl⟩
  have hH : zH D A τ304 f305 g306 ol s H := by rw [eτ304, ef305, eg306]; exact hH8
  clear hH8
  have hqτ304 : τ304.1 63 = q9 := by rw [eτ304]; exact va_up_self τ299.1 63 q9
  have haτ304 : ∀ i, i ≠ 63 → τ304.1 i = τ299.1 i := fun i h => by rw [eτ304]; exact va_up_ne _ _ h
  have hkτ304 : τ304.2.2.1 63 = 1 := by rw [eτ304]; exact va_up_self τ299.2.2.1 63 1
  have hnτ304 : τ304.2.2.2 63 = 480 := by rw [eτ304]; exact va_up_self τ299.2.2.2 63 480
  have hbτ304 : ∀ i, i ≠ 63 → τ304.2.2.1 i = τ299.2.2.1 i ∧ τ304.2.2.2 i = τ299.2.2.2 i := fun i h => by rw [eτ304]; exact ⟨va_up_ne _ _ h, va_up_ne _ _ h⟩
  clear eτ304
  subst hqτ304
  rw [show τ299.1 30 = τ304.1 30 from (haτ304 30 (by omega)).symm] at hl
  refine W.eq (g2 := F0 m 344 ls [.ref (τ304.1 63), .ref (τ304.1 30)]) (by rw [haτ304 30 (by omega)]) ?_
  have hB := zBI.born (i := 63) hB (by decide) hkτ304 hnτ304 hbτ304 ef305 eg306 (by decide) (by decide)
  have hAd : ∀ i, ¬ (i = 63 ∨ i = 62 ∨ i = 61 ∨ i = 60 ∨ i = 59 ∨ i = 58 ∨ i = 57 ∨ i = 56 ∨ i = 55 ∨ i = 54 ∨ i = 53 ∨ i = 52 ∨ i = 51 ∨ i = 50 ∨ i = 207 ∨ i = 206 ∨ i = 205 ∨ i = 204 ∨ i = 203 ∨ i = 202 ∨ i = 201 ∨ i = 200 ∨ i = 49 ∨ i = 48 ∨ i = 47 ∨ i = 46 ∨ i = 45 ∨ i = 44 ∨ i = 43 ∨ i = 42 ∨ i = 41 ∨ i = 40 ∨ i = 39 ∨ i = 38 ∨ i = 37 ∨ i = 36 ∨ i = 35 ∨ i = 34 ∨ i = 33 ∨ i = 32 ∨ i = 31) → τ304.1 i = τ.1 i := fun i h => by rw [haτ304 i (by omega)]; exact hAd i (by omega)
  refine W.widen (k := 41) (n := 7232) (by decide) (by decide) ?_
  refine zPutFR (D := D) (ci := 12) (ty := .array .int) (C := RX12) (T := TX12) (N := 71) hx hb hts hiX12 tyX12 tyX12_ok nmX12 hown hH hS ((hB.1 30 (by decide)).1.trans (by decide : zkt 30 = 28)) rfl 59 (by decide) rfl hw47 (fun _ h9 => h9) rfl hin rfl (by rw [((hB.1 63 (by decide)).1.trans (by decide : zkt 63 = 1))]; decide)  (by decide +kernel) rfl rfl dX12_init_344 (fun H locs hH hS => ?_)
  obtain ⟨g307, eg307⟩ : ∃ f9 : zFr, f9 = zur g306 30 59 (some 63) := ⟨_, rfl⟩
  rw [← eg307] at hH
  have hB := zBI.ref hB eg307 (by decide)
  refine lv_aload_n hx hb dX12_init_347 rfl (lv_at hl 0 rfl) ?_
  refine lv_sipush (v := nI 480) hx hb dX12_init_348 (by decide) ?_
  refine zNewa (D := D) (atype := .int) (t := 1) (N' := 480) hx hb hw3 rfl (by decide) (by decide) rfl hH hS hA 64 (hB.2.1 64 (by decide)).1 (by decide) (by decide) (by first | decide | (simp only [zT, componentBytes]; omega)) (Nat.le_of_ble_eq_true rfl) (Nat.le_of_ble_eq_true rfl) dX12_init_351 (fun q9 c9 H hH8 hS => ?_)
  obtain ⟨τ309, eτ309⟩ : ∃ t9 : zTy, t9 = (va_up τ304.1 64 q9, va_up τ304.2.1 64 c9, va_up τ304.2.2.1 64 1, va_up τ304.2.2.2 64 480) := ⟨_, rfl⟩
  obtain ⟨f310, ef310⟩ : ∃ f9 : zFi, f9 = va_up f305 64 (fun _ => 0) := ⟨_, rfl⟩
  obtain ⟨g311, eg311⟩ : ∃ f9 : zFr, f9 = va_up g307 64 (fun _ => none) := ⟨_, rfl⟩
  have hH : zH D A τ309 f310 g311 ol s H := by rw [eτ309, ef310, eg311]; exact hH8
  clear hH8
  have hqτ309 : τ309.1 64 = q9 := by rw [eτ309]; exact va_up_self τ304.1 64 q9
  have haτ309 : ∀ i, i ≠ 64 → τ309.1 i = τ304.1 i := fun i h => by rw [eτ309]; exact va_up_ne _ _ h
  have hkτ309 : τ309.2.2.1 64 = 1 := by rw [eτ309]; exact va_up_self τ304.2.2.1 64 1
  have hnτ309 : τ309.2.2.2 64 = 480 := by rw [eτ309]; exact va_up_self τ304.2.2.2 64 480
  have hbτ309 : ∀ i, i ≠ 64 → τ309.2.2.1 i = τ304.2.2.1 i ∧ τ309.2.2.2 i = τ304.2.2.2 i := fun i h => by rw [eτ309]; exact ⟨va_up_ne _ _ h, va_up_ne _ _ h⟩
  clear eτ309
  subst hqτ309
  rw [show τ304.1 30 = τ309.1 30 from (haτ309 30 (by omega)).symm] at hl
  refine W.eq (g2 := F0 m 353 ls [.ref (τ309.1 64), .ref (τ309.1 30)]) (by rw [haτ309 30 (by omega)]) ?_
  have hB := zBI.born (i := 64) hB (by decide) hkτ309 hnτ309 hbτ309 ef310 eg311 (by decide) (by decide)
  have hAd : ∀ i, ¬ (i = 64 ∨ i = 63 ∨ i = 62 ∨ i = 61 ∨ i = 60 ∨ i = 59 ∨ i = 58 ∨ i = 57 ∨ i = 56 ∨ i = 55 ∨ i = 54 ∨ i = 53 ∨ i = 52 ∨ i = 51 ∨ i = 50 ∨ i = 207 ∨ i = 206 ∨ i = 205 ∨ i = 204 ∨ i = 203 ∨ i = 202 ∨ i = 201 ∨ i = 200 ∨ i = 49 ∨ i = 48 ∨ i = 47 ∨ i = 46 ∨ i = 45 ∨ i = 44 ∨ i = 43 ∨ i = 42 ∨ i = 41 ∨ i = 40 ∨ i = 39 ∨ i = 38 ∨ i = 37 ∨ i = 36 ∨ i = 35 ∨ i = 34 ∨ i = 33 ∨ i = 32 ∨ i = 31) → τ309.1 i = τ.1 i := fun i h => by rw [haτ309 i (by omega)]; exact hAd i (by omega)
  refine W.widen (k := 42) (n := 7712) (by decide) (by decide) ?_
  refine zPutFR (D := D) (ci := 12) (ty := .array .int) (C := RX12) (T := TX12) (N := 71) hx hb hts hiX12 tyX12 tyX12_ok nmX12 hown hH hS ((hB.1 30 (by decide)).1.trans (by decide : zkt 30 = 28)) rfl 60 (by decide) rfl hw48 (fun _ h9 => h9) rfl hin rfl (by rw [((hB.1 64 (by decide)).1.trans (by decide : zkt 64 = 1))]; decide)  (by decide +kernel) rfl rfl dX12_init_353 (fun H locs hH hS => ?_)
  obtain ⟨g312, eg312⟩ : ∃ f9 : zFr, f9 = zur g311 30 60 (some 64) := ⟨_, rfl⟩
  rw [← eg312] at hH
  have hB := zBI.ref hB eg312 (by decide)
  refine lv_aload_n hx hb dX12_init_356 rfl (lv_at hl 0 rfl) ?_
  refine lv_sipush (v := nI 300) hx hb dX12_init_357 (by decide) ?_
  refine zNewa (D := D) (atype := .int) (t := 1) (N' := 300) hx hb hw3 rfl (by decide) (by decide) rfl hH hS hA 65 (hB.2.1 65 (by decide)).1 (by decide) (by decide) (by first | decide | (simp only [zT, componentBytes]; omega)) (Nat.le_of_ble_eq_true rfl) (Nat.le_of_ble_eq_true rfl) dX12_init_360 (fun q9 c9 H hH8 hS => ?_)
  obtain ⟨τ314, eτ314⟩ : ∃ t9 : zTy, t9 = (va_up τ309.1 65 q9, va_up τ309.2.1 65 c9, va_up τ309.2.2.1 65 1, va_up τ309.2.2.2 65 300) := ⟨_, rfl⟩
  obtain ⟨f315, ef315⟩ : ∃ f9 : zFi, f9 = va_up f310 65 (fun _ => 0) := ⟨_, rfl⟩
  obtain ⟨g316, eg316⟩ : ∃ f9 : zFr, f9 = va_up g312 65 (fun _ => none) := ⟨_, rfl⟩
  have hH : zH D A τ314 f315 g316 ol s H := by rw [eτ314, ef315, eg316]; exact hH8
  clear hH8
  have hqτ314 : τ314.1 65 = q9 := by rw [eτ314]; exact va_up_self τ309.1 65 q9
  have haτ314 : ∀ i, i ≠ 65 → τ314.1 i = τ309.1 i := fun i h => by rw [eτ314]; exact va_up_ne _ _ h
  have hkτ314 : τ314.2.2.1 65 = 1 := by rw [eτ314]; exact va_up_self τ309.2.2.1 65 1
  have hnτ314 : τ314.2.2.2 65 = 300 := by rw [eτ314]; exact va_up_self τ309.2.2.2 65 300
  have hbτ314 : ∀ i, i ≠ 65 → τ314.2.2.1 i = τ309.2.2.1 i ∧ τ314.2.2.2 i = τ309.2.2.2 i := fun i h => by rw [eτ314]; exact ⟨va_up_ne _ _ h, va_up_ne _ _ h⟩
  clear eτ314
  subst hqτ314
  rw [show τ309.1 30 = τ314.1 30 from (haτ314 30 (by omega)).symm] at hl
  refine W.eq (g2 := F0 m 362 ls [.ref (τ314.1 65), .ref (τ314.1 30)]) (by rw [haτ314 30 (by omega)]) ?_
  have hB := zBI.born (i := 65) hB (by decide) hkτ314 hnτ314 hbτ314 ef315 eg316 (by decide) (by decide)
  have hAd : ∀ i, ¬ (i = 65 ∨ i = 64 ∨ i = 63 ∨ i = 62 ∨ i = 61 ∨ i = 60 ∨ i = 59 ∨ i = 58 ∨ i = 57 ∨ i = 56 ∨ i = 55 ∨ i = 54 ∨ i = 53 ∨ i = 52 ∨ i = 51 ∨ i = 50 ∨ i = 207 ∨ i = 206 ∨ i = 205 ∨ i = 204 ∨ i = 203 ∨ i = 202 ∨ i = 201 ∨ i = 200 ∨ i = 49 ∨ i = 48 ∨ i = 47 ∨ i = 46 ∨ i = 45 ∨ i = 44 ∨ i = 43 ∨ i = 42 ∨ i = 41 ∨ i = 40 ∨ i = 39 ∨ i = 38 ∨ i = 37 ∨ i = 36 ∨ i = 35 ∨ i = 34 ∨ i = 33 ∨ i = 32 ∨ i = 31) → τ314.1 i = τ.1 i := fun i h => by rw [haτ314 i (by omega)]; exact hAd i (by omega)
  refine W.widen (k := 43) (n := 8012) (by decide) (by decide) ?_
  refine zPutFR (D := D) (ci := 12) (ty := .array .int) (C := RX12) (T := TX12) (N := 71) hx hb hts hiX12 tyX12 tyX12_ok nmX12 hown hH hS ((hB.1 30 (by decide)).1.trans (by decide : zkt 30 = 28)) rfl 62 (by decide) rfl hw49 (fun _ h9 => h9) rfl hin rfl (by rw [((hB.1 65 (by decide)).1.trans (by decide : zkt 65 = 1))]; decide)  (by decide +kernel) rfl rfl dX12_init_362 (fun H locs hH hS => ?_)
  obtain ⟨g317, eg317⟩ : ∃ f9 : zFr, f9 = zur g316 30 62 (some 65) := ⟨_, rfl⟩
  rw [← eg317] at hH
  have hB := zBI.ref hB eg317 (by decide)
  refine lv_aload_n hx hb dX12_init_365 rfl (lv_at hl 0 rfl) ?_
  refine lv_sipush (v := nI 300) hx hb dX12_init_366 (by decide) ?_
  refine zNewa (D := D) (atype := .int) (t := 1) (N' := 300) hx hb hw3 rfl (by decide) (by decide) rfl hH hS hA 66 (hB.2.1 66 (by decide)).1 (by decide) (by decide) (by first | decide | (simp only [zT, componentBytes]; omega)) (Nat.le_of_ble_eq_true rfl) (Nat.le_of_ble_eq_true rfl) dX12_init_369 (fun q9 c9 H hH8 hS => ?_)
  obtain ⟨τ319, eτ319⟩ : ∃ t9 : zTy, t9 = (va_up τ314.1 66 q9, va_up τ314.2.1 66 c9, va_up τ314.2.2.1 66 1, va_up τ314.2.2.2 66 300) := ⟨_, rfl⟩
  obtain ⟨f320, ef320⟩ : ∃ f9 : zFi, f9 = va_up f315 66 (fun _ => 0) := ⟨_, rfl⟩
  obtain ⟨g321, eg321⟩ : ∃ f9 : zFr, f9 = va_up g317 66 (fun _ => none) := ⟨_, rfl⟩
  have hH : zH D A τ319 f320 g321 ol s H := by rw [eτ319, ef320, eg321]; exact hH8
  clear hH8
  have hqτ319 : τ319.1 66 = q9 := by rw [eτ319]; exact va_up_self τ314.1 66 q9
  have haτ319 : ∀ i, i ≠ 66 → τ319.1 i = τ314.1 i := fun i h => by rw [eτ319]; exact va_up_ne _ _ h
  have hkτ319 : τ319.2.2.1 66 = 1 := by rw [eτ319]; exact va_up_self τ314.2.2.1 66 1
  have hnτ319 : τ319.2.2.2 66 = 300 := by rw [eτ319]; exact va_up_self τ314.2.2.2 66 300
  have hbτ319 : ∀ i, i ≠ 66 → τ319.2.2.1 i = τ314.2.2.1 i ∧ τ319.2.2.2 i = τ314.2.2.2 i := fun i h => by rw [eτ319]; exact ⟨va_up_ne _ _ h, va_up_ne _ _ h⟩
  clear eτ319
  subst hqτ319
  rw [show τ314.1 30 = τ319.1 30 from (haτ319 30 (by omega)).symm] at hl
  refine W.eq (g2 := F0 m 371 ls [.ref (τ319.1 66), .ref (τ319.1 30)]) (by rw [haτ319 30 (by omega)]) ?_
  have hB := zBI.born (i := 66) hB (by decide) hkτ319 hnτ319 hbτ319 ef320 eg321 (by decide) (by decide)
  have hAd : ∀ i, ¬ (i = 66 ∨ i = 65 ∨ i = 64 ∨ i = 63 ∨ i = 62 ∨ i = 61 ∨ i = 60 ∨ i = 59 ∨ i = 58 ∨ i = 57 ∨ i = 56 ∨ i = 55 ∨ i = 54 ∨ i = 53 ∨ i = 52 ∨ i = 51 ∨ i = 50 ∨ i = 207 ∨ i = 206 ∨ i = 205 ∨ i = 204 ∨ i = 203 ∨ i = 202 ∨ i = 201 ∨ i = 200 ∨ i = 49 ∨ i = 48 ∨ i = 47 ∨ i = 46 ∨ i = 45 ∨ i = 44 ∨ i = 43 ∨ i = 42 ∨ i = 41 ∨ i = 40 ∨ i = 39 ∨ i = 38 ∨ i = 37 ∨ i = 36 ∨ i = 35 ∨ i = 34 ∨ i = 33 ∨ i = 32 ∨ i = 31) → τ319.1 i = τ.1 i := fun i h => by rw [haτ319 i (by omega)]; exact hAd i (by omega)
  refine W.widen (k := 44) (n := 8312) (by decide) (by decide) ?_
  refine zPutFR (D := D) (ci := 12) (ty := .array .int) (C := RX12) (T := TX12) (N := 71) hx hb hts hiX12 tyX12 tyX12_ok nmX12 hown hH hS ((hB.1 30 (by decide)).1.trans (by decide : zkt 30 = 28)) rfl 63 (by decide) rfl hw50 (fun _ h9 => h9) rfl hin rfl (by rw [((hB.1 66 (by decide)).1.trans (by decide : zkt 66 = 1))]; decide)  (by decide +kernel) rfl rfl dX12_init_371 (fun H locs hH hS => ?_)
  obtain ⟨g322, eg322⟩ : ∃ f9 : zFr, f9 = zur g321 30 63 (some 66) := ⟨_, rfl⟩
  rw [← eg322] at hH
  have hB := zBI.ref hB eg322 (by decide)
  refine lv_aload_n hx hb dX12_init_374 rfl (lv_at hl 0 rfl) ?_
  refine lv_sipush (v := nI 300) hx hb dX12_init_375 (by decide) ?_
  refine zNewa (D := D) (atype := .int) (t := 1) (N' := 300) hx hb hw3 rfl (by decide) (by decide) rfl hH hS hA 67 (hB.2.1 67 (by decide)).1 (by decide) (by decide) (by first | decide | (simp only [zT, componentBytes]; omega)) (Nat.le_of_ble_eq_true rfl) (Nat.le_of_ble_eq_true rfl) dX12_init_378 (fun q9 c9 H hH8 hS => ?_)
  obtain ⟨τ324, eτ324⟩ : ∃ t9 : zTy, t9 = (va_up τ319.1 67 q9, va_up τ319.2.1 67 c9, va_up τ319.2.2.1 67 1, va_up τ319.2.2.2 67 300) := ⟨_, rfl⟩
  obtain ⟨f325, ef325⟩ : ∃ f9 : zFi, f9 = va_up f320 67 (fun _ => 0) := ⟨_, rfl⟩
  obtain ⟨g326, eg326⟩ : ∃ f9 : zFr, f9 = va_up g322 67 (fun _ => none) := ⟨_, rfl⟩
  have hH : zH D A τ324 f325 g326 ol s H := by rw [eτ324, ef325, eg326]; exact hH8
  clear hH8
  have hqτ324 : τ324.1 67 = q9 := by rw [eτ324]; exact va_up_self τ319.1 67 q9
  have haτ324 : ∀ i, i ≠ 67 → τ324.1 i = τ319.1 i := fun i h => by rw [eτ324]; exact va_up_ne _ _ h
  have hkτ324 : τ324.2.2.1 67 = 1 := by rw [eτ324]; exact va_up_self τ319.2.2.1 67 1
  have hnτ324 : τ324.2.2.2 67 = 300 := by rw [eτ324]; exact va_up_self τ319.2.2.2 67 300
  have hbτ324 : ∀ i, i ≠ 67 → τ324.2.2.1 i = τ319.2.2.1 i ∧ τ324.2.2.2 i = τ319.2.2.2 i := fun i h => by rw [eτ324]; exact ⟨va_up_ne _ _ h, va_up_ne _ _ h⟩
  clear eτ324
  subst hqτ324
  rw [show τ319.1 30 = τ324.1 30 from (haτ324 30 (by omega)).symm] at hl
  refine W.eq (g2 := F0 m 380 ls [.ref (τ324.1 67), .ref (τ324.1 30)]) (by rw [haτ324 30 (by omega)]) ?_
  have hB := zBI.born (i := 67) hB (by decide) hkτ324 hnτ324 hbτ324 ef325 eg326 (by decide) (by decide)
  have hAd : ∀ i, ¬ (i = 67 ∨ i = 66 ∨ i = 65 ∨ i = 64 ∨ i = 63 ∨ i = 62 ∨ i = 61 ∨ i = 60 ∨ i = 59 ∨ i = 58 ∨ i = 57 ∨ i = 56 ∨ i = 55 ∨ i = 54 ∨ i = 53 ∨ i = 52 ∨ i = 51 ∨ i = 50 ∨ i = 207 ∨ i = 206 ∨ i = 205 ∨ i = 204 ∨ i = 203 ∨ i = 202 ∨ i = 201 ∨ i = 200 ∨ i = 49 ∨ i = 48 ∨ i = 47 ∨ i = 46 ∨ i = 45 ∨ i = 44 ∨ i = 43 ∨ i = 42 ∨ i = 41 ∨ i = 40 ∨ i = 39 ∨ i = 38 ∨ i = 37 ∨ i = 36 ∨ i = 35 ∨ i = 34 ∨ i = 33 ∨ i = 32 ∨ i = 31) → τ324.1 i = τ.1 i := fun i h => by rw [haτ324 i (by omega)]; exact hAd i (by omega)
  refine W.widen (k := 45) (n := 8612) (by decide) (by decide) ?_
  refine zPutFR (D := D) (ci := 12) (ty := .array .int) (C := RX12) (T := TX12) (N := 71) hx hb hts hiX12 tyX12 tyX12_ok nmX12 hown hH hS ((hB.1 30 (by decide)).1.trans (by decide : zkt 30 = 28)) rfl 64 (by decide) rfl hw51 (fun _ h9 => h9) rfl hin rfl (by rw [((hB.1 67 (by decide)).1.trans (by decide : zkt 67 = 1))]; decide)  (by decide +kernel) rfl rfl dX12_init_380 (fun H locs hH hS => ?_)
  obtain ⟨g327, eg327⟩ : ∃ f9 : zFr, f9 = zur g326 30 64 (some 67) := ⟨_, rfl⟩
  rw [← eg327] at hH
  have hB := zBI.ref hB eg327 (by decide)
  refine lv_aload_n hx hb dX12_init_383 rfl (lv_at hl 0 rfl) ?_
  refine lv_sipush (v := nI 300) hx hb dX12_init_384 (by decide) ?_
  refine zNewa (D := D) (atype := .int) (t := 1) (N' := 300) hx hb hw3 rfl (by decide) (by decide) rfl hH hS hA 68 (hB.2.1 68 (by decide)).1 (by decide) (by decide) (by first | decide | (simp only [zT, componentBytes]; omega)) (Nat.le_of_ble_eq_true rfl) (Nat.le_of_ble_eq_true rfl) dX12_init_387 (fun q9 c9 H hH8 hS => ?_)
  obtain ⟨τ329, eτ329⟩ : ∃ t9 : zTy, t9 = (va_up τ324.1 68 q9, va_up τ324.2.1 68 c9, va_up τ324.2.2.1 68 1, va_up τ324.2.2.2 68 300) := ⟨_, rfl⟩
  obtain ⟨f330, ef330⟩ : ∃ f9 : zFi, f9 = va_up f325 68 (fun _ => 0) := ⟨_, rfl⟩
  obtain ⟨g331, eg331⟩ : ∃ f9 : zFr, f9 = va_up g327 68 (fun _ => none) := ⟨_, rfl⟩
  have hH : zH D A τ329 f330 g331 ol s H := by rw [eτ329, ef330, eg331]; exact hH8
  clear hH8
  have hqτ329 : τ329.1 68 = q9 := by rw [eτ329]; exact va_up_self τ324.1 68 q9
  have haτ329 : ∀ i, i ≠ 68 → τ329.1 i = τ324.1 i := fun i h => by rw [eτ329]; exact va_up_ne _ _ h
  have hkτ329 : τ329.2.2.1 68 = 1 := by rw [eτ329]; exact va_up_self τ324.2.2.1 68 1
  have hnτ329 : τ329.2.2.2 68 = 300 := by rw [eτ329]; exact va_up_self τ324.2.2.2 68 300
  have hbτ329 : ∀ i, i ≠ 68 → τ329.2.2.1 i = τ324.2.2.1 i ∧ τ329.2.2.2 i = τ324.2.2.2 i := fun i h => by rw [eτ329]; exact ⟨va_up_ne _ _ h, va_up_ne _ _ h⟩
  clear eτ329
  subst hqτ329
  rw [show τ324.1 30 = τ329.1 30 from (haτ329 30 (by omega)).symm] at hl
  refine W.eq (g2 := F0 m 389 ls [.ref (τ329.1 68), .ref (τ329.1 30)]) (by rw [haτ329 30 (by omega)]) ?_
  have hB := zBI.born (i := 68) hB (by decide) hkτ329 hnτ329 hbτ329 ef330 eg331 (by decide) (by decide)
  have hAd : ∀ i, ¬ (i = 68 ∨ i = 67 ∨ i = 66 ∨ i = 65 ∨ i = 64 ∨ i = 63 ∨ i = 62 ∨ i = 61 ∨ i = 60 ∨ i = 59 ∨ i = 58 ∨ i = 57 ∨ i = 56 ∨ i = 55 ∨ i = 54 ∨ i = 53 ∨ i = 52 ∨ i = 51 ∨ i = 50 ∨ i = 207 ∨ i = 206 ∨ i = 205 ∨ i = 204 ∨ i = 203 ∨ i = 202 ∨ i = 201 ∨ i = 200 ∨ i = 49 ∨ i = 48 ∨ i = 47 ∨ i = 46 ∨ i = 45 ∨ i = 44 ∨ i = 43 ∨ i = 42 ∨ i = 41 ∨ i = 40 ∨ i = 39 ∨ i = 38 ∨ i = 37 ∨ i = 36 ∨ i = 35 ∨ i = 34 ∨ i = 33 ∨ i = 32 ∨ i = 31) → τ329.1 i = τ.1 i := fun i h => by rw [haτ329 i (by omega)]; exact hAd i (by omega)
  refine W.widen (k := 46) (n := 8912) (by decide) (by decide) ?_
  refine zPutFR (D := D) (ci := 12) (ty := .array .int) (C := RX12) (T := TX12) (N := 71) hx hb hts hiX12 tyX12 tyX12_ok nmX12 hown hH hS ((hB.1 30 (by decide)).1.trans (by decide : zkt 30 = 28)) rfl 65 (by decide) rfl hw52 (fun _ h9 => h9) rfl hin rfl (by rw [((hB.1 68 (by decide)).1.trans (by decide : zkt 68 = 1))]; decide)  (by decide +kernel) rfl rfl dX12_init_389 (fun H locs hH hS => ?_)
  obtain ⟨g332, eg332⟩ : ∃ f9 : zFr, f9 = zur g331 30 65 (some 68) := ⟨_, rfl⟩
  rw [← eg332] at hH
  have hB := zBI.ref hB eg332 (by decide)
  refine lv_aload_n hx hb dX12_init_392 rfl (lv_at hl 0 rfl) ?_
  refine lv_bipush (v := nI 30) hx hb dX12_init_393 (by decide) ?_
  refine zNewa (D := D) (atype := .int) (t := 1) (N' := 30) hx hb hw3 rfl (by decide) (by decide) rfl hH hS hA 69 (hB.2.1 69 (by decide)).1 (by decide) (by decide) (by first | decide | (simp only [zT, componentBytes]; omega)) (Nat.le_of_ble_eq_true rfl) (Nat.le_of_ble_eq_true rfl) dX12_init_395 (fun q9 c9 H hH8 hS => ?_)
  obtain ⟨τ334, eτ334⟩ : ∃ t9 : zTy, t9 = (va_up τ329.1 69 q9, va_up τ329.2.1 69 c9, va_up τ329.2.2.1 69 1, va_up τ329.2.2.2 69 30) := ⟨_, rfl⟩
  obtain ⟨f335, ef335⟩ : ∃ f9 : zFi, f9 = va_up f330 69 (fun _ => 0) := ⟨_, rfl⟩
  obtain ⟨g336, eg336⟩ : ∃ f9 : zFr, f9 = va_up g332 69 (fun _ => none) := ⟨_, rfl⟩
  have hH : zH D A τ334 f335 g336 ol s H := by rw [eτ334, ef335, eg336]; exact hH8
  clear hH8
  have hqτ334 : τ334.1 69 = q9 := by rw [eτ334]; exact va_up_self τ329.1 69 q9
  have haτ334 : ∀ i, i ≠ 69 → τ334.1 i = τ329.1 i := fun i h => by rw [eτ334]; exact va_up_ne _ _ h
  have hkτ334 : τ334.2.2.1 69 = 1 := by rw [eτ334]; exact va_up_self τ329.2.2.1 69 1
  have hnτ334 : τ334.2.2.2 69 = 30 := by rw [eτ334]; exact va_up_self τ329.2.2.2 69 30
  have hbτ334 : ∀ i, i ≠ 69 → τ334.2.2.1 i = τ329.2.2.1 i ∧ τ334.2.2.2 i = τ329.2.2.2 i := fun i h => by rw [eτ334]; exact ⟨va_up_ne _ _ h, va_up_ne _ _ h⟩
  clear eτ334
  subst hqτ334
  rw [show τ329.1 30 = τ334.1 30 from (haτ334 30 (by omega)).symm] at hl
  refine W.eq (g2 := F0 m 397 ls [.ref (τ334.1 69), .ref (τ334.1 30)]) (by rw [haτ334 30 (by omega)]) ?_
  have hB := zBI.born (i := 69) hB (by decide) hkτ334 hnτ334 hbτ334 ef335 eg336 (by decide) (by decide)
  have hAd : ∀ i, ¬ (i = 69 ∨ i = 68 ∨ i = 67 ∨ i = 66 ∨ i = 65 ∨ i = 64 ∨ i = 63 ∨ i = 62 ∨ i = 61 ∨ i = 60 ∨ i = 59 ∨ i = 58 ∨ i = 57 ∨ i = 56 ∨ i = 55 ∨ i = 54 ∨ i = 53 ∨ i = 52 ∨ i = 51 ∨ i = 50 ∨ i = 207 ∨ i = 206 ∨ i = 205 ∨ i = 204 ∨ i = 203 ∨ i = 202 ∨ i = 201 ∨ i = 200 ∨ i = 49 ∨ i = 48 ∨ i = 47 ∨ i = 46 ∨ i = 45 ∨ i = 44 ∨ i = 43 ∨ i = 42 ∨ i = 41 ∨ i = 40 ∨ i = 39 ∨ i = 38 ∨ i = 37 ∨ i = 36 ∨ i = 35 ∨ i = 34 ∨ i = 33 ∨ i = 32 ∨ i = 31) → τ334.1 i = τ.1 i := fun i h => by rw [haτ334 i (by omega)]; exact hAd i (by omega)
  refine W.widen (k := 47) (n := 8942) (by decide) (by decide) ?_
  refine zPutFR (D := D) (ci := 12) (ty := .array .int) (C := RX12) (T := TX12) (N := 71) hx hb hts hiX12 tyX12 tyX12_ok nmX12 hown hH hS ((hB.1 30 (by decide)).1.trans (by decide : zkt 30 = 28)) rfl 66 (by decide) rfl hw53 (fun _ h9 => h9) rfl hin rfl (by rw [((hB.1 69 (by decide)).1.trans (by decide : zkt 69 = 1))]; decide)  (by decide +kernel) rfl rfl dX12_init_397 (fun H locs hH hS => ?_)
  obtain ⟨g337, eg337⟩ : ∃ f9 : zFr, f9 = zur g336 30 66 (some 69) := ⟨_, rfl⟩
  rw [← eg337] at hH
  have hB := zBI.ref hB eg337 (by decide)
  refine lv_aload_n hx hb dX12_init_400 rfl (lv_at hl 0 rfl) ?_
  refine lv_sipush (v := nI 800) hx hb dX12_init_401 (by decide) ?_
  refine zNewa (D := D) (atype := .int) (t := 1) (N' := 800) hx hb hw3 rfl (by decide) (by decide) rfl hH hS hA 70 (hB.2.1 70 (by decide)).1 (by decide) (by decide) (by first | decide | (simp only [zT, componentBytes]; omega)) (Nat.le_of_ble_eq_true rfl) (Nat.le_of_ble_eq_true rfl) dX12_init_404 (fun q9 c9 H hH8 hS => ?_)
  obtain ⟨τ339, eτ339⟩ : ∃ t9 : zTy, t9 = (va_up τ334.1 70 q9, va_up τ334.2.1 70 c9, va_up τ334.2.2.1 70 1, va_up τ334.2.2.2 70 800) := ⟨_, rfl⟩
  obtain ⟨f340, ef340⟩ : ∃ f9 : zFi, f9 = va_up f335 70 (fun _ => 0) := ⟨_, rfl⟩
  obtain ⟨g341, eg341⟩ : ∃ f9 : zFr, f9 = va_up g337 70 (fun _ => none) := ⟨_, rfl⟩
  have hH : zH D A τ339 f340 g341 ol s H := by rw [eτ339, ef340, eg341]; exact hH8
  clear hH8
  have hqτ339 : τ339.1 70 = q9 := by rw [eτ339]; exact va_up_self τ334.1 70 q9
  have haτ339 : ∀ i, i ≠ 70 → τ339.1 i = τ334.1 i := fun i h => by rw [eτ339]; exact va_up_ne _ _ h
  have hkτ339 : τ339.2.2.1 70 = 1 := by rw [eτ339]; exact va_up_self τ334.2.2.1 70 1
  have hnτ339 : τ339.2.2.2 70 = 800 := by rw [eτ339]; exact va_up_self τ334.2.2.2 70 800
  have hbτ339 : ∀ i, i ≠ 70 → τ339.2.2.1 i = τ334.2.2.1 i ∧ τ339.2.2.2 i = τ334.2.2.2 i := fun i h => by rw [eτ339]; exact ⟨va_up_ne _ _ h, va_up_ne _ _ h⟩
  clear eτ339
  subst hqτ339
  rw [show τ334.1 30 = τ339.1 30 from (haτ339 30 (by omega)).symm] at hl
  refine W.eq (g2 := F0 m 406 ls [.ref (τ339.1 70), .ref (τ339.1 30)]) (by rw [haτ339 30 (by omega)]) ?_
  have hB := zBI.born (i := 70) hB (by decide) hkτ339 hnτ339 hbτ339 ef340 eg341 (by decide) (by decide)
  have hAd : ∀ i, ¬ (i = 70 ∨ i = 69 ∨ i = 68 ∨ i = 67 ∨ i = 66 ∨ i = 65 ∨ i = 64 ∨ i = 63 ∨ i = 62 ∨ i = 61 ∨ i = 60 ∨ i = 59 ∨ i = 58 ∨ i = 57 ∨ i = 56 ∨ i = 55 ∨ i = 54 ∨ i = 53 ∨ i = 52 ∨ i = 51 ∨ i = 50 ∨ i = 207 ∨ i = 206 ∨ i = 205 ∨ i = 204 ∨ i = 203 ∨ i = 202 ∨ i = 201 ∨ i = 200 ∨ i = 49 ∨ i = 48 ∨ i = 47 ∨ i = 46 ∨ i = 45 ∨ i = 44 ∨ i = 43 ∨ i = 42 ∨ i = 41 ∨ i = 40 ∨ i = 39 ∨ i = 38 ∨ i = 37 ∨ i = 36 ∨ i = 35 ∨ i = 34 ∨ i = 33 ∨ i = 32 ∨ i = 31) → τ339.1 i = τ.1 i := fun i h => by rw [haτ339 i (by omega)]; exact hAd i (by omega)
  refine W.widen (k := 48) (n := 9742) (by decide) (by decide) ?_
  refine zPutFR (D := D) (ci := 12) (ty := .array .int) (C := RX12) (T := TX12) (N := 71) hx hb hts hiX12 tyX12 tyX12_ok nmX12 hown hH hS ((hB.1 30 (by decide)).1.trans (by decide : zkt 30 = 28)) rfl 67 (by decide) rfl hw54 (fun _ h9 => h9) rfl hin rfl (by rw [((hB.1 70 (by decide)).1.trans (by decide : zkt 70 = 1))]; decide)  (by decide +kernel) rfl rfl dX12_init_406 (fun H locs hH hS => ?_)
  obtain ⟨g342, eg342⟩ : ∃ f9 : zFr, f9 = zur g341 30 67 (some 70) := ⟨_, rfl⟩
  rw [← eg342] at hH
  have hB := zBI.ref hB eg342 (by decide)
  refine lv_aload_n hx hb dX12_init_409 rfl (lv_at hl 0 rfl) ?_
  refine lv_bipush (v := nI 10) hx hb dX12_init_410 (by decide) ?_
  refine zNewa (D := D) (atype := .int) (t := 1) (N' := 10) hx hb hw3 rfl (by decide) (by decide) rfl hH hS hA 71 (hB.2.1 71 (by decide)).1 (by decide) (by decide) (by first | decide | (simp only [zT, componentBytes]; omega)) (Nat.le_of_ble_eq_true rfl) (Nat.le_of_ble_eq_true rfl) dX12_init_412 (fun q9 c9 H hH8 hS => ?_)
  obtain ⟨τ344, eτ344⟩ : ∃ t9 : zTy, t9 = (va_up τ339.1 71 q9, va_up τ339.2.1 71 c9, va_up τ339.2.2.1 71 1, va_up τ339.2.2.2 71 10) := ⟨_, rfl⟩
  obtain ⟨f345, ef345⟩ : ∃ f9 : zFi, f9 = va_up f340 71 (fun _ => 0) := ⟨_, rfl⟩
  obtain ⟨g346, eg346⟩ : ∃ f9 : zFr, f9 = va_up g342 71 (fun _ => none) := ⟨_, rfl⟩
  have hH : zH D A τ344 f345 g346 ol s H := by rw [eτ344, ef345, eg346]; exact hH8
  clear hH8
  have hqτ344 : τ344.1 71 = q9 := by rw [eτ344]; exact va_up_self τ339.1 71 q9
  have haτ344 : ∀ i, i ≠ 71 → τ344.1 i = τ339.1 i := fun i h => by rw [eτ344]; exact va_up_ne _ _ h
  have hkτ344 : τ344.2.2.1 71 = 1 := by rw [eτ344]; exact va_up_self τ339.2.2.1 71 1
  have hnτ344 : τ344.2.2.2 71 = 10 := by rw [eτ344]; exact va_up_self τ339.2.2.2 71 10
  have hbτ344 : ∀ i, i ≠ 71 → τ344.2.2.1 i = τ339.2.2.1 i ∧ τ344.2.2.2 i = τ339.2.2.2 i := fun i h => by rw [eτ344]; exact ⟨va_up_ne _ _ h, va_up_ne _ _ h⟩
  clear eτ344
  subst hqτ344
  rw [show τ339.1 30 = τ344.1 30 from (haτ344 30 (by omega)).symm] at hl
  refine W.eq (g2 := F0 m 414 ls [.ref (τ344.1 71), .ref (τ344.1 30)]) (by rw [haτ344 30 (by omega)]) ?_
  have hB := zBI.born (i := 71) hB (by decide) hkτ344 hnτ344 hbτ344 ef345 eg346 (by decide) (by decide)
  have hAd : ∀ i, ¬ (i = 71 ∨ i = 70 ∨ i = 69 ∨ i = 68 ∨ i = 67 ∨ i = 66 ∨ i = 65 ∨ i = 64 ∨ i = 63 ∨ i = 62 ∨ i = 61 ∨ i = 60 ∨ i = 59 ∨ i = 58 ∨ i = 57 ∨ i = 56 ∨ i = 55 ∨ i = 54 ∨ i = 53 ∨ i = 52 ∨ i = 51 ∨ i = 50 ∨ i = 207 ∨ i = 206 ∨ i = 205 ∨ i = 204 ∨ i = 203 ∨ i = 202 ∨ i = 201 ∨ i = 200 ∨ i = 49 ∨ i = 48 ∨ i = 47 ∨ i = 46 ∨ i = 45 ∨ i = 44 ∨ i = 43 ∨ i = 42 ∨ i = 41 ∨ i = 40 ∨ i = 39 ∨ i = 38 ∨ i = 37 ∨ i = 36 ∨ i = 35 ∨ i = 34 ∨ i = 33 ∨ i = 32 ∨ i = 31) → τ344.1 i = τ.1 i := fun i h => by rw [haτ344 i (by omega)]; exact hAd i (by omega)
  refine W.widen (k := 49) (n := 9752) (by decide) (by decide) ?_
  refine zPutFR (D := D) (ci := 12) (ty := .array .int) (C := RX12) (T := TX12) (N := 71) hx hb hts hiX12 tyX12 tyX12_ok nmX12 hown hH hS ((hB.1 30 (by decide)).1.trans (by decide : zkt 30 = 28)) rfl 69 (by decide) rfl hw55 (fun _ h9 => h9) rfl hin rfl (by rw [((hB.1 71 (by decide)).1.trans (by decide : zkt 71 = 1))]; decide)  (by decide +kernel) rfl rfl dX12_init_414 (fun H locs hH hS => ?_)
  obtain ⟨g347, eg347⟩ : ∃ f9 : zFr, f9 = zur g346 30 69 (some 71) := ⟨_, rfl⟩
  rw [← eg347] at hH
  have hB := zBI.ref hB eg347 (by decide)
  refine lv_aload_n hx hb dX12_init_417 rfl (lv_at hl 0 rfl) ?_
  refine lv_sipush (v := nI 10240) hx hb dX12_init_418 (by decide) ?_
  refine zNewa (D := D) (atype := .int) (t := 1) (N' := 10240) hx hb hw3 rfl (by decide) (by decide) rfl hH hS hA 72 (hB.2.1 72 (by decide)).1 (by decide) (by decide) (by first | decide | (simp only [zT, componentBytes]; omega)) (Nat.le_of_ble_eq_true rfl) (Nat.le_of_ble_eq_true rfl) dX12_init_421 (fun q9 c9 H hH8 hS => ?_)
  obtain ⟨τ349, eτ349⟩ : ∃ t9 : zTy, t9 = (va_up τ344.1 72 q9, va_up τ344.2.1 72 c9, va_up τ344.2.2.1 72 1, va_up τ344.2.2.2 72 10240) := ⟨_, rfl⟩
  obtain ⟨f350, ef350⟩ : ∃ f9 : zFi, f9 = va_up f345 72 (fun _ => 0) := ⟨_, rfl⟩
  obtain ⟨g351, eg351⟩ : ∃ f9 : zFr, f9 = va_up g347 72 (fun _ => none) := ⟨_, rfl⟩
  have hH : zH D A τ349 f350 g351 ol s H := by rw [eτ349, ef350, eg351]; exact hH8
  clear hH8
  have hqτ349 : τ349.1 72 = q9 := by rw [eτ349]; exact va_up_self τ344.1 72 q9
  have haτ349 : ∀ i, i ≠ 72 → τ349.1 i = τ344.1 i := fun i h => by rw [eτ349]; exact va_up_ne _ _ h
  have hkτ349 : τ349.2.2.1 72 = 1 := by rw [eτ349]; exact va_up_self τ344.2.2.1 72 1
  have hnτ349 : τ349.2.2.2 72 = 10240 := by rw [eτ349]; exact va_up_self τ344.2.2.2 72 10240
  have hbτ349 : ∀ i, i ≠ 72 → τ349.2.2.1 i = τ344.2.2.1 i ∧ τ349.2.2.2 i = τ344.2.2.2 i := fun i h => by rw [eτ349]; exact ⟨va_up_ne _ _ h, va_up_ne _ _ h⟩
  clear eτ349
  subst hqτ349
  rw [show τ344.1 30 = τ349.1 30 from (haτ349 30 (by omega)).symm] at hl
  refine W.eq (g2 := F0 m 423 ls [.ref (τ349.1 72), .ref (τ349.1 30)]) (by rw [haτ349 30 (by omega)]) ?_
  have hB := zBI.born (i := 72) hB (by decide) hkτ349 hnτ349 hbτ349 ef350 eg351 (by decide) (by decide)
  have hAd : ∀ i, ¬ (i = 72 ∨ i = 71 ∨ i = 70 ∨ i = 69 ∨ i = 68 ∨ i = 67 ∨ i = 66 ∨ i = 65 ∨ i = 64 ∨ i = 63 ∨ i = 62 ∨ i = 61 ∨ i = 60 ∨ i = 59 ∨ i = 58 ∨ i = 57 ∨ i = 56 ∨ i = 55 ∨ i = 54 ∨ i = 53 ∨ i = 52 ∨ i = 51 ∨ i = 50 ∨ i = 207 ∨ i = 206 ∨ i = 205 ∨ i = 204 ∨ i = 203 ∨ i = 202 ∨ i = 201 ∨ i = 200 ∨ i = 49 ∨ i = 48 ∨ i = 47 ∨ i = 46 ∨ i = 45 ∨ i = 44 ∨ i = 43 ∨ i = 42 ∨ i = 41 ∨ i = 40 ∨ i = 39 ∨ i = 38 ∨ i = 37 ∨ i = 36 ∨ i = 35 ∨ i = 34 ∨ i = 33 ∨ i = 32 ∨ i = 31) → τ349.1 i = τ.1 i := fun i h => by rw [haτ349 i (by omega)]; exact hAd i (by omega)
  refine W.widen (k := 50) (n := 19992) (by decide) (by decide) ?_
  refine zPutFR (D := D) (ci := 12) (ty := .array .int) (C := RX12) (T := TX12) (N := 71) hx hb hts hiX12 tyX12 tyX12_ok nmX12 hown hH hS ((hB.1 30 (by decide)).1.trans (by decide : zkt 30 = 28)) rfl 70 (by decide) rfl hw56 (fun _ h9 => h9) rfl hin rfl (by rw [((hB.1 72 (by decide)).1.trans (by decide : zkt 72 = 1))]; decide)  (by decide +kernel) rfl rfl dX12_init_423 (fun H locs hH hS => ?_)
  obtain ⟨g352, eg352⟩ : ∃ f9 : zFr, f9 = zur g351 30 70 (some 72) := ⟨_, rfl⟩
  rw [← eg352] at hH
  have hB := zBI.ref hB eg352 (by decide)
  refine lv_aload_n hx hb dX12_init_426 rfl (lv_at hl 0 rfl) ?_
  refine zGetR (D := D) (ci := 12) (C := RX12) (T := TX12) (N := 71) hx hb hts hiX12 hown hH ((hB.1 30 (by decide)).1.trans (by decide : zkt 30 = 28)) rfl 17 (by decide) rfl hw18 (fun _ h9 => h9) dX12_init_427 (hB.2.2.1 (30, 17, 44) (by decide)) ?_
  refine lv_iconst (v := nI 0) hx hb dX12_init_430 (by decide) ?_
  refine lv_bipush (v := nI 10) hx hb dX12_init_431 (by decide) ?_
  refine zIastN (D := D) hx hb hH hS ((hB.1 44 (by decide)).1.trans (by decide : zkt 44 = 1)) ((hB.1 44 (by decide)).2.trans (by decide : zkn 44 = 4)) (by omega) (by omega) dX12_init_433 (fun H locs hH hS => ?_)
  obtain ⟨f354, ef354⟩ : ∃ f9 : zFi, f9 = zu f350 44 0 (nI 10) := ⟨_, rfl⟩
  rw [← ef354] at hH
  have q355 : f354 44 0 = nI 10 := by rw [ef354]; exact zu_s
  have hB := zBI.int hB ef354 (by unfold zXc; omega)
  refine lv_aload_n hx hb dX12_init_434 rfl (lv_at hl 0 rfl) ?_
  refine zGetR (D := D) (ci := 12) (C := RX12) (T := TX12) (N := 71) hx hb hts hiX12 hown hH ((hB.1 30 (by decide)).1.trans (by decide : zkt 30 = 28)) rfl 17 (by decide) rfl hw18 (fun _ h9 => h9) dX12_init_435 (hB.2.2.1 (30, 17, 44) (by decide)) ?_
  refine lv_iconst (v := nI 1) hx hb dX12_init_438 (by decide) ?_
  refine lv_bipush (v := nI 50) hx hb dX12_init_439 (by decide) ?_
  refine zIastN (D := D) hx hb hH hS ((hB.1 44 (by decide)).1.trans (by decide : zkt 44 = 1)) ((hB.1 44 (by decide)).2.trans (by decide : zkn 44 = 4)) (by omega) (by omega) dX12_init_441 (fun H locs hH hS => ?_)
  obtain ⟨f356, ef356⟩ : ∃ f9 : zFi, f9 = zu f354 44 1 (nI 50) := ⟨_, rfl⟩
  rw [← ef356] at hH
  have q357 : f356 44 0 = nI 10 := by rw [ef356, zu_n (fun h9 => absurd h9.2 (by decide))]; exact q355
  have q358 : f356 44 1 = nI 50 := by rw [ef356]; exact zu_s
  have hB := zBI.int hB ef356 (by unfold zXc; omega)
  refine lv_aload_n hx hb dX12_init_442 rfl (lv_at hl 0 rfl) ?_
  refine zGetR (D := D) (ci := 12) (C := RX12) (T := TX12) (N := 71) hx hb hts hiX12 hown hH ((hB.1 30 (by decide)).1.trans (by decide : zkt 30 = 28)) rfl 17 (by decide) rfl hw18 (fun _ h9 => h9) dX12_init_443 (hB.2.2.1 (30, 17, 44) (by decide)) ?_
  refine lv_iconst (v := nI 2) hx hb dX12_init_446 (by decide) ?_
  refine lv_sipush (v := nI 10000) hx hb dX12_init_447 (by decide) ?_
  refine zIastN (D := D) hx hb hH hS ((hB.1 44 (by decide)).1.trans (by decide : zkt 44 = 1)) ((hB.1 44 (by decide)).2.trans (by decide : zkn 44 = 4)) (by omega) (by omega) dX12_init_450 (fun H locs hH hS => ?_)
  obtain ⟨f359, ef359⟩ : ∃ f9 : zFi, f9 = zu f356 44 2 (nI 10000) := ⟨_, rfl⟩
  rw [← ef359] at hH
  have q360 : f359 44 0 = nI 10 := by rw [ef359, zu_n (fun h9 => absurd h9.2 (by decide))]; exact q357
  have q361 : f359 44 1 = nI 50 := by rw [ef359, zu_n (fun h9 => absurd h9.2 (by decide))]; exact q358
  have q362 : f359 44 2 = nI 10000 := by rw [ef359]; exact zu_s
  have hB := zBI.int hB ef359 (by unfold zXc; omega)
  refine lv_aload_n hx hb dX12_init_451 rfl (lv_at hl 0 rfl) ?_
  refine zGetR (D := D) (ci := 12) (C := RX12) (T := TX12) (N := 71) hx hb hts hiX12 hown hH ((hB.1 30 (by decide)).1.trans (by decide : zkt 30 = 28)) rfl 17 (by decide) rfl hw18 (fun _ h9 => h9) dX12_init_452 (hB.2.2.1 (30, 17, 44) (by decide)) ?_
  refine lv_iconst (v := nI 3) hx hb dX12_init_455 (by decide) ?_
  refine lv_bipush (v := nI 14) hx hb dX12_init_456 (by decide) ?_
  refine zIastN (D := D) hx hb hH hS ((hB.1 44 (by decide)).1.trans (by decide : zkt 44 = 1)) ((hB.1 44 (by decide)).2.trans (by decide : zkn 44 = 4)) (by omega) (by omega) dX12_init_458 (fun H locs hH hS => ?_)
  obtain ⟨f363, ef363⟩ : ∃ f9 : zFi, f9 = zu f359 44 3 (nI 14) := ⟨_, rfl⟩
  rw [← ef363] at hH
  have q364 : f363 44 0 = nI 10 := by rw [ef363, zu_n (fun h9 => absurd h9.2 (by decide))]; exact q360
  have q365 : f363 44 1 = nI 50 := by rw [ef363, zu_n (fun h9 => absurd h9.2 (by decide))]; exact q361
  have q366 : f363 44 2 = nI 10000 := by rw [ef363, zu_n (fun h9 => absurd h9.2 (by decide))]; exact q362
  have q367 : f363 44 3 = nI 14 := by rw [ef363]; exact zu_s
  have hB := zBI.int hB ef363 (by unfold zXc; omega)
  refine lv_iconst (v := nI 0) hx hb dX12_init_459 (by decide) ?_
  refine lv_istore_n (lv' := [(1, .int (nI 0)), (0, .ref (τ349.1 30))]) hx hb dX12_init_460 rfl hl (by decide) rfl (fun ls hl => ?_)
  refine zLp (σ := Nat × zFi) (fun x9 k9 H locs ls => (fun (i : Nat) (f : zFi) => k9 = 30 - i ∧ (i ≤ 30 ∧ (∀ t, t < i → f 40 t = -1) ∧ ∀ a k, ¬ zXc a k → f a k = 0) ∧ zH D A τ349 f g352 ol s H ∧ va_S A s.heap H locs ∧ lv_has ls 2 [(0, .ref (τ349.1 30)), (1, .int (nI i))]) x9.1 x9.2) (0, f363) (30 - 0) (show 30 - 0 = 30 - 0 ∧ (0 ≤ 30 ∧ (∀ t, t < 0 → f363 40 t = -1) ∧ ∀ a k, ¬ zXc a k → f363 a k = 0) ∧ zH D A τ349 f363 g352 ol s _ ∧ va_S A s.heap _ _ ∧ lv_has _ 2 [(0, .ref (τ349.1 30)), (1, .int (nI 0))] from ⟨rfl, ⟨Nat.zero_le _, fun t h => absurd h (by omega), hB.2.2.2⟩, hH, hS, lv_sub hl [1, 0] rfl⟩) (fun k9 ih x9 H locs ls hv9 => ?_)
  obtain ⟨i, f⟩ := x9
  have hv9 : k9 = 30 - i ∧ (i ≤ 30 ∧ (∀ t, t < i → f 40 t = -1) ∧ ∀ a k, ¬ zXc a k → f a k = 0) ∧ zH D A τ349 f g352 ol s H ∧ va_S A s.heap H locs ∧ lv_has ls 2 [(0, .ref (τ349.1 30)), (1, .int (nI i))] := hv9
  obtain ⟨hkih368, hv9, hH, hS, hl⟩ := hv9
  obtain ⟨h1, hOt, hz0⟩ := hv9
  have ih368 := ih
  clear ih
  have hB := zBI.mk0 hB hz0
  refine lv_iload_n hx hb dX12_init_461 rfl (lv_at hl 1 rfl) ?_
  refine lv_bipush (v := nI 30) hx hb dX12_init_462 (by decide) ?_
  refine lv_icmp_ge (tgt := 480) hx hb dX12_init_464 (by decide) (fun c369 => ?_) (fun c369 => ?_)
  · have zc369 := c369
    replace zc369 := zc_le (nI_toInt (by omega)) (nI_toInt (by omega)) zc369
    have hOt : ∀ t, t < 30 → f 40 t = -1 := fun t h => hOt t (by omega)
    refine W.widen (k := 50) (n := 19992) (by decide) (by decide) ?_
    exact W.vret hx hb hr (fun t9 ht9 hW9 => ⟨⟨(τ349, f, g352), rfl, (show zBI τ349 f g352 [72, 71, 70, 69, 68, 67, 66, 65, 64, 63, 62, 61, 60, 59, 58, 57, 56, 55, 54, 53, 52, 51, 50, 207, 206, 205, 204, 203, 202, 201, 200, 49, 48, 47, 46, 45, 44, 43, 42, 41, 40, 39, 38, 37, 36, 35, 34, 33, 32, 31, 30, 27, 26, 25, 24, 23, 22, 21, 20, 19, 18, 17, 16, 15, 14, 13, 12, 11, 10, 9, 8, 7, 6, 5, 4, 3, 2, 1, 0] [(30, 70, 72), (30, 69, 71), (30, 67, 70), (30, 66, 69), (30, 65, 68), (30, 64, 67), (30, 63, 66), (30, 62, 65), (30, 60, 64), (30, 59, 63), (30, 58, 62), (30, 57, 61), (30, 56, 60), (30, 55, 59), (30, 54, 58), (30, 53, 57), (30, 52, 56), (30, 51, 55), (30, 50, 54), (30, 49, 53), (30, 48, 52), (30, 47, 51), (30, 46, 50), (30, 44, 207), (30, 43, 206), (30, 42, 205), (30, 41, 204), (30, 40, 203), (30, 39, 202), (30, 38, 201), (30, 37, 200), (30, 28, 49), (30, 27, 48), (30, 20, 47), (30, 19, 46), (30, 18, 45), (30, 17, 44), (30, 16, 43), (30, 15, 42), (30, 14, 41), (30, 12, 40), (30, 11, 39), (30, 10, 38), (30, 9, 37), (30, 8, 36), (30, 7, 35), (30, 6, 34), (30, 5, 33), (30, 4, 32), (30, 3, 31), (0, 9, 22), (22, 5, 27), (22, 4, 26), (22, 3, 25), (22, 2, 24), (22, 0, 23), (0, 8, 18), (18, 2, 21), (18, 1, 20), (18, 0, 19), (0, 7, 17), (0, 6, 16), (0, 5, 15), (0, 4, 12), (12, 1, 14), (12, 0, 13), (0, 3, 9), (9, 1, 11), (9, 0, 10), (0, 2, 5), (5, 2, 8), (5, 1, 7), (5, 0, 6), (0, 1, 3), (3, 0, 4), (0, 0, 1), (1, 0, 2)] ∧ (∀ i, ¬ (i = 72 ∨ i = 71 ∨ i = 70 ∨ i = 69 ∨ i = 68 ∨ i = 67 ∨ i = 66 ∨ i = 65 ∨ i = 64 ∨ i = 63 ∨ i = 62 ∨ i = 61 ∨ i = 60 ∨ i = 59 ∨ i = 58 ∨ i = 57 ∨ i = 56 ∨ i = 55 ∨ i = 54 ∨ i = 53 ∨ i = 52 ∨ i = 51 ∨ i = 50 ∨ i = 207 ∨ i = 206 ∨ i = 205 ∨ i = 204 ∨ i = 203 ∨ i = 202 ∨ i = 201 ∨ i = 200 ∨ i = 49 ∨ i = 48 ∨ i = 47 ∨ i = 46 ∨ i = 45 ∨ i = 44 ∨ i = 43 ∨ i = 42 ∨ i = 41 ∨ i = 40 ∨ i = 39 ∨ i = 38 ∨ i = 37 ∨ i = 36 ∨ i = 35 ∨ i = 34 ∨ i = 33 ∨ i = 32 ∨ i = 31) → τ349.1 i = τ.1 i) ∧ ∀ t, t < 30 → f 40 t = -1 from ⟨hB, hAd, hOt⟩), zEnd1 hH ht9 hW9⟩, hS.F ht9⟩) hS.2.2 dX12_init_480
  · have zc369 := c369
    replace zc369 := zc_nle (nI_toInt (by omega)) (nI_toInt (by omega)) zc369
    refine lv_aload_n hx hb dX12_init_467 rfl (lv_at hl 0 rfl) ?_
    refine zGetR (D := D) (ci := 12) (C := RX12) (T := TX12) (N := 71) hx hb hts hiX12 hown hH ((hB.1 30 (by decide)).1.trans (by decide : zkt 30 = 28)) rfl 12 (by decide) rfl hw14 (fun _ h9 => h9) dX12_init_468 (hB.2.2.1 (30, 12, 40) (by decide)) ?_
    refine lv_iload_n hx hb dX12_init_471 rfl (lv_at hl 1 rfl) ?_
    refine lv_iconst (v := (-1)) hx hb dX12_init_472 (by decide) ?_
    refine zIastN (D := D) hx hb hH hS ((hB.1 40 (by decide)).1.trans (by decide : zkt 40 = 1)) ((hB.1 40 (by decide)).2.trans (by decide : zkn 40 = 30)) (by omega) (by omega) dX12_init_473 (fun H locs hH hS => ?_)
    obtain ⟨f370, ef370⟩ : ∃ f9 : zFi, f9 = zu f 40 i ((-1)) := ⟨_, rfl⟩
    rw [← ef370] at hH
    have q371 : f370 40 i = (-1) := by rw [ef370]; exact zu_s
    have hB := zBI.int hB ef370 (by unfold zXc; omega)
    refine lv_iinc (v := nI (i + 1)) (lv' := [(1, .int (nI (i + 1))), (0, .ref (τ349.1 30))]) hx hb dX12_init_474 hl (k := 1) rfl (by rw [show (Int32.ofInt 1 : Int32) = nI 1 from by decide, nI_add]) (by decide) rfl (fun ls hl => ?_)
    refine lv_goto (tgt := 461) hx hb dX12_init_477 (by decide) ?_
    exact ih368 (30 - (i + 1)) (by omega) (i + 1, f370) _ _ _ (show 30 - (i + 1) = 30 - (i + 1) ∧ ((i + 1) ≤ 30 ∧ (∀ t, t < (i + 1) → f370 40 t = -1) ∧ ∀ a k, ¬ zXc a k → f370 a k = 0) ∧ zH D A τ349 f370 g352 ol s _ ∧ va_S A s.heap _ _ ∧ lv_has _ 2 [(0, .ref (τ349.1 30)), (1, .int (nI (i + 1)))] from ⟨rfl, ⟨by omega, fun t h => by by_cases h7 : t = i; (subst h7; rw [ef370, zu_s]); (rw [ef370, zu_n (by omega)]; exact hOt t (by omega)), hB.2.2.2⟩, hH, hS, lv_sub hl [1, 0] rfl⟩)
