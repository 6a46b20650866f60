section ZCUTC
variable {p : Program} {l : Launch} {e : Env} {R : Room} {s : State} {m : MethodId} {args : Array Value} {below : List Frame} {meth : Method} {c : Code} {Q : State → Prop} {cells slots : Nat} {H0 : Heap} {locs0 : List Loc} {g : JFrame}
/-- a place at which several ways meet, with room of its own -/
theorem zCutC {σ : Type} {c2 s2 : Nat} (J : Nat) (st : σ → List Value) (I : σ → Heap → List Loc → Array Slot → Prop) (hc : ∀ (x : σ) (H : Heap) (locs : List Loc) (ls : Array Slot), I x H locs ls → W p l e R s m args below meth c H locs c2 s2 Q (F0 m J ls (st x)))
    (k : (∀ (x : σ) (H : Heap) (locs : List Loc) (ls : Array Slot), I x H locs ls → W p l e R s m args below meth c H locs c2 s2 Q (F0 m J ls (st x))) → W p l e R s m args below meth c H0 locs0 cells slots Q g) : W p l e R s m args below meth c H0 locs0 cells slots Q g := k hc
end ZCUTC
theorem zFR_30 : ∀ q ∈ zFR, ¬ (q.1 = 30 ∧ 37 ≤ q.2.1 ∧ q.2.1 ≤ 44) := by decide
theorem zFix.ur30 {τ : zTy} {fr : zFr} {k : Nat} {v : Option Nat} (h : zFix τ fr) (hk : 37 ≤ k ∧ k ≤ 44) : zFix τ (zur fr 30 k v) := by
  refine ⟨h.1, h.2.1, fun q hq => ?_⟩
  have := zFR_30 q hq
  rw [zur_n (fun e => by omega)]
  exact h.2.2 q hq
/-- the doubts' arrays grow, one after the other: m of them are done -/
def zGp (τ : zTy) (fi : zFi) (fr : zFr) (g Ln m : Nat) (τ' : zTy) (fi' : zFi) (fr' : zFr) : Prop :=
  (∀ i, ¬ (210 + 10 * g ≤ i ∧ i < 210 + 10 * g + m) → τ'.1 i = τ.1 i ∧ τ'.2.2.1 i = τ.2.2.1 i ∧ τ'.2.2.2 i = τ.2.2.2 i) ∧
  (∀ j, j < m → τ'.2.2.1 (210 + 10 * g + j) = (if j = 0 then 3 else 1) ∧ τ'.2.2.2 (210 + 10 * g + j) = (if j < 6 then 2 * Ln else 16 * Ln)) ∧
  (∀ i k, ¬ (210 + 10 * g ≤ i ∧ i < 210 + 10 * g + m) → fi' i k = fi i k) ∧
  (∀ j, 1 ≤ j → j < m → ∀ k, k < (if j < 6 then Ln else 8 * Ln) → fi' (210 + 10 * g + j) k = fi (200 + 10 * g + j) k) ∧
  (∀ i k, ¬ (210 + 10 * g ≤ i ∧ i < 210 + 10 * g + m) → ¬ (i = 30 ∧ 37 ≤ k ∧ k < 37 + m) → fr' i k = fr i k) ∧
  (∀ j, j < m → fr' 30 (37 + j) = some (210 + 10 * g + j)) ∧ zFix τ' fr'
theorem zGp.first {τ τ1 : zTy} {fi f1 : zFi} {fr g1 g2 : zFr} {g Ln ib : Nat} (hib : ib = 210 + 10 * g) (ha : ∀ i, i ≠ ib → τ1.1 i = τ.1 i) (hb : ∀ i, i ≠ ib → τ1.2.2.1 i = τ.2.2.1 i ∧ τ1.2.2.2 i = τ.2.2.2 i) (hk : τ1.2.2.1 ib = 3) (hn : τ1.2.2.2 ib = 2 * Ln) (hf : ∀ i k, i ≠ ib → f1 i k = fi i k) (eg : g1 = va_up fr ib (fun _ => none)) (e2 : g2 = zur g1 30 37 (some ib)) (hF : zFix τ1 g2) : zGp τ fi fr g Ln 1 τ1 f1 g2 := by
  subst hib
  refine ⟨fun i h => ⟨ha i (by omega), (hb i (by omega)).1, (hb i (by omega)).2⟩, fun j hj => ?_, fun i k h => hf i k (by omega), fun j h1 h2 => absurd h1 (by omega), fun i k h h2 => by rw [e2, zur_n (by omega), eg, va_up_ne _ _ (by omega)], fun j hj => ?_, hF⟩
  · obtain rfl : j = 0 := by omega
    exact ⟨by rw [if_pos rfl]; exact hk, by rw [if_pos (by omega)]; exact hn⟩
  · obtain rfl : j = 0 := by omega
    rw [e2]; exact zur_s
theorem zGp.step {τ τ1 τ2 : zTy} {fi f1 f2 : zFi} {fr g1 g2 g3 : zFr} {g Ln m ia ib N : Nat} (h : zGp τ fi fr g Ln m τ1 f1 g1) (hm : 1 ≤ m) (hm8 : m < 8) (hia : ia = 200 + 10 * g + m) (hib : ib = 210 + 10 * g + m) (hN : N = if m < 6 then Ln else 8 * Ln)
    (hw : (∀ i, i ≠ ib → τ2.1 i = τ1.1 i ∧ τ2.2.2.1 i = τ1.2.2.1 i ∧ τ2.2.2.2 i = τ1.2.2.2 i) ∧ (τ2.2.2.1 ib = 1 ∧ τ2.2.2.2 ib = 2 * N) ∧ zFix τ2 g2 ∧ (∀ i k, i ≠ ib → f2 i k = f1 i k) ∧ (∀ i k, i ≠ ib → g2 i k = g1 i k) ∧ (∀ k, g2 ib k = none) ∧ ∀ k, k < N → f2 ib k = f1 ia k) {kk : Nat} (hkk : kk = 37 + m) (e3 : g3 = zur g2 30 kk (some ib)) (hF : zFix τ2 g3) : zGp τ fi fr g Ln (m + 1) τ2 f2 g3 := by
  obtain ⟨h1, h2, h3, h4, h5, h6, h7⟩ := h
  obtain ⟨w1, w2, w3, w4, w5, w6, w7⟩ := hw
  subst hia hib hkk
  refine ⟨fun i hi => ?_, fun j hj => ?_, fun i k hi => ?_, fun j q1 q2 k hk => ?_, fun i k q1 q2 => ?_, fun j hj => ?_, hF⟩
  · obtain ⟨a, b, c⟩ := w1 i (by omega)
    obtain ⟨a1, b1, c1⟩ := h1 i (by omega)
    exact ⟨by rw [a, a1], by rw [b, b1], by rw [c, c1]⟩
  · by_cases hjm : j = m
    · subst hjm
      rw [if_neg (by omega)]
      refine ⟨w2.1, ?_⟩
      rw [w2.2, hN]
      by_cases h66 : j < 6
      · rw [if_pos h66, if_pos h66]
      · rw [if_neg h66, if_neg h66]; omega
    · obtain ⟨a, b⟩ := h2 j (by omega)
      exact ⟨by rw [(w1 _ (by omega)).2.1]; exact a, by rw [(w1 _ (by omega)).2.2]; exact b⟩
  · rw [w4 i k (by omega)]; exact h3 i k (by omega)
  · by_cases hjm : j = m
    · subst hjm
      rw [w7 k (by rw [hN]; exact hk)]
      exact h3 _ _ (by omega)
    · rw [w4 _ _ (by omega)]; exact h4 j q1 (by omega) k hk
  · rw [e3, zur_n (by omega), w5 i k (by omega)]; exact h5 i k (by omega) (by omega)
  · by_cases hjm : j = m
    · subst hjm; rw [e3]; exact zur_s
    · rw [e3, zur_n (by omega), w5 _ _ (by omega)]; exact h6 j (by omega)
/-- the frame of all that letter changes in the reference's cells -/
def zGz (τ : zTy) (fr : zFr) (τ' : zTy) (fr' : zFr) : Prop :=
  (∀ i, ¬ (200 ≤ i ∧ i < 240) → τ'.1 i = τ.1 i ∧ τ'.2.2.1 i = τ.2.2.1 i ∧ τ'.2.2.2 i = τ.2.2.2 i) ∧ ((∀ i k, ¬ (200 ≤ i ∧ i < 240) → ¬ (i = 30 ∧ 37 ≤ k ∧ k ≤ 44) → fr' i k = fr i k) ∧ ∀ i, τ'.2.2.1 i = τ.2.2.1 i ∨ τ'.2.2.1 i = 3 ∨ τ'.2.2.1 i = 1) ∧ zFix τ' fr'
theorem zGz.rf {τ : zTy} {fr : zFr} (h : zFix τ fr) : zGz τ fr τ fr := ⟨fun _ _ => ⟨rfl, rfl, rfl⟩, ⟨fun _ _ _ _ => rfl, fun _ => Or.inl rfl⟩, h⟩
theorem zGp.done {τ τ' : zTy} {fi fi' : zFi} {fr fr' : zFr} {g Ln : Nat} (hq : zMq τ fi fr g Ln Ln) (hg : g < 3) (h : zGp τ fi fr g Ln 8 τ' fi' fr') : zMq τ' fi' fr' (g + 1) (2 * Ln) Ln ∧ zGz τ fr τ' fr' ∧ ∀ i k, ¬ (200 ≤ i ∧ i < 240) → fi' i k = fi i k := by
  obtain ⟨h1, h2, h3, h4, h5, h6, h7⟩ := h
  obtain ⟨q1, q2, q3, q4, q5, q6, q7⟩ := hq
  have e : ∀ j, 200 + j + 10 * (g + 1) = 210 + 10 * g + j := fun j => by omega
  have K : ∀ j, j < 8 → τ'.2.2.1 (200 + j + 10 * (g + 1)) = (if j = 0 then 3 else 1) ∧ τ'.2.2.2 (200 + j + 10 * (g + 1)) = (if j < 6 then 2 * Ln else 16 * Ln) := fun j hj => by rw [e j]; exact h2 j hj
  have e8 : 8 * (2 * Ln) = 16 * Ln := by omega
  have R : ∀ j, j < 8 → fr' 30 (37 + j) = some (200 + j + 10 * (g + 1)) := fun j hj => by rw [e j]; exact h6 j hj
  refine ⟨⟨by omega, by omega, by rw [h3 30 35 (by omega)]; exact q3, ?_, ?_, fun k hk => ?_, fun k k1 k2 j hj => ?_⟩, ⟨fun i hi => h1 i (by omega), ⟨fun i k a b => h5 i k (by omega) (by omega), fun i => ?_⟩, h7⟩, fun i k hi => h3 i k (by omega)⟩
  · rw [e8]
    exact ⟨K 0 (by omega), K 1 (by omega), K 2 (by omega), K 3 (by omega), K 4 (by omega), K 5 (by omega), K 6 (by omega), K 7 (by omega)⟩
  · exact ⟨R 0 (by omega), R 1 (by omega), R 2 (by omega), R 3 (by omega), R 4 (by omega), R 5 (by omega), R 6 (by omega), R 7 (by omega)⟩
  · obtain ⟨c, a1, a2, a3⟩ := q6 k hk
    refine ⟨c, a1, ?_, fun j hj => ?_⟩
    · rw [show 202 + 10 * (g + 1) = 210 + 10 * g + 2 by omega, h4 2 (by omega) (by omega) k (by rw [if_pos (by omega)]; exact hk), show 200 + 10 * g + 2 = 202 + 10 * g by omega]
      exact a2
    · rw [show 207 + 10 * (g + 1) = 210 + 10 * g + 7 by omega, h4 7 (by omega) (by omega) (8 * k + j) (by rw [if_neg (by omega)]; omega), show 200 + 10 * g + 7 = 207 + 10 * g by omega]
      exact a3 j hj
  · rw [(h1 _ (by omega)).2.1]
    exact q7 k (by omega) k2 j hj
  · by_cases hi : 210 + 10 * g ≤ i ∧ i < 210 + 10 * g + 8
    · have h9 := (h2 (i - (210 + 10 * g)) (by omega)).1
      rw [show 210 + 10 * g + (i - (210 + 10 * g)) = i by omega] at h9
      by_cases hz : i - (210 + 10 * g) = 0
      · rw [if_pos hz] at h9; exact Or.inr (Or.inl h9)
      · rw [if_neg hz] at h9; exact Or.inr (Or.inr h9)
    · exact Or.inl (h1 i hi).2.1
set_option maxHeartbeats 4000000 in
set_option maxRecDepth 100000 in
/-- grow -/
theorem m_grow_0 (l : Launch) (hl0 : l.stackTraces = false) (D : va_G) (A : Nat → Prop) (sad : Nat → Nat) (τ : zTy) (fi : zFi) (fr : zFr) (ol : Int64) (hF : zFix τ fr) (hMq : zMq τ fi fr 0 64 64) : Met l yX12_grow wsX12_grow ({ frames := 1, cells := 8, slots := 2816, locals := 22 }) (va_Pc [.ref (τ.1 30)] (zQc D A sad τ fi fr ol)) (va_Qv (fun (u : zTy × zFi × zFr) => zMq u.1 u.2.1 u.2.2 1 128 64 ∧ zGz τ fr u.1 u.2.2 ∧ ∀ i k, ¬ (200 ≤ i ∧ i < 240) → u.2.1 i k = fi i k) (fun (u : zTy × zFi × zFr) (t : State) => zH D A u.1 u.2.1 u.2.2 ol t t.heap) A) 8 2816 A := by
  refine Met.ofW (cc := cX12_grow) (maxL := 3) (ret := none) (by decide) rfl ?_
  intro p9 e9 s m args below meth c9 s₁ B hml hv
  obtain ⟨rfl, hz, hH, hA⟩ := hv
  have hx := B.exec
  have hb := B.bytes
  have hr := B.returns
  have hts := atoms_spec (ws := wsX12_grow) B.pre
  have hown : s.vm.findClass RX12 = some m.cls := findClass_of_methodNamed B.named
  have hlocks := B.notSynchronized
  have hS : va_S A s.heap s.heap [] := va_S.rf
  have hl := lv_entry ([.ref (τ.1 30)]) (n := 3) (Nat.le_of_ble_eq_true rfl)
  rw [lg_entry_eq]
  generalize (lg_sl ([.ref (τ.1 30)]) ++ List.replicate (3 - (lg_sl ([.ref (τ.1 30)])).length) Slot.unset).toArray = ls at hl ⊢
  have hl : lv_has ls 3 [(0, .ref (τ.1 30))] := hl
  have hMq0 := hMq
  obtain ⟨-, -, h35, ⟨⟨k0, l0⟩, ⟨k1, l1⟩, ⟨k2, l2⟩, ⟨k3, l3⟩, ⟨k4, l4⟩, ⟨k5, l5⟩, ⟨k6, l6⟩, ⟨k7, l7⟩⟩, ⟨r0, r1, r2, r3, r4, r5, r6, r7⟩, -, hvd⟩ := hMq
  have k0 : τ.2.2.1 200 = 3 := k0
  have l0 : τ.2.2.2 200 = 64 := l0
  have r0 : fr 30 37 = some 200 := r0
  have v0 : τ.2.2.1 210 = 0 := hvd 1 (by omega) (by omega) 0 (by omega)
  have k1 : τ.2.2.1 201 = 1 := k1
  have l1 : τ.2.2.2 201 = 64 := l1
  have r1 : fr 30 38 = some 201 := r1
  have v1 : τ.2.2.1 211 = 0 := hvd 1 (by omega) (by omega) 1 (by omega)
  have k2 : τ.2.2.1 202 = 1 := k2
  have l2 : τ.2.2.2 202 = 64 := l2
  have r2 : fr 30 39 = some 202 := r2
  have v2 : τ.2.2.1 212 = 0 := hvd 1 (by omega) (by omega) 2 (by omega)
  have k3 : τ.2.2.1 203 = 1 := k3
  have l3 : τ.2.2.2 203 = 64 := l3
  have r3 : fr 30 40 = some 203 := r3
  have v3 : τ.2.2.1 213 = 0 := hvd 1 (by omega) (by omega) 3 (by omega)
  have k4 : τ.2.2.1 204 = 1 := k4
  have l4 : τ.2.2.2 204 = 64 := l4
  have r4 : fr 30 41 = some 204 := r4
  have v4 : τ.2.2.1 214 = 0 := hvd 1 (by omega) (by omega) 4 (by omega)
  have k5 : τ.2.2.1 205 = 1 := k5
  have l5 : τ.2.2.2 205 = 64 := l5
  have r5 : fr 30 42 = some 205 := r5
  have v5 : τ.2.2.1 215 = 0 := hvd 1 (by omega) (by omega) 5 (by omega)
  have k6 : τ.2.2.1 206 = 1 := k6
  have l6 : τ.2.2.2 206 = 512 := l6
  have r6 : fr 30 43 = some 206 := r6
  have v6 : τ.2.2.1 216 = 0 := hvd 1 (by omega) (by omega) 6 (by omega)
  have k7 : τ.2.2.1 207 = 1 := k7
  have l7 : τ.2.2.2 207 = 512 := l7
  have r7 : fr 30 44 = some 207 := r7
  have v7 : τ.2.2.1 217 = 0 := hvd 1 (by omega) (by omega) 7 (by omega)
  have hiX12 : ∀ w ∈ u_ws RX12 TX12 71, w ∈ wsX12_grow := fun _ h => List.mem_cons_of_mem _ (List.mem_append_right _ h)
  have hw1 := hts (.fieldLink RX12 320 "PostHouseModel" "doubts" "I") (by decide +kernel)
  have hw2 := hts (.arrayClass .boolean) (by decide +kernel)
  have hw3 := hts (.fieldLink RX12 71 "PostHouseModel" "doubtWaits" "[Z") (by decide +kernel)
  have hw4 := hts (.fieldLink RX12 75 "PostHouseModel" "doubtMendings" "[I") (by decide +kernel)
  have hw5 := hts (.fieldLink RX12 78 "PostHouseModel" "doubtLines" "[I") (by decide +kernel)
  have hw6 := hts (.fieldLink RX12 81 "PostHouseModel" "doubtKnown" "[I") (by decide +kernel)
  have hw7 := hts (.fieldLink RX12 84 "PostHouseModel" "doubtSum" "[I") (by decide +kernel)
  have hw8 := hts (.fieldLink RX12 87 "PostHouseModel" "doubtMoney" "[I") (by decide +kernel)
  have hw9 := hts (.fieldLink RX12 90 "PostHouseModel" "doubtCode" "[I") (by decide +kernel)
  have hw10 := hts (.fieldLink RX12 93 "PostHouseModel" "doubtMany" "[I") (by decide +kernel)
  refine lv_iconst (v := nI 2) hx hb dX12_grow_0 (by decide) ?_
  refine lv_aload_n hx hb dX12_grow_1 rfl (lv_at hl 0 rfl) ?_
  refine zGetI (D := D) (ci := 12) (C := RX12) (T := TX12) (N := 71) hx hb hts hiX12 hown hH (zk_30 hF) rfl 35 (by decide) rfl hw1 (fun _ h9 => h9) dX12_grow_2 h35 ?_
  refine lv_imul hx hb dX12_grow_5 ?_
  refine lv_topi (fun v101 ev101 => ?_)
  obtain rfl : v101 = nI 128 := ev101.trans (by decide)
  refine zNewa (D := D) (atype := .boolean) (t := 3) (N' := 128) hx hb hw2 rfl (by decide) (by decide) rfl hH hS hA 210 v0 (by decide) (by decide) (by first | decide | (simp only [zT, componentBytes]; omega)) (Nat.le_of_ble_eq_true rfl) (Nat.le_of_ble_eq_true rfl) dX12_grow_6 (fun q9 c9 H hH8 hS => ?_)
  obtain ⟨τ102, eτ102⟩ : ∃ t9 : zTy, t9 = (va_up τ.1 210 q9, va_up τ.2.1 210 c9, va_up τ.2.2.1 210 3, va_up τ.2.2.2 210 128) := ⟨_, rfl⟩
  obtain ⟨f103, ef103⟩ : ∃ f9 : zFi, f9 = va_up fi 210 (fun _ => 0) := ⟨_, rfl⟩
  obtain ⟨g104, eg104⟩ : ∃ f9 : zFr, f9 = va_up fr 210 (fun _ => none) := ⟨_, rfl⟩
  have hH : zH D A τ102 f103 g104 ol s H := by rw [eτ102, ef103, eg104]; exact hH8
  clear hH8
  have hqτ102 : τ102.1 210 = q9 := by rw [eτ102]; exact va_up_self τ.1 210 q9
  have haτ102 : ∀ i, i ≠ 210 → τ102.1 i = τ.1 i := fun i h => by rw [eτ102]; exact va_up_ne _ _ h
  have hkτ102 : τ102.2.2.1 210 = 3 := by rw [eτ102]; exact va_up_self τ.2.2.1 210 3
  have hnτ102 : τ102.2.2.2 210 = 128 := by rw [eτ102]; exact va_up_self τ.2.2.2 210 128
  have hbτ102 : ∀ i, i ≠ 210 → τ102.2.2.1 i = τ.2.2.1 i ∧ τ102.2.2.2 i = τ.2.2.2 i := fun i h => by rw [eτ102]; exact ⟨va_up_ne _ _ h, va_up_ne _ _ h⟩
  have hFτ102 : zFix τ102 g104 := by rw [eτ102, eg104]; exact hF.up (by omega)
  clear eτ102
  subst hqτ102
  rw [show τ.1 30 = τ102.1 30 from (haτ102 30 (by omega)).symm] at hl
  have q105 : f103 30 35 = nI 64 := by rw [ef103, va_up_ne _ _ (by omega)]; exact h35
  refine W.widen (k := 1) (n := 128) (by decide) (by decide) ?_
  refine lv_astore_n (lv' := [(1, .ref (τ102.1 210)), (0, .ref (τ102.1 30))]) hx hb dX12_grow_8 rfl hl (by decide) rfl (fun ls hl => ?_)
  refine lv_iconst (v := nI 0) hx hb dX12_grow_9 (by decide) ?_
  refine lv_istore_n (lv' := [(2, .int (nI 0)), (1, .ref (τ102.1 210)), (0, .ref (τ102.1 30))]) hx hb dX12_grow_10 rfl hl (by decide) rfl (fun ls hl => ?_)
  refine zLp (σ := Nat × zFi) (fun x9 k9 H locs ls => (fun (i : Nat) (f : zFi) => k9 = 64 - i ∧ (i ≤ 64 ∧ ∀ i9 k, i9 ≠ 210 → f i9 k = fi i9 k) ∧ zH D A τ102 f g104 ol s H ∧ va_S A s.heap H locs ∧ lv_has ls 3 [(0, .ref (τ102.1 30)), (1, .ref (τ102.1 210)), (2, .int (nI i))]) x9.1 x9.2) (0, f103) (64 - 0) (show 64 - 0 = 64 - 0 ∧ (0 ≤ 64 ∧ ∀ i9 k, i9 ≠ 210 → f103 i9 k = fi i9 k) ∧ zH D A τ102 f103 g104 ol s _ ∧ va_S A s.heap _ _ ∧ lv_has _ 3 [(0, .ref (τ102.1 30)), (1, .ref (τ102.1 210)), (2, .int (nI 0))] from ⟨rfl, ⟨Nat.zero_le _, fun i k h => by rw [ef103, va_up_ne _ _ h]⟩, hH, hS, lv_sub hl [2, 1, 0] rfl⟩) (fun k9 ih x9 H locs ls hv9 => ?_)
  obtain ⟨i, f⟩ := x9
  have hv9 : k9 = 64 - i ∧ (i ≤ 64 ∧ ∀ i9 k, i9 ≠ 210 → f i9 k = fi i9 k) ∧ zH D A τ102 f g104 ol s H ∧ va_S A s.heap H locs ∧ lv_has ls 3 [(0, .ref (τ102.1 30)), (1, .ref (τ102.1 210)), (2, .int (nI i))] := hv9
  obtain ⟨hkih106, hv9, hH, hS, hl⟩ := hv9
  obtain ⟨h1, hfr⟩ := hv9
  have ih106 := ih
  clear ih
  have q35 : f 30 35 = nI 64 := by rw [hfr 30 35 (by omega)]; exact h35
  refine lv_iload_n hx hb dX12_grow_11 rfl (lv_at hl 2 rfl) ?_
  refine lv_aload_n hx hb dX12_grow_12 rfl (lv_at hl 0 rfl) ?_
  refine zGetI (D := D) (ci := 12) (C := RX12) (T := TX12) (N := 71) hx hb hts hiX12 hown hH (zk_30 hFτ102) rfl 35 (by decide) rfl hw1 (fun _ h9 => h9) dX12_grow_13 q35 ?_
  refine lv_icmp_ge (tgt := 34) hx hb dX12_grow_16 (by decide) (fun c107 => ?_) (fun c107 => ?_)
  · have zc107 := c107
    replace zc107 := zc_le (nI_toInt (by omega)) (nI_toInt (by omega)) zc107
    refine lv_aload_n hx hb dX12_grow_34 rfl (lv_at hl 0 rfl) ?_
    refine lv_aload_n hx hb dX12_grow_35 rfl (lv_at hl 1 rfl) ?_
    refine zPutR (D := D) (ci := 12) (ty := .array .boolean) (C := RX12) (T := TX12) (N := 71) hx hb hts hiX12 tyX12 tyX12_ok nmX12 hown hH hS (zk_30 hFτ102) rfl 37 (by decide) rfl hw3 (fun _ h9 => h9) rfl (by rw [hkτ102]; decide)  (by decide +kernel) rfl rfl dX12_grow_36 (fun H locs hH hS => ?_)
    obtain ⟨g108, eg108⟩ : ∃ f9 : zFr, f9 = zur g104 30 37 (some 210) := ⟨_, rfl⟩
    rw [← eg108] at hH
    have hF109 : zFix τ102 g108 := by rw [eg108]; exact hFτ102.ur30 (by omega)
    have hG : zGp τ fi fr 0 64 1 τ102 f g108 := zGp.first (ib := 210) (by omega) haτ102 hbτ102 hkτ102 hnτ102 hfr eg104 eg108 hF109
    refine lv_aload_n hx hb dX12_grow_39 rfl (lv_at hl 0 rfl) ?_
    refine lv_aload_n hx hb dX12_grow_40 rfl (lv_at hl 0 rfl) ?_
    refine zGetR (D := D) (ci := 12) (C := RX12) (T := TX12) (N := 71) hx hb hts hiX12 hown hH (zk_30 hG.2.2.2.2.2.2) rfl 38 (by decide) rfl hw4 (fun _ h9 => h9) dX12_grow_41 (by rw [hG.2.2.2.2.1 30 38 (by omega) (by omega)]; exact r1) ?_
    refine va_callq (va_runS (As := [.ref (τ102.1 201)]) (rest := [.ref (τ102.1 30)]) ⟨hx, hb, hml, hown, hts⟩ (m_longer_64 l hl0 D A sad τ102 f g108 ol hG.2.2.2.2.2.2 201 211 (⟨(show τ102.2.2.1 201 = 1 by rw [(hG.1 201 (by omega)).2.1]; exact k1), (show τ102.2.2.2 201 = 64 by rw [(hG.1 201 (by omega)).2.2]; exact l1)⟩) (by rw [(hG.1 211 (by omega)).2.1]; exact v1) (by omega) (by omega)) (cwS 1 hts gX12_grow_X12_longer rfl rfl rfl (by decide +kernel) ⟨Nat.le_of_ble_eq_true rfl, Nat.le_of_ble_eq_true rfl⟩) ⟨zQc_bl, zQc_at hz hS hA hH⟩ rfl rfl hl.1 rfl (lv_room (Nat.le_of_ble_eq_true rfl)) dX12_grow_44 ⟨Nat.le_of_ble_eq_true rfl, Nat.le_of_ble_eq_true rfl⟩) hS (fun q _ h => h) (fun q h => h) (fun r110 u9 t9 H1 locs ht9 hvm9 hw hB hz1 hk1 hS => ?_)
    obtain ⟨τ111, f112, g113⟩ := u9
    have hH := zMv ht9 hvm9 hB
    clear hB
    simp only at hw hH
    generalize H1 = H at hH hS ⊢
    refine W.widen (k := 2) (n := 256) (by decide) (by decide) ?_
    obtain ⟨rfl, hlg⟩ := hw
    have ha6 : ∀ i, i ≠ 211 → τ111.1 i = τ102.1 i := fun i h => (hlg.1 i h).1
    refine W.eq (g2 := F0 m 47 ls [.ref (τ111.1 211), .ref (τ102.1 30)]) rfl ?_
    rw [show τ102.1 30 = τ111.1 30 from (ha6 30 (by omega)).symm] at hl
    rw [show τ102.1 210 = τ111.1 210 from (ha6 210 (by omega)).symm] at hl
    refine W.eq (g2 := F0 m 47 ls [.ref (τ111.1 211), .ref (τ111.1 30)]) (by rw [ha6 30 (by omega)]) ?_
    refine zPutR (D := D) (ci := 12) (ty := .array .int) (C := RX12) (T := TX12) (N := 71) hx hb hts hiX12 tyX12 tyX12_ok nmX12 hown hH hS (zk_30 hlg.2.2.1) rfl 38 (by decide) rfl hw4 (fun _ h9 => h9) rfl (by rw [hlg.2.1.1]; decide)  (by decide +kernel) rfl rfl dX12_grow_47 (fun H locs hH hS => ?_)
    obtain ⟨g114, eg114⟩ : ∃ f9 : zFr, f9 = zur g113 30 38 (some 211) := ⟨_, rfl⟩
    rw [← eg114] at hH
    have hF115 : zFix τ111 g114 := by rw [eg114]; exact hlg.2.2.1.ur30 (by omega)
    have hG := zGp.step (ia := 201) (ib := 211) (N := 64) (kk := 38) hG (by omega) (by omega) (by omega) (by omega) (by decide) hlg (by omega) eg114 hF115
    have hG : zGp τ fi fr 0 64 2 τ111 f112 g114 := hG
    refine lv_aload_n hx hb dX12_grow_50 rfl (lv_at hl 0 rfl) ?_
    refine lv_aload_n hx hb dX12_grow_51 rfl (lv_at hl 0 rfl) ?_
    refine zGetR (D := D) (ci := 12) (C := RX12) (T := TX12) (N := 71) hx hb hts hiX12 hown hH (zk_30 hG.2.2.2.2.2.2) rfl 39 (by decide) rfl hw5 (fun _ h9 => h9) dX12_grow_52 (by rw [hG.2.2.2.2.1 30 39 (by omega) (by omega)]; exact r2) ?_
    refine va_callq (va_runS (As := [.ref (τ111.1 202)]) (rest := [.ref (τ111.1 30)]) ⟨hx, hb, hml, hown, hts⟩ (m_longer_64 l hl0 D A sad τ111 f112 g114 ol hG.2.2.2.2.2.2 202 212 (⟨(show τ111.2.2.1 202 = 1 by rw [(hG.1 202 (by omega)).2.1]; exact k2), (show τ111.2.2.2 202 = 64 by rw [(hG.1 202 (by omega)).2.2]; exact l2)⟩) (by rw [(hG.1 212 (by omega)).2.1]; exact v2) (by omega) (by omega)) (cwS 1 hts gX12_grow_X12_longer rfl rfl rfl (by decide +kernel) ⟨Nat.le_of_ble_eq_true rfl, Nat.le_of_ble_eq_true rfl⟩) ⟨zQc_bl, zQc_at hz hS hA hH⟩ rfl rfl hl.1 rfl (lv_room (Nat.le_of_ble_eq_true rfl)) dX12_grow_55 ⟨Nat.le_of_ble_eq_true rfl, Nat.le_of_ble_eq_true rfl⟩) hS (fun q _ h => h) (fun q h => h) (fun r116 u9 t9 H1 locs ht9 hvm9 hw hB hz1 hk1 hS => ?_)
    obtain ⟨τ117, f118, g119⟩ := u9
    have hH := zMv ht9 hvm9 hB
    clear hB
    simp only at hw hH
    generalize H1 = H at hH hS ⊢
    refine W.widen (k := 3) (n := 384) (by decide) (by decide) ?_
    obtain ⟨rfl, hlg⟩ := hw
    have ha6 : ∀ i, i ≠ 212 → τ117.1 i = τ111.1 i := fun i h => (hlg.1 i h).1
    refine W.eq (g2 := F0 m 58 ls [.ref (τ117.1 212), .ref (τ111.1 30)]) rfl ?_
    rw [show τ111.1 30 = τ117.1 30 from (ha6 30 (by omega)).symm] at hl
    rw [show τ111.1 210 = τ117.1 210 from (ha6 210 (by omega)).symm] at hl
    refine W.eq (g2 := F0 m 58 ls [.ref (τ117.1 212), .ref (τ117.1 30)]) (by rw [ha6 30 (by omega)]) ?_
    refine zPutR (D := D) (ci := 12) (ty := .array .int) (C := RX12) (T := TX12) (N := 71) hx hb hts hiX12 tyX12 tyX12_ok nmX12 hown hH hS (zk_30 hlg.2.2.1) rfl 39 (by decide) rfl hw5 (fun _ h9 => h9) rfl (by rw [hlg.2.1.1]; decide)  (by decide +kernel) rfl rfl dX12_grow_58 (fun H locs hH hS => ?_)
    obtain ⟨g120, eg120⟩ : ∃ f9 : zFr, f9 = zur g119 30 39 (some 212) := ⟨_, rfl⟩
    rw [← eg120] at hH
    have hF121 : zFix τ117 g120 := by rw [eg120]; exact hlg.2.2.1.ur30 (by omega)
    have hG := zGp.step (ia := 202) (ib := 212) (N := 64) (kk := 39) hG (by omega) (by omega) (by omega) (by omega) (by decide) hlg (by omega) eg120 hF121
    have hG : zGp τ fi fr 0 64 3 τ117 f118 g120 := hG
    refine lv_aload_n hx hb dX12_grow_61 rfl (lv_at hl 0 rfl) ?_
    refine lv_aload_n hx hb dX12_grow_62 rfl (lv_at hl 0 rfl) ?_
    refine zGetR (D := D) (ci := 12) (C := RX12) (T := TX12) (N := 71) hx hb hts hiX12 hown hH (zk_30 hG.2.2.2.2.2.2) rfl 40 (by decide) rfl hw6 (fun _ h9 => h9) dX12_grow_63 (by rw [hG.2.2.2.2.1 30 40 (by omega) (by omega)]; exact r3) ?_
    refine va_callq (va_runS (As := [.ref (τ117.1 203)]) (rest := [.ref (τ117.1 30)]) ⟨hx, hb, hml, hown, hts⟩ (m_longer_64 l hl0 D A sad τ117 f118 g120 ol hG.2.2.2.2.2.2 203 213 (⟨(show τ117.2.2.1 203 = 1 by rw [(hG.1 203 (by omega)).2.1]; exact k3), (show τ117.2.2.2 203 = 64 by rw [(hG.1 203 (by omega)).2.2]; exact l3)⟩) (by rw [(hG.1 213 (by omega)).2.1]; exact v3) (by omega) (by omega)) (cwS 1 hts gX12_grow_X12_longer rfl rfl rfl (by decide +kernel) ⟨Nat.le_of_ble_eq_true rfl, Nat.le_of_ble_eq_true rfl⟩) ⟨zQc_bl, zQc_at hz hS hA hH⟩ rfl rfl hl.1 rfl (lv_room (Nat.le_of_ble_eq_true rfl)) dX12_grow_66 ⟨Nat.le_of_ble_eq_true rfl, Nat.le_of_ble_eq_true rfl⟩) hS (fun q _ h => h) (fun q h => h) (fun r122 u9 t9 H1 locs ht9 hvm9 hw hB hz1 hk1 hS => ?_)
    obtain ⟨τ123, f124, g125⟩ := u9
    have hH := zMv ht9 hvm9 hB
    clear hB
    simp only at hw hH
    generalize H1 = H at hH hS ⊢
    refine W.widen (k := 4) (n := 512) (by decide) (by decide) ?_
    obtain ⟨rfl, hlg⟩ := hw
    have ha6 : ∀ i, i ≠ 213 → τ123.1 i = τ117.1 i := fun i h => (hlg.1 i h).1
    refine W.eq (g2 := F0 m 69 ls [.ref (τ123.1 213), .ref (τ117.1 30)]) rfl ?_
    rw [show τ117.1 30 = τ123.1 30 from (ha6 30 (by omega)).symm] at hl
    rw [show τ117.1 210 = τ123.1 210 from (ha6 210 (by omega)).symm] at hl
    refine W.eq (g2 := F0 m 69 ls [.ref (τ123.1 213), .ref (τ123.1 30)]) (by rw [ha6 30 (by omega)]) ?_
    refine zPutR (D := D) (ci := 12) (ty := .array .int) (C := RX12) (T := TX12) (N := 71) hx hb hts hiX12 tyX12 tyX12_ok nmX12 hown hH hS (zk_30 hlg.2.2.1) rfl 40 (by decide) rfl hw6 (fun _ h9 => h9) rfl (by rw [hlg.2.1.1]; decide)  (by decide +kernel) rfl rfl dX12_grow_69 (fun H locs hH hS => ?_)
    obtain ⟨g126, eg126⟩ : ∃ f9 : zFr, f9 = zur g125 30 40 (some 213) := ⟨_, rfl⟩
    rw [← eg126] at hH
    have hF127 : zFix τ123 g126 := by rw [eg126]; exact hlg.2.2.1.ur30 (by omega)
    have hG := zGp.step (ia := 203) (ib := 213) (N := 64) (kk := 40) hG (by omega) (by omega) (by omega) (by omega) (by decide) hlg (by omega) eg126 hF127
    have hG : zGp τ fi fr 0 64 4 τ123 f124 g126 := hG
    refine lv_aload_n hx hb dX12_grow_72 rfl (lv_at hl 0 rfl) ?_
    refine lv_aload_n hx hb dX12_grow_73 rfl (lv_at hl 0 rfl) ?_
    refine zGetR (D := D) (ci := 12) (C := RX12) (T := TX12) (N := 71) hx hb hts hiX12 hown hH (zk_30 hG.2.2.2.2.2.2) rfl 41 (by decide) rfl hw7 (fun _ h9 => h9) dX12_grow_74 (by rw [hG.2.2.2.2.1 30 41 (by omega) (by omega)]; exact r4) ?_
    refine va_callq (va_runS (As := [.ref (τ123.1 204)]) (rest := [.ref (τ123.1 30)]) ⟨hx, hb, hml, hown, hts⟩ (m_longer_64 l hl0 D A sad τ123 f124 g126 ol hG.2.2.2.2.2.2 204 214 (⟨(show τ123.2.2.1 204 = 1 by rw [(hG.1 204 (by omega)).2.1]; exact k4), (show τ123.2.2.2 204 = 64 by rw [(hG.1 204 (by omega)).2.2]; exact l4)⟩) (by rw [(hG.1 214 (by omega)).2.1]; exact v4) (by omega) (by omega)) (cwS 1 hts gX12_grow_X12_longer rfl rfl rfl (by decide +kernel) ⟨Nat.le_of_ble_eq_true rfl, Nat.le_of_ble_eq_true rfl⟩) ⟨zQc_bl, zQc_at hz hS hA hH⟩ rfl rfl hl.1 rfl (lv_room (Nat.le_of_ble_eq_true rfl)) dX12_grow_77 ⟨Nat.le_of_ble_eq_true rfl, Nat.le_of_ble_eq_true rfl⟩) hS (fun q _ h => h) (fun q h => h) (fun r128 u9 t9 H1 locs ht9 hvm9 hw hB hz1 hk1 hS => ?_)
    obtain ⟨τ129, f130, g131⟩ := u9
    have hH := zMv ht9 hvm9 hB
    clear hB
    simp only at hw hH
    generalize H1 = H at hH hS ⊢
    refine W.widen (k := 5) (n := 640) (by decide) (by decide) ?_
    obtain ⟨rfl, hlg⟩ := hw
    have ha6 : ∀ i, i ≠ 214 → τ129.1 i = τ123.1 i := fun i h => (hlg.1 i h).1
    refine W.eq (g2 := F0 m 80 ls [.ref (τ129.1 214), .ref (τ123.1 30)]) rfl ?_
    rw [show τ123.1 30 = τ129.1 30 from (ha6 30 (by omega)).symm] at hl
    rw [show τ123.1 210 = τ129.1 210 from (ha6 210 (by omega)).symm] at hl
    refine W.eq (g2 := F0 m 80 ls [.ref (τ129.1 214), .ref (τ129.1 30)]) (by rw [ha6 30 (by omega)]) ?_
    refine zPutR (D := D) (ci := 12) (ty := .array .int) (C := RX12) (T := TX12) (N := 71) hx hb hts hiX12 tyX12 tyX12_ok nmX12 hown hH hS (zk_30 hlg.2.2.1) rfl 41 (by decide) rfl hw7 (fun _ h9 => h9) rfl (by rw [hlg.2.1.1]; decide)  (by decide +kernel) rfl rfl dX12_grow_80 (fun H locs hH hS => ?_)
    obtain ⟨g132, eg132⟩ : ∃ f9 : zFr, f9 = zur g131 30 41 (some 214) := ⟨_, rfl⟩
    rw [← eg132] at hH
    have hF133 : zFix τ129 g132 := by rw [eg132]; exact hlg.2.2.1.ur30 (by omega)
    have hG := zGp.step (ia := 204) (ib := 214) (N := 64) (kk := 41) hG (by omega) (by omega) (by omega) (by omega) (by decide) hlg (by omega) eg132 hF133
    have hG : zGp τ fi fr 0 64 5 τ129 f130 g132 := hG
    refine lv_aload_n hx hb dX12_grow_83 rfl (lv_at hl 0 rfl) ?_
    refine lv_aload_n hx hb dX12_grow_84 rfl (lv_at hl 0 rfl) ?_
    refine zGetR (D := D) (ci := 12) (C := RX12) (T := TX12) (N := 71) hx hb hts hiX12 hown hH (zk_30 hG.2.2.2.2.2.2) rfl 42 (by decide) rfl hw8 (fun _ h9 => h9) dX12_grow_85 (by rw [hG.2.2.2.2.1 30 42 (by omega) (by omega)]; exact r5) ?_
    refine va_callq (va_runS (As := [.ref (τ129.1 205)]) (rest := [.ref (τ129.1 30)]) ⟨hx, hb, hml, hown, hts⟩ (m_longer_64 l hl0 D A sad τ129 f130 g132 ol hG.2.2.2.2.2.2 205 215 (⟨(show τ129.2.2.1 205 = 1 by rw [(hG.1 205 (by omega)).2.1]; exact k5), (show τ129.2.2.2 205 = 64 by rw [(hG.1 205 (by omega)).2.2]; exact l5)⟩) (by rw [(hG.1 215 (by omega)).2.1]; exact v5) (by omega) (by omega)) (cwS 1 hts gX12_grow_X12_longer rfl rfl rfl (by decide +kernel) ⟨Nat.le_of_ble_eq_true rfl, Nat.le_of_ble_eq_true rfl⟩) ⟨zQc_bl, zQc_at hz hS hA hH⟩ rfl rfl hl.1 rfl (lv_room (Nat.le_of_ble_eq_true rfl)) dX12_grow_88 ⟨Nat.le_of_ble_eq_true rfl, Nat.le_of_ble_eq_true rfl⟩) hS (fun q _ h => h) (fun q h => h) (fun r134 u9 t9 H1 locs ht9 hvm9 hw hB hz1 hk1 hS => ?_)
    obtain ⟨τ135, f136, g137⟩ := u9
    have hH := zMv ht9 hvm9 hB
    clear hB
    simp only at hw hH
    generalize H1 = H at hH hS ⊢
    refine W.widen (k := 6) (n := 768) (by decide) (by decide) ?_
    obtain ⟨rfl, hlg⟩ := hw
    have ha6 : ∀ i, i ≠ 215 → τ135.1 i = τ129.1 i := fun i h => (hlg.1 i h).1
    refine W.eq (g2 := F0 m 91 ls [.ref (τ135.1 215), .ref (τ129.1 30)]) rfl ?_
    rw [show τ129.1 30 = τ135.1 30 from (ha6 30 (by omega)).symm] at hl
    rw [show τ129.1 210 = τ135.1 210 from (ha6 210 (by omega)).symm] at hl
    refine W.eq (g2 := F0 m 91 ls [.ref (τ135.1 215), .ref (τ135.1 30)]) (by rw [ha6 30 (by omega)]) ?_
    refine zPutR (D := D) (ci := 12) (ty := .array .int) (C := RX12) (T := TX12) (N := 71) hx hb hts hiX12 tyX12 tyX12_ok nmX12 hown hH hS (zk_30 hlg.2.2.1) rfl 42 (by decide) rfl hw8 (fun _ h9 => h9) rfl (by rw [hlg.2.1.1]; decide)  (by decide +kernel) rfl rfl dX12_grow_91 (fun H locs hH hS => ?_)
    obtain ⟨g138, eg138⟩ : ∃ f9 : zFr, f9 = zur g137 30 42 (some 215) := ⟨_, rfl⟩
    rw [← eg138] at hH
    have hF139 : zFix τ135 g138 := by rw [eg138]; exact hlg.2.2.1.ur30 (by omega)
    have hG := zGp.step (ia := 205) (ib := 215) (N := 64) (kk := 42) hG (by omega) (by omega) (by omega) (by omega) (by decide) hlg (by omega) eg138 hF139
    have hG : zGp τ fi fr 0 64 6 τ135 f136 g138 := hG
    refine lv_aload_n hx hb dX12_grow_94 rfl (lv_at hl 0 rfl) ?_
    refine lv_aload_n hx hb dX12_grow_95 rfl (lv_at hl 0 rfl) ?_
    refine zGetR (D := D) (ci := 12) (C := RX12) (T := TX12) (N := 71) hx hb hts hiX12 hown hH (zk_30 hG.2.2.2.2.2.2) rfl 43 (by decide) rfl hw9 (fun _ h9 => h9) dX12_grow_96 (by rw [hG.2.2.2.2.1 30 43 (by omega) (by omega)]; exact r6) ?_
    refine va_callq (va_runS (As := [.ref (τ135.1 206)]) (rest := [.ref (τ135.1 30)]) ⟨hx, hb, hml, hown, hts⟩ (m_longer_512 l hl0 D A sad τ135 f136 g138 ol hG.2.2.2.2.2.2 206 216 (⟨(show τ135.2.2.1 206 = 1 by rw [(hG.1 206 (by omega)).2.1]; exact k6), (show τ135.2.2.2 206 = 512 by rw [(hG.1 206 (by omega)).2.2]; exact l6)⟩) (by rw [(hG.1 216 (by omega)).2.1]; exact v6) (by omega) (by omega)) (cwS 1 hts gX12_grow_X12_longer rfl rfl rfl (by decide +kernel) ⟨Nat.le_of_ble_eq_true rfl, Nat.le_of_ble_eq_true rfl⟩) ⟨zQc_bl, zQc_at hz hS hA hH⟩ rfl rfl hl.1 rfl (lv_room (Nat.le_of_ble_eq_true rfl)) dX12_grow_99 ⟨Nat.le_of_ble_eq_true rfl, Nat.le_of_ble_eq_true rfl⟩) hS (fun q _ h => h) (fun q h => h) (fun r140 u9 t9 H1 locs ht9 hvm9 hw hB hz1 hk1 hS => ?_)
    obtain ⟨τ141, f142, g143⟩ := u9
    have hH := zMv ht9 hvm9 hB
    clear hB
    simp only at hw hH
    generalize H1 = H at hH hS ⊢
    refine W.widen (k := 7) (n := 1792) (by decide) (by decide) ?_
    obtain ⟨rfl, hlg⟩ := hw
    have ha6 : ∀ i, i ≠ 216 → τ141.1 i = τ135.1 i := fun i h => (hlg.1 i h).1
    refine W.eq (g2 := F0 m 102 ls [.ref (τ141.1 216), .ref (τ135.1 30)]) rfl ?_
    rw [show τ135.1 30 = τ141.1 30 from (ha6 30 (by omega)).symm] at hl
    rw [show τ135.1 210 = τ141.1 210 from (ha6 210 (by omega)).symm] at hl
    refine W.eq (g2 := F0 m 102 ls [.ref (τ141.1 216), .ref (τ141.1 30)]) (by rw [ha6 30 (by omega)]) ?_
    refine zPutR (D := D) (ci := 12) (ty := .array .int) (C := RX12) (T := TX12) (N := 71) hx hb hts hiX12 tyX12 tyX12_ok nmX12 hown hH hS (zk_30 hlg.2.2.1) rfl 43 (by decide) rfl hw9 (fun _ h9 => h9) rfl (by rw [hlg.2.1.1]; decide)  (by decide +kernel) rfl rfl dX12_grow_102 (fun H locs hH hS => ?_)
    obtain ⟨g144, eg144⟩ : ∃ f9 : zFr, f9 = zur g143 30 43 (some 216) := ⟨_, rfl⟩
    rw [← eg144] at hH
    have hF145 : zFix τ141 g144 := by rw [eg144]; exact hlg.2.2.1.ur30 (by omega)
    have hG := zGp.step (ia := 206) (ib := 216) (N := 512) (kk := 43) hG (by omega) (by omega) (by omega) (by omega) (by decide) hlg (by omega) eg144 hF145
    have hG : zGp τ fi fr 0 64 7 τ141 f142 g144 := hG
    refine lv_aload_n hx hb dX12_grow_105 rfl (lv_at hl 0 rfl) ?_
    refine lv_aload_n hx hb dX12_grow_106 rfl (lv_at hl 0 rfl) ?_
    refine zGetR (D := D) (ci := 12) (C := RX12) (T := TX12) (N := 71) hx hb hts hiX12 hown hH (zk_30 hG.2.2.2.2.2.2) rfl 44 (by decide) rfl hw10 (fun _ h9 => h9) dX12_grow_107 (by rw [hG.2.2.2.2.1 30 44 (by omega) (by omega)]; exact r7) ?_
    refine va_callq (va_runS (As := [.ref (τ141.1 207)]) (rest := [.ref (τ141.1 30)]) ⟨hx, hb, hml, hown, hts⟩ (m_longer_512 l hl0 D A sad τ141 f142 g144 ol hG.2.2.2.2.2.2 207 217 (⟨(show τ141.2.2.1 207 = 1 by rw [(hG.1 207 (by omega)).2.1]; exact k7), (show τ141.2.2.2 207 = 512 by rw [(hG.1 207 (by omega)).2.2]; exact l7)⟩) (by rw [(hG.1 217 (by omega)).2.1]; exact v7) (by omega) (by omega)) (cwS 1 hts gX12_grow_X12_longer rfl rfl rfl (by decide +kernel) ⟨Nat.le_of_ble_eq_true rfl, Nat.le_of_ble_eq_true rfl⟩) ⟨zQc_bl, zQc_at hz hS hA hH⟩ rfl rfl hl.1 rfl (lv_room (Nat.le_of_ble_eq_true rfl)) dX12_grow_110 ⟨Nat.le_of_ble_eq_true rfl, Nat.le_of_ble_eq_true rfl⟩) hS (fun q _ h => h) (fun q h => h) (fun r146 u9 t9 H1 locs ht9 hvm9 hw hB hz1 hk1 hS => ?_)
    obtain ⟨τ147, f148, g149⟩ := u9
    have hH := zMv ht9 hvm9 hB
    clear hB
    simp only at hw hH
    generalize H1 = H at hH hS ⊢
    refine W.widen (k := 8) (n := 2816) (by decide) (by decide) ?_
    obtain ⟨rfl, hlg⟩ := hw
    have ha6 : ∀ i, i ≠ 217 → τ147.1 i = τ141.1 i := fun i h => (hlg.1 i h).1
    refine W.eq (g2 := F0 m 113 ls [.ref (τ147.1 217), .ref (τ141.1 30)]) rfl ?_
    rw [show τ141.1 30 = τ147.1 30 from (ha6 30 (by omega)).symm] at hl
    rw [show τ141.1 210 = τ147.1 210 from (ha6 210 (by omega)).symm] at hl
    refine W.eq (g2 := F0 m 113 ls [.ref (τ147.1 217), .ref (τ147.1 30)]) (by rw [ha6 30 (by omega)]) ?_
    refine zPutR (D := D) (ci := 12) (ty := .array .int) (C := RX12) (T := TX12) (N := 71) hx hb hts hiX12 tyX12 tyX12_ok nmX12 hown hH hS (zk_30 hlg.2.2.1) rfl 44 (by decide) rfl hw10 (fun _ h9 => h9) rfl (by rw [hlg.2.1.1]; decide)  (by decide +kernel) rfl rfl dX12_grow_113 (fun H locs hH hS => ?_)
    obtain ⟨g150, eg150⟩ : ∃ f9 : zFr, f9 = zur g149 30 44 (some 217) := ⟨_, rfl⟩
    rw [← eg150] at hH
    have hF151 : zFix τ147 g150 := by rw [eg150]; exact hlg.2.2.1.ur30 (by omega)
    have hG := zGp.step (ia := 207) (ib := 217) (N := 512) (kk := 44) hG (by omega) (by omega) (by omega) (by omega) (by decide) hlg (by omega) eg150 hF151
    have hG : zGp τ fi fr 0 64 8 τ147 f148 g150 := hG
    refine W.widen (k := 8) (n := 2816) (by decide) (by decide) ?_
    exact W.vret hx hb hr (fun t9 ht9 hW9 => ⟨⟨(τ147, f148, g150), rfl, (show zMq τ147 f148 g150 1 128 64 ∧ zGz τ fr τ147 g150 ∧ ∀ i k, ¬ (200 ≤ i ∧ i < 240) → f148 i k = fi i k from zGp.done hMq0 (by omega) hG), zEnd1 hH ht9 hW9⟩, hS.F ht9⟩) hS.2.2 dX12_grow_116
  · have zc107 := c107
    replace zc107 := zc_nle (nI_toInt (by omega)) (nI_toInt (by omega)) zc107
    refine lv_aload_n hx hb dX12_grow_19 rfl (lv_at hl 1 rfl) ?_
    refine lv_iload_n hx hb dX12_grow_20 rfl (lv_at hl 2 rfl) ?_
    refine lv_aload_n hx hb dX12_grow_21 rfl (lv_at hl 0 rfl) ?_
    refine zGetR (D := D) (ci := 12) (C := RX12) (T := TX12) (N := 71) hx hb hts hiX12 hown hH (zk_30 hFτ102) rfl 37 (by decide) rfl hw3 (fun _ h9 => h9) dX12_grow_22 (by rw [eg104, va_up_ne _ _ (by omega)]; exact r0) ?_
    refine lv_iload_n hx hb dX12_grow_25 rfl (lv_at hl 2 rfl) ?_
    refine zZaldN (D := D) hx hb hH (show τ102.2.2.1 200 = 3 by rw [(hbτ102 200 (by omega)).1]; exact k0) (show τ102.2.2.2 200 = 64 by rw [(hbτ102 200 (by omega)).2]; exact l0) (by omega) (by omega) rfl dX12_grow_26 ?_
    refine zZastN (D := D) hx hb hH hS hkτ102 hnτ102 (by omega) (by omega) dX12_grow_27 (fun H locs hH hS => ?_)
    obtain ⟨f152, ef152⟩ : ∃ f9 : zFi, f9 = zu f 210 i (vp_nar .boolean (f 200 i)) := ⟨_, rfl⟩
    rw [← ef152] at hH
    have q153 : f152 30 35 = nI 64 := by rw [ef152, zu_n (fun h9 => absurd h9.1 (by decide))]; exact q35
    have q154 : f152 210 i = (vp_nar .boolean (f 200 i)) := by rw [ef152]; exact zu_s
    refine lv_iinc (v := nI (i + 1)) (lv' := [(2, .int (nI (i + 1))), (0, .ref (τ102.1 30)), (1, .ref (τ102.1 210))]) hx hb dX12_grow_28 hl (k := 2) rfl (by rw [show (Int32.ofInt 1 : Int32) = nI 1 from by decide, nI_add]) (by decide) rfl (fun ls hl => ?_)
    refine lv_goto (tgt := 11) hx hb dX12_grow_31 (by decide) ?_
    exact ih106 (64 - (i + 1)) (by omega) (i + 1, f152) _ _ _ (show 64 - (i + 1) = 64 - (i + 1) ∧ ((i + 1) ≤ 64 ∧ ∀ i9 k, i9 ≠ 210 → f152 i9 k = fi i9 k) ∧ zH D A τ102 f152 g104 ol s _ ∧ va_S A s.heap _ _ ∧ lv_has _ 3 [(0, .ref (τ102.1 30)), (1, .ref (τ102.1 210)), (2, .int (nI (i + 1)))] from ⟨rfl, ⟨by omega, fun i9 k h => by rw [ef152, zu_n (by omega)]; exact hfr i9 k h⟩, hH, hS, lv_sub hl [1, 2, 0] rfl⟩)
set_option maxHeartbeats 4000000 in
set_option maxRecDepth 100000 in
/-- grow -/
theorem m_grow_1 (l : Launch) (hl0 : l.stackTraces = false) (D : va_G) (A : Nat → Prop) (sad : Nat → Nat) (τ : zTy) (fi : zFi) (fr : zFr) (ol : Int64) (hF : zFix τ fr) (hMq : zMq τ fi fr 1 128 128) : Met l yX12_grow wsX12_grow ({ frames := 1, cells := 8, slots := 5632, locals := 22 }) (va_Pc [.ref (τ.1 30)] (zQc D A sad τ fi fr ol)) (va_Qv (fun (u : zTy × zFi × zFr) => zMq u.1 u.2.1 u.2.2 2 256 128 ∧ zGz τ fr u.1 u.2.2 ∧ ∀ i k, ¬ (200 ≤ i ∧ i < 240) → u.2.1 i k = fi i k) (fun (u : zTy × zFi × zFr) (t : State) => zH D A u.1 u.2.1 u.2.2 ol t t.heap) A) 8 5632 A := by
  refine Met.ofW (cc := cX12_grow) (maxL := 3) (ret := none) (by decide) rfl ?_
  intro p9 e9 s m args below meth c9 s₁ B hml hv
  obtain ⟨rfl, hz, hH, hA⟩ := hv
  have hx := B.exec
  have hb := B.bytes
  have hr := B.returns
  have hts := atoms_spec (ws := wsX12_grow) B.pre
  have hown : s.vm.findClass RX12 = some m.cls := findClass_of_methodNamed B.named
  have hlocks := B.notSynchronized
  have hS : va_S A s.heap s.heap [] := va_S.rf
  have hl := lv_entry ([.ref (τ.1 30)]) (n := 3) (Nat.le_of_ble_eq_true rfl)
  rw [lg_entry_eq]
  generalize (lg_sl ([.ref (τ.1 30)]) ++ List.replicate (3 - (lg_sl ([.ref (τ.1 30)])).length) Slot.unset).toArray = ls at hl ⊢
  have hl : lv_has ls 3 [(0, .ref (τ.1 30))] := hl
  have hMq0 := hMq
  obtain ⟨-, -, h35, ⟨⟨k0, l0⟩, ⟨k1, l1⟩, ⟨k2, l2⟩, ⟨k3, l3⟩, ⟨k4, l4⟩, ⟨k5, l5⟩, ⟨k6, l6⟩, ⟨k7, l7⟩⟩, ⟨r0, r1, r2, r3, r4, r5, r6, r7⟩, -, hvd⟩ := hMq
  have k0 : τ.2.2.1 210 = 3 := k0
  have l0 : τ.2.2.2 210 = 128 := l0
  have r0 : fr 30 37 = some 210 := r0
  have v0 : τ.2.2.1 220 = 0 := hvd 2 (by omega) (by omega) 0 (by omega)
  have k1 : τ.2.2.1 211 = 1 := k1
  have l1 : τ.2.2.2 211 = 128 := l1
  have r1 : fr 30 38 = some 211 := r1
  have v1 : τ.2.2.1 221 = 0 := hvd 2 (by omega) (by omega) 1 (by omega)
  have k2 : τ.2.2.1 212 = 1 := k2
  have l2 : τ.2.2.2 212 = 128 := l2
  have r2 : fr 30 39 = some 212 := r2
  have v2 : τ.2.2.1 222 = 0 := hvd 2 (by omega) (by omega) 2 (by omega)
  have k3 : τ.2.2.1 213 = 1 := k3
  have l3 : τ.2.2.2 213 = 128 := l3
  have r3 : fr 30 40 = some 213 := r3
  have v3 : τ.2.2.1 223 = 0 := hvd 2 (by omega) (by omega) 3 (by omega)
  have k4 : τ.2.2.1 214 = 1 := k4
  have l4 : τ.2.2.2 214 = 128 := l4
  have r4 : fr 30 41 = some 214 := r4
  have v4 : τ.2.2.1 224 = 0 := hvd 2 (by omega) (by omega) 4 (by omega)
  have k5 : τ.2.2.1 215 = 1 := k5
  have l5 : τ.2.2.2 215 = 128 := l5
  have r5 : fr 30 42 = some 215 := r5
  have v5 : τ.2.2.1 225 = 0 := hvd 2 (by omega) (by omega) 5 (by omega)
  have k6 : τ.2.2.1 216 = 1 := k6
  have l6 : τ.2.2.2 216 = 1024 := l6
  have r6 : fr 30 43 = some 216 := r6
  have v6 : τ.2.2.1 226 = 0 := hvd 2 (by omega) (by omega) 6 (by omega)
  have k7 : τ.2.2.1 217 = 1 := k7
  have l7 : τ.2.2.2 217 = 1024 := l7
  have r7 : fr 30 44 = some 217 := r7
  have v7 : τ.2.2.1 227 = 0 := hvd 2 (by omega) (by omega) 7 (by omega)
  have hiX12 : ∀ w ∈ u_ws RX12 TX12 71, w ∈ wsX12_grow := fun _ h => List.mem_cons_of_mem _ (List.mem_append_right _ h)
  have hw1 := hts (.fieldLink RX12 320 "PostHouseModel" "doubts" "I") (by decide +kernel)
  have hw2 := hts (.arrayClass .boolean) (by decide +kernel)
  have hw3 := hts (.fieldLink RX12 71 "PostHouseModel" "doubtWaits" "[Z") (by decide +kernel)
  have hw4 := hts (.fieldLink RX12 75 "PostHouseModel" "doubtMendings" "[I") (by decide +kernel)
  have hw5 := hts (.fieldLink RX12 78 "PostHouseModel" "doubtLines" "[I") (by decide +kernel)
  have hw6 := hts (.fieldLink RX12 81 "PostHouseModel" "doubtKnown" "[I") (by decide +kernel)
  have hw7 := hts (.fieldLink RX12 84 "PostHouseModel" "doubtSum" "[I") (by decide +kernel)
  have hw8 := hts (.fieldLink RX12 87 "PostHouseModel" "doubtMoney" "[I") (by decide +kernel)
  have hw9 := hts (.fieldLink RX12 90 "PostHouseModel" "doubtCode" "[I") (by decide +kernel)
  have hw10 := hts (.fieldLink RX12 93 "PostHouseModel" "doubtMany" "[I") (by decide +kernel)
  refine lv_iconst (v := nI 2) hx hb dX12_grow_0 (by decide) ?_
  refine lv_aload_n hx hb dX12_grow_1 rfl (lv_at hl 0 rfl) ?_
  refine zGetI (D := D) (ci := 12) (C := RX12) (T := TX12) (N := 71) hx hb hts hiX12 hown hH (zk_30 hF) rfl 35 (by decide) rfl hw1 (fun _ h9 => h9) dX12_grow_2 h35 ?_
  refine lv_imul hx hb dX12_grow_5 ?_
  refine lv_topi (fun v101 ev101 => ?_)
  obtain rfl : v101 = nI 256 := ev101.trans (by decide)
  refine zNewa (D := D) (atype := .boolean) (t := 3) (N' := 256) hx hb hw2 rfl (by decide) (by decide) rfl hH hS hA 220 v0 (by decide) (by decide) (by first | decide | (simp only [zT, componentBytes]; omega)) (Nat.le_of_ble_eq_true rfl) (Nat.le_of_ble_eq_true rfl) dX12_grow_6 (fun q9 c9 H hH8 hS => ?_)
  obtain ⟨τ102, eτ102⟩ : ∃ t9 : zTy, t9 = (va_up τ.1 220 q9, va_up τ.2.1 220 c9, va_up τ.2.2.1 220 3, va_up τ.2.2.2 220 256) := ⟨_, rfl⟩
  obtain ⟨f103, ef103⟩ : ∃ f9 : zFi, f9 = va_up fi 220 (fun _ => 0) := ⟨_, rfl⟩
  obtain ⟨g104, eg104⟩ : ∃ f9 : zFr, f9 = va_up fr 220 (fun _ => none) := ⟨_, rfl⟩
  have hH : zH D A τ102 f103 g104 ol s H := by rw [eτ102, ef103, eg104]; exact hH8
  clear hH8
  have hqτ102 : τ102.1 220 = q9 := by rw [eτ102]; exact va_up_self τ.1 220 q9
  have haτ102 : ∀ i, i ≠ 220 → τ102.1 i = τ.1 i := fun i h => by rw [eτ102]; exact va_up_ne _ _ h
  have hkτ102 : τ102.2.2.1 220 = 3 := by rw [eτ102]; exact va_up_self τ.2.2.1 220 3
  have hnτ102 : τ102.2.2.2 220 = 256 := by rw [eτ102]; exact va_up_self τ.2.2.2 220 256
  have hbτ102 : ∀ i, i ≠ 220 → τ102.2.2.1 i = τ.2.2.1 i ∧ τ102.2.2.2 i = τ.2.2.2 i := fun i h => by rw [eτ102]; exact ⟨va_up_ne _ _ h, va_up_ne _ _ h⟩
  have hFτ102 : zFix τ102 g104 := by rw [eτ102, eg104]; exact hF.up (by omega)
  clear eτ102
  subst hqτ102
  rw [show τ.1 30 = τ102.1 30 from (haτ102 30 (by omega)).symm] at hl
  have q105 : f103 30 35 = nI 128 := by rw [ef103, va_up_ne _ _ (by omega)]; exact h35
  refine W.widen (k := 1) (n := 256) (by decide) (by decide) ?_
  refine lv_astore_n (lv' := [(1, .ref (τ102.1 220)), (0, .ref (τ102.1 30))]) hx hb dX12_grow_8 rfl hl (by decide) rfl (fun ls hl => ?_)
  refine lv_iconst (v := nI 0) hx hb dX12_grow_9 (by decide) ?_
  refine lv_istore_n (lv' := [(2, .int (nI 0)), (1, .ref (τ102.1 220)), (0, .ref (τ102.1 30))]) hx hb dX12_grow_10 rfl hl (by decide) rfl (fun ls hl => ?_)
  refine zLp (σ := Nat × zFi) (fun x9 k9 H locs ls => (fun (i : Nat) (f : zFi) => k9 = 128 - i ∧ (i ≤ 128 ∧ ∀ i9 k, i9 ≠ 220 → f i9 k = fi i9 k) ∧ zH D A τ102 f g104 ol s H ∧ va_S A s.heap H locs ∧ lv_has ls 3 [(0, .ref (τ102.1 30)), (1, .ref (τ102.1 220)), (2, .int (nI i))]) x9.1 x9.2) (0, f103) (128 - 0) (show 128 - 0 = 128 - 0 ∧ (0 ≤ 128 ∧ ∀ i9 k, i9 ≠ 220 → f103 i9 k = fi i9 k) ∧ zH D A τ102 f103 g104 ol s _ ∧ va_S A s.heap _ _ ∧ lv_has _ 3 [(0, .ref (τ102.1 30)), (1, .ref (τ102.1 220)), (2, .int (nI 0))] from ⟨rfl, ⟨Nat.zero_le _, fun i k h => by rw [ef103, va_up_ne _ _ h]⟩, hH, hS, lv_sub hl [2, 1, 0] rfl⟩) (fun k9 ih x9 H locs ls hv9 => ?_)
  obtain ⟨i, f⟩ := x9
  have hv9 : k9 = 128 - i ∧ (i ≤ 128 ∧ ∀ i9 k, i9 ≠ 220 → f i9 k = fi i9 k) ∧ zH D A τ102 f g104 ol s H ∧ va_S A s.heap H locs ∧ lv_has ls 3 [(0, .ref (τ102.1 30)), (1, .ref (τ102.1 220)), (2, .int (nI i))] := hv9
  obtain ⟨hkih106, hv9, hH, hS, hl⟩ := hv9
  obtain ⟨h1, hfr⟩ := hv9
  have ih106 := ih
  clear ih
  have q35 : f 30 35 = nI 128 := by rw [hfr 30 35 (by omega)]; exact h35
  refine lv_iload_n hx hb dX12_grow_11 rfl (lv_at hl 2 rfl) ?_
  refine lv_aload_n hx hb dX12_grow_12 rfl (lv_at hl 0 rfl) ?_
  refine zGetI (D := D) (ci := 12) (C := RX12) (T := TX12) (N := 71) hx hb hts hiX12 hown hH (zk_30 hFτ102) rfl 35 (by decide) rfl hw1 (fun _ h9 => h9) dX12_grow_13 q35 ?_
  refine lv_icmp_ge (tgt := 34) hx hb dX12_grow_16 (by decide) (fun c107 => ?_) (fun c107 => ?_)
  · have zc107 := c107
    replace zc107 := zc_le (nI_toInt (by omega)) (nI_toInt (by omega)) zc107
    refine lv_aload_n hx hb dX12_grow_34 rfl (lv_at hl 0 rfl) ?_
    refine lv_aload_n hx hb dX12_grow_35 rfl (lv_at hl 1 rfl) ?_
    refine zPutR (D := D) (ci := 12) (ty := .array .boolean) (C := RX12) (T := TX12) (N := 71) hx hb hts hiX12 tyX12 tyX12_ok nmX12 hown hH hS (zk_30 hFτ102) rfl 37 (by decide) rfl hw3 (fun _ h9 => h9) rfl (by rw [hkτ102]; decide)  (by decide +kernel) rfl rfl dX12_grow_36 (fun H locs hH hS => ?_)
    obtain ⟨g108, eg108⟩ : ∃ f9 : zFr, f9 = zur g104 30 37 (some 220) := ⟨_, rfl⟩
    rw [← eg108] at hH
    have hF109 : zFix τ102 g108 := by rw [eg108]; exact hFτ102.ur30 (by omega)
    have hG : zGp τ fi fr 1 128 1 τ102 f g108 := zGp.first (ib := 220) (by omega) haτ102 hbτ102 hkτ102 hnτ102 hfr eg104 eg108 hF109
    refine lv_aload_n hx hb dX12_grow_39 rfl (lv_at hl 0 rfl) ?_
    refine lv_aload_n hx hb dX12_grow_40 rfl (lv_at hl 0 rfl) ?_
    refine zGetR (D := D) (ci := 12) (C := RX12) (T := TX12) (N := 71) hx hb hts hiX12 hown hH (zk_30 hG.2.2.2.2.2.2) rfl 38 (by decide) rfl hw4 (fun _ h9 => h9) dX12_grow_41 (by rw [hG.2.2.2.2.1 30 38 (by omega) (by omega)]; exact r1) ?_
    refine va_callq (va_runS (As := [.ref (τ102.1 211)]) (rest := [.ref (τ102.1 30)]) ⟨hx, hb, hml, hown, hts⟩ (m_longer_128 l hl0 D A sad τ102 f g108 ol hG.2.2.2.2.2.2 211 221 (⟨(show τ102.2.2.1 211 = 1 by rw [(hG.1 211 (by omega)).2.1]; exact k1), (show τ102.2.2.2 211 = 128 by rw [(hG.1 211 (by omega)).2.2]; exact l1)⟩) (by rw [(hG.1 221 (by omega)).2.1]; exact v1) (by omega) (by omega)) (cwS 1 hts gX12_grow_X12_longer rfl rfl rfl (by decide +kernel) ⟨Nat.le_of_ble_eq_true rfl, Nat.le_of_ble_eq_true rfl⟩) ⟨zQc_bl, zQc_at hz hS hA hH⟩ rfl rfl hl.1 rfl (lv_room (Nat.le_of_ble_eq_true rfl)) dX12_grow_44 ⟨Nat.le_of_ble_eq_true rfl, Nat.le_of_ble_eq_true rfl⟩) hS (fun q _ h => h) (fun q h => h) (fun r110 u9 t9 H1 locs ht9 hvm9 hw hB hz1 hk1 hS => ?_)
    obtain ⟨τ111, f112, g113⟩ := u9
    have hH := zMv ht9 hvm9 hB
    clear hB
    simp only at hw hH
    generalize H1 = H at hH hS ⊢
    refine W.widen (k := 2) (n := 512) (by decide) (by decide) ?_
    obtain ⟨rfl, hlg⟩ := hw
    have ha6 : ∀ i, i ≠ 221 → τ111.1 i = τ102.1 i := fun i h => (hlg.1 i h).1
    refine W.eq (g2 := F0 m 47 ls [.ref (τ111.1 221), .ref (τ102.1 30)]) rfl ?_
    rw [show τ102.1 30 = τ111.1 30 from (ha6 30 (by omega)).symm] at hl
    rw [show τ102.1 220 = τ111.1 220 from (ha6 220 (by omega)).symm] at hl
    refine W.eq (g2 := F0 m 47 ls [.ref (τ111.1 221), .ref (τ111.1 30)]) (by rw [ha6 30 (by omega)]) ?_
    refine zPutR (D := D) (ci := 12) (ty := .array .int) (C := RX12) (T := TX12) (N := 71) hx hb hts hiX12 tyX12 tyX12_ok nmX12 hown hH hS (zk_30 hlg.2.2.1) rfl 38 (by decide) rfl hw4 (fun _ h9 => h9) rfl (by rw [hlg.2.1.1]; decide)  (by decide +kernel) rfl rfl dX12_grow_47 (fun H locs hH hS => ?_)
    obtain ⟨g114, eg114⟩ : ∃ f9 : zFr, f9 = zur g113 30 38 (some 221) := ⟨_, rfl⟩
    rw [← eg114] at hH
    have hF115 : zFix τ111 g114 := by rw [eg114]; exact hlg.2.2.1.ur30 (by omega)
    have hG := zGp.step (ia := 211) (ib := 221) (N := 128) (kk := 38) hG (by omega) (by omega) (by omega) (by omega) (by decide) hlg (by omega) eg114 hF115
    have hG : zGp τ fi fr 1 128 2 τ111 f112 g114 := hG
    refine lv_aload_n hx hb dX12_grow_50 rfl (lv_at hl 0 rfl) ?_
    refine lv_aload_n hx hb dX12_grow_51 rfl (lv_at hl 0 rfl) ?_
    refine zGetR (D := D) (ci := 12) (C := RX12) (T := TX12) (N := 71) hx hb hts hiX12 hown hH (zk_30 hG.2.2.2.2.2.2) rfl 39 (by decide) rfl hw5 (fun _ h9 => h9) dX12_grow_52 (by rw [hG.2.2.2.2.1 30 39 (by omega) (by omega)]; exact r2) ?_
    refine va_callq (va_runS (As := [.ref (τ111.1 212)]) (rest := [.ref (τ111.1 30)]) ⟨hx, hb, hml, hown, hts⟩ (m_longer_128 l hl0 D A sad τ111 f112 g114 ol hG.2.2.2.2.2.2 212 222 (⟨(show τ111.2.2.1 212 = 1 by rw [(hG.1 212 (by omega)).2.1]; exact k2), (show τ111.2.2.2 212 = 128 by rw [(hG.1 212 (by omega)).2.2]; exact l2)⟩) (by rw [(hG.1 222 (by omega)).2.1]; exact v2) (by omega) (by omega)) (cwS 1 hts gX12_grow_X12_longer rfl rfl rfl (by decide +kernel) ⟨Nat.le_of_ble_eq_true rfl, Nat.le_of_ble_eq_true rfl⟩) ⟨zQc_bl, zQc_at hz hS hA hH⟩ rfl rfl hl.1 rfl (lv_room (Nat.le_of_ble_eq_true rfl)) dX12_grow_55 ⟨Nat.le_of_ble_eq_true rfl, Nat.le_of_ble_eq_true rfl⟩) hS (fun q _ h => h) (fun q h => h) (fun r116 u9 t9 H1 locs ht9 hvm9 hw hB hz1 hk1 hS => ?_)
    obtain ⟨τ117, f118, g119⟩ := u9
    have hH := zMv ht9 hvm9 hB
    clear hB
    simp only at hw hH
    generalize H1 = H at hH hS ⊢
    refine W.widen (k := 3) (n := 768) (by decide) (by decide) ?_
    obtain ⟨rfl, hlg⟩ := hw
    have ha6 : ∀ i, i ≠ 222 → τ117.1 i = τ111.1 i := fun i h => (hlg.1 i h).1
    refine W.eq (g2 := F0 m 58 ls [.ref (τ117.1 222), .ref (τ111.1 30)]) rfl ?_
    rw [show τ111.1 30 = τ117.1 30 from (ha6 30 (by omega)).symm] at hl
    rw [show τ111.1 220 = τ117.1 220 from (ha6 220 (by omega)).symm] at hl
    refine W.eq (g2 := F0 m 58 ls [.ref (τ117.1 222), .ref (τ117.1 30)]) (by rw [ha6 30 (by omega)]) ?_
    refine zPutR (D := D) (ci := 12) (ty := .array .int) (C := RX12) (T := TX12) (N := 71) hx hb hts hiX12 tyX12 tyX12_ok nmX12 hown hH hS (zk_30 hlg.2.2.1) rfl 39 (by decide) rfl hw5 (fun _ h9 => h9) rfl (by rw [hlg.2.1.1]; decide)  (by decide +kernel) rfl rfl dX12_grow_58 (fun H locs hH hS => ?_)
    obtain ⟨g120, eg120⟩ : ∃ f9 : zFr, f9 = zur g119 30 39 (some 222) := ⟨_, rfl⟩
    rw [← eg120] at hH
    have hF121 : zFix τ117 g120 := by rw [eg120]; exact hlg.2.2.1.ur30 (by omega)
    have hG := zGp.step (ia := 212) (ib := 222) (N := 128) (kk := 39) hG (by omega) (by omega) (by omega) (by omega) (by decide) hlg (by omega) eg120 hF121
    have hG : zGp τ fi fr 1 128 3 τ117 f118 g120 := hG
    refine lv_aload_n hx hb dX12_grow_61 rfl (lv_at hl 0 rfl) ?_
    refine lv_aload_n hx hb dX12_grow_62 rfl (lv_at hl 0 rfl) ?_
    refine zGetR (D := D) (ci := 12) (C := RX12) (T := TX12) (N := 71) hx hb hts hiX12 hown hH (zk_30 hG.2.2.2.2.2.2) rfl 40 (by decide) rfl hw6 (fun _ h9 => h9) dX12_grow_63 (by rw [hG.2.2.2.2.1 30 40 (by omega) (by omega)]; exact r3) ?_
    refine va_callq (va_runS (As := [.ref (τ117.1 213)]) (rest := [.ref (τ117.1 30)]) ⟨hx, hb, hml, hown, hts⟩ (m_longer_128 l hl0 D A sad τ117 f118 g120 ol hG.2.2.2.2.2.2 213 223 (⟨(show τ117.2.2.1 213 = 1 by rw [(hG.1 213 (by omega)).2.1]; exact k3), (show τ117.2.2.2 213 = 128 by rw [(hG.1 213 (by omega)).2.2]; exact l3)⟩) (by rw [(hG.1 223 (by omega)).2.1]; exact v3) (by omega) (by omega)) (cwS 1 hts gX12_grow_X12_longer rfl rfl rfl (by decide +kernel) ⟨Nat.le_of_ble_eq_true rfl, Nat.le_of_ble_eq_true rfl⟩) ⟨zQc_bl, zQc_at hz hS hA hH⟩ rfl rfl hl.1 rfl (lv_room (Nat.le_of_ble_eq_true rfl)) dX12_grow_66 ⟨Nat.le_of_ble_eq_true rfl, Nat.le_of_ble_eq_true rfl⟩) hS (fun q _ h => h) (fun q h => h) (fun r122 u9 t9 H1 locs ht9 hvm9 hw hB hz1 hk1 hS => ?_)
    obtain ⟨τ123, f124, g125⟩ := u9
    have hH := zMv ht9 hvm9 hB
    clear hB
    simp only at hw hH
    generalize H1 = H at hH hS ⊢
    refine W.widen (k := 4) (n := 1024) (by decide) (by decide) ?_
    obtain ⟨rfl, hlg⟩ := hw
    have ha6 : ∀ i, i ≠ 223 → τ123.1 i = τ117.1 i := fun i h => (hlg.1 i h).1
    refine W.eq (g2 := F0 m 69 ls [.ref (τ123.1 223), .ref (τ117.1 30)]) rfl ?_
    rw [show τ117.1 30 = τ123.1 30 from (ha6 30 (by omega)).symm] at hl
    rw [show τ117.1 220 = τ123.1 220 from (ha6 220 (by omega)).symm] at hl
    refine W.eq (g2 := F0 m 69 ls [.ref (τ123.1 223), .ref (τ123.1 30)]) (by rw [ha6 30 (by omega)]) ?_
    refine zPutR (D := D) (ci := 12) (ty := .array .int) (C := RX12) (T := TX12) (N := 71) hx hb hts hiX12 tyX12 tyX12_ok nmX12 hown hH hS (zk_30 hlg.2.2.1) rfl 40 (by decide) rfl hw6 (fun _ h9 => h9) rfl (by rw [hlg.2.1.1]; decide)  (by decide +kernel) rfl rfl dX12_grow_69 (fun H locs hH hS => ?_)
    obtain ⟨g126, eg126⟩ : ∃ f9 : zFr, f9 = zur g125 30 40 (some 223) := ⟨_, rfl⟩
    rw [← eg126] at hH
    have hF127 : zFix τ123 g126 := by rw [eg126]; exact hlg.2.2.1.ur30 (by omega)
    have hG := zGp.step (ia := 213) (ib := 223) (N := 128) (kk := 40) hG (by omega) (by omega) (by omega) (by omega) (by decide) hlg (by omega) eg126 hF127
    have hG : zGp τ fi fr 1 128 4 τ123 f124 g126 := hG
    refine lv_aload_n hx hb dX12_grow_72 rfl (lv_at hl 0 rfl) ?_
    refine lv_aload_n hx hb dX12_grow_73 rfl (lv_at hl 0 rfl) ?_
    refine zGetR (D := D) (ci := 12) (C := RX12) (T := TX12) (N := 71) hx hb hts hiX12 hown hH (zk_30 hG.2.2.2.2.2.2) rfl 41 (by decide) rfl hw7 (fun _ h9 => h9) dX12_grow_74 (by rw [hG.2.2.2.2.1 30 41 (by omega) (by omega)]; exact r4) ?_
    refine va_callq (va_runS (As := [.ref (τ123.1 214)]) (rest := [.ref (τ123.1 30)]) ⟨hx, hb, hml, hown, hts⟩ (m_longer_128 l hl0 D A sad τ123 f124 g126 ol hG.2.2.2.2.2.2 214 224 (⟨(show τ123.2.2.1 214 = 1 by rw [(hG.1 214 (by omega)).2.1]; exact k4), (show τ123.2.2.2 214 = 128 by rw [(hG.1 214 (by omega)).2.2]; exact l4)⟩) (by rw [(hG.1 224 (by omega)).2.1]; exact v4) (by omega) (by omega)) (cwS 1 hts gX12_grow_X12_longer rfl rfl rfl (by decide +kernel) ⟨Nat.le_of_ble_eq_true rfl, Nat.le_of_ble_eq_true rfl⟩) ⟨zQc_bl, zQc_at hz hS hA hH⟩ rfl rfl hl.1 rfl (lv_room (Nat.le_of_ble_eq_true rfl)) dX12_grow_77 ⟨Nat.le_of_ble_eq_true rfl, Nat.le_of_ble_eq_true rfl⟩) hS (fun q _ h => h) (fun q h => h) (fun r128 u9 t9 H1 locs ht9 hvm9 hw hB hz1 hk1 hS => ?_)
    obtain ⟨τ129, f130, g131⟩ := u9
    have hH := zMv ht9 hvm9 hB
    clear hB
    simp only at hw hH
    generalize H1 = H at hH hS ⊢
    refine W.widen (k := 5) (n := 1280) (by decide) (by decide) ?_
    obtain ⟨rfl, hlg⟩ := hw
    have ha6 : ∀ i, i ≠ 224 → τ129.1 i = τ123.1 i := fun i h => (hlg.1 i h).1
    refine W.eq (g2 := F0 m 80 ls [.ref (τ129.1 224), .ref (τ123.1 30)]) rfl ?_
    rw [show τ123.1 30 = τ129.1 30 from (ha6 30 (by omega)).symm] at hl
    rw [show τ123.1 220 = τ129.1 220 from (ha6 220 (by omega)).symm] at hl
    refine W.eq (g2 := F0 m 80 ls [.ref (τ129.1 224), .ref (τ129.1 30)]) (by rw [ha6 30 (by omega)]) ?_
    refine zPutR (D := D) (ci := 12) (ty := .array .int) (C := RX12) (T := TX12) (N := 71) hx hb hts hiX12 tyX12 tyX12_ok nmX12 hown hH hS (zk_30 hlg.2.2.1) rfl 41 (by decide) rfl hw7 (fun _ h9 => h9) rfl (by rw [hlg.2.1.1]; decide)  (by decide +kernel) rfl rfl dX12_grow_80 (fun H locs hH hS => ?_)
    obtain ⟨g132, eg132⟩ : ∃ f9 : zFr, f9 = zur g131 30 41 (some 224) := ⟨_, rfl⟩
    rw [← eg132] at hH
    have hF133 : zFix τ129 g132 := by rw [eg132]; exact hlg.2.2.1.ur30 (by omega)
    have hG := zGp.step (ia := 214) (ib := 224) (N := 128) (kk := 41) hG (by omega) (by omega) (by omega) (by omega) (by decide) hlg (by omega) eg132 hF133
    have hG : zGp τ fi fr 1 128 5 τ129 f130 g132 := hG
    refine lv_aload_n hx hb dX12_grow_83 rfl (lv_at hl 0 rfl) ?_
    refine lv_aload_n hx hb dX12_grow_84 rfl (lv_at hl 0 rfl) ?_
    refine zGetR (D := D) (ci := 12) (C := RX12) (T := TX12) (N := 71) hx hb hts hiX12 hown hH (zk_30 hG.2.2.2.2.2.2) rfl 42 (by decide) rfl hw8 (fun _ h9 => h9) dX12_grow_85 (by rw [hG.2.2.2.2.1 30 42 (by omega) (by omega)]; exact r5) ?_
    refine va_callq (va_runS (As := [.ref (τ129.1 215)]) (rest := [.ref (τ129.1 30)]) ⟨hx, hb, hml, hown, hts⟩ (m_longer_128 l hl0 D A sad τ129 f130 g132 ol hG.2.2.2.2.2.2 215 225 (⟨(show τ129.2.2.1 215 = 1 by rw [(hG.1 215 (by omega)).2.1]; exact k5), (show τ129.2.2.2 215 = 128 by rw [(hG.1 215 (by omega)).2.2]; exact l5)⟩) (by rw [(hG.1 225 (by omega)).2.1]; exact v5) (by omega) (by omega)) (cwS 1 hts gX12_grow_X12_longer rfl rfl rfl (by decide +kernel) ⟨Nat.le_of_ble_eq_true rfl, Nat.le_of_ble_eq_true rfl⟩) ⟨zQc_bl, zQc_at hz hS hA hH⟩ rfl rfl hl.1 rfl (lv_room (Nat.le_of_ble_eq_true rfl)) dX12_grow_88 ⟨Nat.le_of_ble_eq_true rfl, Nat.le_of_ble_eq_true rfl⟩) hS (fun q _ h => h) (fun q h => h) (fun r134 u9 t9 H1 locs ht9 hvm9 hw hB hz1 hk1 hS => ?_)
    obtain ⟨τ135, f136, g137⟩ := u9
    have hH := zMv ht9 hvm9 hB
    clear hB
    simp only at hw hH
    generalize H1 = H at hH hS ⊢
    refine W.widen (k := 6) (n := 1536) (by decide) (by decide) ?_
    obtain ⟨rfl, hlg⟩ := hw
    have ha6 : ∀ i, i ≠ 225 → τ135.1 i = τ129.1 i := fun i h => (hlg.1 i h).1
    refine W.eq (g2 := F0 m 91 ls [.ref (τ135.1 225), .ref (τ129.1 30)]) rfl ?_
    rw [show τ129.1 30 = τ135.1 30 from (ha6 30 (by omega)).symm] at hl
    rw [show τ129.1 220 = τ135.1 220 from (ha6 220 (by omega)).symm] at hl
    refine W.eq (g2 := F0 m 91 ls [.ref (τ135.1 225), .ref (τ135.1 30)]) (by rw [ha6 30 (by omega)]) ?_
    refine zPutR (D := D) (ci := 12) (ty := .array .int) (C := RX12) (T := TX12) (N := 71) hx hb hts hiX12 tyX12 tyX12_ok nmX12 hown hH hS (zk_30 hlg.2.2.1) rfl 42 (by decide) rfl hw8 (fun _ h9 => h9) rfl (by rw [hlg.2.1.1]; decide)  (by decide +kernel) rfl rfl dX12_grow_91 (fun H locs hH hS => ?_)
    obtain ⟨g138, eg138⟩ : ∃ f9 : zFr, f9 = zur g137 30 42 (some 225) := ⟨_, rfl⟩
    rw [← eg138] at hH
    have hF139 : zFix τ135 g138 := by rw [eg138]; exact hlg.2.2.1.ur30 (by omega)
    have hG := zGp.step (ia := 215) (ib := 225) (N := 128) (kk := 42) hG (by omega) (by omega) (by omega) (by omega) (by decide) hlg (by omega) eg138 hF139
    have hG : zGp τ fi fr 1 128 6 τ135 f136 g138 := hG
    refine lv_aload_n hx hb dX12_grow_94 rfl (lv_at hl 0 rfl) ?_
    refine lv_aload_n hx hb dX12_grow_95 rfl (lv_at hl 0 rfl) ?_
    refine zGetR (D := D) (ci := 12) (C := RX12) (T := TX12) (N := 71) hx hb hts hiX12 hown hH (zk_30 hG.2.2.2.2.2.2) rfl 43 (by decide) rfl hw9 (fun _ h9 => h9) dX12_grow_96 (by rw [hG.2.2.2.2.1 30 43 (by omega) (by omega)]; exact r6) ?_
    refine va_callq (va_runS (As := [.ref (τ135.1 216)]) (rest := [.ref (τ135.1 30)]) ⟨hx, hb, hml, hown, hts⟩ (m_longer_1024 l hl0 D A sad τ135 f136 g138 ol hG.2.2.2.2.2.2 216 226 (⟨(show τ135.2.2.1 216 = 1 by rw [(hG.1 216 (by omega)).2.1]; exact k6), (show τ135.2.2.2 216 = 1024 by rw [(hG.1 216 (by omega)).2.2]; exact l6)⟩) (by rw [(hG.1 226 (by omega)).2.1]; exact v6) (by omega) (by omega)) (cwS 1 hts gX12_grow_X12_longer rfl rfl rfl (by decide +kernel) ⟨Nat.le_of_ble_eq_true rfl, Nat.le_of_ble_eq_true rfl⟩) ⟨zQc_bl, zQc_at hz hS hA hH⟩ rfl rfl hl.1 rfl (lv_room (Nat.le_of_ble_eq_true rfl)) dX12_grow_99 ⟨Nat.le_of_ble_eq_true rfl, Nat.le_of_ble_eq_true rfl⟩) hS (fun q _ h => h) (fun q h => h) (fun r140 u9 t9 H1 locs ht9 hvm9 hw hB hz1 hk1 hS => ?_)
    obtain ⟨τ141, f142, g143⟩ := u9
    have hH := zMv ht9 hvm9 hB
    clear hB
    simp only at hw hH
    generalize H1 = H at hH hS ⊢
    refine W.widen (k := 7) (n := 3584) (by decide) (by decide) ?_
    obtain ⟨rfl, hlg⟩ := hw
    have ha6 : ∀ i, i ≠ 226 → τ141.1 i = τ135.1 i := fun i h => (hlg.1 i h).1
    refine W.eq (g2 := F0 m 102 ls [.ref (τ141.1 226), .ref (τ135.1 30)]) rfl ?_
    rw [show τ135.1 30 = τ141.1 30 from (ha6 30 (by omega)).symm] at hl
    rw [show τ135.1 220 = τ141.1 220 from (ha6 220 (by omega)).symm] at hl
    refine W.eq (g2 := F0 m 102 ls [.ref (τ141.1 226), .ref (τ141.1 30)]) (by rw [ha6 30 (by omega)]) ?_
    refine zPutR (D := D) (ci := 12) (ty := .array .int) (C := RX12) (T := TX12) (N := 71) hx hb hts hiX12 tyX12 tyX12_ok nmX12 hown hH hS (zk_30 hlg.2.2.1) rfl 43 (by decide) rfl hw9 (fun _ h9 => h9) rfl (by rw [hlg.2.1.1]; decide)  (by decide +kernel) rfl rfl dX12_grow_102 (fun H locs hH hS => ?_)
    obtain ⟨g144, eg144⟩ : ∃ f9 : zFr, f9 = zur g143 30 43 (some 226) := ⟨_, rfl⟩
    rw [← eg144] at hH
    have hF145 : zFix τ141 g144 := by rw [eg144]; exact hlg.2.2.1.ur30 (by omega)
    have hG := zGp.step (ia := 216) (ib := 226) (N := 1024) (kk := 43) hG (by omega) (by omega) (by omega) (by omega) (by decide) hlg (by omega) eg144 hF145
    have hG : zGp τ fi fr 1 128 7 τ141 f142 g144 := hG
    refine lv_aload_n hx hb dX12_grow_105 rfl (lv_at hl 0 rfl) ?_
    refine lv_aload_n hx hb dX12_grow_106 rfl (lv_at hl 0 rfl) ?_
    refine zGetR (D := D) (ci := 12) (C := RX12) (T := TX12) (N := 71) hx hb hts hiX12 hown hH (zk_30 hG.2.2.2.2.2.2) rfl 44 (by decide) rfl hw10 (fun _ h9 => h9) dX12_grow_107 (by rw [hG.2.2.2.2.1 30 44 (by omega) (by omega)]; exact r7) ?_
    refine va_callq (va_runS (As := [.ref (τ141.1 217)]) (rest := [.ref (τ141.1 30)]) ⟨hx, hb, hml, hown, hts⟩ (m_longer_1024 l hl0 D A sad τ141 f142 g144 ol hG.2.2.2.2.2.2 217 227 (⟨(show τ141.2.2.1 217 = 1 by rw [(hG.1 217 (by omega)).2.1]; exact k7), (show τ141.2.2.2 217 = 1024 by rw [(hG.1 217 (by omega)).2.2]; exact l7)⟩) (by rw [(hG.1 227 (by omega)).2.1]; exact v7) (by omega) (by omega)) (cwS 1 hts gX12_grow_X12_longer rfl rfl rfl (by decide +kernel) ⟨Nat.le_of_ble_eq_true rfl, Nat.le_of_ble_eq_true rfl⟩) ⟨zQc_bl, zQc_at hz hS hA hH⟩ rfl rfl hl.1 rfl (lv_room (Nat.le_of_ble_eq_true rfl)) dX12_grow_110 ⟨Nat.le_of_ble_eq_true rfl, Nat.le_of_ble_eq_true rfl⟩) hS (fun q _ h => h) (fun q h => h) (fun r146 u9 t9 H1 locs ht9 hvm9 hw hB hz1 hk1 hS => ?_)
    obtain ⟨τ147, f148, g149⟩ := u9
    have hH := zMv ht9 hvm9 hB
    clear hB
    simp only at hw hH
    generalize H1 = H at hH hS ⊢
    refine W.widen (k := 8) (n := 5632) (by decide) (by decide) ?_
    obtain ⟨rfl, hlg⟩ := hw
    have ha6 : ∀ i, i ≠ 227 → τ147.1 i = τ141.1 i := fun i h => (hlg.1 i h).1
    refine W.eq (g2 := F0 m 113 ls [.ref (τ147.1 227), .ref (τ141.1 30)]) rfl ?_
    rw [show τ141.1 30 = τ147.1 30 from (ha6 30 (by omega)).symm] at hl
    rw [show τ141.1 220 = τ147.1 220 from (ha6 220 (by omega)).symm] at hl
    refine W.eq (g2 := F0 m 113 ls [.ref (τ147.1 227), .ref (τ147.1 30)]) (by rw [ha6 30 (by omega)]) ?_
    refine zPutR (D := D) (ci := 12) (ty := .array .int) (C := RX12) (T := TX12) (N := 71) hx hb hts hiX12 tyX12 tyX12_ok nmX12 hown hH hS (zk_30 hlg.2.2.1) rfl 44 (by decide) rfl hw10 (fun _ h9 => h9) rfl (by rw [hlg.2.1.1]; decide)  (by decide +kernel) rfl rfl dX12_grow_113 (fun H locs hH hS => ?_)
    obtain ⟨g150, eg150⟩ : ∃ f9 : zFr, f9 = zur g149 30 44 (some 227) := ⟨_, rfl⟩
    rw [← eg150] at hH
    have hF151 : zFix τ147 g150 := by rw [eg150]; exact hlg.2.2.1.ur30 (by omega)
    have hG := zGp.step (ia := 217) (ib := 227) (N := 1024) (kk := 44) hG (by omega) (by omega) (by omega) (by omega) (by decide) hlg (by omega) eg150 hF151
    have hG : zGp τ fi fr 1 128 8 τ147 f148 g150 := hG
    refine W.widen (k := 8) (n := 5632) (by decide) (by decide) ?_
    exact W.vret hx hb hr (fun t9 ht9 hW9 => ⟨⟨(τ147, f148, g150), rfl, (show zMq τ147 f148 g150 2 256 128 ∧ zGz τ fr τ147 g150 ∧ ∀ i k, ¬ (200 ≤ i ∧ i < 240) → f148 i k = fi i k from zGp.done hMq0 (by omega) hG), zEnd1 hH ht9 hW9⟩, hS.F ht9⟩) hS.2.2 dX12_grow_116
  · have zc107 := c107
    replace zc107 := zc_nle (nI_toInt (by omega)) (nI_toInt (by omega)) zc107
    refine lv_aload_n hx hb dX12_grow_19 rfl (lv_at hl 1 rfl) ?_
    refine lv_iload_n hx hb dX12_grow_20 rfl (lv_at hl 2 rfl) ?_
    refine lv_aload_n hx hb dX12_grow_21 rfl (lv_at hl 0 rfl) ?_
    refine zGetR (D := D) (ci := 12) (C := RX12) (T := TX12) (N := 71) hx hb hts hiX12 hown hH (zk_30 hFτ102) rfl 37 (by decide) rfl hw3 (fun _ h9 => h9) dX12_grow_22 (by rw [eg104, va_up_ne _ _ (by omega)]; exact r0) ?_
    refine lv_iload_n hx hb dX12_grow_25 rfl (lv_at hl 2 rfl) ?_
    refine zZaldN (D := D) hx hb hH (show τ102.2.2.1 210 = 3 by rw [(hbτ102 210 (by omega)).1]; exact k0) (show τ102.2.2.2 210 = 128 by rw [(hbτ102 210 (by omega)).2]; exact l0) (by omega) (by omega) rfl dX12_grow_26 ?_
    refine zZastN (D := D) hx hb hH hS hkτ102 hnτ102 (by omega) (by omega) dX12_grow_27 (fun H locs hH hS => ?_)
    obtain ⟨f152, ef152⟩ : ∃ f9 : zFi, f9 = zu f 220 i (vp_nar .boolean (f 210 i)) := ⟨_, rfl⟩
    rw [← ef152] at hH
    have q153 : f152 30 35 = nI 128 := by rw [ef152, zu_n (fun h9 => absurd h9.1 (by decide))]; exact q35
    have q154 : f152 220 i = (vp_nar .boolean (f 210 i)) := by rw [ef152]; exact zu_s
    refine lv_iinc (v := nI (i + 1)) (lv' := [(2, .int (nI (i + 1))), (0, .ref (τ102.1 30)), (1, .ref (τ102.1 220))]) hx hb dX12_grow_28 hl (k := 2) rfl (by rw [show (Int32.ofInt 1 : Int32) = nI 1 from by decide, nI_add]) (by decide) rfl (fun ls hl => ?_)
    refine lv_goto (tgt := 11) hx hb dX12_grow_31 (by decide) ?_
    exact ih106 (128 - (i + 1)) (by omega) (i + 1, f152) _ _ _ (show 128 - (i + 1) = 128 - (i + 1) ∧ ((i + 1) ≤ 128 ∧ ∀ i9 k, i9 ≠ 220 → f152 i9 k = fi i9 k) ∧ zH D A τ102 f152 g104 ol s _ ∧ va_S A s.heap _ _ ∧ lv_has _ 3 [(0, .ref (τ102.1 30)), (1, .ref (τ102.1 220)), (2, .int (nI (i + 1)))] from ⟨rfl, ⟨by omega, fun i9 k h => by rw [ef152, zu_n (by omega)]; exact hfr i9 k h⟩, hH, hS, lv_sub hl [1, 2, 0] rfl⟩)
set_option maxHeartbeats 4000000 in
set_option maxRecDepth 100000 in
/-- grow -/
theorem m_grow_2 (l : Launch) (hl0 : l.stackTraces = false) (D : va_G) (A : Nat → Prop) (sad : Nat → Nat) (τ : zTy) (fi : zFi) (fr : zFr) (ol : Int64) (hF : zFix τ fr) (hMq : zMq τ fi fr 2 256 256) : Met l yX12_grow wsX12_grow ({ frames := 1, cells := 8, slots := 11264, locals := 22 }) (va_Pc [.ref (τ.1 30)] (zQc D A sad τ fi fr ol)) (va_Qv (fun (u : zTy × zFi × zFr) => zMq u.1 u.2.1 u.2.2 3 512 256 ∧ zGz τ fr u.1 u.2.2 ∧ ∀ i k, ¬ (200 ≤ i ∧ i < 240) → u.2.1 i k = fi i k) (fun (u : zTy × zFi × zFr) (t : State) => zH D A u.1 u.2.1 u.2.2 ol t t.heap) A) 8 11264 A := by
  refine Met.ofW (cc := cX12_grow) (maxL := 3) (ret := none) (by decide) rfl ?_
  intro p9 e9 s m args below meth c9 s₁ B hml hv
  obtain ⟨rfl, hz, hH, hA⟩ := hv
  have hx := B.exec
  have hb := B.bytes
  have hr := B.returns
  have hts := atoms_spec (ws := wsX12_grow) B.pre
  have hown : s.vm.findClass RX12 = some m.cls := findClass_of_methodNamed B.named
  have hlocks := B.notSynchronized
  have hS : va_S A s.heap s.heap [] := va_S.rf
  have hl := lv_entry ([.ref (τ.1 30)]) (n := 3) (Nat.le_of_ble_eq_true rfl)
  rw [lg_entry_eq]
  generalize (lg_sl ([.ref (τ.1 30)]) ++ List.replicate (3 - (lg_sl ([.ref (τ.1 30)])).length) Slot.unset).toArray = ls at hl ⊢
  have hl : lv_has ls 3 [(0, .ref (τ.1 30))] := hl
  have hMq0 := hMq
  obtain ⟨-, -, h35, ⟨⟨k0, l0⟩, ⟨k1, l1⟩, ⟨k2, l2⟩, ⟨k3, l3⟩, ⟨k4, l4⟩, ⟨k5, l5⟩, ⟨k6, l6⟩, ⟨k7, l7⟩⟩, ⟨r0, r1, r2, r3, r4, r5, r6, r7⟩, -, hvd⟩ := hMq
  have k0 : τ.2.2.1 220 = 3 := k0
  have l0 : τ.2.2.2 220 = 256 := l0
  have r0 : fr 30 37 = some 220 := r0
  have v0 : τ.2.2.1 230 = 0 := hvd 3 (by omega) (by omega) 0 (by omega)
  have k1 : τ.2.2.1 221 = 1 := k1
  have l1 : τ.2.2.2 221 = 256 := l1
  have r1 : fr 30 38 = some 221 := r1
  have v1 : τ.2.2.1 231 = 0 := hvd 3 (by omega) (by omega) 1 (by omega)
  have k2 : τ.2.2.1 222 = 1 := k2
  have l2 : τ.2.2.2 222 = 256 := l2
  have r2 : fr 30 39 = some 222 := r2
  have v2 : τ.2.2.1 232 = 0 := hvd 3 (by omega) (by omega) 2 (by omega)
  have k3 : τ.2.2.1 223 = 1 := k3
  have l3 : τ.2.2.2 223 = 256 := l3
  have r3 : fr 30 40 = some 223 := r3
  have v3 : τ.2.2.1 233 = 0 := hvd 3 (by omega) (by omega) 3 (by omega)
  have k4 : τ.2.2.1 224 = 1 := k4
  have l4 : τ.2.2.2 224 = 256 := l4
  have r4 : fr 30 41 = some 224 := r4
  have v4 : τ.2.2.1 234 = 0 := hvd 3 (by omega) (by omega) 4 (by omega)
  have k5 : τ.2.2.1 225 = 1 := k5
  have l5 : τ.2.2.2 225 = 256 := l5
  have r5 : fr 30 42 = some 225 := r5
  have v5 : τ.2.2.1 235 = 0 := hvd 3 (by omega) (by omega) 5 (by omega)
  have k6 : τ.2.2.1 226 = 1 := k6
  have l6 : τ.2.2.2 226 = 2048 := l6
  have r6 : fr 30 43 = some 226 := r6
  have v6 : τ.2.2.1 236 = 0 := hvd 3 (by omega) (by omega) 6 (by omega)
  have k7 : τ.2.2.1 227 = 1 := k7
  have l7 : τ.2.2.2 227 = 2048 := l7
  have r7 : fr 30 44 = some 227 := r7
  have v7 : τ.2.2.1 237 = 0 := hvd 3 (by omega) (by omega) 7 (by omega)
  have hiX12 : ∀ w ∈ u_ws RX12 TX12 71, w ∈ wsX12_grow := fun _ h => List.mem_cons_of_mem _ (List.mem_append_right _ h)
  have hw1 := hts (.fieldLink RX12 320 "PostHouseModel" "doubts" "I") (by decide +kernel)
  have hw2 := hts (.arrayClass .boolean) (by decide +kernel)
  have hw3 := hts (.fieldLink RX12 71 "PostHouseModel" "doubtWaits" "[Z") (by decide +kernel)
  have hw4 := hts (.fieldLink RX12 75 "PostHouseModel" "doubtMendings" "[I") (by decide +kernel)
  have hw5 := hts (.fieldLink RX12 78 "PostHouseModel" "doubtLines" "[I") (by decide +kernel)
  have hw6 := hts (.fieldLink RX12 81 "PostHouseModel" "doubtKnown" "[I") (by decide +kernel)
  have hw7 := hts (.fieldLink RX12 84 "PostHouseModel" "doubtSum" "[I") (by decide +kernel)
  have hw8 := hts (.fieldLink RX12 87 "PostHouseModel" "doubtMoney" "[I") (by decide +kernel)
  have hw9 := hts (.fieldLink RX12 90 "PostHouseModel" "doubtCode" "[I") (by decide +kernel)
  have hw10 := hts (.fieldLink RX12 93 "PostHouseModel" "doubtMany" "[I") (by decide +kernel)
  refine lv_iconst (v := nI 2) hx hb dX12_grow_0 (by decide) ?_
  refine lv_aload_n hx hb dX12_grow_1 rfl (lv_at hl 0 rfl) ?_
  refine zGetI (D := D) (ci := 12) (C := RX12) (T := TX12) (N := 71) hx hb hts hiX12 hown hH (zk_30 hF) rfl 35 (by decide) rfl hw1 (fun _ h9 => h9) dX12_grow_2 h35 ?_
  refine lv_imul hx hb dX12_grow_5 ?_
  refine lv_topi (fun v101 ev101 => ?_)
  obtain rfl : v101 = nI 512 := ev101.trans (by decide)
  refine zNewa (D := D) (atype := .boolean) (t := 3) (N' := 512) hx hb hw2 rfl (by decide) (by decide) rfl hH hS hA 230 v0 (by decide) (by decide) (by first | decide | (simp only [zT, componentBytes]; omega)) (Nat.le_of_ble_eq_true rfl) (Nat.le_of_ble_eq_true rfl) dX12_grow_6 (fun q9 c9 H hH8 hS => ?_)
  obtain ⟨τ102, eτ102⟩ : ∃ t9 : zTy, t9 = (va_up τ.1 230 q9, va_up τ.2.1 230 c9, va_up τ.2.2.1 230 3, va_up τ.2.2.2 230 512) := ⟨_, rfl⟩
  obtain ⟨f103, ef103⟩ : ∃ f9 : zFi, f9 = va_up fi 230 (fun _ => 0) := ⟨_, rfl⟩
  obtain ⟨g104, eg104⟩ : ∃ f9 : zFr, f9 = va_up fr 230 (fun _ => none) := ⟨_, rfl⟩
  have hH : zH D A τ102 f103 g104 ol s H := by rw [eτ102, ef103, eg104]; exact hH8
  clear hH8
  have hqτ102 : τ102.1 230 = q9 := by rw [eτ102]; exact va_up_self τ.1 230 q9
  have haτ102 : ∀ i, i ≠ 230 → τ102.1 i = τ.1 i := fun i h => by rw [eτ102]; exact va_up_ne _ _ h
  have hkτ102 : τ102.2.2.1 230 = 3 := by rw [eτ102]; exact va_up_self τ.2.2.1 230 3
  have hnτ102 : τ102.2.2.2 230 = 512 := by rw [eτ102]; exact va_up_self τ.2.2.2 230 512
  have hbτ102 : ∀ i, i ≠ 230 → τ102.2.2.1 i = τ.2.2.1 i ∧ τ102.2.2.2 i = τ.2.2.2 i := fun i h => by rw [eτ102]; exact ⟨va_up_ne _ _ h, va_up_ne _ _ h⟩
  have hFτ102 : zFix τ102 g104 := by rw [eτ102, eg104]; exact hF.up (by omega)
  clear eτ102
  subst hqτ102
  rw [show τ.1 30 = τ102.1 30 from (haτ102 30 (by omega)).symm] at hl
  have q105 : f103 30 35 = nI 256 := by rw [ef103, va_up_ne _ _ (by omega)]; exact h35
  refine W.widen (k := 1) (n := 512) (by decide) (by decide) ?_
  refine lv_astore_n (lv' := [(1, .ref (τ102.1 230)), (0, .ref (τ102.1 30))]) hx hb dX12_grow_8 rfl hl (by decide) rfl (fun ls hl => ?_)
  refine lv_iconst (v := nI 0) hx hb dX12_grow_9 (by decide) ?_
  refine lv_istore_n (lv' := [(2, .int (nI 0)), (1, .ref (τ102.1 230)), (0, .ref (τ102.1 30))]) hx hb dX12_grow_10 rfl hl (by decide) rfl (fun ls hl => ?_)
  refine zLp (σ := Nat × zFi) (fun x9 k9 H locs ls => (fun (i : Nat) (f : zFi) => k9 = 256 - i ∧ (i ≤ 256 ∧ ∀ i9 k, i9 ≠ 230 → f i9 k = fi i9 k) ∧ zH D A τ102 f g104 ol s H ∧ va_S A s.heap H locs ∧ lv_has ls 3 [(0, .ref (τ102.1 30)), (1, .ref (τ102.1 230)), (2, .int (nI i))]) x9.1 x9.2) (0, f103) (256 - 0) (show 256 - 0 = 256 - 0 ∧ (0 ≤ 256 ∧ ∀ i9 k, i9 ≠ 230 → f103 i9 k = fi i9 k) ∧ zH D A τ102 f103 g104 ol s _ ∧ va_S A s.heap _ _ ∧ lv_has _ 3 [(0, .ref (τ102.1 30)), (1, .ref (τ102.1 230)), (2, .int (nI 0))] from ⟨rfl, ⟨Nat.zero_le _, fun i k h => by rw [ef103, va_up_ne _ _ h]⟩, hH, hS, lv_sub hl [2, 1, 0] rfl⟩) (fun k9 ih x9 H locs ls hv9 => ?_)
  obtain ⟨i, f⟩ := x9
  have hv9 : k9 = 256 - i ∧ (i ≤ 256 ∧ ∀ i9 k, i9 ≠ 230 → f i9 k = fi i9 k) ∧ zH D A τ102 f g104 ol s H ∧ va_S A s.heap H locs ∧ lv_has ls 3 [(0, .ref (τ102.1 30)), (1, .ref (τ102.1 230)), (2, .int (nI i))] := hv9
  obtain ⟨hkih106, hv9, hH, hS, hl⟩ := hv9
  obtain ⟨h1, hfr⟩ := hv9
  have ih106 := ih
  clear ih
  have q35 : f 30 35 = nI 256 := by rw [hfr 30 35 (by omega)]; exact h35
  refine lv_iload_n hx hb dX12_grow_11 rfl (lv_at hl 2 rfl) ?_
  refine lv_aload_n hx hb dX12_grow_12 rfl (lv_at hl 0 rfl) ?_
  refine zGetI (D := D) (ci := 12) (C := RX12) (T := TX12) (N := 71) hx hb hts hiX12 hown hH (zk_30 hFτ102) rfl 35 (by decide) rfl hw1 (fun _ h9 => h9) dX12_grow_13 q35 ?_
  refine lv_icmp_ge (tgt := 34) hx hb dX12_grow_16 (by decide) (fun c107 => ?_) (fun c107 => ?_)
  · have zc107 := c107
    replace zc107 := zc_le (nI_toInt (by omega)) (nI_toInt (by omega)) zc107
    refine lv_aload_n hx hb dX12_grow_34 rfl (lv_at hl 0 rfl) ?_
    refine lv_aload_n hx hb dX12_grow_35 rfl (lv_at hl 1 rfl) ?_
    refine zPutR (D := D) (ci := 12) (ty := .array .boolean) (C := RX12) (T := TX12) (N := 71) hx hb hts hiX12 tyX12 tyX12_ok nmX12 hown hH hS (zk_30 hFτ102) rfl 37 (by decide) rfl hw3 (fun _ h9 => h9) rfl (by rw [hkτ102]; decide)  (by decide +kernel) rfl rfl dX12_grow_36 (fun H locs hH hS => ?_)
    obtain ⟨g108, eg108⟩ : ∃ f9 : zFr, f9 = zur g104 30 37 (some 230) := ⟨_, rfl⟩
    rw [← eg108] at hH
    have hF109 : zFix τ102 g108 := by rw [eg108]; exact hFτ102.ur30 (by omega)
    have hG : zGp τ fi fr 2 256 1 τ102 f g108 := zGp.first (ib := 230) (by omega) haτ102 hbτ102 hkτ102 hnτ102 hfr eg104 eg108 hF109
    refine lv_aload_n hx hb dX12_grow_39 rfl (lv_at hl 0 rfl) ?_
    refine lv_aload_n hx hb dX12_grow_40 rfl (lv_at hl 0 rfl) ?_
    refine zGetR (D := D) (ci := 12) (C := RX12) (T := TX12) (N := 71) hx hb hts hiX12 hown hH (zk_30 hG.2.2.2.2.2.2) rfl 38 (by decide) rfl hw4 (fun _ h9 => h9) dX12_grow_41 (by rw [hG.2.2.2.2.1 30 38 (by omega) (by omega)]; exact r1) ?_
    refine va_callq (va_runS (As := [.ref (τ102.1 221)]) (rest := [.ref (τ102.1 30)]) ⟨hx, hb, hml, hown, hts⟩ (m_longer_256 l hl0 D A sad τ102 f g108 ol hG.2.2.2.2.2.2 221 231 (⟨(show τ102.2.2.1 221 = 1 by rw [(hG.1 221 (by omega)).2.1]; exact k1), (show τ102.2.2.2 221 = 256 by rw [(hG.1 221 (by omega)).2.2]; exact l1)⟩) (by rw [(hG.1 231 (by omega)).2.1]; exact v1) (by omega) (by omega)) (cwS 1 hts gX12_grow_X12_longer rfl rfl rfl (by decide +kernel) ⟨Nat.le_of_ble_eq_true rfl, Nat.le_of_ble_eq_true rfl⟩) ⟨zQc_bl, zQc_at hz hS hA hH⟩ rfl rfl hl.1 rfl (lv_room (Nat.le_of_ble_eq_true rfl)) dX12_grow_44 ⟨Nat.le_of_ble_eq_true rfl, Nat.le_of_ble_eq_true rfl⟩) hS (fun q _ h => h) (fun q h => h) (fun r110 u9 t9 H1 locs ht9 hvm9 hw hB hz1 hk1 hS => ?_)
    obtain ⟨τ111, f112, g113⟩ := u9
    have hH := zMv ht9 hvm9 hB
    clear hB
    simp only at hw hH
    generalize H1 = H at hH hS ⊢
    refine W.widen (k := 2) (n := 1024) (by decide) (by decide) ?_
    obtain ⟨rfl, hlg⟩ := hw
    have ha6 : ∀ i, i ≠ 231 → τ111.1 i = τ102.1 i := fun i h => (hlg.1 i h).1
    refine W.eq (g2 := F0 m 47 ls [.ref (τ111.1 231), .ref (τ102.1 30)]) rfl ?_
    rw [show τ102.1 30 = τ111.1 30 from (ha6 30 (by omega)).symm] at hl
    rw [show τ102.1 230 = τ111.1 230 from (ha6 230 (by omega)).symm] at hl
    refine W.eq (g2 := F0 m 47 ls [.ref (τ111.1 231), .ref (τ111.1 30)]) (by rw [ha6 30 (by omega)]) ?_
    refine zPutR (D := D) (ci := 12) (ty := .array .int) (C := RX12) (T := TX12) (N := 71) hx hb hts hiX12 tyX12 tyX12_ok nmX12 hown hH hS (zk_30 hlg.2.2.1) rfl 38 (by decide) rfl hw4 (fun _ h9 => h9) rfl (by rw [hlg.2.1.1]; decide)  (by decide +kernel) rfl rfl dX12_grow_47 (fun H locs hH hS => ?_)
    obtain ⟨g114, eg114⟩ : ∃ f9 : zFr, f9 = zur g113 30 38 (some 231) := ⟨_, rfl⟩
    rw [← eg114] at hH
    have hF115 : zFix τ111 g114 := by rw [eg114]; exact hlg.2.2.1.ur30 (by omega)
    have hG := zGp.step (ia := 221) (ib := 231) (N := 256) (kk := 38) hG (by omega) (by omega) (by omega) (by omega) (by decide) hlg (by omega) eg114 hF115
    have hG : zGp τ fi fr 2 256 2 τ111 f112 g114 := hG
    refine lv_aload_n hx hb dX12_grow_50 rfl (lv_at hl 0 rfl) ?_
    refine lv_aload_n hx hb dX12_grow_51 rfl (lv_at hl 0 rfl) ?_
    refine zGetR (D := D) (ci := 12) (C := RX12) (T := TX12) (N := 71) hx hb hts hiX12 hown hH (zk_30 hG.2.2.2.2.2.2) rfl 39 (by decide) rfl hw5 (fun _ h9 => h9) dX12_grow_52 (by rw [hG.2.2.2.2.1 30 39 (by omega) (by omega)]; exact r2) ?_
    refine va_callq (va_runS (As := [.ref (τ111.1 222)]) (rest := [.ref (τ111.1 30)]) ⟨hx, hb, hml, hown, hts⟩ (m_longer_256 l hl0 D A sad τ111 f112 g114 ol hG.2.2.2.2.2.2 222 232 (⟨(show τ111.2.2.1 222 = 1 by rw [(hG.1 222 (by omega)).2.1]; exact k2), (show τ111.2.2.2 222 = 256 by rw [(hG.1 222 (by omega)).2.2]; exact l2)⟩) (by rw [(hG.1 232 (by omega)).2.1]; exact v2) (by omega) (by omega)) (cwS 1 hts gX12_grow_X12_longer rfl rfl rfl (by decide +kernel) ⟨Nat.le_of_ble_eq_true rfl, Nat.le_of_ble_eq_true rfl⟩) ⟨zQc_bl, zQc_at hz hS hA hH⟩ rfl rfl hl.1 rfl (lv_room (Nat.le_of_ble_eq_true rfl)) dX12_grow_55 ⟨Nat.le_of_ble_eq_true rfl, Nat.le_of_ble_eq_true rfl⟩) hS (fun q _ h => h) (fun q h => h) (fun r116 u9 t9 H1 locs ht9 hvm9 hw hB hz1 hk1 hS => ?_)
    obtain ⟨τ117, f118, g119⟩ := u9
    have hH := zMv ht9 hvm9 hB
    clear hB
    simp only at hw hH
    generalize H1 = H at hH hS ⊢
    refine W.widen (k := 3) (n := 1536) (by decide) (by decide) ?_
    obtain ⟨rfl, hlg⟩ := hw
    have ha6 : ∀ i, i ≠ 232 → τ117.1 i = τ111.1 i := fun i h => (hlg.1 i h).1
    refine W.eq (g2 := F0 m 58 ls [.ref (τ117.1 232), .ref (τ111.1 30)]) rfl ?_
    rw [show τ111.1 30 = τ117.1 30 from (ha6 30 (by omega)).symm] at hl
    rw [show τ111.1 230 = τ117.1 230 from (ha6 230 (by omega)).symm] at hl
    refine W.eq (g2 := F0 m 58 ls [.ref (τ117.1 232), .ref (τ117.1 30)]) (by rw [ha6 30 (by omega)]) ?_
    refine zPutR (D := D) (ci := 12) (ty := .array .int) (C := RX12) (T := TX12) (N := 71) hx hb hts hiX12 tyX12 tyX12_ok nmX12 hown hH hS (zk_30 hlg.2.2.1) rfl 39 (by decide) rfl hw5 (fun _ h9 => h9) rfl (by rw [hlg.2.1.1]; decide)  (by decide +kernel) rfl rfl dX12_grow_58 (fun H locs hH hS => ?_)
    obtain ⟨g120, eg120⟩ : ∃ f9 : zFr, f9 = zur g119 30 39 (some 232) := ⟨_, rfl⟩
    rw [← eg120] at hH
    have hF121 : zFix τ117 g120 := by rw [eg120]; exact hlg.2.2.1.ur30 (by omega)
    have hG := zGp.step (ia := 222) (ib := 232) (N := 256) (kk := 39) hG (by omega) (by omega) (by omega) (by omega) (by decide) hlg (by omega) eg120 hF121
    have hG : zGp τ fi fr 2 256 3 τ117 f118 g120 := hG
    refine lv_aload_n hx hb dX12_grow_61 rfl (lv_at hl 0 rfl) ?_
    refine lv_aload_n hx hb dX12_grow_62 rfl (lv_at hl 0 rfl) ?_
    refine zGetR (D := D) (ci := 12) (C := RX12) (T := TX12) (N := 71) hx hb hts hiX12 hown hH (zk_30 hG.2.2.2.2.2.2) rfl 40 (by decide) rfl hw6 (fun _ h9 => h9) dX12_grow_63 (by rw [hG.2.2.2.2.1 30 40 (by omega) (by omega)]; exact r3) ?_
    refine va_callq (va_runS (As := [.ref (τ117.1 223)]) (rest := [.ref (τ117.1 30)]) ⟨hx, hb, hml, hown, hts⟩ (m_longer_256 l hl0 D A sad τ117 f118 g120 ol hG.2.2.2.2.2.2 223 233 (⟨(show τ117.2.2.1 223 = 1 by rw [(hG.1 223 (by omega)).2.1]; exact k3), (show τ117.2.2.2 223 = 256 by rw [(hG.1 223 (by omega)).2.2]; exact l3)⟩) (by rw [(hG.1 233 (by omega)).2.1]; exact v3) (by omega) (by omega)) (cwS 1 hts gX12_grow_X12_longer rfl rfl rfl (by decide +kernel) ⟨Nat.le_of_ble_eq_true rfl, Nat.le_of_ble_eq_true rfl⟩) ⟨zQc_bl, zQc_at hz hS hA hH⟩ rfl rfl hl.1 rfl (lv_room (Nat.le_of_ble_eq_true rfl)) dX12_grow_66 ⟨Nat.le_of_ble_eq_true rfl, Nat.le_of_ble_eq_true rfl⟩) hS (fun q _ h => h) (fun q h => h) (fun r122 u9 t9 H1 locs ht9 hvm9 hw hB hz1 hk1 hS => ?_)
    obtain ⟨τ123, f124, g125⟩ := u9
    have hH := zMv ht9 hvm9 hB
    clear hB
    simp only at hw hH
    generalize H1 = H at hH hS ⊢
    refine W.widen (k := 4) (n := 2048) (by decide) (by decide) ?_
    obtain ⟨rfl, hlg⟩ := hw
    have ha6 : ∀ i, i ≠ 233 → τ123.1 i = τ117.1 i := fun i h => (hlg.1 i h).1
    refine W.eq (g2 := F0 m 69 ls [.ref (τ123.1 233), .ref (τ117.1 30)]) rfl ?_
    rw [show τ117.1 30 = τ123.1 30 from (ha6 30 (by omega)).symm] at hl
    rw [show τ117.1 230 = τ123.1 230 from (ha6 230 (by omega)).symm] at hl
    refine W.eq (g2 := F0 m 69 ls [.ref (τ123.1 233), .ref (τ123.1 30)]) (by rw [ha6 30 (by omega)]) ?_
    refine zPutR (D := D) (ci := 12) (ty := .array .int) (C := RX12) (T := TX12) (N := 71) hx hb hts hiX12 tyX12 tyX12_ok nmX12 hown hH hS (zk_30 hlg.2.2.1) rfl 40 (by decide) rfl hw6 (fun _ h9 => h9) rfl (by rw [hlg.2.1.1]; decide)  (by decide +kernel) rfl rfl dX12_grow_69 (fun H locs hH hS => ?_)
    obtain ⟨g126, eg126⟩ : ∃ f9 : zFr, f9 = zur g125 30 40 (some 233) := ⟨_, rfl⟩
    rw [← eg126] at hH
    have hF127 : zFix τ123 g126 := by rw [eg126]; exact hlg.2.2.1.ur30 (by omega)
    have hG := zGp.step (ia := 223) (ib := 233) (N := 256) (kk := 40) hG (by omega) (by omega) (by omega) (by omega) (by decide) hlg (by omega) eg126 hF127
    have hG : zGp τ fi fr 2 256 4 τ123 f124 g126 := hG
    refine lv_aload_n hx hb dX12_grow_72 rfl (lv_at hl 0 rfl) ?_
    refine lv_aload_n hx hb dX12_grow_73 rfl (lv_at hl 0 rfl) ?_
    refine zGetR (D := D) (ci := 12) (C := RX12) (T := TX12) (N := 71) hx hb hts hiX12 hown hH (zk_30 hG.2.2.2.2.2.2) rfl 41 (by decide) rfl hw7 (fun _ h9 => h9) dX12_grow_74 (by rw [hG.2.2.2.2.1 30 41 (by omega) (by omega)]; exact r4) ?_
    refine va_callq (va_runS (As := [.ref (τ123.1 224)]) (rest := [.ref (τ123.1 30)]) ⟨hx, hb, hml, hown, hts⟩ (m_longer_256 l hl0 D A sad τ123 f124 g126 ol hG.2.2.2.2.2.2 224 234 (⟨(show τ123.2.2.1 224 = 1 by rw [(hG.1 224 (by omega)).2.1]; exact k4), (show τ123.2.2.2 224 = 256 by rw [(hG.1 224 (by omega)).2.2]; exact l4)⟩) (by rw [(hG.1 234 (by omega)).2.1]; exact v4) (by omega) (by omega)) (cwS 1 hts gX12_grow_X12_longer rfl rfl rfl (by decide +kernel) ⟨Nat.le_of_ble_eq_true rfl, Nat.le_of_ble_eq_true rfl⟩) ⟨zQc_bl, zQc_at hz hS hA hH⟩ rfl rfl hl.1 rfl (lv_room (Nat.le_of_ble_eq_true rfl)) dX12_grow_77 ⟨Nat.le_of_ble_eq_true rfl, Nat.le_of_ble_eq_true rfl⟩) hS (fun q _ h => h) (fun q h => h) (fun r128 u9 t9 H1 locs ht9 hvm9 hw hB hz1 hk1 hS => ?_)
    obtain ⟨τ129, f130, g131⟩ := u9
    have hH := zMv ht9 hvm9 hB
    clear hB
    simp only at hw hH
    generalize H1 = H at hH hS ⊢
    refine W.widen (k := 5) (n := 2560) (by decide) (by decide) ?_
    obtain ⟨rfl, hlg⟩ := hw
    have ha6 : ∀ i, i ≠ 234 → τ129.1 i = τ123.1 i := fun i h => (hlg.1 i h).1
    refine W.eq (g2 := F0 m 80 ls [.ref (τ129.1 234), .ref (τ123.1 30)]) rfl ?_
    rw [show τ123.1 30 = τ129.1 30 from (ha6 30 (by omega)).symm] at hl
    rw [show τ123.1 230 = τ129.1 230 from (ha6 230 (by omega)).symm] at hl
    refine W.eq (g2 := F0 m 80 ls [.ref (τ129.1 234), .ref (τ129.1 30)]) (by rw [ha6 30 (by omega)]) ?_
    refine zPutR (D := D) (ci := 12) (ty := .array .int) (C := RX12) (T := TX12) (N := 71) hx hb hts hiX12 tyX12 tyX12_ok nmX12 hown hH hS (zk_30 hlg.2.2.1) rfl 41 (by decide) rfl hw7 (fun _ h9 => h9) rfl (by rw [hlg.2.1.1]; decide)  (by decide +kernel) rfl rfl dX12_grow_80 (fun H locs hH hS => ?_)
    obtain ⟨g132, eg132⟩ : ∃ f9 : zFr, f9 = zur g131 30 41 (some 234) := ⟨_, rfl⟩
    rw [← eg132] at hH
    have hF133 : zFix τ129 g132 := by rw [eg132]; exact hlg.2.2.1.ur30 (by omega)
    have hG := zGp.step (ia := 224) (ib := 234) (N := 256) (kk := 41) hG (by omega) (by omega) (by omega) (by omega) (by decide) hlg (by omega) eg132 hF133
    have hG : zGp τ fi fr 2 256 5 τ129 f130 g132 := hG
    refine lv_aload_n hx hb dX12_grow_83 rfl (lv_at hl 0 rfl) ?_
    refine lv_aload_n hx hb dX12_grow_84 rfl (lv_at hl 0 rfl) ?_
    refine zGetR (D := D) (ci := 12) (C := RX12) (T := TX12) (N := 71) hx hb hts hiX12 hown hH (zk_30 hG.2.2.2.2.2.2) rfl 42 (by decide) rfl hw8 (fun _ h9 => h9) dX12_grow_85 (by rw [hG.2.2.2.2.1 30 42 (by omega) (by omega)]; exact r5) ?_
    refine va_callq (va_runS (As := [.ref (τ129.1 225)]) (rest := [.ref (τ129.1 30)]) ⟨hx, hb, hml, hown, hts⟩ (m_longer_256 l hl0 D A sad τ129 f130 g132 ol hG.2.2.2.2.2.2 225 235 (⟨(show τ129.2.2.1 225 = 1 by rw [(hG.1 225 (by omega)).2.1]; exact k5), (show τ129.2.2.2 225 = 256 by rw [(hG.1 225 (by omega)).2.2]; exact l5)⟩) (by rw [(hG.1 235 (by omega)).2.1]; exact v5) (by omega) (by omega)) (cwS 1 hts gX12_grow_X12_longer rfl rfl rfl (by decide +kernel) ⟨Nat.le_of_ble_eq_true rfl, Nat.le_of_ble_eq_true rfl⟩) ⟨zQc_bl, zQc_at hz hS hA hH⟩ rfl rfl hl.1 rfl (lv_room (Nat.le_of_ble_eq_true rfl)) dX12_grow_88 ⟨Nat.le_of_ble_eq_true rfl, Nat.le_of_ble_eq_true rfl⟩) hS (fun q _ h => h) (fun q h => h) (fun r134 u9 t9 H1 locs ht9 hvm9 hw hB hz1 hk1 hS => ?_)
    obtain ⟨τ135, f136, g137⟩ := u9
    have hH := zMv ht9 hvm9 hB
    clear hB
    simp only at hw hH
    generalize H1 = H at hH hS ⊢
    refine W.widen (k := 6) (n := 3072) (by decide) (by decide) ?_
    obtain ⟨rfl, hlg⟩ := hw
    have ha6 : ∀ i, i ≠ 235 → τ135.1 i = τ129.1 i := fun i h => (hlg.1 i h).1
    refine W.eq (g2 := F0 m 91 ls [.ref (τ135.1 235), .ref (τ129.1 30)]) rfl ?_
    rw [show τ129.1 30 = τ135.1 30 from (ha6 30 (by omega)).symm] at hl
    rw [show τ129.1 230 = τ135.1 230 from (ha6 230 (by omega)).symm] at hl
    refine W.eq (g2 := F0 m 91 ls [.ref (τ135.1 235), .ref (τ135.1 30)]) (by rw [ha6 30 (by omega)]) ?_
    refine zPutR (D := D) (ci := 12) (ty := .array .int) (C := RX12) (T := TX12) (N := 71) hx hb hts hiX12 tyX12 tyX12_ok nmX12 hown hH hS (zk_30 hlg.2.2.1) rfl 42 (by decide) rfl hw8 (fun _ h9 => h9) rfl (by rw [hlg.2.1.1]; decide)  (by decide +kernel) rfl rfl dX12_grow_91 (fun H locs hH hS => ?_)
    obtain ⟨g138, eg138⟩ : ∃ f9 : zFr, f9 = zur g137 30 42 (some 235) := ⟨_, rfl⟩
    rw [← eg138] at hH
    have hF139 : zFix τ135 g138 := by rw [eg138]; exact hlg.2.2.1.ur30 (by omega)
    have hG := zGp.step (ia := 225) (ib := 235) (N := 256) (kk := 42) hG (by omega) (by omega) (by omega) (by omega) (by decide) hlg (by omega) eg138 hF139
    have hG : zGp τ fi fr 2 256 6 τ135 f136 g138 := hG
    refine lv_aload_n hx hb dX12_grow_94 rfl (lv_at hl 0 rfl) ?_
    refine lv_aload_n hx hb dX12_grow_95 rfl (lv_at hl 0 rfl) ?_
    refine zGetR (D := D) (ci := 12) (C := RX12) (T := TX12) (N := 71) hx hb hts hiX12 hown hH (zk_30 hG.2.2.2.2.2.2) rfl 43 (by decide) rfl hw9 (fun _ h9 => h9) dX12_grow_96 (by rw [hG.2.2.2.2.1 30 43 (by omega) (by omega)]; exact r6) ?_
    refine va_callq (va_runS (As := [.ref (τ135.1 226)]) (rest := [.ref (τ135.1 30)]) ⟨hx, hb, hml, hown, hts⟩ (m_longer_2048 l hl0 D A sad τ135 f136 g138 ol hG.2.2.2.2.2.2 226 236 (⟨(show τ135.2.2.1 226 = 1 by rw [(hG.1 226 (by omega)).2.1]; exact k6), (show τ135.2.2.2 226 = 2048 by rw [(hG.1 226 (by omega)).2.2]; exact l6)⟩) (by rw [(hG.1 236 (by omega)).2.1]; exact v6) (by omega) (by omega)) (cwS 1 hts gX12_grow_X12_longer rfl rfl rfl (by decide +kernel) ⟨Nat.le_of_ble_eq_true rfl, Nat.le_of_ble_eq_true rfl⟩) ⟨zQc_bl, zQc_at hz hS hA hH⟩ rfl rfl hl.1 rfl (lv_room (Nat.le_of_ble_eq_true rfl)) dX12_grow_99 ⟨Nat.le_of_ble_eq_true rfl, Nat.le_of_ble_eq_true rfl⟩) hS (fun q _ h => h) (fun q h => h) (fun r140 u9 t9 H1 locs ht9 hvm9 hw hB hz1 hk1 hS => ?_)
    obtain ⟨τ141, f142, g143⟩ := u9
    have hH := zMv ht9 hvm9 hB
    clear hB
    simp only at hw hH
    generalize H1 = H at hH hS ⊢
    refine W.widen (k := 7) (n := 7168) (by decide) (by decide) ?_
    obtain ⟨rfl, hlg⟩ := hw
    have ha6 : ∀ i, i ≠ 236 → τ141.1 i = τ135.1 i := fun i h => (hlg.1 i h).1
    refine W.eq (g2 := F0 m 102 ls [.ref (τ141.1 236), .ref (τ135.1 30)]) rfl ?_
    rw [show τ135.1 30 = τ141.1 30 from (ha6 30 (by omega)).symm] at hl
    rw [show τ135.1 230 = τ141.1 230 from (ha6 230 (by omega)).symm] at hl
    refine W.eq (g2 := F0 m 102 ls [.ref (τ141.1 236), .ref (τ141.1 30)]) (by rw [ha6 30 (by omega)]) ?_
    refine zPutR (D := D) (ci := 12) (ty := .array .int) (C := RX12) (T := TX12) (N := 71) hx hb hts hiX12 tyX12 tyX12_ok nmX12 hown hH hS (zk_30 hlg.2.2.1) rfl 43 (by decide) rfl hw9 (fun _ h9 => h9) rfl (by rw [hlg.2.1.1]; decide)  (by decide +kernel) rfl rfl dX12_grow_102 (fun H locs hH hS => ?_)
    obtain ⟨g144, eg144⟩ : ∃ f9 : zFr, f9 = zur g143 30 43 (some 236) := ⟨_, rfl⟩
    rw [← eg144] at hH
    have hF145 : zFix τ141 g144 := by rw [eg144]; exact hlg.2.2.1.ur30 (by omega)
    have hG := zGp.step (ia := 226) (ib := 236) (N := 2048) (kk := 43) hG (by omega) (by omega) (by omega) (by omega) (by decide) hlg (by omega) eg144 hF145
    have hG : zGp τ fi fr 2 256 7 τ141 f142 g144 := hG
    refine lv_aload_n hx hb dX12_grow_105 rfl (lv_at hl 0 rfl) ?_
    refine lv_aload_n hx hb dX12_grow_106 rfl (lv_at hl 0 rfl) ?_
    refine zGetR (D := D) (ci := 12) (C := RX12) (T := TX12) (N := 71) hx hb hts hiX12 hown hH (zk_30 hG.2.2.2.2.2.2) rfl 44 (by decide) rfl hw10 (fun _ h9 => h9) dX12_grow_107 (by rw [hG.2.2.2.2.1 30 44 (by omega) (by omega)]; exact r7) ?_
    refine va_callq (va_runS (As := [.ref (τ141.1 227)]) (rest := [.ref (τ141.1 30)]) ⟨hx, hb, hml, hown, hts⟩ (m_longer_2048 l hl0 D A sad τ141 f142 g144 ol hG.2.2.2.2.2.2 227 237 (⟨(show τ141.2.2.1 227 = 1 by rw [(hG.1 227 (by omega)).2.1]; exact k7), (show τ141.2.2.2 227 = 2048 by rw [(hG.1 227 (by omega)).2.2]; exact l7)⟩) (by rw [(hG.1 237 (by omega)).2.1]; exact v7) (by omega) (by omega)) (cwS 1 hts gX12_grow_X12_longer rfl rfl rfl (by decide +kernel) ⟨Nat.le_of_ble_eq_true rfl, Nat.le_of_ble_eq_true rfl⟩) ⟨zQc_bl, zQc_at hz hS hA hH⟩ rfl rfl hl.1 rfl (lv_room (Nat.le_of_ble_eq_true rfl)) dX12_grow_110 ⟨Nat.le_of_ble_eq_true rfl, Nat.le_of_ble_eq_true rfl⟩) hS (fun q _ h => h) (fun q h => h) (fun r146 u9 t9 H1 locs ht9 hvm9 hw hB hz1 hk1 hS => ?_)
    obtain ⟨τ147, f148, g149⟩ := u9
    have hH := zMv ht9 hvm9 hB
    clear hB
    simp only at hw hH
    generalize H1 = H at hH hS ⊢
    refine W.widen (k := 8) (n := 11264) (by decide) (by decide) ?_
    obtain ⟨rfl, hlg⟩ := hw
    have ha6 : ∀ i, i ≠ 237 → τ147.1 i = τ141.1 i := fun i h => (hlg.1 i h).1
    refine W.eq (g2 := F0 m 113 ls [.ref (τ147.1 237), .ref (τ141.1 30)]) rfl ?_
    rw [show τ141.1 30 = τ147.1 30 from (ha6 30 (by omega)).symm] at hl
    rw [show τ141.1 230 = τ147.1 230 from (ha6 230 (by omega)).symm] at hl
    refine W.eq (g2 := F0 m 113 ls [.ref (τ147.1 237), .ref (τ147.1 30)]) (by rw [ha6 30 (by omega)]) ?_
    refine zPutR (D := D) (ci := 12) (ty := .array .int) (C := RX12) (T := TX12) (N := 71) hx hb hts hiX12 tyX12 tyX12_ok nmX12 hown hH hS (zk_30 hlg.2.2.1) rfl 44 (by decide) rfl hw10 (fun _ h9 => h9) rfl (by rw [hlg.2.1.1]; decide)  (by decide +kernel) rfl rfl dX12_grow_113 (fun H locs hH hS => ?_)
    obtain ⟨g150, eg150⟩ : ∃ f9 : zFr, f9 = zur g149 30 44 (some 237) := ⟨_, rfl⟩
    rw [← eg150] at hH
    have hF151 : zFix τ147 g150 := by rw [eg150]; exact hlg.2.2.1.ur30 (by omega)
    have hG := zGp.step (ia := 227) (ib := 237) (N := 2048) (kk := 44) hG (by omega) (by omega) (by omega) (by omega) (by decide) hlg (by omega) eg150 hF151
    have hG : zGp τ fi fr 2 256 8 τ147 f148 g150 := hG
    refine W.widen (k := 8) (n := 11264) (by decide) (by decide) ?_
    exact W.vret hx hb hr (fun t9 ht9 hW9 => ⟨⟨(τ147, f148, g150), rfl, (show zMq τ147 f148 g150 3 512 256 ∧ zGz τ fr τ147 g150 ∧ ∀ i k, ¬ (200 ≤ i ∧ i < 240) → f148 i k = fi i k from zGp.done hMq0 (by omega) hG), zEnd1 hH ht9 hW9⟩, hS.F ht9⟩) hS.2.2 dX12_grow_116
  · have zc107 := c107
    replace zc107 := zc_nle (nI_toInt (by omega)) (nI_toInt (by omega)) zc107
    refine lv_aload_n hx hb dX12_grow_19 rfl (lv_at hl 1 rfl) ?_
    refine lv_iload_n hx hb dX12_grow_20 rfl (lv_at hl 2 rfl) ?_
    refine lv_aload_n hx hb dX12_grow_21 rfl (lv_at hl 0 rfl) ?_
    refine zGetR (D := D) (ci := 12) (C := RX12) (T := TX12) (N := 71) hx hb hts hiX12 hown hH (zk_30 hFτ102) rfl 37 (by decide) rfl hw3 (fun _ h9 => h9) dX12_grow_22 (by rw [eg104, va_up_ne _ _ (by omega)]; exact r0) ?_
    refine lv_iload_n hx hb dX12_grow_25 rfl (lv_at hl 2 rfl) ?_
    refine zZaldN (D := D) hx hb hH (show τ102.2.2.1 220 = 3 by rw [(hbτ102 220 (by omega)).1]; exact k0) (show τ102.2.2.2 220 = 256 by rw [(hbτ102 220 (by omega)).2]; exact l0) (by omega) (by omega) rfl dX12_grow_26 ?_
    refine zZastN (D := D) hx hb hH hS hkτ102 hnτ102 (by omega) (by omega) dX12_grow_27 (fun H locs hH hS => ?_)
    obtain ⟨f152, ef152⟩ : ∃ f9 : zFi, f9 = zu f 230 i (vp_nar .boolean (f 220 i)) := ⟨_, rfl⟩
    rw [← ef152] at hH
    have q153 : f152 30 35 = nI 256 := by rw [ef152, zu_n (fun h9 => absurd h9.1 (by decide))]; exact q35
    have q154 : f152 230 i = (vp_nar .boolean (f 220 i)) := by rw [ef152]; exact zu_s
    refine lv_iinc (v := nI (i + 1)) (lv' := [(2, .int (nI (i + 1))), (0, .ref (τ102.1 30)), (1, .ref (τ102.1 230))]) hx hb dX12_grow_28 hl (k := 2) rfl (by rw [show (Int32.ofInt 1 : Int32) = nI 1 from by decide, nI_add]) (by decide) rfl (fun ls hl => ?_)
    refine lv_goto (tgt := 11) hx hb dX12_grow_31 (by decide) ?_
    exact ih106 (256 - (i + 1)) (by omega) (i + 1, f152) _ _ _ (show 256 - (i + 1) = 256 - (i + 1) ∧ ((i + 1) ≤ 256 ∧ ∀ i9 k, i9 ≠ 230 → f152 i9 k = fi i9 k) ∧ zH D A τ102 f152 g104 ol s _ ∧ va_S A s.heap _ _ ∧ lv_has _ 3 [(0, .ref (τ102.1 30)), (1, .ref (τ102.1 230)), (2, .int (nI (i + 1)))] from ⟨rfl, ⟨by omega, fun i9 k h => by rw [ef152, zu_n (by omega)]; exact hfr i9 k h⟩, hH, hS, lv_sub hl [1, 2, 0] rfl⟩)
