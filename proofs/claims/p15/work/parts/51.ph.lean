/-- a list of days in an array -/
def zLs (fi : zFi) (a : Nat) (Ld : List Int32) : Prop := ∀ j, j < Ld.length → fi a j = Ld.getD j 0
def zFt (Ld : List Int32) (x : Int32) : List Int32 := Ld.filter (fun d => decide (d ≠ x))
def zIt (Ld : List Int32) (td : Nat) : Nat → List Int32
  | 0 => Ld
  | i + 1 => zFt (zIt Ld td i) (nI (min (td + (i + 1)) 999))
theorem zFt_app (Ld : List Int32) (y x : Int32) : zFt (Ld ++ [y]) x = zFt Ld x ++ (if y = x then [] else [y]) := by
  unfold zFt
  rw [List.filter_append]
  by_cases h : y = x
  · simp [h]
  · simp [h]
theorem zGd_l {L1 L2 : List Int32} {j : Nat} (h : j < L1.length) : (L1 ++ L2).getD j 0 = L1.getD j 0 := by
  simp [List.getD_eq_getElem?_getD, List.getElem?_append_left h]
theorem zGd_r {L1 : List Int32} {y : Int32} : (L1 ++ [y]).getD L1.length 0 = y := by
  simp [List.getD_eq_getElem?_getD]
theorem zFt_kp {d : Nat → Int32} {x : Int32} : ∀ (m : Nat) (Ld : List Int32), Ld.length = m → (∀ j, j < Ld.length → d j = Ld.getD j 0) → (zFt Ld x).length = zKp d x Ld.length ∧ (∀ b, b < Ld.length → ¬ d b = x → (zFt Ld x).getD (zKp d x b) 0 = d b) ∧ ∀ j, j < (zFt Ld x).length → ∃ b, b < Ld.length ∧ ¬ d b = x ∧ zKp d x b = j := by
  intro m
  induction m with
  | zero =>
    intro Ld hL _
    have : Ld = [] := List.eq_nil_of_length_eq_zero hL
    subst this
    exact ⟨rfl, fun b h => absurd h (by simp), fun j h => absurd h (by simp [zFt])⟩
  | succ m ih =>
    intro Ld hL hd
    obtain ⟨L1, y, rfl⟩ : ∃ L1 y, Ld = L1 ++ [y] := by
      refine ⟨Ld.dropLast, Ld.getLast (fun e => by rw [e] at hL; simp at hL), (List.dropLast_concat_getLast _).symm⟩
    have hl1 : L1.length = m := by simp at hL; exact hL
    have hlen : (L1 ++ [y]).length = L1.length + 1 := by simp
    obtain ⟨i1, i2, i3⟩ := ih L1 hl1 (fun j hj => by rw [hd j (by rw [hlen]; omega), zGd_l hj])
    have hy : d L1.length = y := by rw [hd _ (by rw [hlen]; omega), zGd_r]
    rw [zFt_app, hlen]
    by_cases e : y = x
    · rw [if_pos e, List.append_nil]
      have k1 : zKp d x (L1.length + 1) = zKp d x L1.length := zKp_y (by rw [hy]; exact e)
      refine ⟨by rw [k1]; exact i1, fun b hb hn => ?_, fun j hj => ?_⟩
      · exact i2 b (by by_cases q : b = L1.length; (subst q; exact absurd (hy.trans e) hn); omega) hn
      · obtain ⟨b, q1, q2, q3⟩ := i3 j hj
        exact ⟨b, by omega, q2, q3⟩
    · rw [if_neg e]
      have k1 : zKp d x (L1.length + 1) = zKp d x L1.length + 1 := zKp_n (by rw [hy]; exact e)
      refine ⟨by rw [k1, List.length_append, i1]; rfl, fun b hb hn => ?_, fun j hj => ?_⟩
      · by_cases q : b = L1.length
        · subst q
          rw [← i1, zGd_r, hy]
        · have q2 : b < L1.length := by omega
          rw [zGd_l (by rw [i1]; exact zKp_lt q2 hn)]
          exact i2 b q2 hn
      · rw [List.length_append] at hj
        by_cases q : j < (zFt L1 x).length
        · obtain ⟨b, q1, q2, q3⟩ := i3 j q
          exact ⟨b, by omega, q2, q3⟩
        · refine ⟨L1.length, by omega, by rw [hy]; exact e, ?_⟩
          have : j = (zFt L1 x).length := by simp at hj; omega
          rw [this, i1]
theorem zLs.arr {fi fi' : zFi} {a : Nat} {Ld : List Int32} {x : Int32} (h : zLs fi a Ld) (hk : ∀ b, b < Ld.length → ¬ fi a b = x → fi' a (zKp (fi a) x b) = fi a b) : zLs fi' a (zFt Ld x) ∧ (zFt Ld x).length = zKp (fi a) x Ld.length := by
  obtain ⟨h1, h2, h3⟩ := zFt_kp (d := fi a) (x := x) Ld.length Ld rfl h
  refine ⟨fun j hj => ?_, h1⟩
  obtain ⟨b, q1, q2, q3⟩ := h3 j hj
  rw [← q3, hk b q1 q2, h2 b q1 q2]
theorem zFt_idem (Ld : List Int32) (x : Int32) : zFt (zFt Ld x) x = zFt Ld x := by
  unfold zFt
  rw [List.filter_filter]
  simp
theorem zIt_cap {Ld : List Int32} {td : Nat} (ht : td < 999) : ∀ i, 999 - td ≤ i → zIt Ld td i = zIt Ld td (999 - td) := by
  intro i
  induction i with
  | zero => intro h; rw [show 999 - td = 0 by omega]
  | succ i ih =>
    intro h
    by_cases q : 999 - td = i + 1
    · rw [q]
    · have e := ih (by omega)
      show zFt (zIt Ld td i) _ = _
      rw [e]
      obtain ⟨k, hk⟩ : ∃ k, 999 - td = k + 1 := ⟨998 - td, by omega⟩
      rw [hk]
      show zFt (zFt (zIt Ld td k) _) _ = zFt (zIt Ld td k) _
      rw [show min (td + (i + 1)) 999 = 999 by omega, show min (td + (k + 1)) 999 = 999 by omega, zFt_idem]
/-- what serving an order alters -/
def zSy (n : Nat) (τ : zTy) (fi : zFi) (fr : zFr) (τ' : zTy) (fi' : zFi) (fr' : zFr) : Prop :=
  (∀ i, ¬ (2000 ≤ i ∧ i < 2300) → τ'.1 i = τ.1 i ∧ τ'.2.2.1 i = τ.2.2.1 i ∧ τ'.2.2.2 i = τ.2.2.2 i) ∧ (∀ i k, ¬ ((300 ≤ i ∧ i < 330 ∧ k = 5) ∨ (1000 ≤ i ∧ i < 1480 ∧ 3 ≤ k) ∨ i = 19 ∨ i = 20 ∨ i = 21 ∨ (i = 18 ∧ 3 ≤ k) ∨ (500 ≤ i ∧ i < 560 ∧ k = 4) ∨ (2000 ≤ i ∧ i < 2300) ∨ (i = 0 ∧ k = 12)) → fi' i k = fi i k) ∧
  (∀ i k, ¬ ((1000 ≤ i ∧ i < 1480 ∧ k = 9) ∨ (2000 ≤ i ∧ i < 2300) ∨ i = 17) → fr' i k = fr i k) ∧ ∀ i, 1000 ≤ i → i < 1480 → fr' i 9 = fr i 9 ∨ ∃ t, t < n ∧ fr' i 9 = some (300 + t)
theorem zSy.rf {n : Nat} {τ : zTy} {fi : zFi} {fr : zFr} : zSy n τ fi fr τ fi fr := ⟨fun _ _ => ⟨rfl, rfl, rfl⟩, fun _ _ _ => rfl, fun _ _ _ => rfl, fun _ _ _ => Or.inl rfl⟩
theorem zSy.tr {n : Nat} {τ τ' τ2 : zTy} {fi fi' f2 : zFi} {fr fr' g2 : zFr} (h : zSy n τ fi fr τ' fi' fr') (g : zSy n τ' fi' fr' τ2 f2 g2) : zSy n τ fi fr τ2 f2 g2 := by
  refine ⟨fun i q => ⟨by rw [(g.1 i q).1]; exact (h.1 i q).1, by rw [(g.1 i q).2.1]; exact (h.1 i q).2.1, by rw [(g.1 i q).2.2]; exact (h.1 i q).2.2⟩, fun i k q => by rw [g.2.1 i k q]; exact h.2.1 i k q, fun i k q => by rw [g.2.2.1 i k q]; exact h.2.2.1 i k q, fun i p q => ?_⟩
  rcases g.2.2.2 i p q with r | r
  · rw [r]; exact h.2.2.2 i p q
  · exact Or.inr r
theorem zTh.sy {n : Nat} {τ τ' : zTy} {fi fi' : zFi} {fr fr' : zFr} {m : Nat} (h : zTh τ fi fr m) (g : zSy n τ fi fr τ' fi' fr') : zTh τ' fi' fr' m := h.cg (fun i k q => g.2.1 i k (by omega)) (fun i k q => g.2.2.1 i k (by omega)) (fun i a b => (g.1 i (by omega)).2)
theorem zOr.sy {n : Nat} {τ τ' : zTy} {fi fi' : zFi} {fr fr' : zFr} {o : Nat} (h : zOr τ fi fr n o) (g : zSy n τ fi fr τ' fi' fr') : zOr τ' fi' fr' n o := by
  obtain ⟨h1, h2, h3, h4⟩ := h
  refine ⟨h1, by rw [g.2.1 0 11 (by omega)]; exact h2, fun k q => ?_, fun k a b => ?_⟩
  · obtain ⟨⟨a1, a2, a3⟩, ⟨b1, b2⟩, w, c1, c2, c3⟩ := h3 k q
    refine ⟨⟨by rw [(g.1 _ (by omega)).2.1]; exact a1, by rw [(g.1 _ (by omega)).2.1]; exact a2, by rw [(g.1 _ (by omega)).2.2]; exact a3⟩, ⟨by rw [g.2.2.1 _ _ (by omega)]; exact b1, by rw [g.2.2.1 _ _ (by omega)]; exact b2⟩, w, c1, by rw [g.2.1 _ _ (by omega)]; exact c2, fun j q2 => ?_⟩
    obtain ⟨d1, d2, ⟨t, d3, d4⟩, d5⟩ := c3 j q2
    refine ⟨by rw [(g.1 _ (by omega)).2.1]; exact d1, by rw [g.2.2.1 _ _ (by omega)]; exact d2, ⟨t, d3, by rw [g.2.2.1 _ _ (by omega)]; exact d4⟩, ?_⟩
    rcases g.2.2.2 (1000 + 8 * k + j) (by omega) (by omega) with r | r
    · rw [r]; exact d5
    · exact Or.inr r
  · obtain ⟨a1, a2, a3⟩ := h4 k a b
    exact ⟨by rw [(g.1 _ (by omega)).2.1]; exact a1, by rw [(g.1 _ (by omega)).2.1]; exact a2, fun j q => by rw [(g.1 _ (by omega)).2.1]; exact a3 j q⟩
/-- what a day alters -/
def zDy (n : Nat) (τ : zTy) (fi : zFi) (fr : zFr) (τ' : zTy) (fi' : zFi) (fr' : zFr) : Prop :=
  (∀ i, ¬ (2000 ≤ i ∧ i < 2300) → τ'.1 i = τ.1 i ∧ τ'.2.2.1 i = τ.2.2.1 i ∧ τ'.2.2.2 i = τ.2.2.2 i) ∧ (∀ i k, ¬ ((300 ≤ i ∧ i < 330 ∧ k = 5) ∨ (1000 ≤ i ∧ i < 1480 ∧ 3 ≤ k) ∨ i = 19 ∨ i = 20 ∨ i = 21 ∨ (i = 18 ∧ 3 ≤ k) ∨ (500 ≤ i ∧ i < 560 ∧ k = 4) ∨ (2000 ≤ i ∧ i < 2300) ∨ (i = 0 ∧ (k = 12 ∨ k = 15)) ∨ i = 7 ∨ i = 8 ∨ (i = 5 ∧ k = 3)) → fi' i k = fi i k) ∧
  (∀ i k, ¬ ((1000 ≤ i ∧ i < 1480 ∧ k = 9) ∨ (2000 ≤ i ∧ i < 2300) ∨ i = 17 ∨ i = 6) → fr' i k = fr i k) ∧ ∀ i, 1000 ≤ i → i < 1480 → fr' i 9 = fr i 9 ∨ ∃ t, t < n ∧ fr' i 9 = some (300 + t)
theorem zDy.rf {n : Nat} {τ : zTy} {fi : zFi} {fr : zFr} : zDy n τ fi fr τ fi fr := ⟨fun _ _ => ⟨rfl, rfl, rfl⟩, fun _ _ _ => rfl, fun _ _ _ => rfl, fun _ _ _ => Or.inl rfl⟩
theorem zDy.tr {n : Nat} {τ τ' τ2 : zTy} {fi fi' f2 : zFi} {fr fr' g2 : zFr} (h : zDy n τ fi fr τ' fi' fr') (g : zDy n τ' fi' fr' τ2 f2 g2) : zDy n τ fi fr τ2 f2 g2 := by
  refine ⟨fun i q => ⟨by rw [(g.1 i q).1]; exact (h.1 i q).1, by rw [(g.1 i q).2.1]; exact (h.1 i q).2.1, by rw [(g.1 i q).2.2]; exact (h.1 i q).2.2⟩, fun i k q => by rw [g.2.1 i k q]; exact h.2.1 i k q, fun i k q => by rw [g.2.2.1 i k q]; exact h.2.2.1 i k q, fun i p q => ?_⟩
  rcases g.2.2.2 i p q with r | r
  · rw [r]; exact h.2.2.2 i p q
  · exact Or.inr r
theorem zTh.dy {n : Nat} {τ τ' : zTy} {fi fi' : zFi} {fr fr' : zFr} {m : Nat} (h : zTh τ fi fr m) (g : zDy n τ fi fr τ' fi' fr') : zTh τ' fi' fr' m := h.cg (fun i k q => g.2.1 i k (by omega)) (fun i k q => g.2.2.1 i k (by omega)) (fun i a b => (g.1 i (by omega)).2)
theorem zOr.dy {n : Nat} {τ τ' : zTy} {fi fi' : zFi} {fr fr' : zFr} {o : Nat} (h : zOr τ fi fr n o) (g : zDy n τ fi fr τ' fi' fr') : zOr τ' fi' fr' n o := by
  obtain ⟨h1, h2, h3, h4⟩ := h
  refine ⟨h1, by rw [g.2.1 0 11 (by omega)]; exact h2, fun k q => ?_, fun k a b => ?_⟩
  · obtain ⟨⟨a1, a2, a3⟩, ⟨b1, b2⟩, w, c1, c2, c3⟩ := h3 k q
    refine ⟨⟨by rw [(g.1 _ (by omega)).2.1]; exact a1, by rw [(g.1 _ (by omega)).2.1]; exact a2, by rw [(g.1 _ (by omega)).2.2]; exact a3⟩, ⟨by rw [g.2.2.1 _ _ (by omega)]; exact b1, by rw [g.2.2.1 _ _ (by omega)]; exact b2⟩, w, c1, by rw [g.2.1 _ _ (by omega)]; exact c2, fun j q2 => ?_⟩
    obtain ⟨d1, d2, ⟨t, d3, d4⟩, d5⟩ := c3 j q2
    refine ⟨by rw [(g.1 _ (by omega)).2.1]; exact d1, by rw [g.2.2.1 _ _ (by omega)]; exact d2, ⟨t, d3, by rw [g.2.2.1 _ _ (by omega)]; exact d4⟩, ?_⟩
    rcases g.2.2.2 (1000 + 8 * k + j) (by omega) (by omega) with r | r
    · rw [r]; exact d5
    · exact Or.inr r
  · obtain ⟨a1, a2, a3⟩ := h4 k a b
    exact ⟨by rw [(g.1 _ (by omega)).2.1]; exact a1, by rw [(g.1 _ (by omega)).2.1]; exact a2, fun j q => by rw [(g.1 _ (by omega)).2.1]; exact a3 j q⟩
theorem zSy.of {n : Nat} {τ : zTy} {fi fi' : zFi} {fr fr' : zFr} (h : zSv n fi fr fi' fr') : zSy n τ fi fr τ fi' fr' := ⟨fun _ _ => ⟨rfl, rfl, rfl⟩, fun i k q => h.1 i k (by omega), fun i k q => h.2.1 i k (by omega), h.2.2⟩
theorem zDy.of {n : Nat} {τ τ' : zTy} {fi f fi' : zFi} {fr g fr' : zFr} (hf : ∀ i k, ¬ ((300 ≤ i ∧ i < 330 ∧ k = 5) ∨ (i = 0 ∧ k = 15) ∨ i = 7 ∨ i = 8 ∨ (i = 5 ∧ k = 3)) → f i k = fi i k) (hg : ∀ i k, i ≠ 6 → g i k = fr i k) (h : zSy n τ f g τ' fi' fr') : zDy n τ fi fr τ' fi' fr' := by
  refine ⟨h.1, fun i k q => by rw [h.2.1 i k (by omega)]; exact hf i k (by omega), fun i k q => by rw [h.2.2.1 i k (by omega)]; exact hg i k (by omega), fun i p q => ?_⟩
  rw [← hg i 9 (by omega)]
  exact h.2.2.2 i p q
theorem zSn.add {τ τ' : zTy} {fi fi' : zFi} {fr fr' : zFr} {sn : Nat} (h : zSn τ fi fr sn) (hs : sn < 300) (hk : τ'.2.2.1 (2000 + sn) = 22) (hb : ∀ i, i ≠ 2000 + sn → τ'.2.2.1 i = τ.2.2.1 i) (hf : fi' 0 12 = nI (sn + 1)) (hg : ∀ k, k ≠ sn → fr' 17 k = fr 17 k) (hg2 : fr' 17 sn = some (2000 + sn)) : zSn τ' fi' fr' (sn + 1) := by
  obtain ⟨h1, h2, h3, h4⟩ := h
  refine ⟨by omega, hf, fun k q => ?_, fun k a b => by rw [hb _ (by omega)]; exact h4 k (by omega) b⟩
  by_cases e : k = sn
  · subst e; exact ⟨hk, hg2⟩
  · exact ⟨by rw [hb _ (by omega)]; exact (h3 k (by omega)).1, by rw [hg k e]; exact (h3 k (by omega)).2⟩
set_option maxHeartbeats 4000000 in
set_option maxRecDepth 100000 in
/-- serve -/
theorem c_serve (l : Launch) (hl0 : l.stackTraces = false) (D : va_G) (A : Nat → Prop) (sad : Nat → Nat) (τ : zTy) (fi : zFi) (fr : zFr) (ol : Int64) (hF : zFix τ fr) (n : Nat) (hT : zTh τ fi fr n) (o : Nat) (hO : zOr τ fi fr n o) (q : Nat) (hq : q < o) (sn : Nat) (hSn : zSn τ fi fr sn) (hp : Heap) : Met l yX11_serve wsX11_serve ({ frames := 4, cells := 1, slots := 4, locals := 93 }) (va_Pc [.ref (τ.1 0), .int (nI q)] (zQg hp D A sad τ fi fr ol)) (va_Qv (fun (u : zTy × zFi × zFr) => zSy n τ fi fr u.1 u.2.1 u.2.2 ∧ zFix u.1 u.2.2 ∧ ∃ k, k ≤ 16 ∧ u.2.1 18 3 = nI k) (fun (u : zTy × zFi × zFr) (t : State) => zH D A u.1 u.2.1 u.2.2 ol t t.heap ∧ ∃ j, (j ≤ 1 ∧ zSn u.1 u.2.1 u.2.2 (sn + j)) ∧ zGrow hp t.heap j (4 * j)) A) 1 4 A := by
  refine Met.ofW (cc := cX11_serve) (maxL := 4) (ret := none) (by decide) rfl ?_
  intro p9 e9 s m args below meth c9 s₁ B hml hv
  obtain ⟨rfl, ⟨hz, hH, hA⟩, rfl⟩ := hv
  have hx := B.exec
  have hb := B.bytes
  have hr := B.returns
  have hts := atoms_spec (ws := wsX11_serve) B.pre
  have hown : s.vm.findClass RX11 = some m.cls := findClass_of_methodNamed B.named
  have hlocks := B.notSynchronized
  have hS : va_S A s.heap s.heap [] := va_S.rf
  have hl := lv_entry ([.ref (τ.1 0), .int (nI q)]) (n := 4) (Nat.le_of_ble_eq_true rfl)
  rw [lg_entry_eq]
  generalize (lg_sl ([.ref (τ.1 0), .int (nI q)]) ++ List.replicate (4 - (lg_sl ([.ref (τ.1 0), .int (nI q)])).length) Slot.unset).toArray = ls at hl ⊢
  have hl : lv_has ls 4 [(0, .ref (τ.1 0)), (1, .int (nI q))] := hl
  have hn30 := hT.1
  have ho60 := hO.1
  have hs300 := hSn.1
  obtain ⟨wn, hwn, hws5, hws⟩ := (hO.2.2.1 q hq).2.2
  have hT0 := hT
  have hiX11 : ∀ w ∈ u_ws RX11 TX11 16, w ∈ wsX11_serve := fun _ h => List.mem_cons_of_mem _ (List.mem_append_left _ (List.mem_append_left _ (List.mem_append_left _ (List.mem_append_left _ (List.mem_append_left _ (List.mem_append_left _ (List.mem_append_left _ (List.mem_append_right _ h))))))))
  have hw1 := hts (.fieldLink RX11 48 "PostHouse" "orders" "[LPostHouse$Order;") (by decide +kernel)
  have hw2 := hts (.fieldLink RX11 61 "PostHouse" "packing" "LPostHouse$Packing;") (by decide +kernel)
  have hiX3 : ∀ w ∈ u_ws RX3 TX3 6, w ∈ wsX11_serve := fun _ h => List.mem_cons_of_mem _ (List.mem_append_left _ (List.mem_append_left _ (List.mem_append_left _ (List.mem_append_left _ (List.mem_append_left _ (List.mem_append_left _ (List.mem_append_right _ h)))))))
  have hw4 := hts (.fieldLink RX11 259 "PostHouse$Order" "size" "I") (by decide +kernel)
  have hiX4 : ∀ w ∈ u_ws RX4 TX4 5, w ∈ wsX11_serve := fun _ h => List.mem_cons_of_mem _ (List.mem_append_left _ (List.mem_append_left _ (List.mem_append_left _ (List.mem_append_left _ (List.mem_append_left _ (List.mem_append_right _ h))))))
  have hw6 := hts (.fieldLink RX11 513 "PostHouse$Packing" "pieces" "I") (by decide +kernel)
  have hw7 := hts (.fieldLink RX11 319 "PostHouse" "sendingCount" "I") (by decide +kernel)
  have hw8 := hts (.fieldLink RX11 54 "PostHouse" "sendings" "[LPostHouse$Sending;") (by decide +kernel)
  have hiX6 : ∀ w ∈ u_ws RX6 TX6 4, w ∈ wsX11_serve := fun _ h => List.mem_cons_of_mem _ (List.mem_append_left _ (List.mem_append_left _ (List.mem_append_left _ (List.mem_append_left _ (List.mem_append_right _ h)))))
  have hw10 := hts (.classLink RX11 52 RX6) (by decide +kernel)
  have hw11 := hts (.instantiable RX6 4) (by decide +kernel)
  have hw12 := hts (.initialized RX6) (by decide +kernel)
  have hw13 := hts (.fieldLink RX11 136 "PostHouse" "today" "I") (by decide +kernel)
  have hw14 := hts (.methodLink RX11 516 yX6_init) (by decide +kernel)
  have hw15 := hts (.instanceMethod yX6_init) (by decide +kernel)
  have hw16 := hts (.fieldLink RX11 389 "PostHouse$Order" "wants" "[LPostHouse$Want;") (by decide +kernel)
  refine lv_aload_n hx hb dX11_serve_0 rfl (lv_at hl 0 rfl) ?_
  refine zGetR (D := D) (ci := 11) (C := RX11) (T := TX11) (N := 16) hx hb hts hiX11 hown hH (zk_0 hF) rfl 6 (by decide) rfl hw1 (fun _ h9 => h9) dX11_serve_1 (zr_0_6 hF) ?_
  refine lv_iload_n hx hb dX11_serve_4 rfl (lv_at hl 1 rfl) ?_
  refine zAaldS (D := D) hx hb hH (zk_16 hF) (by decide) (by decide) rfl (zn_16 hF) (by omega) (by omega) (hO.2.2.1 q (by omega)).2.1.1 dX11_serve_5 ?_
  refine lv_astore_n (lv' := [(2, .ref (τ.1 (500 + q))), (0, .ref (τ.1 0)), (1, .int (nI q))]) hx hb dX11_serve_6 rfl hl (by decide) rfl (fun ls hl => ?_)
  refine lv_aload_n hx hb dX11_serve_7 rfl (lv_at hl 1 rfl) ?_
  refine zGetR (D := D) (ci := 11) (C := RX11) (T := TX11) (N := 16) hx hb hts hiX11 hown hH (zk_0 hF) rfl 8 (by decide) rfl hw2 (fun _ h9 => h9) dX11_serve_8 (zr_0_8 hF) ?_
  refine va_callv (va_runV (As := []) (rest := []) ⟨hx, hb, hml, hown, hts⟩ (c_clear l hl0 D A sad τ fi fr ol hF) (cwV 0 hts gX11_serve_X4_clear rfl rfl rfl (by decide +kernel) ⟨Nat.le_of_ble_eq_true rfl, Nat.le_of_ble_eq_true rfl⟩) ⟨zQc_bl, zRecv hH (zk_18 hF) rfl, zQc_at hz hS hA hH⟩ rfl rfl hl.1 rfl (lv_room (Nat.le_of_ble_eq_true rfl)) dX11_serve_11 ⟨Nat.le_of_ble_eq_true rfl, Nat.le_of_ble_eq_true rfl⟩) hS (fun q _ h => h) (fun q h => h) (fun u9 t9 H1 locs ht9 hvm9 hw hB hz1 hk1 hS => ?_)
  have hH := zMv ht9 hvm9 hB
  clear hB
  generalize u9 = f102 at hw hH
  generalize H1 = H at hH hS ⊢
  have hcf : ∀ i k, ¬ (i = 18 ∧ 3 ≤ k) → f102 i k = fi i k := fun i k h => by rw [hw, zu_n (by omega), zu_n (by omega)]
  have hc3 : f102 18 3 = nI 0 := by rw [hw, zu_n (by omega)]; exact zu_s
  refine lv_iconst (v := nI 0) hx hb dX11_serve_14 (by decide) ?_
  refine lv_istore_n (lv' := [(3, .int (nI 0)), (2, .ref (τ.1 (500 + q))), (0, .ref (τ.1 0)), (1, .int (nI q))]) hx hb dX11_serve_15 rfl hl (by decide) rfl (fun ls hl => ?_)
  refine zLp (σ := Nat × Nat × zFi × zFr) (fun x9 k9 H locs ls => (fun (i : Nat) (kk : Nat) (f : zFi) (g : zFr) => k9 = wn - i ∧ (i ≤ wn ∧ kk ≤ 16 ∧ f 18 3 = nI kk ∧ zSv n fi fr f g) ∧ zH D A τ f g ol s H ∧ va_S A s.heap H locs ∧ lv_has ls 4 [(0, .ref (τ.1 0)), (1, .int (nI q)), (2, .ref (τ.1 (500 + q))), (3, .int (nI i))]) x9.1 x9.2.1 x9.2.2.1 x9.2.2.2) (0, 0, f102, fr) (wn - 0) (show wn - 0 = wn - 0 ∧ (0 ≤ wn ∧ 0 ≤ 16 ∧ f102 18 3 = nI 0 ∧ zSv n fi fr f102 fr) ∧ zH D A τ f102 fr ol s _ ∧ va_S A s.heap _ _ ∧ lv_has _ 4 [(0, .ref (τ.1 0)), (1, .int (nI q)), (2, .ref (τ.1 (500 + q))), (3, .int (nI 0))] from ⟨rfl, ⟨Nat.zero_le _, by omega, hc3, ⟨fun a b h => hcf a b (by omega), fun _ _ _ => rfl, fun _ _ _ => Or.inl rfl⟩⟩, hH, hS, lv_sub hl [2, 3, 1, 0] rfl⟩) (fun k9 ih x9 H locs ls hv9 => ?_)
  obtain ⟨i, kk, f, g⟩ := x9
  have hv9 : k9 = wn - i ∧ (i ≤ wn ∧ kk ≤ 16 ∧ f 18 3 = nI kk ∧ zSv n fi fr f g) ∧ zH D A τ f g ol s H ∧ va_S A s.heap H locs ∧ lv_has ls 4 [(0, .ref (τ.1 0)), (1, .int (nI q)), (2, .ref (τ.1 (500 + q))), (3, .int (nI i))] := hv9
  obtain ⟨hkih103, hv9, hH, hS, hl⟩ := hv9
  obtain ⟨h1, hkk, hk3, hsv⟩ := hv9
  have ih103 := ih
  clear ih
  have hT := hT0.sv hsv
  have hFg := hF.sv hsv
  have q5 : f (500 + q) 5 = nI wn := by rw [hsv.1 _ _ (by omega)]; exact hws5
  have q12 : f 0 12 = nI sn := by rw [hsv.1 _ _ (by omega)]; exact hSn.2.1
  refine lv_iload_n hx hb dX11_serve_16 rfl (lv_at hl 3 rfl) ?_
  refine lv_aload_n hx hb dX11_serve_17 rfl (lv_at hl 2 rfl) ?_
  refine zGetI (D := D) (ci := 3) (C := RX3) (T := TX3) (N := 6) hx hb hts hiX3 hown hH (hO.2.2.1 q (by omega)).1.1 rfl 5 (by decide) rfl hw4 (fun _ h9 => h9) dX11_serve_18 q5 ?_
  refine lv_icmp_ge (tgt := 41) hx hb dX11_serve_21 (by decide) (fun c104 => ?_) (fun c104 => ?_)
  · have zc104 := c104
    replace zc104 := zc_le (nI_toInt (by omega)) (nI_toInt (by omega)) zc104
    refine lv_aload_n hx hb dX11_serve_41 rfl (lv_at hl 0 rfl) ?_
    refine zGetR (D := D) (ci := 11) (C := RX11) (T := TX11) (N := 16) hx hb hts hiX11 hown hH (zk_0 hFg) rfl 8 (by decide) rfl hw2 (fun _ h9 => h9) dX11_serve_42 (zr_0_8 hFg) ?_
    refine zGetI (D := D) (ci := 4) (C := RX4) (T := TX4) (N := 5) hx hb hts hiX4 hown hH (zk_18 hFg) rfl 4 (by decide) rfl hw6 (fun _ h9 => h9) dX11_serve_45 rfl ?_
    refine lv_if_le (tgt := 106) hx hb dX11_serve_48 (by decide) (fun c105 => ?_) (fun c105 => ?_)
    · have zc105 := c105
      replace zc105 := zc_le (rfl) ((by decide : (0 : Int32).toInt = 0)) zc105
      refine zKnow (fun hrm9 hsz9 => ?_)
      refine W.widen (k := 1) (n := 4) (by decide) (by decide) ?_
      exact W.vret hx hb hr (fun t9 ht9 hW9 => ⟨⟨(τ, f, g), rfl, (show zSy n τ fi fr τ f g ∧ zFix τ g ∧ ∃ k, k ≤ 16 ∧ f 18 3 = nI k from ⟨zSy.of hsv, hFg, kk, hkk, hk3⟩), ⟨zEnd1 hH ht9 hW9, 0, ⟨by omega, (show zSn τ f g (sn + 0) from hSn.cg (hsv.1 _ _ (by omega)) (fun k => hsv.2.1 _ _ (by omega)) (fun _ _ _ => rfl))⟩, by rw [ht9]; exact zGrow.of hrm9 hsz9 (by omega) (by omega)⟩⟩, hS.F ht9⟩) hS.2.2 dX11_serve_106
    · have zc105 := c105
      replace zc105 := zc_nle (rfl) ((by decide : (0 : Int32).toInt = 0)) zc105
      refine lv_aload_n hx hb dX11_serve_51 rfl (lv_at hl 0 rfl) ?_
      refine zGetI (D := D) (ci := 11) (C := RX11) (T := TX11) (N := 16) hx hb hts hiX11 hown hH (zk_0 hFg) rfl 12 (by decide) rfl hw7 (fun _ h9 => h9) dX11_serve_52 q12 ?_
      refine lv_sipush (v := nI 300) hx hb dX11_serve_55 (by decide) ?_
      refine lv_icmp_ge (tgt := 106) hx hb dX11_serve_58 (by decide) (fun c106 => ?_) (fun c106 => ?_)
      · have zc106 := c106
        replace zc106 := zc_le (nI_toInt (by omega)) (nI_toInt (by omega)) zc106
        refine zKnow (fun hrm9 hsz9 => ?_)
        refine W.widen (k := 1) (n := 4) (by decide) (by decide) ?_
        exact W.vret hx hb hr (fun t9 ht9 hW9 => ⟨⟨(τ, f, g), rfl, (show zSy n τ fi fr τ f g ∧ zFix τ g ∧ ∃ k, k ≤ 16 ∧ f 18 3 = nI k from ⟨zSy.of hsv, hFg, kk, hkk, hk3⟩), ⟨zEnd1 hH ht9 hW9, 0, ⟨by omega, (show zSn τ f g (sn + 0) from hSn.cg (hsv.1 _ _ (by omega)) (fun k => hsv.2.1 _ _ (by omega)) (fun _ _ _ => rfl))⟩, by rw [ht9]; exact zGrow.of hrm9 hsz9 (by omega) (by omega)⟩⟩, hS.F ht9⟩) hS.2.2 dX11_serve_106
      · have zc106 := c106
        replace zc106 := zc_nle (nI_toInt (by omega)) (nI_toInt (by omega)) zc106
        refine lv_aload_n hx hb dX11_serve_61 rfl (lv_at hl 0 rfl) ?_
        refine zGetR (D := D) (ci := 11) (C := RX11) (T := TX11) (N := 16) hx hb hts hiX11 hown hH (zk_0 hFg) rfl 7 (by decide) rfl hw8 (fun _ h9 => h9) dX11_serve_62 (zr_0_7 hFg) ?_
        refine lv_aload_n hx hb dX11_serve_65 rfl (lv_at hl 0 rfl) ?_
        refine zGetI (D := D) (ci := 11) (C := RX11) (T := TX11) (N := 16) hx hb hts hiX11 hown hH (zk_0 hFg) rfl 12 (by decide) rfl hw7 (fun _ h9 => h9) dX11_serve_66 q12 ?_
        refine zNew (D := D) (fs := [.int 0, .int 0, .int 0, .int 0]) (ci := 6) (C := RX6) (T := TX6) (N := 4) hx hb hts hiX6 tyX6 tyX6_ok hown hw10 hw11 hw12 hH hS hA rfl (2000 + sn) (hSn.2.2.2 sn (Nat.le_refl _) (by omega)) (fun _ => rfl) (by decide) (Nat.le_of_ble_eq_true rfl) (Nat.le_of_ble_eq_true rfl) dX11_serve_69 (fun q9 c9 H hH8 hS => ?_)
        obtain ⟨τ107, eτ107⟩ : ∃ t9 : zTy, t9 = (va_up τ.1 (2000 + sn) q9, va_up τ.2.1 (2000 + sn) c9, va_up τ.2.2.1 (2000 + sn) 22, va_up τ.2.2.2 (2000 + sn) 0) := ⟨_, rfl⟩
        obtain ⟨f108, ef108⟩ : ∃ f9 : zFi, f9 = va_up f (2000 + sn) (fun _ => 0) := ⟨_, rfl⟩
        obtain ⟨g109, eg109⟩ : ∃ f9 : zFr, f9 = va_up g (2000 + sn) (fun _ => none) := ⟨_, rfl⟩
        have hH : zH D A τ107 f108 g109 ol s H := by rw [eτ107, ef108, eg109]; exact hH8
        clear hH8
        have hqτ107 : τ107.1 (2000 + sn) = q9 := by rw [eτ107]; exact va_up_self _ _ _
        have haτ107 : ∀ i, i ≠ 2000 + sn → τ107.1 i = τ.1 i := fun i h => by rw [eτ107]; exact va_up_ne _ _ h
        have hkτ107 : τ107.2.2.1 (2000 + sn) = 22 := by rw [eτ107]; exact va_up_self _ _ _
        have hnτ107 : τ107.2.2.2 (2000 + sn) = 0 := by rw [eτ107]; exact va_up_self _ _ _
        have hbτ107 : ∀ i, i ≠ 2000 + sn → τ107.2.2.1 i = τ.2.2.1 i ∧ τ107.2.2.2 i = τ.2.2.2 i := fun i h => by rw [eτ107]; exact ⟨va_up_ne _ _ h, va_up_ne _ _ h⟩
        have hFτ107 : zFix τ107 g109 := by rw [eτ107, eg109]; exact hFg.up (by omega)
        clear eτ107
        subst hqτ107
        rw [show τ.1 0 = τ107.1 0 from (haτ107 0 (by omega)).symm] at hl
        rw [show τ.1 (500 + q) = τ107.1 (500 + q) from (haτ107 (500 + q) (by omega)).symm] at hl
        refine W.eq (g2 := F0 m 72 ls [.ref (τ107.1 (2000 + sn)), .int (nI sn), .ref (τ107.1 17)]) (by rw [haτ107 17 (by omega)]) ?_
        have q110 : f108 (500 + q) 5 = nI wn := by rw [ef108, va_up_ne _ _ (by omega)]; exact q5
        have q111 : f108 0 12 = nI sn := by rw [ef108, va_up_ne _ _ (by omega)]; exact q12
        have q112 : f108 18 3 = nI kk := by rw [ef108, va_up_ne _ _ (by omega)]; exact hk3
        have hbf : ∀ i k, i ≠ 2000 + sn → f108 i k = f i k := fun i k h => by rw [ef108, va_up_ne _ _ h]
        refine W.widen (k := 1) (n := 4) (by decide) (by decide) ?_
        refine lv_dup hx hb dX11_serve_72 rfl ?_
        refine lv_iload_n hx hb dX11_serve_73 rfl (lv_at hl 1 rfl) ?_
        refine lv_aload_n hx hb dX11_serve_74 rfl (lv_at hl 0 rfl) ?_
        refine zGetI (D := D) (ci := 11) (C := RX11) (T := TX11) (N := 16) hx hb hts hiX11 hown hH (zk_0 hFτ107) rfl 15 (by decide) rfl hw13 (fun _ h9 => h9) dX11_serve_75 rfl ?_
        refine lv_aload_n hx hb dX11_serve_78 rfl (lv_at hl 0 rfl) ?_
        refine zGetR (D := D) (ci := 11) (C := RX11) (T := TX11) (N := 16) hx hb hts hiX11 hown hH (zk_0 hFτ107) rfl 8 (by decide) rfl hw2 (fun _ h9 => h9) dX11_serve_79 (zr_0_8 hFτ107) ?_
        refine zGetI (D := D) (ci := 4) (C := RX4) (T := TX4) (N := 5) hx hb hts hiX4 hown hH (zk_18 hFτ107) rfl 4 (by decide) rfl hw6 (fun _ h9 => h9) dX11_serve_82 rfl ?_
        refine lv_aload_n hx hb dX11_serve_85 rfl (lv_at hl 0 rfl) ?_
        refine zGetR (D := D) (ci := 11) (C := RX11) (T := TX11) (N := 16) hx hb hts hiX11 hown hH (zk_0 hFτ107) rfl 8 (by decide) rfl hw2 (fun _ h9 => h9) dX11_serve_86 (zr_0_8 hFτ107) ?_
        refine va_calli (va_runV (As := []) (rest := [.int (f108 18 4), .int (f108 0 15), .int (nI q), .ref (τ107.1 (2000 + sn)), .ref (τ107.1 (2000 + sn)), .int (nI sn), .ref (τ107.1 17)]) ⟨hx, hb, hml, hown, hts⟩ (c_parcels l hl0 D A sad τ107 f108 g109 ol hFτ107 kk (by omega) q112) (cwV 0 hts gX11_serve_X4_parcels rfl rfl rfl (by decide +kernel) ⟨Nat.le_of_ble_eq_true rfl, Nat.le_of_ble_eq_true rfl⟩) ⟨zQc_bl, zRecv hH (zk_18 hFτ107) rfl, zQc_at hz hS hA hH⟩ rfl rfl hl.1 rfl (lv_room (Nat.le_of_ble_eq_true rfl)) dX11_serve_89 ⟨Nat.le_of_ble_eq_true rfl, Nat.le_of_ble_eq_true rfl⟩) hS (fun q _ h => h) (fun q h => h) (fun r113 u9 t9 H1 locs ht9 hvm9 hw hB hz1 hk1 hS => ?_)
        have hH := zMv ht9 hvm9 hB
        clear hB
        generalize u9 = f114 at hw hH
        generalize H1 = H at hH hS ⊢
        have hpf := hw
        clear hw
        have q115 : f114 (500 + q) 5 = nI wn := by rw [hpf (500 + q) 5 (by omega)]; exact q110
        have q116 : f114 0 12 = nI sn := by rw [hpf 0 12 (by omega)]; exact q111
        have q117 : f114 18 3 = nI kk := by rw [hpf 18 3 (by omega)]; exact q112
        refine va_callv (va_runI (As := [.int (nI q), .int (f108 0 15), .int (f108 18 4), .int r113]) (rest := [.ref (τ107.1 (2000 + sn)), .int (nI sn), .ref (τ107.1 17)]) ⟨hx, hb, hml, hown, hts⟩ (c_Send_init l hl0 D A sad τ107 f114 g109 ol (2000 + sn) hkτ107 (nI q) (f108 0 15) (f108 18 4) r113) (cwI 4 hts gX11_serve_X6_init rfl rfl rfl hw12 hw14 hw15 rfl (by decide +kernel) ⟨Nat.le_of_ble_eq_true rfl, Nat.le_of_ble_eq_true rfl⟩) ⟨zQc_bl, zQc_at hz hS hA hH⟩ rfl rfl hl.1 rfl (lv_room (Nat.le_of_ble_eq_true rfl)) dX11_serve_92 ⟨Nat.le_of_ble_eq_true rfl, Nat.le_of_ble_eq_true rfl⟩) hS (fun q _ h => h) (fun q h => h) (fun u9 t9 H1 locs ht9 hvm9 hw hB hz1 hk1 hS => ?_)
        have hH := zMv ht9 hvm9 hB
        clear hB
        generalize u9 = f119 at hw hH
        generalize H1 = H at hH hS ⊢
        have hsf := hw
        clear hw
        have q120 : f119 (500 + q) 5 = nI wn := by rw [hsf (500 + q) 5 (by omega)]; exact q115
        have q121 : f119 0 12 = nI sn := by rw [hsf 0 12 (by omega)]; exact q116
        have q122 : f119 18 3 = nI kk := by rw [hsf 18 3 (by omega)]; exact q117
        refine zAastS (D := D) (rr := (RX6, TX6, 4)) hx hb hH hS (zk_17 hFτ107) (by decide) (by decide) rfl hkτ107 rfl (zn_17 hFτ107) (by omega) (by omega) dX11_serve_95 (fun H locs hH hS => ?_)
        obtain ⟨g123, eg123⟩ : ∃ f9 : zFr, f9 = zur g109 17 sn (some (2000 + sn)) := ⟨_, rfl⟩
        rw [← eg123] at hH
        have hF124 : zFix τ107 g123 := by rw [eg123]; exact hFτ107.ur (by omega)
        refine lv_aload_n hx hb dX11_serve_96 rfl (lv_at hl 0 rfl) ?_
        refine lv_dup hx hb dX11_serve_97 rfl ?_
        refine zGetI (D := D) (ci := 11) (C := RX11) (T := TX11) (N := 16) hx hb hts hiX11 hown hH (zk_0 hF124) rfl 12 (by decide) rfl hw7 (fun _ h9 => h9) dX11_serve_98 q121 ?_
        refine lv_iconst (v := nI 1) hx hb dX11_serve_101 (by decide) ?_
        refine lv_iadd hx hb dX11_serve_102 ?_
        refine lv_topi (fun v125 ev125 => ?_)
        obtain rfl : v125 = nI (sn + 1) := ev125.trans (nI_add _ _)
        refine zPutI (D := D) (ci := 11) (ty := .int) (C := RX11) (T := TX11) (N := 16) hx hb hts hiX11 tyX11 tyX11_ok nmX11 hown hH hS (zk_0 hF124) rfl 12 (by decide) rfl hw7 (fun _ h9 => h9) rfl (by decide +kernel) rfl rfl dX11_serve_103 (fun H locs hH hS => ?_)
        obtain ⟨f126, ef126⟩ : ∃ f9 : zFi, f9 = zu f119 0 12 (nI (sn + 1)) := ⟨_, rfl⟩
        rw [← ef126] at hH
        have q127 : f126 (500 + q) 5 = nI wn := by rw [ef126, zu_n (fun h9 => by omega)]; exact q120
        have q128 : f126 18 3 = nI kk := by rw [ef126, zu_n (fun h9 => absurd h9.1 (by decide))]; exact q122
        have q129 : f126 0 12 = nI (sn + 1) := by rw [ef126]; exact zu_s
        refine zKnow (fun hrm9 hsz9 => ?_)
        refine W.widen (k := 1) (n := 4) (by decide) (by decide) ?_
        exact W.vret hx hb hr (fun t9 ht9 hW9 => ⟨⟨(τ107, f126, g123), rfl, (show zSy n τ fi fr τ107 f126 g123 ∧ zFix τ107 g123 ∧ ∃ k, k ≤ 16 ∧ f126 18 3 = nI k from ⟨⟨fun i h => ⟨haτ107 i (by omega), (hbτ107 i (by omega)).1, (hbτ107 i (by omega)).2⟩, fun a b h => by rw [ef126, zu_n (by omega), hsf a b (by omega), hpf a b (by omega), hbf a b (by omega)]; exact hsv.1 a b (by omega), fun a b h => by rw [eg123, zur_n (by omega), eg109, va_up_ne _ _ (by omega)]; exact hsv.2.1 a b (by omega), fun i p q => by rw [eg123, zur_n (by omega), eg109, va_up_ne _ _ (by omega)]; exact hsv.2.2 i p q⟩, hF124, ⟨kk, by omega, q128⟩⟩), ⟨zEnd1 hH ht9 hW9, 1, ⟨by omega, (show zSn τ107 f126 g123 (sn + 1) from hSn.add (by omega) hkτ107 (fun i h => (hbτ107 i h).1) q129 (fun k h => by rw [eg123, zur_n (by omega), eg109, va_up_ne _ _ (by omega)]; exact hsv.2.1 17 k (by omega)) (by rw [eg123]; exact zur_s))⟩, by rw [ht9]; exact zGrow.of hrm9 hsz9 (by omega) (by omega)⟩⟩, hS.F ht9⟩) hS.2.2 dX11_serve_106
  · have zc104 := c104
    replace zc104 := zc_nle (nI_toInt (by omega)) (nI_toInt (by omega)) zc104
    refine lv_aload_n hx hb dX11_serve_24 rfl (lv_at hl 0 rfl) ?_
    refine lv_aload_n hx hb dX11_serve_25 rfl (lv_at hl 2 rfl) ?_
    refine lv_aload_n hx hb dX11_serve_26 rfl (lv_at hl 2 rfl) ?_
    refine zGetR (D := D) (ci := 3) (C := RX3) (T := TX3) (N := 6) hx hb hts hiX3 hown hH (hO.2.2.1 q (by omega)).1.1 rfl 3 (by decide) rfl hw16 (fun _ h9 => h9) dX11_serve_27 (by rw [hsv.2.1 _ _ (by omega)]; exact (hO.2.2.1 q hq).2.1.2) ?_
    refine lv_iload_n hx hb dX11_serve_30 rfl (lv_at hl 3 rfl) ?_
    refine zAaldS (D := D) hx hb hH (hO.2.2.1 q (by omega)).1.2.1 (by decide) (by decide) rfl (hO.2.2.1 q (by omega)).1.2.2 (by omega) (by omega) (by rw [hsv.2.1 _ _ (by omega)]; exact (hws i (by omega)).2.1) dX11_serve_31 ?_
    obtain ⟨wkk, -, ⟨wt, hwt, wo0⟩, -⟩ := hws i (by omega)
    refine va_callv (va_runV (As := [.ref (τ.1 (500 + q)), .ref (τ.1 (1000 + 8 * q + i))]) (rest := []) ⟨hx, hb, hml, hown, hts⟩ (c_serveWant l hl0 D A sad τ f g ol hFg n hT q ((hO.2.2.1 q hq).1.1) (by omega) (1000 + 8 * q + i) wt wkk (⟨by omega, by omega⟩) hwt (by rw [hsv.2.1 _ _ (by omega)]; exact wo0) kk (by omega) hk3) (cwV 2 hts gX11_serve_X11_serveWant rfl rfl rfl (by decide +kernel) ⟨Nat.le_of_ble_eq_true rfl, Nat.le_of_ble_eq_true rfl⟩) ⟨zQc_bl, zRecv hH (zk_0 hFg) rfl, zQc_at hz hS hA hH⟩ rfl rfl hl.1 rfl (lv_room (Nat.le_of_ble_eq_true rfl)) dX11_serve_32 ⟨Nat.le_of_ble_eq_true rfl, Nat.le_of_ble_eq_true rfl⟩) hS (fun q _ h => h) (fun q h => h) (fun u9 t9 H1 locs ht9 hvm9 hw hB hz1 hk1 hS => ?_)
    obtain ⟨f131, g132⟩ := u9
    have hH := zMv ht9 hvm9 hB
    clear hB
    simp only at hw hH
    generalize H1 = H at hH hS ⊢
    obtain ⟨hsv2, k2, hk2, qk2⟩ := hw
    refine lv_iinc (v := nI (i + 1)) (lv' := [(3, .int (nI (i + 1))), (0, .ref (τ.1 0)), (1, .int (nI q)), (2, .ref (τ.1 (500 + q)))]) hx hb dX11_serve_35 hl (k := 3) rfl (by rw [show (Int32.ofInt 1 : Int32) = nI 1 from by decide, nI_add]) (by decide) rfl (fun ls hl => ?_)
    refine lv_goto (tgt := 16) hx hb dX11_serve_38 (by decide) ?_
    exact ih103 (wn - (i + 1)) (by omega) (i + 1, k2, f131, g132) _ _ _ (show wn - (i + 1) = wn - (i + 1) ∧ ((i + 1) ≤ wn ∧ k2 ≤ 16 ∧ f131 18 3 = nI k2 ∧ zSv n fi fr f131 g132) ∧ zH D A τ f131 g132 ol s _ ∧ va_S A s.heap _ _ ∧ lv_has _ 4 [(0, .ref (τ.1 0)), (1, .int (nI q)), (2, .ref (τ.1 (500 + q))), (3, .int (nI (i + 1)))] from ⟨rfl, ⟨by omega, hk2, qk2, hsv.tr hsv2⟩, hH, hS, lv_sub hl [1, 2, 3, 0] rfl⟩)
set_option maxHeartbeats 4000000 in
set_option maxRecDepth 100000 in
/-- passDay -/
theorem c_passDay (l : Launch) (hl0 : l.stackTraces = false) (D : va_G) (A : Nat → Prop) (sad : Nat → Nat) (τ : zTy) (fi : zFi) (fr : zFr) (ol : Int64) (td : Nat) (htd : fi 0 15 = nI td) (htd9 : td ≤ 999) (hF : zFix τ fr) (n : Nat) (hT : zTh τ fi fr n) (c : Nat) (hC : zCm fi fr n c) (o : Nat) (hO : zOr τ fi fr n o) (sn : Nat) (hSn : zSn τ fi fr sn) (hkx : ∃ k, k ≤ 16 ∧ fi 18 3 = nI k) (hp : Heap) : Met l yX11_passDay wsX11_passDay ({ frames := 5, cells := 60, slots := 240, locals := 116 }) (va_Pc [.ref (τ.1 0)] (zQg hp D A sad τ fi fr ol)) (va_Qv (fun (u : zTy × zFi × zFr) => (zCm u.2.1 u.2.2 n (zKp (fi 7) (nI (min (td + 1) 999)) c) ∧ ∀ b, b < c → ¬ fi 7 b = nI (min (td + 1) 999) → u.2.1 7 (zKp (fi 7) (nI (min (td + 1) 999)) b) = fi 7 b) ∧ zDy n τ fi fr u.1 u.2.1 u.2.2 ∧ zFix u.1 u.2.2 ∧ (∃ k, k ≤ 16 ∧ u.2.1 18 3 = nI k) ∧ u.2.1 0 15 = nI (min (td + 1) 999)) (fun (u : zTy × zFi × zFr) (t : State) => zH D A u.1 u.2.1 u.2.2 ol t t.heap ∧ ∃ j, (zSn u.1 u.2.1 u.2.2 (sn + j)) ∧ zGrow hp t.heap j (4 * j)) A) 60 240 A := by
  refine Met.ofW (cc := cX11_passDay) (maxL := 2) (ret := none) (by decide) rfl ?_
  intro p9 e9 s m args below meth c9 s₁ B hml hv
  obtain ⟨rfl, ⟨hz, hH, hA⟩, rfl⟩ := hv
  have hx := B.exec
  have hb := B.bytes
  have hr := B.returns
  have hts := atoms_spec (ws := wsX11_passDay) B.pre
  have hown : s.vm.findClass RX11 = some m.cls := findClass_of_methodNamed B.named
  have hlocks := B.notSynchronized
  have hS : va_S A s.heap s.heap [] := va_S.rf
  have hl := lv_entry ([.ref (τ.1 0)]) (n := 2) (Nat.le_of_ble_eq_true rfl)
  rw [lg_entry_eq]
  generalize (lg_sl ([.ref (τ.1 0)]) ++ List.replicate (2 - (lg_sl ([.ref (τ.1 0)])).length) Slot.unset).toArray = ls at hl ⊢
  have hl : lv_has ls 2 [(0, .ref (τ.1 0))] := hl
  have hn30 := hT.1
  have ho60 := hO.1
  have hs300 := hSn.1
  have hiX11 : ∀ w ∈ u_ws RX11 TX11 16, w ∈ wsX11_passDay := fun _ h => List.mem_cons_of_mem _ (List.mem_append_left _ (List.mem_append_left _ (List.mem_append_left _ (List.mem_append_left _ (List.mem_append_left _ (List.mem_append_left _ (List.mem_append_left _ (List.mem_append_left _ (List.mem_append_right _ h)))))))))
  have hw1 := hts (.fieldLink RX11 136 "PostHouse" "today" "I") (by decide +kernel)
  have hw2 := hts (.fieldLink RX11 26 "PostHouse" "comings" "LPostHouse$Comings;") (by decide +kernel)
  have hw3 := hts (.fieldLink RX11 366 "PostHouse" "orderCount" "I") (by decide +kernel)
  refine lv_aload_n hx hb dX11_passDay_0 rfl (lv_at hl 0 rfl) ?_
  refine zGetI (D := D) (ci := 11) (C := RX11) (T := TX11) (N := 16) hx hb hts hiX11 hown hH (zk_0 hF) rfl 15 (by decide) rfl hw1 (fun _ h9 => h9) dX11_passDay_1 htd ?_
  refine lv_sipush (v := nI 999) hx hb dX11_passDay_4 (by decide) ?_
  refine lv_icmp_ge (tgt := 20) hx hb dX11_passDay_7 (by decide) (fun c101 => ?_) (fun c101 => ?_)
  · have zc101 := c101
    replace zc101 := zc_le (nI_toInt (by omega)) (nI_toInt (by omega)) zc101
    refine lv_aload_n hx hb dX11_passDay_20 rfl (lv_at hl 0 rfl) ?_
    refine zGetR (D := D) (ci := 11) (C := RX11) (T := TX11) (N := 16) hx hb hts hiX11 hown hH (zk_0 hF) rfl 2 (by decide) rfl hw2 (fun _ h9 => h9) dX11_passDay_21 (zr_0_2 hF) ?_
    refine lv_aload_n hx hb dX11_passDay_24 rfl (lv_at hl 0 rfl) ?_
    refine zGetI (D := D) (ci := 11) (C := RX11) (T := TX11) (N := 16) hx hb hts hiX11 hown hH (zk_0 hF) rfl 15 (by decide) rfl hw1 (fun _ h9 => h9) dX11_passDay_25 htd ?_
    refine va_callv (va_runV (As := [.int (nI td)]) (rest := []) ⟨hx, hb, hml, hown, hts⟩ (c_arrive l hl0 D A sad τ fi fr ol (nI td) hF n hT c hC) (cwV 1 hts gX11_passDay_X1_arrive rfl rfl rfl (by decide +kernel) ⟨Nat.le_of_ble_eq_true rfl, Nat.le_of_ble_eq_true rfl⟩) ⟨zQc_bl, zRecv hH (zk_5 hF) rfl, zQc_at hz hS hA hH⟩ rfl rfl hl.1 rfl (lv_room (Nat.le_of_ble_eq_true rfl)) dX11_passDay_28 ⟨Nat.le_of_ble_eq_true rfl, Nat.le_of_ble_eq_true rfl⟩) hS (fun q _ h => h) (fun q h => h) (fun u9 t9 H1 locs ht9 hvm9 hw hB hz1 hk1 hS => ?_)
    obtain ⟨f103, g104⟩ := u9
    have hH := zMv ht9 hvm9 hB
    clear hB
    simp only at hw hH
    generalize H1 = H at hH hS ⊢
    obtain ⟨hC2, haf, hag, hkp7⟩ := hw
    have e7 : fi 7 = fi 7 := rfl
    rw [e7] at hC2 hkp7
    have hF2 : zFix τ g104 := hF.fr (fun i k h1 h2 h3 => hag i k h2)
    have hT := zTh.cg (τ' := τ) (fi' := f103) (fr' := g104) hT (fun i9 k9 h9 => haf i9 k9 (by omega)) (fun i9 k9 h9 => hag i9 k9 (by omega)) (fun _ _ _ => ⟨rfl, rfl⟩)
    have hO := zOr.cg (τ' := τ) (fi' := f103) (fr' := g104) hO (Nat.le_refl _) (fun i9 k9 h9 => haf i9 k9 (by omega)) (fun i9 k9 h9 => hag i9 k9 (by omega)) (fun _ _ _ => ⟨rfl, rfl⟩)
    have hSn := zSn.cg (τ' := τ) (fi' := f103) (fr' := g104) hSn (haf _ _ (by omega)) (fun k9 => hag _ _ (by omega)) (fun _ _ _ => rfl)
    have p15 : f103 0 15 = nI td := by rw [haf _ _ (by omega)]; exact htd
    have hbase : ∀ i k, ¬ ((300 ≤ i ∧ i < 330 ∧ k = 5) ∨ (i = 0 ∧ k = 15) ∨ i = 7 ∨ i = 8 ∨ (i = 5 ∧ k = 3)) → f103 i k = fi i k := fun i k h => by rw [haf i k (by omega)]
    have hk0 : ∃ k, k ≤ 16 ∧ f103 18 3 = nI k := by rw [hbase _ _ (by omega)]; exact hkx
    have hT0 := hT
    have hO0 := hO
    refine lv_iconst (v := nI 0) hx hb dX11_passDay_31 (by decide) ?_
    refine lv_istore_n (lv' := [(1, .int (nI 0)), (0, .ref (τ.1 0))]) hx hb dX11_passDay_32 rfl hl (by decide) rfl (fun ls hl => ?_)
    refine zLpC (σ := Nat × Nat × zTy × zFi × zFr) (fun x9 => (fun (i : Nat) (j : Nat) (T : zTy) (f : zFi) (g : zFr) => j) x9.1 x9.2.1 x9.2.2.1 x9.2.2.2.1 x9.2.2.2.2) (fun x9 => (fun (i : Nat) (j : Nat) (T : zTy) (f : zFi) (g : zFr) => 4 * j) x9.1 x9.2.1 x9.2.2.1 x9.2.2.2.1 x9.2.2.2.2) (fun x9 k9 H locs ls => (fun (i : Nat) (j : Nat) (T : zTy) (f : zFi) (g : zFr) => k9 = o - i ∧ (i ≤ o ∧ j ≤ i ∧ zSn T f g (sn + j) ∧ zFix T g ∧ zSy n τ f103 g104 T f g ∧ ∃ k, k ≤ 16 ∧ f 18 3 = nI k) ∧ zH D A T f g ol s H ∧ va_S A s.heap H locs ∧ lv_has ls 2 [(0, .ref (T.1 0)), (1, .int (nI i))]) x9.1 x9.2.1 x9.2.2.1 x9.2.2.2.1 x9.2.2.2.2) (0, 0, τ, f103, g104) (o - 0) (by simp) (by simp) (show o - 0 = o - 0 ∧ (0 ≤ o ∧ 0 ≤ 0 ∧ zSn τ f103 g104 (sn + 0) ∧ zFix τ g104 ∧ zSy n τ f103 g104 τ f103 g104 ∧ ∃ k, k ≤ 16 ∧ f103 18 3 = nI k) ∧ zH D A τ f103 g104 ol s _ ∧ va_S A s.heap _ _ ∧ lv_has _ 2 [(0, .ref (τ.1 0)), (1, .int (nI 0))] from ⟨rfl, ⟨Nat.zero_le _, Nat.le_refl _, hSn, hF2, zSy.rf, hk0⟩, hH, hS, lv_sub hl [1, 0] rfl⟩) (fun k9 ih x9 H locs ls hv9 => ?_)
    obtain ⟨i, j, T, f, g⟩ := x9
    have hv9 : k9 = o - i ∧ (i ≤ o ∧ j ≤ i ∧ zSn T f g (sn + j) ∧ zFix T g ∧ zSy n τ f103 g104 T f g ∧ ∃ k, k ≤ 16 ∧ f 18 3 = nI k) ∧ zH D A T f g ol s H ∧ va_S A s.heap H locs ∧ lv_has ls 2 [(0, .ref (T.1 0)), (1, .int (nI i))] := hv9
    obtain ⟨hkih105, hv9, hH, hS, hl⟩ := hv9
    show W _ _ _ _ _ _ _ _ _ _ _ _ j (4 * j) _ _
    obtain ⟨h1, hji, hsnj, hFg, hsy, hks0⟩ := hv9
    have ih105 := ih
    clear ih
    have hT := hT0.sy hsy
    have hO := hO0.sy hsy
    have q11 := hO.2.1
    have q15 : f 0 15 = nI td := by rw [hsy.2.1 _ _ (by omega)]; exact p15
    refine lv_iload_n hx hb dX11_passDay_33 rfl (lv_at hl 1 rfl) ?_
    refine lv_aload_n hx hb dX11_passDay_34 rfl (lv_at hl 0 rfl) ?_
    refine zGetI (D := D) (ci := 11) (C := RX11) (T := TX11) (N := 16) hx hb hts hiX11 hown hH (zk_0 hFg) rfl 11 (by decide) rfl hw3 (fun _ h9 => h9) dX11_passDay_35 q11 ?_
    refine lv_icmp_ge (tgt := 52) hx hb dX11_passDay_38 (by decide) (fun c106 => ?_) (fun c106 => ?_)
    · have zc106 := c106
      replace zc106 := zc_le (nI_toInt (by omega)) (nI_toInt (by omega)) zc106
      refine zKnow (fun hrm9 hsz9 => ?_)
      refine W.widen (k := 60) (n := 240) (by omega) (by omega) ?_
      exact W.vret hx hb hr (fun t9 ht9 hW9 => ⟨⟨(T, f, g), rfl, (show (zCm f g n (zKp (fi 7) (nI (min (td + 1) 999)) c) ∧ ∀ b, b < c → ¬ fi 7 b = nI (min (td + 1) 999) → f 7 (zKp (fi 7) (nI (min (td + 1) 999)) b) = fi 7 b) ∧ zDy n τ fi fr T f g ∧ zFix T g ∧ (∃ k, k ≤ 16 ∧ f 18 3 = nI k) ∧ f 0 15 = nI (min (td + 1) 999) from ⟨⟨by rw [show min (td + 1) 999 = td by omega]; exact hC2.cg (Nat.le_refl _) (hsy.2.1 _ _ (by omega)) (fun k => hsy.2.2.1 _ _ (by omega)), fun b h h2 => by rw [show min (td + 1) 999 = td by omega] at h2 ⊢; rw [hsy.2.1 _ _ (by omega), ← e7]; exact (by rw [e7]; exact (hkp7 b h h2).1)⟩, zDy.of hbase hag hsy, hFg, hks0, by rw [show min (td + 1) 999 = td by omega]; exact q15⟩), ⟨zEnd1 hH ht9 hW9, j, hsnj, by rw [ht9]; exact zGrow.of hrm9 hsz9 (by omega) (by omega)⟩⟩, hS.F ht9⟩) hS.2.2 dX11_passDay_52
    · have zc106 := c106
      replace zc106 := zc_nle (nI_toInt (by omega)) (nI_toInt (by omega)) zc106
      refine lv_aload_n hx hb dX11_passDay_41 rfl (lv_at hl 0 rfl) ?_
      refine lv_iload_n hx hb dX11_passDay_42 rfl (lv_at hl 1 rfl) ?_
      refine zKnow (fun hrm0 hsz0 => ?_)
      refine va_callv (va_runV (As := [.int (nI i)]) (rest := []) ⟨hx, hb, hml, hown, hts⟩ (c_serve l hl0 D A sad T f g ol hFg n hT o hO i (by omega) (sn + j) hsnj H) (cwV 1 hts gX11_passDay_X11_serve rfl rfl rfl (by decide +kernel) ⟨Nat.le_of_ble_eq_true rfl, Nat.le_of_ble_eq_true rfl⟩) ⟨zQg_bl, zRecv hH (zk_0 hFg) rfl, zQg_at hz hS hA hH⟩ rfl rfl hl.1 rfl (lv_room (Nat.le_of_ble_eq_true rfl)) dX11_passDay_43 ⟨by show _ ≤ 60; omega, by show _ ≤ 240; omega⟩) hS (fun q _ h => h) (fun q h => h) (fun u9 t9 H1 locs ht9 hvm9 hw hB hz1 hk1 hS => ?_)
      obtain ⟨hB, jg, hgp, hgw⟩ := hB
      rw [ht9] at hgw
      have hgw := zGrow.tr (zGrow.of hrm0 hsz0 (Nat.le_refl _) (Nat.le_refl _)) hgw
      refine zNarrow hgw.rm ?_
      clear hgw hrm0 hsz0
      obtain ⟨τ108, f109, g110⟩ := u9
      have hH := zMv ht9 hvm9 hB
      clear hB
      simp only at hw hH hgp
      generalize H1 = H at hH hS ⊢
      obtain ⟨hsy2, hFs, hks⟩ := hw
      obtain ⟨hj1, hsn2⟩ := hgp
      have ha6 : ∀ i, ¬ (2000 ≤ i ∧ i < 2300) → τ108.1 i = T.1 i := fun i h => (hsy2.1 i h).1
      rw [show T.1 0 = τ108.1 0 from (ha6 0 (by omega)).symm] at hl
      refine lv_iinc (v := nI (i + 1)) (lv' := [(1, .int (nI (i + 1))), (0, .ref (τ108.1 0))]) hx hb dX11_passDay_46 hl (k := 1) rfl (by rw [show (Int32.ofInt 1 : Int32) = nI 1 from by decide, nI_add]) (by decide) rfl (fun ls hl => ?_)
      refine lv_goto (tgt := 33) hx hb dX11_passDay_49 (by decide) ?_
      refine W.widen (k := ((j + jg))) (n := (4 * (j + jg))) (by omega) (by omega) (ih105 (o - (i + 1)) (by omega) (i + 1, j + jg, τ108, f109, g110) _ _ _ (show o - (i + 1) = o - (i + 1) ∧ ((i + 1) ≤ o ∧ (j + jg) ≤ (i + 1) ∧ zSn τ108 f109 g110 (sn + (j + jg)) ∧ zFix τ108 g110 ∧ zSy n τ f103 g104 τ108 f109 g110 ∧ ∃ k, k ≤ 16 ∧ f109 18 3 = nI k) ∧ zH D A τ108 f109 g110 ol s _ ∧ va_S A s.heap _ _ ∧ lv_has _ 2 [(0, .ref (τ108.1 0)), (1, .int (nI (i + 1)))] from ⟨rfl, ⟨by omega, by omega, by rw [← Nat.add_assoc]; exact hsn2, hFs, hsy.tr hsy2, hks⟩, hH, hS, lv_sub hl [1, 0] rfl⟩))
  · have zc101 := c101
    replace zc101 := zc_nle (nI_toInt (by omega)) (nI_toInt (by omega)) zc101
    refine lv_aload_n hx hb dX11_passDay_10 rfl (lv_at hl 0 rfl) ?_
    refine lv_dup hx hb dX11_passDay_11 rfl ?_
    refine zGetI (D := D) (ci := 11) (C := RX11) (T := TX11) (N := 16) hx hb hts hiX11 hown hH (zk_0 hF) rfl 15 (by decide) rfl hw1 (fun _ h9 => h9) dX11_passDay_12 htd ?_
    refine lv_iconst (v := nI 1) hx hb dX11_passDay_15 (by decide) ?_
    refine lv_iadd hx hb dX11_passDay_16 ?_
    refine lv_topi (fun v111 ev111 => ?_)
    obtain rfl : v111 = nI (td + 1) := ev111.trans (nI_add _ _)
    refine zPutI (D := D) (ci := 11) (ty := .int) (C := RX11) (T := TX11) (N := 16) hx hb hts hiX11 tyX11 tyX11_ok nmX11 hown hH hS (zk_0 hF) rfl 15 (by decide) rfl hw1 (fun _ h9 => h9) rfl (by decide +kernel) rfl rfl dX11_passDay_17 (fun H locs hH hS => ?_)
    obtain ⟨f112, ef112⟩ : ∃ f9 : zFi, f9 = zu fi 0 15 (nI (td + 1)) := ⟨_, rfl⟩
    rw [← ef112] at hH
    have q113 : f112 0 15 = nI (td + 1) := by rw [ef112]; exact zu_s
    have hT := zTh.ci (fi' := f112) hT (fun i9 k9 h9 => by rw [ef112]; exact zu_n (by omega))
    have hC := zCm.ci (fi' := f112) hC (fun i9 k9 h9 => by rw [ef112]; exact zu_n (by omega))
    have hO := zOr.ci (fi' := f112) hO (fun i9 k9 h9 => by rw [ef112]; exact zu_n (by omega))
    have hSn := zSn.ci (fi' := f112) hSn (fun i9 k9 h9 => by rw [ef112]; exact zu_n (by omega))
    refine lv_aload_n hx hb dX11_passDay_20 rfl (lv_at hl 0 rfl) ?_
    refine zGetR (D := D) (ci := 11) (C := RX11) (T := TX11) (N := 16) hx hb hts hiX11 hown hH (zk_0 hF) rfl 2 (by decide) rfl hw2 (fun _ h9 => h9) dX11_passDay_21 (zr_0_2 hF) ?_
    refine lv_aload_n hx hb dX11_passDay_24 rfl (lv_at hl 0 rfl) ?_
    refine zGetI (D := D) (ci := 11) (C := RX11) (T := TX11) (N := 16) hx hb hts hiX11 hown hH (zk_0 hF) rfl 15 (by decide) rfl hw1 (fun _ h9 => h9) dX11_passDay_25 q113 ?_
    refine va_callv (va_runV (As := [.int (nI (td + 1))]) (rest := []) ⟨hx, hb, hml, hown, hts⟩ (c_arrive l hl0 D A sad τ f112 fr ol (nI (td + 1)) hF n hT c hC) (cwV 1 hts gX11_passDay_X1_arrive rfl rfl rfl (by decide +kernel) ⟨Nat.le_of_ble_eq_true rfl, Nat.le_of_ble_eq_true rfl⟩) ⟨zQc_bl, zRecv hH (zk_5 hF) rfl, zQc_at hz hS hA hH⟩ rfl rfl hl.1 rfl (lv_room (Nat.le_of_ble_eq_true rfl)) dX11_passDay_28 ⟨Nat.le_of_ble_eq_true rfl, Nat.le_of_ble_eq_true rfl⟩) hS (fun q _ h => h) (fun q h => h) (fun u9 t9 H1 locs ht9 hvm9 hw hB hz1 hk1 hS => ?_)
    obtain ⟨f115, g116⟩ := u9
    have hH := zMv ht9 hvm9 hB
    clear hB
    simp only at hw hH
    generalize H1 = H at hH hS ⊢
    obtain ⟨hC2, haf, hag, hkp7⟩ := hw
    have e7 : f112 7 = fi 7 := funext (fun k => by rw [ef112, zu_n (by omega)])
    rw [e7] at hC2 hkp7
    have hF2 : zFix τ g116 := hF.fr (fun i k h1 h2 h3 => hag i k h2)
    have hT := zTh.cg (τ' := τ) (fi' := f115) (fr' := g116) hT (fun i9 k9 h9 => haf i9 k9 (by omega)) (fun i9 k9 h9 => hag i9 k9 (by omega)) (fun _ _ _ => ⟨rfl, rfl⟩)
    have hO := zOr.cg (τ' := τ) (fi' := f115) (fr' := g116) hO (Nat.le_refl _) (fun i9 k9 h9 => haf i9 k9 (by omega)) (fun i9 k9 h9 => hag i9 k9 (by omega)) (fun _ _ _ => ⟨rfl, rfl⟩)
    have hSn := zSn.cg (τ' := τ) (fi' := f115) (fr' := g116) hSn (haf _ _ (by omega)) (fun k9 => hag _ _ (by omega)) (fun _ _ _ => rfl)
    have p15 : f115 0 15 = nI (td + 1) := by rw [haf _ _ (by omega)]; exact q113
    have hbase : ∀ i k, ¬ ((300 ≤ i ∧ i < 330 ∧ k = 5) ∨ (i = 0 ∧ k = 15) ∨ i = 7 ∨ i = 8 ∨ (i = 5 ∧ k = 3)) → f115 i k = fi i k := fun i k h => by rw [haf i k (by omega), ef112, zu_n (by omega)]
    have hk0 : ∃ k, k ≤ 16 ∧ f115 18 3 = nI k := by rw [hbase _ _ (by omega)]; exact hkx
    have hT0 := hT
    have hO0 := hO
    refine lv_iconst (v := nI 0) hx hb dX11_passDay_31 (by decide) ?_
    refine lv_istore_n (lv' := [(1, .int (nI 0)), (0, .ref (τ.1 0))]) hx hb dX11_passDay_32 rfl hl (by decide) rfl (fun ls hl => ?_)
    refine zLpC (σ := Nat × Nat × zTy × zFi × zFr) (fun x9 => (fun (i : Nat) (j : Nat) (T : zTy) (f : zFi) (g : zFr) => j) x9.1 x9.2.1 x9.2.2.1 x9.2.2.2.1 x9.2.2.2.2) (fun x9 => (fun (i : Nat) (j : Nat) (T : zTy) (f : zFi) (g : zFr) => 4 * j) x9.1 x9.2.1 x9.2.2.1 x9.2.2.2.1 x9.2.2.2.2) (fun x9 k9 H locs ls => (fun (i : Nat) (j : Nat) (T : zTy) (f : zFi) (g : zFr) => k9 = o - i ∧ (i ≤ o ∧ j ≤ i ∧ zSn T f g (sn + j) ∧ zFix T g ∧ zSy n τ f115 g116 T f g ∧ ∃ k, k ≤ 16 ∧ f 18 3 = nI k) ∧ zH D A T f g ol s H ∧ va_S A s.heap H locs ∧ lv_has ls 2 [(0, .ref (T.1 0)), (1, .int (nI i))]) x9.1 x9.2.1 x9.2.2.1 x9.2.2.2.1 x9.2.2.2.2) (0, 0, τ, f115, g116) (o - 0) (by simp) (by simp) (show o - 0 = o - 0 ∧ (0 ≤ o ∧ 0 ≤ 0 ∧ zSn τ f115 g116 (sn + 0) ∧ zFix τ g116 ∧ zSy n τ f115 g116 τ f115 g116 ∧ ∃ k, k ≤ 16 ∧ f115 18 3 = nI k) ∧ zH D A τ f115 g116 ol s _ ∧ va_S A s.heap _ _ ∧ lv_has _ 2 [(0, .ref (τ.1 0)), (1, .int (nI 0))] from ⟨rfl, ⟨Nat.zero_le _, Nat.le_refl _, hSn, hF2, zSy.rf, hk0⟩, hH, hS, lv_sub hl [1, 0] rfl⟩) (fun k9 ih x9 H locs ls hv9 => ?_)
    obtain ⟨i, j, T, f, g⟩ := x9
    have hv9 : k9 = o - i ∧ (i ≤ o ∧ j ≤ i ∧ zSn T f g (sn + j) ∧ zFix T g ∧ zSy n τ f115 g116 T f g ∧ ∃ k, k ≤ 16 ∧ f 18 3 = nI k) ∧ zH D A T f g ol s H ∧ va_S A s.heap H locs ∧ lv_has ls 2 [(0, .ref (T.1 0)), (1, .int (nI i))] := hv9
    obtain ⟨hkih117, hv9, hH, hS, hl⟩ := hv9
    show W _ _ _ _ _ _ _ _ _ _ _ _ j (4 * j) _ _
    obtain ⟨h1, hji, hsnj, hFg, hsy, hks0⟩ := hv9
    have ih117 := ih
    clear ih
    have hT := hT0.sy hsy
    have hO := hO0.sy hsy
    have q11 := hO.2.1
    have q15 : f 0 15 = nI (td + 1) := by rw [hsy.2.1 _ _ (by omega)]; exact p15
    refine lv_iload_n hx hb dX11_passDay_33 rfl (lv_at hl 1 rfl) ?_
    refine lv_aload_n hx hb dX11_passDay_34 rfl (lv_at hl 0 rfl) ?_
    refine zGetI (D := D) (ci := 11) (C := RX11) (T := TX11) (N := 16) hx hb hts hiX11 hown hH (zk_0 hFg) rfl 11 (by decide) rfl hw3 (fun _ h9 => h9) dX11_passDay_35 q11 ?_
    refine lv_icmp_ge (tgt := 52) hx hb dX11_passDay_38 (by decide) (fun c118 => ?_) (fun c118 => ?_)
    · have zc118 := c118
      replace zc118 := zc_le (nI_toInt (by omega)) (nI_toInt (by omega)) zc118
      refine zKnow (fun hrm9 hsz9 => ?_)
      refine W.widen (k := 60) (n := 240) (by omega) (by omega) ?_
      exact W.vret hx hb hr (fun t9 ht9 hW9 => ⟨⟨(T, f, g), rfl, (show (zCm f g n (zKp (fi 7) (nI (min (td + 1) 999)) c) ∧ ∀ b, b < c → ¬ fi 7 b = nI (min (td + 1) 999) → f 7 (zKp (fi 7) (nI (min (td + 1) 999)) b) = fi 7 b) ∧ zDy n τ fi fr T f g ∧ zFix T g ∧ (∃ k, k ≤ 16 ∧ f 18 3 = nI k) ∧ f 0 15 = nI (min (td + 1) 999) from ⟨⟨by rw [show min (td + 1) 999 = td + 1 by omega]; exact hC2.cg (Nat.le_refl _) (hsy.2.1 _ _ (by omega)) (fun k => hsy.2.2.1 _ _ (by omega)), fun b h h2 => by rw [show min (td + 1) 999 = td + 1 by omega] at h2 ⊢; rw [hsy.2.1 _ _ (by omega), ← e7]; exact (by rw [e7]; exact (hkp7 b h h2).1)⟩, zDy.of hbase hag hsy, hFg, hks0, by rw [show min (td + 1) 999 = td + 1 by omega]; exact q15⟩), ⟨zEnd1 hH ht9 hW9, j, hsnj, by rw [ht9]; exact zGrow.of hrm9 hsz9 (by omega) (by omega)⟩⟩, hS.F ht9⟩) hS.2.2 dX11_passDay_52
    · have zc118 := c118
      replace zc118 := zc_nle (nI_toInt (by omega)) (nI_toInt (by omega)) zc118
      refine lv_aload_n hx hb dX11_passDay_41 rfl (lv_at hl 0 rfl) ?_
      refine lv_iload_n hx hb dX11_passDay_42 rfl (lv_at hl 1 rfl) ?_
      refine zKnow (fun hrm0 hsz0 => ?_)
      refine va_callv (va_runV (As := [.int (nI i)]) (rest := []) ⟨hx, hb, hml, hown, hts⟩ (c_serve l hl0 D A sad T f g ol hFg n hT o hO i (by omega) (sn + j) hsnj H) (cwV 1 hts gX11_passDay_X11_serve rfl rfl rfl (by decide +kernel) ⟨Nat.le_of_ble_eq_true rfl, Nat.le_of_ble_eq_true rfl⟩) ⟨zQg_bl, zRecv hH (zk_0 hFg) rfl, zQg_at hz hS hA hH⟩ rfl rfl hl.1 rfl (lv_room (Nat.le_of_ble_eq_true rfl)) dX11_passDay_43 ⟨by show _ ≤ 60; omega, by show _ ≤ 240; omega⟩) hS (fun q _ h => h) (fun q h => h) (fun u9 t9 H1 locs ht9 hvm9 hw hB hz1 hk1 hS => ?_)
      obtain ⟨hB, jg, hgp, hgw⟩ := hB
      rw [ht9] at hgw
      have hgw := zGrow.tr (zGrow.of hrm0 hsz0 (Nat.le_refl _) (Nat.le_refl _)) hgw
      refine zNarrow hgw.rm ?_
      clear hgw hrm0 hsz0
      obtain ⟨τ120, f121, g122⟩ := u9
      have hH := zMv ht9 hvm9 hB
      clear hB
      simp only at hw hH hgp
      generalize H1 = H at hH hS ⊢
      obtain ⟨hsy2, hFs, hks⟩ := hw
      obtain ⟨hj1, hsn2⟩ := hgp
      have ha6 : ∀ i, ¬ (2000 ≤ i ∧ i < 2300) → τ120.1 i = T.1 i := fun i h => (hsy2.1 i h).1
      rw [show T.1 0 = τ120.1 0 from (ha6 0 (by omega)).symm] at hl
      refine lv_iinc (v := nI (i + 1)) (lv' := [(1, .int (nI (i + 1))), (0, .ref (τ120.1 0))]) hx hb dX11_passDay_46 hl (k := 1) rfl (by rw [show (Int32.ofInt 1 : Int32) = nI 1 from by decide, nI_add]) (by decide) rfl (fun ls hl => ?_)
      refine lv_goto (tgt := 33) hx hb dX11_passDay_49 (by decide) ?_
      refine W.widen (k := ((j + jg))) (n := (4 * (j + jg))) (by omega) (by omega) (ih117 (o - (i + 1)) (by omega) (i + 1, j + jg, τ120, f121, g122) _ _ _ (show o - (i + 1) = o - (i + 1) ∧ ((i + 1) ≤ o ∧ (j + jg) ≤ (i + 1) ∧ zSn τ120 f121 g122 (sn + (j + jg)) ∧ zFix τ120 g122 ∧ zSy n τ f115 g116 τ120 f121 g122 ∧ ∃ k, k ≤ 16 ∧ f121 18 3 = nI k) ∧ zH D A τ120 f121 g122 ol s _ ∧ va_S A s.heap _ _ ∧ lv_has _ 2 [(0, .ref (τ120.1 0)), (1, .int (nI (i + 1)))] from ⟨rfl, ⟨by omega, by omega, by rw [← Nat.add_assoc]; exact hsn2, hFs, hsy.tr hsy2, hks⟩, hH, hS, lv_sub hl [1, 0] rfl⟩))
set_option maxHeartbeats 4000000 in
set_option maxRecDepth 100000 in
/-- days -/
theorem c_days (l : Launch) (hl0 : l.stackTraces = false) (D : va_G) (A : Nat → Prop) (sad : Nat → Nat) (τ : zTy) (fi : zFi) (fr : zFr) (ol : Int64) (x : Int32) (td : Nat) (htd : fi 0 15 = nI td) (htd9 : td ≤ 999) (hF : zFix τ fr) (n : Nat) (hT : zTh τ fi fr n) (c : Nat) (hC : zCm fi fr n c) (o : Nat) (hO : zOr τ fi fr n o) (sn : Nat) (hSn : zSn τ fi fr sn) (hkx : ∃ k, k ≤ 16 ∧ fi 18 3 = nI k) : vx_Met l yX11_days wsX11_days ({ frames := 6, cells := 360, slots := 1440, locals := 137 }) (va_Pc [.ref (τ.1 0), .int x] (zQc D A sad τ fi fr ol)) (va_Qi (fun (r : Int32) (u : zTy × zFi × zFr) => ∃ b, b ≤ 100 ∧ x = nI b ∧ (∃ c2, zCm u.2.1 u.2.2 n c2) ∧ zDy n τ fi fr u.1 u.2.1 u.2.2 ∧ zFix u.1 u.2.2 ∧ (∃ k, k ≤ 16 ∧ u.2.1 18 3 = nI k) ∧ (∃ s2, zSn u.1 u.2.1 u.2.2 s2) ∧ r = nI (min (td + b) 999) ∧ u.2.1 0 15 = nI (min (td + b) 999) ∧ ∃ i8, min (td + i8) 999 = min (td + b) 999 ∧ ∀ Ld : List Int32, Ld.length = c → zLs fi 7 Ld → zLs u.2.1 7 (zIt Ld td i8) ∧ u.2.1 5 3 = nI (zIt Ld td i8).length) (fun (u : zTy × zFi × zFr) (t : State) => zH D A u.1 u.2.1 u.2.2 ol t t.heap) A) (vx_X (fun u : Unit => True) (fun (E : String) (u : Unit) (t : State) => (E = "java/lang/IllegalArgumentException" ∧ ¬ (0 ≤ x.toInt ∧ x.toInt ≤ 100)) ∧ zH D A τ fi fr ol t t.heap) A) 360 1440 A := by
  refine vx_ofW (cc := cX11_days) (maxL := 3) (ret := (some .int)) (by decide) rfl ?_
  intro p9 e9 s m args below meth c9 s₁ B hml ht0 hv
  obtain ⟨rfl, hz, hH, hA⟩ := hv
  have hx := B.exec
  have hb := B.bytes
  have hr := B.returns
  have hts := atoms_spec (ws := wsX11_days) B.pre
  have hown : s.vm.findClass RX11 = some m.cls := findClass_of_methodNamed B.named
  have hlocks := B.notSynchronized
  have hS : va_S A s.heap s.heap [] := va_S.rf
  have hl := lv_entry ([.ref (τ.1 0), .int x]) (n := 3) (Nat.le_of_ble_eq_true rfl)
  rw [lg_entry_eq]
  generalize (lg_sl ([.ref (τ.1 0), .int x]) ++ List.replicate (3 - (lg_sl ([.ref (τ.1 0), .int x])).length) Slot.unset).toArray = ls at hl ⊢
  have hl : lv_has ls 3 [(0, .ref (τ.1 0)), (1, .int x)] := hl
  have hn30 := hT.1
  have ho60 := hO.1
  have hs300 := hSn.1
  have hT0 := hT
  have hO0 := hO
  have hiX11 : ∀ w ∈ u_ws RX11 TX11 16, w ∈ wsX11_days := fun _ h => List.mem_cons_of_mem _ (List.mem_append_left _ (List.mem_append_left _ (List.mem_append_left _ (List.mem_append_left _ (List.mem_append_left _ (List.mem_append_left _ (List.mem_append_left _ (List.mem_append_left _ (List.mem_append_left _ (List.mem_append_right _ h))))))))))
  have hw1 := hts (.fieldLink RX11 136 "PostHouse" "today" "I") (by decide +kernel)
  have hw2 := hts (.classLink RX11 91 "java/lang/IllegalArgumentException") (by decide +kernel)
  have hw3 := hts (.initialized "java/lang/IllegalArgumentException") (by decide +kernel)
  refine lv_iload_n hx hb dX11_days_0 rfl (lv_at hl 1 rfl) ?_
  refine lv_iconst (v := nI 0) hx hb dX11_days_1 (by decide) ?_
  refine lv_bipush (v := nI 100) hx hb dX11_days_2 (by decide) ?_
  refine va_calli (va_runS (As := [.int x, .int (nI 0), .int (nI 100)]) (rest := []) ⟨hx, hb, hml, hown, hts⟩ (c_within l hl0 D A sad τ fi fr ol x (nI 0) (nI 100)) (cwS 3 hts gX11_days_X11_within rfl rfl rfl (by decide +kernel) ⟨Nat.le_of_ble_eq_true rfl, Nat.le_of_ble_eq_true rfl⟩) ⟨zQc_bl, zQc_at hz hS hA hH⟩ rfl rfl hl.1 rfl (lv_room (Nat.le_of_ble_eq_true rfl)) dX11_days_4 ⟨Nat.le_of_ble_eq_true rfl, Nat.le_of_ble_eq_true rfl⟩) hS (fun q _ h => h) (fun q h => h) (fun r101 u9 t9 H1 locs ht9 hvm9 hw hB hz1 hk1 hS => ?_)
  have hH := zMv ht9 hvm9 hB
  generalize H1 = H at hH hS ⊢
  rcases hw with ⟨rfl, hy102⟩ | ⟨rfl, hn103⟩
  · skip
    replace hy102 := zWi1 (rfl) (nI_toInt (by omega)) (nI_toInt (by omega)) hy102
    refine lv_if_ne (tgt := 20) hx hb dX11_days_7 (by decide) (fun c104 => ?_) (fun c104 => absurd c104 (by decide))
    obtain ⟨xn, hxn, rfl⟩ : ∃ xn : Nat, xn < 101 ∧ x = nI xn := zNatB (by omega) (by omega)
    refine lv_iconst (v := nI 0) hx hb dX11_days_20 (by decide) ?_
    refine lv_istore_n (lv' := [(2, .int (nI 0)), (0, .ref (τ.1 0)), (1, .int (nI xn))]) hx hb dX11_days_21 rfl hl (by decide) rfl (fun ls hl => ?_)
    refine zLpC (σ := Nat × Nat × Nat × zTy × zFi × zFr) (fun x9 => (fun (i : Nat) (j : Nat) (c2 : Nat) (T : zTy) (f : zFi) (g : zFr) => j) x9.1 x9.2.1 x9.2.2.1 x9.2.2.2.1 x9.2.2.2.2.1 x9.2.2.2.2.2) (fun x9 => (fun (i : Nat) (j : Nat) (c2 : Nat) (T : zTy) (f : zFi) (g : zFr) => 4 * j) x9.1 x9.2.1 x9.2.2.1 x9.2.2.2.1 x9.2.2.2.2.1 x9.2.2.2.2.2) (fun x9 k9 H locs ls => (fun (i : Nat) (j : Nat) (c2 : Nat) (T : zTy) (f : zFi) (g : zFr) => k9 = xn - i ∧ (i ≤ xn ∧ zSn T f g (sn + j) ∧ zCm f g n c2 ∧ zFix T g ∧ zDy n τ fi fr T f g ∧ (∃ k, k ≤ 16 ∧ f 18 3 = nI k) ∧ f 0 15 = nI (min (td + i) 999) ∧ ∀ Ld : List Int32, Ld.length = c → zLs fi 7 Ld → zLs f 7 (zIt Ld td i) ∧ (zIt Ld td i).length = c2) ∧ zH D A T f g ol s H ∧ va_S A s.heap H locs ∧ lv_has ls 3 [(0, .ref (T.1 0)), (1, .int (nI xn)), (2, .int (nI i))]) x9.1 x9.2.1 x9.2.2.1 x9.2.2.2.1 x9.2.2.2.2.1 x9.2.2.2.2.2) (0, 0, c, τ, fi, fr) (xn - 0) (by simp) (by simp) (show xn - 0 = xn - 0 ∧ (0 ≤ xn ∧ zSn τ fi fr (sn + 0) ∧ zCm fi fr n c ∧ zFix τ fr ∧ zDy n τ fi fr τ fi fr ∧ (∃ k, k ≤ 16 ∧ fi 18 3 = nI k) ∧ fi 0 15 = nI (min (td + 0) 999) ∧ ∀ Ld : List Int32, Ld.length = c → zLs fi 7 Ld → zLs fi 7 (zIt Ld td 0) ∧ (zIt Ld td 0).length = c) ∧ zH D A τ fi fr ol s _ ∧ va_S A s.heap _ _ ∧ lv_has _ 3 [(0, .ref (τ.1 0)), (1, .int (nI xn)), (2, .int (nI 0))] from ⟨rfl, ⟨Nat.zero_le _, hSn, hC, hF, zDy.rf, hkx, by rw [show min (td + 0) 999 = td by omega]; exact htd, fun Ld h1 h2 => ⟨h2, h1⟩⟩, hH, hS, lv_sub hl [1, 2, 0] rfl⟩) (fun k9 ih x9 H locs ls hv9 => ?_)
    obtain ⟨i, j, c2, T, f, g⟩ := x9
    have hv9 : k9 = xn - i ∧ (i ≤ xn ∧ zSn T f g (sn + j) ∧ zCm f g n c2 ∧ zFix T g ∧ zDy n τ fi fr T f g ∧ (∃ k, k ≤ 16 ∧ f 18 3 = nI k) ∧ f 0 15 = nI (min (td + i) 999) ∧ ∀ Ld : List Int32, Ld.length = c → zLs fi 7 Ld → zLs f 7 (zIt Ld td i) ∧ (zIt Ld td i).length = c2) ∧ zH D A T f g ol s H ∧ va_S A s.heap H locs ∧ lv_has ls 3 [(0, .ref (T.1 0)), (1, .int (nI xn)), (2, .int (nI i))] := hv9
    obtain ⟨hkih105, hv9, hH, hS, hl⟩ := hv9
    show W _ _ _ _ _ _ _ _ _ _ _ _ j (4 * j) _ _
    obtain ⟨h1, hsnj, hC2, hFg, hdy, hks, h15, hit⟩ := hv9
    have ih105 := ih
    clear ih
    have hT := hT0.dy hdy
    have hO := hO0.dy hdy
    have hs3 := hsnj.1
    refine lv_iload_n hx hb dX11_days_22 rfl (lv_at hl 2 rfl) ?_
    refine lv_iload_n hx hb dX11_days_23 rfl (lv_at hl 1 rfl) ?_
    refine lv_icmp_ge (tgt := 51) hx hb dX11_days_24 (by decide) (fun c106 => ?_) (fun c106 => ?_)
    · have zc106 := c106
      replace zc106 := zc_le (nI_toInt (by omega)) (nI_toInt (by omega)) zc106
      refine lv_aload_n hx hb dX11_days_51 rfl (lv_at hl 0 rfl) ?_
      refine zGetI (D := D) (ci := 11) (C := RX11) (T := TX11) (N := 16) hx hb hts hiX11 hown hH (zk_0 hFg) rfl 15 (by decide) rfl hw1 (fun _ h9 => h9) dX11_days_52 h15 ?_
      refine W.widen (k := 360) (n := 1440) (by omega) (by omega) ?_
      refine vx_ret ?_
      exact W.iret (v := nI (min (td + i) 999)) hx hb hr (fun t9 ht9 hW9 => ⟨⟨nI (min (td + i) 999), (T, f, g), rfl, (show ∃ b, b ≤ 100 ∧ (nI xn) = nI b ∧ (∃ c2, zCm f g n c2) ∧ zDy n τ fi fr T f g ∧ zFix T g ∧ (∃ k, k ≤ 16 ∧ f 18 3 = nI k) ∧ (∃ s2, zSn T f g s2) ∧ (nI (min (td + i) 999)) = nI (min (td + b) 999) ∧ f 0 15 = nI (min (td + b) 999) ∧ ∃ i8, min (td + i8) 999 = min (td + b) 999 ∧ ∀ Ld : List Int32, Ld.length = c → zLs fi 7 Ld → zLs f 7 (zIt Ld td i8) ∧ f 5 3 = nI (zIt Ld td i8).length from ⟨xn, by omega, rfl, ⟨c2, hC2⟩, hdy, hFg, hks, ⟨_, hsnj⟩, by rw [show min (td + xn) 999 = min (td + i) 999 by omega], by rw [show min (td + xn) 999 = min (td + i) 999 by omega]; exact h15, i, by omega, fun Ld p1 p2 => by obtain ⟨q1, q2⟩ := hit Ld p1 p2; exact ⟨q1, by rw [hC2.2.1, q2]⟩⟩), zEnd1 hH ht9 hW9⟩, hS.F ht9⟩) hS.2.2 dX11_days_55
    · have zc106 := c106
      replace zc106 := zc_nle (nI_toInt (by omega)) (nI_toInt (by omega)) zc106
      refine lv_iload_n hx hb dX11_days_27 rfl (lv_at hl 2 rfl) ?_
      refine lv_if_eq (tgt := 41) hx hb dX11_days_28 (by decide) (fun c107 => ?_) (fun c107 => ?_)
      · have zc107 := c107
        replace zc107 := zc_eq (nI_toInt (by omega)) ((by decide : (0 : Int32).toInt = 0)) zc107
        refine lv_aload_n hx hb dX11_days_41 rfl (lv_at hl 0 rfl) ?_
        refine zKnow (fun hrm0 hsz0 => ?_)
        refine va_callv (va_runV (As := []) (rest := []) ⟨hx, hb, hml, hown, hts⟩ (c_passDay l hl0 D A sad T f g ol (min (td + i) 999) h15 (by omega) hFg n hT c2 hC2 o hO (sn + j) hsnj hks H) (cwV 0 hts gX11_days_X11_passDay rfl rfl rfl (by decide +kernel) ⟨Nat.le_of_ble_eq_true rfl, Nat.le_of_ble_eq_true rfl⟩) ⟨zQg_bl, zRecv hH (zk_0 hFg) rfl, zQg_at hz hS hA hH⟩ rfl rfl hl.1 rfl (lv_room (Nat.le_of_ble_eq_true rfl)) dX11_days_42 ⟨by show _ ≤ 360; omega, by show _ ≤ 1440; omega⟩) hS (fun q _ h => h) (fun q h => h) (fun u9 t9 H1 locs ht9 hvm9 hw hB hz1 hk1 hS => ?_)
        obtain ⟨hB, jg, hgp, hgw⟩ := hB
        rw [ht9] at hgw
        have hgw := zGrow.tr (zGrow.of hrm0 hsz0 (Nat.le_refl _) (Nat.le_refl _)) hgw
        refine zNarrow hgw.rm ?_
        clear hgw hrm0 hsz0
        obtain ⟨τ109, f110, g111⟩ := u9
        have hH := zMv ht9 hvm9 hB
        clear hB
        simp only at hw hH hgp
        generalize H1 = H at hH hS ⊢
        obtain ⟨⟨hc3, hk7⟩, hdy2, hF3, hks2, h152⟩ := hw
        have em : min (min (td + i) 999 + 1) 999 = min (td + (i + 1)) 999 := by omega
        rw [em] at hc3 hk7
        have ha6 : ∀ i, ¬ (2000 ≤ i ∧ i < 2300) → τ109.1 i = T.1 i := fun i h => (hdy2.1 i h).1
        rw [show T.1 0 = τ109.1 0 from (ha6 0 (by omega)).symm] at hl
        refine lv_iinc (v := nI (i + 1)) (lv' := [(2, .int (nI (i + 1))), (0, .ref (τ109.1 0)), (1, .int (nI xn))]) hx hb dX11_days_45 hl (k := 2) rfl (by rw [show (Int32.ofInt 1 : Int32) = nI 1 from by decide, nI_add]) (by decide) rfl (fun ls hl => ?_)
        refine lv_goto (tgt := 22) hx hb dX11_days_48 (by decide) ?_
        refine W.widen (k := ((j + jg))) (n := (4 * (j + jg))) (by omega) (by omega) (ih105 (xn - (i + 1)) (by omega) (i + 1, j + jg, zKp (f 7) (nI (min (td + (i + 1)) 999)) c2, τ109, f110, g111) _ _ _ (show xn - (i + 1) = xn - (i + 1) ∧ ((i + 1) ≤ xn ∧ zSn τ109 f110 g111 (sn + (j + jg)) ∧ zCm f110 g111 n (zKp (f 7) (nI (min (td + (i + 1)) 999)) c2) ∧ zFix τ109 g111 ∧ zDy n τ fi fr τ109 f110 g111 ∧ (∃ k, k ≤ 16 ∧ f110 18 3 = nI k) ∧ f110 0 15 = nI (min (td + (i + 1)) 999) ∧ ∀ Ld : List Int32, Ld.length = c → zLs fi 7 Ld → zLs f110 7 (zIt Ld td (i + 1)) ∧ (zIt Ld td (i + 1)).length = (zKp (f 7) (nI (min (td + (i + 1)) 999)) c2)) ∧ zH D A τ109 f110 g111 ol s _ ∧ va_S A s.heap _ _ ∧ lv_has _ 3 [(0, .ref (τ109.1 0)), (1, .int (nI xn)), (2, .int (nI (i + 1)))] from ⟨rfl, ⟨by omega, by rw [← Nat.add_assoc]; exact hgp, hc3, hF3, hdy.tr hdy2, hks2, by rw [h152, em], fun Ld h1 h2 => by obtain ⟨q1, q2⟩ := hit Ld h1 h2; have q3 := zLs.arr (x := nI (min (td + (i + 1)) 999)) q1 (fun b p q => hk7 b (by rw [← q2]; exact p) q); rw [q2] at q3; exact q3⟩, hH, hS, lv_sub hl [1, 2, 0] rfl⟩))
      · have zc107 := c107
        replace zc107 := zc_neq (nI_toInt (by omega)) ((by decide : (0 : Int32).toInt = 0)) zc107
        refine lv_aload_n hx hb dX11_days_31 rfl (lv_at hl 0 rfl) ?_
        refine zGetI (D := D) (ci := 11) (C := RX11) (T := TX11) (N := 16) hx hb hts hiX11 hown hH (zk_0 hFg) rfl 15 (by decide) rfl hw1 (fun _ h9 => h9) dX11_days_32 h15 ?_
        refine lv_sipush (v := nI 999) hx hb dX11_days_35 (by decide) ?_
        refine lv_icmp_ge (tgt := 51) hx hb dX11_days_38 (by decide) (fun c112 => ?_) (fun c112 => ?_)
        · have zc112 := c112
          replace zc112 := zc_le (nI_toInt (by omega)) (nI_toInt (by omega)) zc112
          refine lv_aload_n hx hb dX11_days_51 rfl (lv_at hl 0 rfl) ?_
          refine zGetI (D := D) (ci := 11) (C := RX11) (T := TX11) (N := 16) hx hb hts hiX11 hown hH (zk_0 hFg) rfl 15 (by decide) rfl hw1 (fun _ h9 => h9) dX11_days_52 h15 ?_
          refine W.widen (k := 360) (n := 1440) (by omega) (by omega) ?_
          refine vx_ret ?_
          exact W.iret (v := nI (min (td + i) 999)) hx hb hr (fun t9 ht9 hW9 => ⟨⟨nI (min (td + i) 999), (T, f, g), rfl, (show ∃ b, b ≤ 100 ∧ (nI xn) = nI b ∧ (∃ c2, zCm f g n c2) ∧ zDy n τ fi fr T f g ∧ zFix T g ∧ (∃ k, k ≤ 16 ∧ f 18 3 = nI k) ∧ (∃ s2, zSn T f g s2) ∧ (nI (min (td + i) 999)) = nI (min (td + b) 999) ∧ f 0 15 = nI (min (td + b) 999) ∧ ∃ i8, min (td + i8) 999 = min (td + b) 999 ∧ ∀ Ld : List Int32, Ld.length = c → zLs fi 7 Ld → zLs f 7 (zIt Ld td i8) ∧ f 5 3 = nI (zIt Ld td i8).length from ⟨xn, by omega, rfl, ⟨c2, hC2⟩, hdy, hFg, hks, ⟨_, hsnj⟩, by rw [show min (td + xn) 999 = min (td + i) 999 by omega], by rw [show min (td + xn) 999 = min (td + i) 999 by omega]; exact h15, i, by omega, fun Ld p1 p2 => by obtain ⟨q1, q2⟩ := hit Ld p1 p2; exact ⟨q1, by rw [hC2.2.1, q2]⟩⟩), zEnd1 hH ht9 hW9⟩, hS.F ht9⟩) hS.2.2 dX11_days_55
        · have zc112 := c112
          replace zc112 := zc_nle (nI_toInt (by omega)) (nI_toInt (by omega)) zc112
          refine lv_aload_n hx hb dX11_days_41 rfl (lv_at hl 0 rfl) ?_
          refine zKnow (fun hrm0 hsz0 => ?_)
          refine va_callv (va_runV (As := []) (rest := []) ⟨hx, hb, hml, hown, hts⟩ (c_passDay l hl0 D A sad T f g ol (min (td + i) 999) h15 (by omega) hFg n hT c2 hC2 o hO (sn + j) hsnj hks H) (cwV 0 hts gX11_days_X11_passDay rfl rfl rfl (by decide +kernel) ⟨Nat.le_of_ble_eq_true rfl, Nat.le_of_ble_eq_true rfl⟩) ⟨zQg_bl, zRecv hH (zk_0 hFg) rfl, zQg_at hz hS hA hH⟩ rfl rfl hl.1 rfl (lv_room (Nat.le_of_ble_eq_true rfl)) dX11_days_42 ⟨by show _ ≤ 360; omega, by show _ ≤ 1440; omega⟩) hS (fun q _ h => h) (fun q h => h) (fun u9 t9 H1 locs ht9 hvm9 hw hB hz1 hk1 hS => ?_)
          obtain ⟨hB, jg, hgp, hgw⟩ := hB
          rw [ht9] at hgw
          have hgw := zGrow.tr (zGrow.of hrm0 hsz0 (Nat.le_refl _) (Nat.le_refl _)) hgw
          refine zNarrow hgw.rm ?_
          clear hgw hrm0 hsz0
          obtain ⟨τ114, f115, g116⟩ := u9
          have hH := zMv ht9 hvm9 hB
          clear hB
          simp only at hw hH hgp
          generalize H1 = H at hH hS ⊢
          obtain ⟨⟨hc3, hk7⟩, hdy2, hF3, hks2, h152⟩ := hw
          have em : min (min (td + i) 999 + 1) 999 = min (td + (i + 1)) 999 := by omega
          rw [em] at hc3 hk7
          have ha6 : ∀ i, ¬ (2000 ≤ i ∧ i < 2300) → τ114.1 i = T.1 i := fun i h => (hdy2.1 i h).1
          rw [show T.1 0 = τ114.1 0 from (ha6 0 (by omega)).symm] at hl
          refine lv_iinc (v := nI (i + 1)) (lv' := [(2, .int (nI (i + 1))), (0, .ref (τ114.1 0)), (1, .int (nI xn))]) hx hb dX11_days_45 hl (k := 2) rfl (by rw [show (Int32.ofInt 1 : Int32) = nI 1 from by decide, nI_add]) (by decide) rfl (fun ls hl => ?_)
          refine lv_goto (tgt := 22) hx hb dX11_days_48 (by decide) ?_
          refine W.widen (k := ((j + jg))) (n := (4 * (j + jg))) (by omega) (by omega) (ih105 (xn - (i + 1)) (by omega) (i + 1, j + jg, zKp (f 7) (nI (min (td + (i + 1)) 999)) c2, τ114, f115, g116) _ _ _ (show xn - (i + 1) = xn - (i + 1) ∧ ((i + 1) ≤ xn ∧ zSn τ114 f115 g116 (sn + (j + jg)) ∧ zCm f115 g116 n (zKp (f 7) (nI (min (td + (i + 1)) 999)) c2) ∧ zFix τ114 g116 ∧ zDy n τ fi fr τ114 f115 g116 ∧ (∃ k, k ≤ 16 ∧ f115 18 3 = nI k) ∧ f115 0 15 = nI (min (td + (i + 1)) 999) ∧ ∀ Ld : List Int32, Ld.length = c → zLs fi 7 Ld → zLs f115 7 (zIt Ld td (i + 1)) ∧ (zIt Ld td (i + 1)).length = (zKp (f 7) (nI (min (td + (i + 1)) 999)) c2)) ∧ zH D A τ114 f115 g116 ol s _ ∧ va_S A s.heap _ _ ∧ lv_has _ 3 [(0, .ref (τ114.1 0)), (1, .int (nI xn)), (2, .int (nI (i + 1)))] from ⟨rfl, ⟨by omega, by rw [← Nat.add_assoc]; exact hgp, hc3, hF3, hdy.tr hdy2, hks2, by rw [h152, em], fun Ld h1 h2 => by obtain ⟨q1, q2⟩ := hit Ld h1 h2; have q3 := zLs.arr (x := nI (min (td + (i + 1)) 999)) q1 (fun b p q => hk7 b (by rw [← q2]; exact p) q); rw [q2] at q3; exact q3⟩, hH, hS, lv_sub hl [1, 2, 0] rfl⟩))
  · skip
    replace hn103 := zWi0 (rfl) (nI_toInt (by omega)) (nI_toInt (by omega)) hn103
    refine lv_if_ne (tgt := 20) hx hb dX11_days_7 (by decide) (fun c117 => absurd (by decide) c117) (fun c117 => ?_)
    obtain ⟨a118, ha118⟩ := hz.1.2.2.2.2.1 _ (List.mem_of_getElem? (i := 13) rfl)
    have hat : ∀ w ∈ vx_atS RX11 95 "java/lang/IllegalArgumentException" ["java/lang/RuntimeException", "java/lang/Exception"], w.before _ s = true := vx_hat (fun w h => hts w (List.mem_cons_of_mem _ (List.mem_append_right _ h))) (B := [.castable "java/lang/IllegalArgumentException" "java/lang/IllegalArgumentException", .declares (Bundle.initS "java/lang/RuntimeException"), .declares (Bundle.initS "java/lang/Exception"), .declares (Bundle.initS Bundle.tN)]) (by decide +kernel) (vx_c (va_Nw.use rfl (hz.1.2.2.2.2.2.2.2.1 _ (List.mem_of_getElem? (i := 1) rfl))) (vx_c (va_Nw.use rfl (hz.1.2.2.2.2.2.2.2.2 _ (List.mem_of_getElem? (i := 0) rfl))) (vx_c (va_Nw.use rfl (hz.1.2.2.2.2.2.2.2.2 _ (List.mem_of_getElem? (i := 1) rfl))) (vx_c (va_Nw.use rfl (hz.1.2.2.2.2.2.2.2.2 _ (List.mem_of_getElem? (i := 2) rfl))) vx_n))))
    exact vx_throwS hx hb hl0 (own := RX11) (cls := "java/lang/IllegalArgumentException") (text := "so many days can not pass") (names := ["java/lang/RuntimeException", "java/lang/Exception"]) hown (by decide +kernel) (by decide +kernel) hw2 hw3 ha118 hat (by decide +kernel) hz.1.1 hz.1.2.1 hS (by rw [hml]; exact hl.1) dX11_days_10 dX11_days_13 dX11_days_14 dX11_days_16 dX11_days_19 (fun x h9 => (ht0 x h9).elim) (Nat.le_of_ble_eq_true rfl) (Nat.le_of_ble_eq_true rfl) (Nat.le_of_ble_eq_true rfl) (Nat.le_of_ble_eq_true rfl) hlocks (fun t9 hvm9 h91 h92 => ⟨(), trivial, ⟨⟨rfl, by have h9 := hn103; omega⟩, zThr hH hvm9 h92⟩, zF2 hS h91 h92⟩) hS.2.2 (by decide) (by decide)
