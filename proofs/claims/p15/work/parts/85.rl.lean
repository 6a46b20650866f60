/-! ===== WHAT CLASS AND REFERENCE HAVE IN COMMON ===== -/
theorem zNi {a b : Nat} (ha : a < 2147483648) (hb : b < 2147483648) (h : nI a = nI b) : a = b := by
  have h9 := congrArg Int32.toInt h
  rw [nI_toInt ha, nI_toInt hb] at h9
  omega
def zPr (fi : zFi) (t : Nat) : Prop := ∃ k, k ≤ 4 ∧ fi (300 + t) 6 = nI k ∧ fi 36 t = nI k ∧ ∀ j, j < k → fi (340 + t) j = fi 37 (4 * t + j) ∧ fi (380 + t) j = fi 38 (4 * t + j) ∧ fi (420 + t) j = fi 39 (4 * t + j)
def zRl (fi : zFi) (fr : zFr) : Prop := (∃ n, n ≤ 30 ∧ fi 3 1 = nI n ∧ fi 30 2 = nI n ∧ (∀ t, t < n → fi (300 + t) 1 = fi 31 t ∧ zPr fi t) ∧ ∃ p, p ≤ 10 ∧ fi 22 1 = nI p ∧ fi 30 68 = nI p ∧ ∀ j, j < p → ∃ t, t < n ∧ fr 23 j = some (300 + t) ∧ fi 71 j = nI t) ∧ fi 0 15 = fi 30 1
def zRc (i k : Nat) : Prop := (i = 3 ∧ k = 1) ∨ (300 ≤ i ∧ i < 330 ∧ (k = 1 ∨ k = 6)) ∨ (340 ≤ i ∧ i < 450) ∨ (i = 22 ∧ k = 1) ∨ (i = 30 ∧ (k = 2 ∨ k = 68)) ∨ i = 31 ∨ (36 ≤ i ∧ i ≤ 39) ∨ i = 71
/-- what a call of the law's helper told, and what the reference told -/
def zEqv (k b : Int32) (ol : Int64) (f : zFi) : Prop := k.toInt = (f 30 0).toInt ∧ (k.toInt = 0 → ol = b.toInt64)
section RL
variable {τ τ' : zTy} {fi f1 f2 : zFi} {fr r1 : zFr}
theorem zPr.cg {t : Nat} (h : zPr fi t) (ht : t < 30) (hi : ∀ i k, zRc i k → f1 i k = fi i k) : zPr f1 t := by
  obtain ⟨k, a1, a2, a3, a4⟩ := h
  refine ⟨k, a1, by rw [hi _ _ (by unfold zRc; omega)]; exact a2, by rw [hi _ _ (by unfold zRc; omega)]; exact a3, fun j hj => ?_⟩
  rw [hi (340 + t) j (by unfold zRc; omega), hi (380 + t) j (by unfold zRc; omega), hi (420 + t) j (by unfold zRc; omega), hi 37 _ (by unfold zRc; omega), hi 38 _ (by unfold zRc; omega), hi 39 _ (by unfold zRc; omega)]
  exact a4 j hj
theorem zRl.cg (h : zRl fi fr) (hi : ∀ i k, zRc i k → f1 i k = fi i k) (hd : f1 0 15 = f1 30 1) (hr : ∀ k, r1 23 k = fr 23 k) : zRl f1 r1 := by
  obtain ⟨⟨n, a1, a2, a3, a4, p, a5, a6, a7, a8⟩, -⟩ := h
  refine ⟨⟨n, a1, by rw [hi _ _ (by unfold zRc; omega)]; exact a2, by rw [hi _ _ (by unfold zRc; omega)]; exact a3, fun t ht => ⟨?_, (a4 t ht).2.cg (by omega) hi⟩, p, a5, by rw [hi _ _ (by unfold zRc; omega)]; exact a6, by rw [hi _ _ (by unfold zRc; omega)]; exact a7, fun j hj => ?_⟩, hd⟩
  · rw [hi (300 + t) 1 (by unfold zRc; omega), hi 31 t (by unfold zRc; omega)]; exact (a4 t ht).1
  · obtain ⟨t, b1, b2, b3⟩ := a8 j hj
    exact ⟨t, b1, by rw [hr]; exact b2, by rw [hi _ _ (by unfold zRc; omega)]; exact b3⟩
/-- the class's own steps leave it -/
theorem cr_feed {L : Nat} {r : Int32} {R : Prop} (hw : (L + 20 ≤ 400 ∧ r = nI (L + 20) ∧ f1 1 1 = nI (L + 20) ∧ (∀ i, i ≠ 1 → i ≠ 2 → f1 i = fi i) ∧ R) ∨ (400 < L + 20 ∧ r = -1 ∧ f1 = fi)) : (∀ i k, zRc i k → f1 i k = fi i k) ∧ f1 0 15 = fi 0 15 ∧ f1 30 1 = fi 30 1 := by
  rcases hw with ⟨-, -, -, a4, -⟩ | ⟨-, -, rfl⟩
  · exact ⟨fun i k q => by unfold zRc at q; rw [a4 i (by omega) (by omega)], by rw [a4 0 (by omega) (by omega)], by rw [a4 30 (by omega) (by omega)]⟩
  · exact ⟨fun _ _ _ => rfl, rfl, rfl⟩
theorem cr_end {L : Nat} {r x : Int32} (hw : (r = 1 ∧ 0 ≤ x.toInt ∧ x.toInt ≤ L ∧ f1 = zu fi 1 1 x) ∨ (r = 0 ∧ ¬ (0 ≤ x.toInt ∧ x.toInt ≤ L) ∧ f1 = fi)) : (∀ i k, zRc i k → f1 i k = fi i k) ∧ f1 0 15 = fi 0 15 ∧ f1 30 1 = fi 30 1 := by
  rcases hw with ⟨-, -, -, e⟩ | ⟨-, -, rfl⟩
  · exact ⟨fun i k q => by unfold zRc at q; rw [e, zu_n (by omega)], by rw [e, zu_n (by omega)], by rw [e, zu_n (by omega)]⟩
  · exact ⟨fun _ _ _ => rfl, rfl, rfl⟩
theorem cr_coming {n c : Nat} {r x y z : Int32} {P1 : Int32 → Prop} {P2 P3 P4 P5 : Prop} (hw : (∃ rv : Int32, r = nI 0 ∧ P1 rv ∧ (∃ b, b < n ∧ x = nI b ∧ P2 ∧ c < 60 ∧ rv = nI (c + 1) ∧ f1 = zu (zu (zu fi 7 c y) 8 c z) 5 3 (nI (c + 1)) ∧ r1 = zur fr 6 c (some (300 + b)))) ∨ (r = nI 1 ∧ f1 = fi ∧ r1 = fr ∧ P3) ∨ (r = nI 2 ∧ f1 = fi ∧ r1 = fr ∧ P4) ∨ (r = nI 3 ∧ f1 = fi ∧ r1 = fr ∧ P5)) : ((∀ i k, zRc i k → f1 i k = fi i k) ∧ f1 0 15 = fi 0 15 ∧ f1 30 1 = fi 30 1) ∧ ∀ k, r1 23 k = fr 23 k := by
  rcases hw with ⟨rv, -, -, b, -, -, -, -, -, e, e2⟩ | ⟨-, rfl, rfl, -⟩ | ⟨-, rfl, rfl, -⟩ | ⟨-, rfl, rfl, -⟩
  · exact ⟨⟨fun i k q => by unfold zRc at q; rw [e, zu_n (by omega), zu_n (by omega), zu_n (by omega)], by rw [e, zu_n (by omega), zu_n (by omega), zu_n (by omega)], by rw [e, zu_n (by omega), zu_n (by omega), zu_n (by omega)]⟩, fun k => by rw [e2, zur_n (by omega)]⟩
  all_goals exact ⟨⟨fun _ _ _ => rfl, rfl, rfl⟩, fun _ => rfl⟩
theorem cr_rules {r : Int32} {P1 : Int32 → Prop} {P3 P4 : Prop} (hw : (∃ rv : Int32, r = nI 0 ∧ P1 rv ∧ (f1 1 1 = nI 0 ∧ ∀ i k, ¬ (i = 1 ∨ i = 10 ∨ i = 11 ∨ i = 13 ∨ i = 14 ∨ (i = 0 ∧ k = 14)) → f1 i k = fi i k)) ∨ (r = nI 1 ∧ P3 ∧ (P4 ∧ f1 1 1 = nI 0 ∧ ∀ i k, ¬ (i = 1 ∨ i = 10 ∨ i = 11 ∨ i = 13 ∨ i = 14 ∨ (i = 0 ∧ k = 14)) → f1 i k = fi i k))) : (∀ i k, zRc i k → f1 i k = fi i k) ∧ f1 0 15 = fi 0 15 ∧ f1 30 1 = fi 30 1 := by
  obtain ⟨-, F⟩ : f1 1 1 = nI 0 ∧ ∀ i k, ¬ (i = 1 ∨ i = 10 ∨ i = 11 ∨ i = 13 ∨ i = 14 ∨ (i = 0 ∧ k = 14)) → f1 i k = fi i k := by
    rcases hw with ⟨rv, -, -, q⟩ | ⟨-, -, -, q⟩ <;> exact q
  exact ⟨fun i k q => F i k (by unfold zRc at q; omega), F _ _ (by omega), F _ _ (by omega)⟩
theorem cr_letter {n o d : Nat} {r : Int32} {P1 : Int32 → Prop} {P3 P4 P5 P6 : Prop} (ho : o ≤ 60) (hd : d ≤ 512) (hw : (∃ rv : Int32, r = nI 0 ∧ P1 rv ∧ ((o < 60 ∧ rv = nI o ∧ zLo τ fi fr n o d τ' f1 r1) ∨ (d < 512 ∧ zLd τ fi fr d τ' f1 r1))) ∨ (r = nI 1 ∧ P3 ∧ (P4 ∧ zLg τ fi fr d τ' f1 r1)) ∨ (r = nI 2 ∧ P5 ∧ (P6 ∧ zLg τ fi fr d τ' f1 r1))) : ((∀ i k, zRc i k → f1 i k = fi i k) ∧ f1 0 15 = fi 0 15 ∧ f1 30 1 = fi 30 1) ∧ ∀ k, r1 23 k = fr 23 k := by
  have hG : zLg τ fi fr d τ' f1 r1 → ((∀ i k, zRc i k → f1 i k = fi i k) ∧ f1 0 15 = fi 0 15 ∧ f1 30 1 = fi 30 1) ∧ ∀ k, r1 23 k = fr 23 k := fun e => by
    obtain ⟨-, -, -, -, a5, a6⟩ := e
    exact ⟨⟨fun i k q => a5 i k (by unfold zRc at q; omega), a5 _ _ (by omega), a5 _ _ (by omega)⟩, fun k => a6 _ _ (by omega)⟩
  rcases hw with ⟨rv, -, -, ⟨-, -, e⟩ | ⟨-, e⟩⟩ | ⟨-, -, -, e⟩ | ⟨-, -, -, e⟩
  · obtain ⟨-, -, -, -, -, a5, a6, -⟩ := e
    exact ⟨⟨fun i k q => a5 i k (by unfold zRc at q; omega), a5 _ _ (by omega), a5 _ _ (by omega)⟩, fun k => a6 _ _ (by omega)⟩
  · obtain ⟨-, -, -, -, a5, a6⟩ := e
    exact ⟨⟨fun i k q => a5 i k (by unfold zRc at q; omega), a5 _ _ (by omega), a5 _ _ (by omega)⟩, fun k => a6 _ _ (by omega)⟩
  · exact hG e
  · exact hG e
theorem cr_settle {n o d : Nat} {r x : Int32} {P1 : Int32 → Prop} {P3 P4 P5 : Prop} (ho : o ≤ 60) (hw : (∃ rv : Int32, r = nI 0 ∧ P1 rv ∧ ((τ' = τ ∧ r1 = fr ∧ ((∃ b, b < d ∧ x = nI b ∧ f1 = zu fi (3000 + b) 9 (nI 0)) ∨ f1 = fi)) ∨ (∃ b, b < d ∧ x = nI b ∧ rv = nI o ∧ zNO τ (zu fi (3000 + b) 9 (nI 0)) fr n o τ' f1 r1))) ∨ (r = nI 1 ∧ τ' = τ ∧ f1 = fi ∧ r1 = fr ∧ P3) ∨ (r = nI 2 ∧ τ' = τ ∧ f1 = fi ∧ r1 = fr ∧ P4) ∨ (r = nI 3 ∧ τ' = τ ∧ f1 = fi ∧ r1 = fr ∧ P5)) : ((∀ i k, zRc i k → f1 i k = fi i k) ∧ f1 0 15 = fi 0 15 ∧ f1 30 1 = fi 30 1) ∧ ∀ k, r1 23 k = fr 23 k := by
  rcases hw with ⟨rv, -, -, ⟨-, rfl, ⟨b, -, -, e⟩ | rfl⟩ | ⟨b, -, -, -, e⟩⟩ | ⟨-, -, rfl, rfl, -⟩ | ⟨-, -, rfl, rfl, -⟩ | ⟨-, -, rfl, rfl, -⟩
  · exact ⟨⟨fun i k q => by unfold zRc at q; rw [e, zu_n (by omega)], by rw [e, zu_n (by omega)], by rw [e, zu_n (by omega)]⟩, fun _ => rfl⟩
  · exact ⟨⟨fun _ _ _ => rfl, rfl, rfl⟩, fun _ => rfl⟩
  · obtain ⟨-, -, -, a4, a5, -, -⟩ := e
    exact ⟨⟨fun i k q => by unfold zRc at q; rw [a4 i k (by omega), zu_n (by omega)], by rw [a4 _ _ (by omega), zu_n (by omega)], by rw [a4 _ _ (by omega), zu_n (by omega)]⟩, fun k => a5 _ _ (by omega)⟩
  all_goals exact ⟨⟨fun _ _ _ => rfl, rfl, rfl⟩, fun _ => rfl⟩
theorem cr_back {r : Int32} {P3 P4 : Prop} (hw : (∃ rv : Int32, r = nI 0 ∧ (∀ i k, ¬ ((1000 ≤ i ∧ i < 1480 ∧ 3 ≤ k) ∨ (300 ≤ i ∧ i < 330 ∧ k = 5) ∨ (500 ≤ i ∧ i < 560 ∧ k = 4)) → f1 i k = fi i k)) ∨ (r = nI 1 ∧ f1 = fi ∧ P3) ∨ (r = nI 2 ∧ f1 = fi ∧ P4)) : (∀ i k, zRc i k → f1 i k = fi i k) ∧ f1 0 15 = fi 0 15 ∧ f1 30 1 = fi 30 1 := by
  rcases hw with ⟨rv, -, F⟩ | ⟨-, rfl, -⟩ | ⟨-, rfl, -⟩
  · exact ⟨fun i k q => F i k (by unfold zRc at q; omega), F _ _ (by omega), F _ _ (by omega)⟩
  all_goals exact ⟨fun _ _ _ => rfl, rfl, rfl⟩
theorem zRl.k1 (h : zRl fi fr) (hw : ((∀ i k, zRc i k → f1 i k = fi i k) ∧ f1 0 15 = fi 0 15 ∧ f1 30 1 = fi 30 1) ∧ ∀ k, r1 23 k = fr 23 k) : zRl f1 r1 := h.cg hw.1.1 (by rw [hw.1.2.1, hw.1.2.2]; exact h.2) hw.2
theorem zRl.k0 (h : zRl fi fr) (hw : (∀ i k, zRc i k → f1 i k = fi i k) ∧ f1 0 15 = fi 0 15 ∧ f1 30 1 = fi 30 1) : zRl f1 fr := h.k1 ⟨hw, fun _ => rfl⟩
/-- today -/
theorem rl_days {n : Nat} {td tM : Nat} {k b x : Int32} {ol' : Int64} {P3 : Prop} {P9 : Nat → Prop} (h : zRl fi fr) (htd : fi 0 15 = nI td) (ht9 : td ≤ 999) (htM : f1 30 1 = nI tM) (ht9M : tM ≤ 999)
    (hc : (∃ rv : Int32, k = nI 0 ∧ ol' = rv.toInt64 ∧ (∃ b, b ≤ 100 ∧ x = nI b ∧ (∃ c2, zCm f1 r1 n c2) ∧ zDy n τ fi fr τ' f1 r1 ∧ zFix τ' r1 ∧ (∃ k, k ≤ 16 ∧ f1 18 3 = nI k) ∧ (∃ s2, zSn τ' f1 r1 s2) ∧ rv = nI (min (td + b) 999) ∧ f1 0 15 = nI (min (td + b) 999) ∧ P9 b)) ∨ (k = nI 1 ∧ τ' = τ ∧ f1 = fi ∧ r1 = fr ∧ P3)) (h3 : P3 → ¬ (0 ≤ x.toInt ∧ x.toInt ≤ 100))
    (hm : ∃ t2, f2 30 1 = nI t2 ∧ (((0 ≤ x.toInt ∧ x.toInt ≤ 100) ∧ t2 = min (tM + x.toInt.toNat) 999 ∧ b = nI t2 ∧ f2 30 0 = nI 0) ∨ (¬ (0 ≤ x.toInt ∧ x.toInt ≤ 100) ∧ t2 = tM ∧ b = nI 0 ∧ f2 30 0 = nI 1)) ∧ ∀ a b, zRc a b ∨ (a = 0 ∧ b = 15) → f2 a b = f1 a b) : zRl f2 r1 ∧ zEqv k b ol' f2 := by
  obtain ⟨t2, m1, m2, F⟩ := hm
  rcases hc with ⟨rv, e1, e2, bb, b1, b2, -, w, -, -, -, e3, e4, -⟩ | ⟨e1, -, rfl, rfl, p3⟩
  · obtain ⟨-, a2, a3, -⟩ := w
    have hx : x.toInt = (bb : Int) := by rw [b2, nI_toInt (by omega)]
    have eT : td = tM := by
      have h9 : nI td = nI tM := by rw [← htd, h.2, ← a2 30 1 (by omega)]; exact htM
      exact zNi (by omega) (by omega) h9
    rcases m2 with ⟨q1, q2, q3, q4⟩ | ⟨q1, -⟩
    · have e5 : t2 = min (td + bb) 999 := by rw [q2, hx, eT]; rfl
      refine ⟨h.cg (fun i k q => by rw [F i k (Or.inl q)]; exact a2 i k (by unfold zRc at q; omega)) ?_ (fun k => a3 _ _ (by omega)), by rw [e1, q4], fun _ => by rw [e2, e3, q3, e5]⟩
      rw [F 0 15 (Or.inr ⟨rfl, rfl⟩), e4, m1, e5]
    · exact absurd ⟨by omega, by omega⟩ q1
  · rcases m2 with ⟨q1, -⟩ | ⟨q1, q2, q3, q4⟩
    · exact absurd q1 (h3 p3)
    · refine ⟨h.cg (fun i k q => F i k (Or.inl q)) (by rw [F 0 15 (Or.inr ⟨rfl, rfl⟩), h.2, htM, m1, q2]) (fun _ => rfl), by rw [e1, q4], fun h9 => ?_⟩
      rw [e1] at h9
      exact absurd h9 (by decide)
theorem zEqv.no {k b : Int32} {ol : Int64} {f f' : zFi} {v : Nat} (hv : v = 1 ∨ v = 2 ∨ v = 3) (hk : k = nI v) (e : f = zu f' 30 0 (nI v)) : zEqv k b ol f := by
  refine ⟨by rw [hk, e, zu_s], fun h9 => ?_⟩
  rw [hk, nI_toInt (by omega)] at h9
  omega
theorem rl_thing {n nM : Nat} {k b x1 x2 x3 x4 : Int32} {ol' : Int64} {P3 P4 : Prop} (h : zRl fi fr) (hn : fi 3 1 = nI n) (hn3 : n ≤ 30) (hnM : f1 30 2 = nI nM) (hnM3 : nM ≤ 30)
    (hc : (∃ rv : Int32, k = nI 0 ∧ ol' = rv.toInt64 ∧ (n < 30 ∧ (0 ≤ x1.toInt ∧ x1.toInt ≤ 9999 ∧ 1 ≤ x2.toInt ∧ x2.toInt ≤ 2000 ∧ 0 ≤ x3.toInt ∧ x3.toInt ≤ 7 ∧ 1 ≤ x4.toInt ∧ x4.toInt ≤ 20 ∧ ∀ j, j < n → ¬ fi (300 + j) 1 = x1) ∧ rv = nI n ∧ zAdd τ fi fr n x1 x2 x3 x4 τ' f1 r1)) ∨ (k = nI 1 ∧ τ' = τ ∧ f1 = fi ∧ r1 = fr ∧ P3) ∨ (k = nI 2 ∧ τ' = τ ∧ f1 = fi ∧ r1 = fr ∧ P4)) (h3 : P3 → ¬ (0 ≤ x1.toInt ∧ x1.toInt ≤ 9999 ∧ 1 ≤ x2.toInt ∧ x2.toInt ≤ 2000 ∧ 0 ≤ x3.toInt ∧ x3.toInt ≤ 7 ∧ 1 ≤ x4.toInt ∧ x4.toInt ≤ 20 ∧ ∀ j, j < n → ¬ fi (300 + j) 1 = x1)) (h4 : P4 → (0 ≤ x1.toInt ∧ x1.toInt ≤ 9999 ∧ 1 ≤ x2.toInt ∧ x2.toInt ≤ 2000 ∧ 0 ≤ x3.toInt ∧ x3.toInt ≤ 7 ∧ 1 ≤ x4.toInt ∧ x4.toInt ≤ 20 ∧ ∀ j, j < n → ¬ fi (300 + j) 1 = x1) ∧ n = 30)
    (hm : ((0 ≤ x1.toInt ∧ x1.toInt ≤ 9999 ∧ 1 ≤ x2.toInt ∧ x2.toInt ≤ 2000 ∧ 0 ≤ x3.toInt ∧ x3.toInt ≤ 7 ∧ 1 ≤ x4.toInt ∧ x4.toInt ≤ 20 ∧ ∀ j, j < nM → ¬ f1 31 j = x1) ∧ nM < 30 ∧ b = nI nM ∧ f2 = zu (zu (zu (zu (zu (zu (zu (zu f1 30 0 (nI 0)) 31 nM x1) 32 nM x2) 33 nM x3) 34 nM x4) 35 nM (nI 0)) 36 nM (nI 0)) 30 2 (nI (nM + 1))) ∨ (¬ (0 ≤ x1.toInt ∧ x1.toInt ≤ 9999 ∧ 1 ≤ x2.toInt ∧ x2.toInt ≤ 2000 ∧ 0 ≤ x3.toInt ∧ x3.toInt ≤ 7 ∧ 1 ≤ x4.toInt ∧ x4.toInt ≤ 20 ∧ ∀ j, j < nM → ¬ f1 31 j = x1) ∧ b = nI 0 ∧ f2 = zu f1 30 0 (nI 1)) ∨ ((0 ≤ x1.toInt ∧ x1.toInt ≤ 9999 ∧ 1 ≤ x2.toInt ∧ x2.toInt ≤ 2000 ∧ 0 ≤ x3.toInt ∧ x3.toInt ≤ 7 ∧ 1 ≤ x4.toInt ∧ x4.toInt ≤ 20 ∧ ∀ j, j < nM → ¬ f1 31 j = x1) ∧ nM = 30 ∧ b = nI 0 ∧ f2 = zu f1 30 0 (nI 2))) : zRl f2 r1 ∧ zEqv k b ol' f2 := by
  have h0 := h
  obtain ⟨⟨n', a1, a2, a3, a4, p, a5, a6, a7, a8⟩, ad⟩ := h
  have en : n' = n := zNi (by omega) (by omega) (a2.symm.trans hn)
  subst en
  have hM : ∀ i k, 30 ≤ i → i ≤ 72 → f1 i k = fi i k := by
    rcases hc with ⟨rv, -, -, -, -, -, e⟩ | ⟨-, -, rfl, -⟩ | ⟨-, -, rfl, -⟩
    · exact fun i k q1 q2 => e.2.2.2.1 i k (by omega)
    · exact fun _ _ _ _ => rfl
    · exact fun _ _ _ _ => rfl
  have enM : nM = n' := zNi (by omega) (by omega) (hnM.symm.trans (by rw [hM 30 2 (by omega) (by omega)]; exact a3))
  subst enM
  have hG : (∀ j, j < nM → ¬ f1 31 j = x1) ↔ ∀ j, j < nM → ¬ fi (300 + j) 1 = x1 := by
    constructor
    · intro q j hj e; exact q j hj (by rw [hM 31 j (by omega) (by omega), ← (a4 j hj).1]; exact e)
    · intro q j hj e; exact q j hj (by rw [(a4 j hj).1, ← hM 31 j (by omega) (by omega)]; exact e)
  rw [hG] at hm
  rcases hc with ⟨rv, e1, e2, c1, c2, c3, e⟩ | ⟨e1, -, rfl, rfl, p3⟩ | ⟨e1, -, rfl, rfl, p4⟩
  · rcases hm with ⟨-, -, m1, m2⟩ | ⟨m1, -⟩ | ⟨-, m1, -⟩
    · obtain ⟨t1, -, -, F1, G1, x1', -, -, -, x6⟩ := e
      have F2 : ∀ a b, ¬ ((a = 30 ∧ (b = 0 ∨ b = 2)) ∨ (31 ≤ a ∧ a ≤ 36 ∧ b = nM)) → f2 a b = f1 a b := fun a b q => by rw [m2, zu_n (by omega), zu_n (by omega), zu_n (by omega), zu_n (by omega), zu_n (by omega), zu_n (by omega), zu_n (by omega), zu_n (by omega)]
      have F : ∀ a b, ¬ ((a = 30 ∧ (b = 0 ∨ b = 2)) ∨ (31 ≤ a ∧ a ≤ 36 ∧ b = nM) ∨ a = 300 + nM ∨ a = 340 + nM ∨ a = 380 + nM ∨ a = 420 + nM ∨ (a = 3 ∧ b = 1)) → f2 a b = fi a b := fun a b q => by rw [F2 a b (by omega)]; exact F1 a b (by omega)
      refine ⟨⟨⟨nM + 1, by omega, by rw [F2 _ _ (by omega)]; exact t1.2.1, by rw [m2]; exact zu_s, fun t ht => ?_, p, a5, by rw [F _ _ (by omega)]; exact a6, by rw [F _ _ (by omega)]; exact a7, fun j hj => ?_⟩, by rw [F _ _ (by omega), F _ _ (by omega)]; exact ad⟩, by rw [e1, m2, zu_n (by omega), zu_n (by omega), zu_n (by omega), zu_n (by omega), zu_n (by omega), zu_n (by omega), zu_n (by omega), zu_s], fun _ => by rw [e2, c3, m1]⟩
      · by_cases q : t = nM
        · subst q
          refine ⟨?_, 0, by omega, by rw [F2 _ _ (by omega), x6]; rfl, by rw [m2, zu_n (by omega), zu_s], fun j hj => absurd hj (by omega)⟩
          rw [F2 _ _ (by omega), x1', m2, zu_n (by omega), zu_n (by omega), zu_n (by omega), zu_n (by omega), zu_n (by omega), zu_n (by omega), zu_s]
        · obtain ⟨b1, kk, b2, b3, b4, b5⟩ := a4 t (by omega)
          refine ⟨by rw [F (300 + t) 1 (by omega), F 31 t (by omega)]; exact b1, kk, b2, by rw [F _ _ (by omega)]; exact b3, by rw [F _ _ (by omega)]; exact b4, fun j hj => ?_⟩
          rw [F (340 + t) j (by omega), F (380 + t) j (by omega), F (420 + t) j (by omega), F 37 _ (by omega), F 38 _ (by omega), F 39 _ (by omega)]
          exact b5 j hj
      · obtain ⟨t, b1, b2, b3⟩ := a8 j hj
        exact ⟨t, by omega, by rw [G1 _ _ (by omega)]; exact b2, by rw [F _ _ (by omega)]; exact b3⟩
    · exact absurd c2 m1
    · exact absurd m1 (by omega)
  · rcases hm with ⟨m1, -⟩ | ⟨-, -, m2⟩ | ⟨m1, -⟩
    · exact absurd m1 (h3 p3)
    · exact ⟨h0.cg (fun i k q => by unfold zRc at q; rw [m2, zu_n (by omega)]) (by rw [m2, zu_n (by omega), zu_n (by omega)]; exact ad) (fun _ => rfl), zEqv.no (by omega) e1 m2⟩
    · exact absurd m1 (h3 p3)
  · rcases hm with ⟨-, m1, -⟩ | ⟨m1, -⟩ | ⟨-, -, -, m2⟩
    · exact absurd (h4 p4).2 (by omega)
    · exact absurd (h4 p4).1 m1
    · exact ⟨h0.cg (fun i k q => by unfold zRc at q; rw [m2, zu_n (by omega)]) (by rw [m2, zu_n (by omega), zu_n (by omega)]; exact ad) (fun _ => rfl), zEqv.no (by omega) e1 m2⟩
theorem rl_price {n nM : Nat} {k b x y z w : Int32} {ol' : Int64} {P3 P4 P5 : Prop} (h : zRl fi fr) (hn : fi 3 1 = nI n) (hn3 : n ≤ 30) (hnM : f1 30 2 = nI nM) (hnM3 : nM ≤ 30)
    (hc : (∃ rv : Int32, k = nI 0 ∧ ol' = rv.toInt64 ∧ (∃ t k, t < n ∧ x = nI t ∧ (1 ≤ y.toInt ∧ y.toInt ≤ 10000 ∧ 0 ≤ z.toInt ∧ z.toInt ≤ 999 ∧ z.toInt ≤ w.toInt ∧ w.toInt ≤ 999) ∧ fi (300 + t) 6 = nI k ∧ k < 4 ∧ rv = nI (k + 1) ∧ f1 = zu (zu (zu (zu fi (340 + t) k y) (380 + t) k z) (420 + t) k w) (300 + t) 6 (nI (k + 1)))) ∨ (k = nI 1 ∧ f1 = fi ∧ P3) ∨ (k = nI 2 ∧ f1 = fi ∧ P4) ∨ (k = nI 3 ∧ f1 = fi ∧ P5)) (h3 : P3 → ¬ (0 ≤ x.toInt ∧ x.toInt < (n : Int))) (h4 : P4 → (∃ t, t < n ∧ x = nI t) ∧ ¬ (1 ≤ y.toInt ∧ y.toInt ≤ 10000 ∧ 0 ≤ z.toInt ∧ z.toInt ≤ 999 ∧ z.toInt ≤ w.toInt ∧ w.toInt ≤ 999)) (h5 : P5 → ∃ t, t < n ∧ x = nI t ∧ (1 ≤ y.toInt ∧ y.toInt ≤ 10000 ∧ 0 ≤ z.toInt ∧ z.toInt ≤ 999 ∧ z.toInt ≤ w.toInt ∧ w.toInt ≤ 999) ∧ fi (300 + t) 6 = nI 4)
    (hm : (∃ t k, t < nM ∧ x = nI t ∧ (1 ≤ y.toInt ∧ y.toInt ≤ 10000 ∧ 0 ≤ z.toInt ∧ z.toInt ≤ 999 ∧ z.toInt ≤ w.toInt ∧ w.toInt ≤ 999) ∧ f1 36 t = nI k ∧ k < 4 ∧ b = nI (k + 1) ∧ f2 = zu (zu (zu (zu (zu f1 30 0 (nI 0)) 37 (4 * t + k) y) 38 (4 * t + k) z) 39 (4 * t + k) w) 36 t (nI (k + 1))) ∨ (¬ (0 ≤ x.toInt ∧ x.toInt < (nM : Int)) ∧ b = nI 0 ∧ f2 = zu f1 30 0 (nI 1)) ∨ ((∃ t, t < nM ∧ x = nI t) ∧ ¬ (1 ≤ y.toInt ∧ y.toInt ≤ 10000 ∧ 0 ≤ z.toInt ∧ z.toInt ≤ 999 ∧ z.toInt ≤ w.toInt ∧ w.toInt ≤ 999) ∧ b = nI 0 ∧ f2 = zu f1 30 0 (nI 2)) ∨ (∃ t, t < nM ∧ x = nI t ∧ (1 ≤ y.toInt ∧ y.toInt ≤ 10000 ∧ 0 ≤ z.toInt ∧ z.toInt ≤ 999 ∧ z.toInt ≤ w.toInt ∧ w.toInt ≤ 999) ∧ f1 36 t = nI 4 ∧ b = nI 0 ∧ f2 = zu f1 30 0 (nI 3))) : zRl f2 fr ∧ zEqv k b ol' f2 := by
  have h0 := h
  obtain ⟨⟨n', a1, a2, a3, a4, p, a5, a6, a7, a8⟩, ad⟩ := h
  have en : n' = n := zNi (by omega) (by omega) (a2.symm.trans hn)
  subst en
  have hM : ∀ i k, 30 ≤ i → i ≤ 72 → f1 i k = fi i k := by
    rcases hc with ⟨rv, -, -, t, k, -, -, -, -, -, -, e⟩ | ⟨-, rfl, -⟩ | ⟨-, rfl, -⟩ | ⟨-, rfl, -⟩
    · exact fun i k q1 q2 => by rw [e, zu_n (by omega), zu_n (by omega), zu_n (by omega), zu_n (by omega)]
    all_goals exact fun _ _ _ _ => rfl
  have enM : nM = n' := zNi (by omega) (by omega) (hnM.symm.trans (by rw [hM 30 2 (by omega) (by omega)]; exact a3))
  subst enM
  have inj : ∀ t t', t < nM → t' < nM → nI t = nI t' → t = t' := fun t t' p q e => zNi (by omega) (by omega) e
  have low : ∀ t, t < nM → x = nI t → 0 ≤ x.toInt ∧ x.toInt < (nM : Int) := fun t p q => by rw [q, nI_toInt (by omega)]; omega
  have kp : ∀ v, f2 = zu f1 30 0 (nI v) → f1 = fi → zRl f2 fr := fun v e e' => by
    subst e'
    exact h0.cg (fun i k q => by unfold zRc at q; rw [e, zu_n (by omega)]) (by rw [e, zu_n (by omega), zu_n (by omega)]; exact ad) (fun _ => rfl)
  rcases hc with ⟨rv, e1, e2, t, kk, c1, c2, c3, c4, c5, c6, e⟩ | ⟨e1, e, p3⟩ | ⟨e1, e, p4⟩ | ⟨e1, e, p5⟩
  · obtain ⟨-, k0, b1, b2, b3, b4⟩ := a4 t c1
    have ek : k0 = kk := zNi (by omega) (by omega) (b2.symm.trans c4)
    subst ek
    rcases hm with ⟨t', k', m1, m2, m3, m4, m5, m6, m7⟩ | ⟨m1, -⟩ | ⟨-, m1, -⟩ | ⟨t', m1, m2, -, m4, -⟩
    · have et : t' = t := inj t' t m1 c1 (m2.symm.trans c2)
      subst et
      have ek : k' = k0 := zNi (by omega) (by omega) (m4.symm.trans (by rw [hM 36 t' (by omega) (by omega)]; exact b3))
      subst ek
      have F2 : ∀ a b, ¬ ((a = 30 ∧ b = 0) ∨ (37 ≤ a ∧ a ≤ 39 ∧ b = 4 * t' + k') ∨ (a = 36 ∧ b = t')) → f2 a b = f1 a b := fun a b q => by rw [m7, zu_n (by omega), zu_n (by omega), zu_n (by omega), zu_n (by omega), zu_n (by omega)]
      have F1 : ∀ a b, ¬ ((a = 300 + t' ∧ b = 6) ∨ (a = 340 + t' ∧ b = k') ∨ (a = 380 + t' ∧ b = k') ∨ (a = 420 + t' ∧ b = k')) → f1 a b = fi a b := fun a b q => by rw [e, zu_n (by omega), zu_n (by omega), zu_n (by omega), zu_n (by omega)]
      have F : ∀ a b, ¬ ((a = 30 ∧ b = 0) ∨ (37 ≤ a ∧ a ≤ 39 ∧ b = 4 * t' + k') ∨ (a = 36 ∧ b = t') ∨ (a = 300 + t' ∧ b = 6) ∨ (a = 340 + t' ∧ b = k') ∨ (a = 380 + t' ∧ b = k') ∨ (a = 420 + t' ∧ b = k')) → f2 a b = fi a b := fun a b q => by rw [F2 a b (by omega)]; exact F1 a b (by omega)
      refine ⟨⟨⟨nM, a1, by rw [F _ _ (by omega)]; exact a2, by rw [F _ _ (by omega)]; exact a3, fun t ht => ⟨by rw [F (300 + t) 1 (by omega), F 31 t (by omega)]; exact (a4 t ht).1, ?_⟩, p, a5, by rw [F _ _ (by omega)]; exact a6, by rw [F _ _ (by omega)]; exact a7, fun j hj => ?_⟩, by rw [F _ _ (by omega), F _ _ (by omega)]; exact ad⟩, by rw [e1, m7, zu_n (by omega), zu_n (by omega), zu_n (by omega), zu_n (by omega), zu_s], fun _ => by rw [e2, c6, m6]⟩
      · by_cases q : t = t'
        · subst q
          refine ⟨k' + 1, by omega, by rw [F2 _ _ (by omega), e, zu_s], by rw [m7, zu_s], fun j hj => ?_⟩
          by_cases qj : j = k'
          · subst qj
            refine ⟨?_, ?_, ?_⟩
            · rw [F2 _ _ (by omega), e, zu_n (by omega), zu_n (by omega), zu_n (by omega), zu_s, m7, zu_n (by omega), zu_n (by omega), zu_n (by omega), zu_s]
            · rw [F2 _ _ (by omega), e, zu_n (by omega), zu_n (by omega), zu_s, m7, zu_n (by omega), zu_n (by omega), zu_s]
            · rw [F2 _ _ (by omega), e, zu_n (by omega), zu_s, m7, zu_n (by omega), zu_s]
          · rw [F (340 + t) j (by omega), F (380 + t) j (by omega), F (420 + t) j (by omega), F 37 _ (by omega), F 38 _ (by omega), F 39 _ (by omega)]
            exact b4 j (by omega)
        · obtain ⟨k1, d1, d2, d3, d4⟩ := (a4 t ht).2
          refine ⟨k1, d1, by rw [F _ _ (by omega)]; exact d2, by rw [F _ _ (by omega)]; exact d3, fun j hj => ?_⟩
          rw [F (340 + t) j (by omega), F (380 + t) j (by omega), F (420 + t) j (by omega), F 37 _ (by omega), F 38 _ (by omega), F 39 _ (by omega)]
          exact d4 j hj
      · obtain ⟨t, b1, b2, b3⟩ := a8 j hj
        exact ⟨t, b1, b2, by rw [F _ _ (by omega)]; exact b3⟩
    · exact absurd (low t c1 c2) m1
    · exact absurd c3 m1
    · have et : t' = t := inj t' t m1 c1 (m2.symm.trans c2)
      subst et
      have ek : k0 = 4 := zNi (by omega) (by omega) (b3.symm.trans (by rw [← hM 36 t' (by omega) (by omega)]; exact m4))
      omega
  · rcases hm with ⟨t', k', m1, m2, -⟩ | ⟨-, -, m2⟩ | ⟨⟨t', m1, m2⟩, -⟩ | ⟨t', m1, m2, -⟩
    · exact absurd (low t' m1 m2) (h3 p3)
    · exact ⟨kp 1 m2 e, zEqv.no (by omega) e1 m2⟩
    · exact absurd (low t' m1 m2) (h3 p3)
    · exact absurd (low t' m1 m2) (h3 p3)
  · obtain ⟨⟨t, q1, q2⟩, q3⟩ := h4 p4
    rcases hm with ⟨t', k', m1, m2, m3, -⟩ | ⟨m1, -⟩ | ⟨-, -, -, m2⟩ | ⟨t', m1, m2, m3, -⟩
    · exact absurd m3 q3
    · exact absurd (low t q1 q2) m1
    · exact ⟨kp 2 m2 e, zEqv.no (by omega) e1 m2⟩
    · exact absurd m3 q3
  · obtain ⟨t, q1, q2, q3, q4⟩ := h5 p5
    obtain ⟨-, k0, b1, b2, b3, b4⟩ := a4 t q1
    have ek : k0 = 4 := zNi (by omega) (by omega) (b2.symm.trans q4)
    subst ek
    rcases hm with ⟨t', k', m1, m2, m3, m4, m5, -⟩ | ⟨m1, -⟩ | ⟨-, m1, -⟩ | ⟨t', m1, m2, m3, m4, m5, m6⟩
    · have et : t' = t := inj t' t m1 q1 (m2.symm.trans q2)
      subst et
      have ek : k' = 4 := zNi (by omega) (by omega) (m4.symm.trans (by rw [hM 36 t' (by omega) (by omega)]; exact b3))
      omega
    · exact absurd (low t q1 q2) m1
    · exact absurd q3 m1
    · exact ⟨kp 3 m6 e, zEqv.no (by omega) e1 m6⟩
theorem zMon.same {t k : Nat} {y r r' : Int32} (h : ∀ j, j < k → fi (340 + t) j = f1 37 (4 * t + j) ∧ fi (380 + t) j = f1 38 (4 * t + j) ∧ fi (420 + t) j = f1 39 (4 * t + j)) (a : zMon fi t k y r) (b : zMonM f1 t k y r') : r = r' := by
  have e : ∀ j, j < k → (((fi (380 + t) j).toInt ≤ y.toInt ∧ y.toInt ≤ (fi (420 + t) j).toInt) ↔ ((f1 38 (4 * t + j)).toInt ≤ y.toInt ∧ y.toInt ≤ (f1 39 (4 * t + j)).toInt)) := fun j hj => by rw [(h j hj).2.1, (h j hj).2.2]
  rcases a with ⟨j, a1, a2, a3, a4⟩ | ⟨a1, a2⟩ <;> rcases b with ⟨j', b1, b2, b3, b4⟩ | ⟨b1, b2⟩
  · have : j = j' := by
      rcases Nat.lt_trichotomy j j' with q | q | q
      · exact absurd ((e j' b1).mpr b2) (a3 j' q b1)
      · exact q
      · exact absurd ((e j a1).mp a2) (b3 j q a1)
    subst this
    rw [a4, b4, (h j a1).1]
  · exact absurd ((e j a1).mp a2) (b1 j a1)
  · exact absurd ((e j' b1).mpr b2) (a1 j' b1)
  · rw [a2, b2]
theorem rl_costs {n nM : Nat} {k b x y : Int32} {ol' : Int64} {P3 : Prop} (h : zRl fi fr) (hn : fi 3 1 = nI n) (hn3 : n ≤ 30) (hnM : fi 30 2 = nI nM) (hnM3 : nM ≤ 30)
    (hc : (∃ rv : Int32, k = nI 0 ∧ ol' = rv.toInt64 ∧ (∃ t k, t < n ∧ x = nI t ∧ fi (300 + t) 6 = nI k ∧ k ≤ 4 ∧ zMon fi t k y rv)) ∨ (k = nI 1 ∧ P3)) (h3 : P3 → ¬ (0 ≤ x.toInt ∧ x.toInt < (n : Int)))
    (hm : (∃ t k, t < nM ∧ x = nI t ∧ fi 36 t = nI k ∧ k ≤ 4 ∧ zMonM fi t k y b ∧ f2 = zu fi 30 0 (nI 0)) ∨ (¬ (0 ≤ x.toInt ∧ x.toInt < (nM : Int)) ∧ b = nI 0 ∧ f2 = zu fi 30 0 (nI 1))) : zRl f2 fr ∧ zEqv k b ol' f2 := by
  have h0 := h
  obtain ⟨⟨n', a1, a2, a3, a4, -⟩, ad⟩ := h
  have en : n' = n := zNi (by omega) (by omega) (a2.symm.trans hn)
  subst en
  have enM : nM = n' := zNi (by omega) (by omega) (hnM.symm.trans a3)
  subst enM
  have low : ∀ t, t < nM → x = nI t → 0 ≤ x.toInt ∧ x.toInt < (nM : Int) := fun t p q => by rw [q, nI_toInt (by omega)]; omega
  have kp : ∀ v, f2 = zu fi 30 0 (nI v) → zRl f2 fr := fun v e => h0.cg (fun i k q => by unfold zRc at q; rw [e, zu_n (by omega)]) (by rw [e, zu_n (by omega), zu_n (by omega)]; exact ad) (fun _ => rfl)
  rcases hc with ⟨rv, e1, e2, t, kk, c1, c2, c3, c4, c5⟩ | ⟨e1, p3⟩ <;> rcases hm with ⟨t', k', m1, m2, m3, m4, m5, m6⟩ | ⟨m1, m2, m3⟩
  · have et : t' = t := zNi (by omega) (by omega) (m2.symm.trans c2)
    subst et
    obtain ⟨-, k0, b1, b2, b3, b4⟩ := a4 t' c1
    have ek : k0 = kk := zNi (by omega) (by omega) (b2.symm.trans c3)
    have ek' : k0 = k' := zNi (by omega) (by omega) (b3.symm.trans m3)
    subst ek
    subst ek'
    exact ⟨kp 0 m6, by rw [e1, m6, zu_s], fun _ => by rw [e2, zMon.same b4 c5 m5]⟩
  · exact absurd (low t c1 c2) m1
  · exact absurd (low t' m1 m2) (h3 p3)
  · exact ⟨kp 1 m3, zEqv.no (by omega) e1 m3⟩
theorem rl_pick {n nM p pM : Nat} {k b x : Int32} {ol' : Int64} {P5 : Prop} (h : zRl fi fr) (hn : fi 3 1 = nI n) (hn3 : n ≤ 30) (hnM : f1 30 2 = nI nM) (hnM3 : nM ≤ 30) (hp : fi 22 1 = nI p) (hp1 : p ≤ 10) (hpM : f1 30 68 = nI pM) (hpM1 : pM ≤ 10)
    (hc : (∃ rv : Int32, k = nI 0 ∧ ol' = rv.toInt64 ∧ (∃ b, b < n ∧ x = nI b ∧ ((rv = -1 ∧ f1 = fi ∧ r1 = fr ∧ ((∃ j, j < p ∧ fr 23 j = some (300 + b)) ∨ p = 10)) ∨ (p < 10 ∧ (∀ j, j < p → ¬ fr 23 j = some (300 + b)) ∧ rv = nI (p + 1) ∧ f1 = zu fi 22 1 (nI (p + 1)) ∧ r1 = zur fr 23 p (some (300 + b)))))) ∨ (k = nI 1 ∧ f1 = fi ∧ r1 = fr ∧ P5)) (h5 : P5 → ¬ (0 ≤ x.toInt ∧ x.toInt < (n : Int)))
    (hm : (∃ t, t < nM ∧ x = nI t ∧ ((b = -1 ∧ f2 = zu f1 30 0 (nI 0) ∧ ((∃ j, j < pM ∧ f1 71 j = nI t) ∨ pM = 10)) ∨ (pM < 10 ∧ (∀ j, j < pM → ¬ f1 71 j = nI t) ∧ b = nI (pM + 1) ∧ f2 = zu (zu (zu f1 30 0 (nI 0)) 71 pM (nI t)) 30 68 (nI (pM + 1))))) ∨ (¬ (0 ≤ x.toInt ∧ x.toInt < (nM : Int)) ∧ b = nI 0 ∧ f2 = zu f1 30 0 (nI 1))) : zRl f2 r1 ∧ zEqv k b ol' f2 := by
  have h0 := h
  obtain ⟨⟨n', a1, a2, a3, a4, p', a5, a6, a7, a8⟩, ad⟩ := h
  have en : n' = n := zNi (by omega) (by omega) (a2.symm.trans hn)
  subst en
  have ep : p' = p := zNi (by omega) (by omega) (a6.symm.trans hp)
  subst ep
  have hM : ∀ i k, 30 ≤ i → i ≤ 72 → f1 i k = fi i k := by
    rcases hc with ⟨rv, -, -, t, -, -, ⟨-, rfl, -⟩ | ⟨-, -, -, e, -⟩⟩ | ⟨-, rfl, -⟩
    · exact fun _ _ _ _ => rfl
    · exact fun i k q1 q2 => by rw [e, zu_n (by omega)]
    · exact fun _ _ _ _ => rfl
  have enM : nM = n' := zNi (by omega) (by omega) (hnM.symm.trans (by rw [hM 30 2 (by omega) (by omega)]; exact a3))
  subst enM
  have epM : pM = p' := zNi (by omega) (by omega) (hpM.symm.trans (by rw [hM 30 68 (by omega) (by omega)]; exact a7))
  subst epM
  have low : ∀ t, t < nM → x = nI t → 0 ≤ x.toInt ∧ x.toInt < (nM : Int) := fun t p q => by rw [q, nI_toInt (by omega)]; omega
  have key : ∀ t, t < nM → ((∃ j, j < pM ∧ fr 23 j = some (300 + t)) ↔ ∃ j, j < pM ∧ f1 71 j = nI t) := fun t ht => by
    constructor
    · rintro ⟨j, q1, q2⟩
      obtain ⟨t', b1, b2, b3⟩ := a8 j q1
      rw [b2] at q2
      have : t' = t := by have := Option.some.inj q2; omega
      subst this
      exact ⟨j, q1, by rw [hM _ _ (by omega) (by omega)]; exact b3⟩
    · rintro ⟨j, q1, q2⟩
      obtain ⟨t', b1, b2, b3⟩ := a8 j q1
      rw [hM _ _ (by omega) (by omega), b3] at q2
      have : t' = t := zNi (by omega) (by omega) q2
      subst this
      exact ⟨j, q1, b2⟩
  rcases hc with ⟨rv, e1, e2, t, c1, c2, c3⟩ | ⟨e1, e, er, p5⟩ <;> rcases hm with ⟨t', m1, m2, m3⟩ | ⟨m1, m2, m3⟩
  · have et : t' = t := zNi (by omega) (by omega) (m2.symm.trans c2)
    subst et
    have kk := key t' c1
    rcases c3 with ⟨c4, rfl, rfl, c5⟩ | ⟨c4, c5, c6, c7, c8⟩ <;> rcases m3 with ⟨m4, m5, m6⟩ | ⟨m4, m5, m6, m7⟩
    · exact ⟨h0.cg (fun i k q => by unfold zRc at q; rw [m5, zu_n (by omega)]) (by rw [m5, zu_n (by omega), zu_n (by omega)]; exact ad) (fun _ => rfl), by rw [e1, m5, zu_s], fun _ => by rw [e2, c4, m4]⟩
    · rcases c5 with c5 | c5
      · obtain ⟨j, q1, q2⟩ := kk.mp c5
        exact absurd q2 (m5 j q1)
      · omega
    · rcases m6 with m6 | m6
      · obtain ⟨j, q1, q2⟩ := kk.mpr m6
        exact absurd q2 (c5 j q1)
      · omega
    · have F : ∀ a b, ¬ ((a = 30 ∧ (b = 0 ∨ b = 68)) ∨ (a = 71 ∧ b = pM) ∨ (a = 22 ∧ b = 1)) → f2 a b = fi a b := fun a b q => by rw [m7, zu_n (by omega), zu_n (by omega), zu_n (by omega), c7, zu_n (by omega)]
      refine ⟨⟨⟨nM, a1, by rw [F _ _ (by omega)]; exact a2, by rw [F _ _ (by omega)]; exact a3, fun t ht => ⟨by rw [F (300 + t) 1 (by omega), F 31 t (by omega)]; exact (a4 t ht).1, ?_⟩, pM + 1, by omega, by rw [m7, zu_n (by omega), zu_n (by omega), zu_n (by omega), c7, zu_s], by rw [m7, zu_s], fun j hj => ?_⟩, by rw [F _ _ (by omega), F _ _ (by omega)]; exact ad⟩, by rw [e1, m7, zu_n (by omega), zu_n (by omega), zu_s], fun _ => by rw [e2, c6, m6]⟩
      · obtain ⟨k1, d1, d2, d3, d4⟩ := (a4 t ht).2
        refine ⟨k1, d1, by rw [F _ _ (by omega)]; exact d2, by rw [F _ _ (by omega)]; exact d3, fun j hj => ?_⟩
        rw [F (340 + t) j (by omega), F (380 + t) j (by omega), F (420 + t) j (by omega), F 37 _ (by omega), F 38 _ (by omega), F 39 _ (by omega)]
        exact d4 j hj
      · by_cases q : j = pM
        · subst q
          exact ⟨t', c1, by rw [c8, zur_s], by rw [m7, zu_n (by omega), zu_s]⟩
        · obtain ⟨t, b1, b2, b3⟩ := a8 j (by omega)
          exact ⟨t, b1, by rw [c8, zur_n (by omega)]; exact b2, by rw [F _ _ (by omega)]; exact b3⟩
  · exact absurd (low t c1 c2) m1
  · exact absurd (low t' m1 m2) (h5 p5)
  · subst e
    subst er
    exact ⟨h0.cg (fun i k q => by unfold zRc at q; rw [m3, zu_n (by omega)]) (by rw [m3, zu_n (by omega), zu_n (by omega)]; exact ad) (fun _ => rfl), zEqv.no (by omega) e1 m3⟩
theorem rl_walk (h : zRl fi fr) (hc : f1 22 1 = nI 0 ∧ ∀ a b, ¬ (a = 24 ∨ a = 25 ∨ a = 26 ∨ a = 27 ∨ (a = 22 ∧ b = 1)) → f1 a b = fi a b) (hm : f2 30 68 = nI 0 ∧ ∀ a b, ¬ (a = 72 ∨ (a = 30 ∧ (b = 0 ∨ b = 68))) → f2 a b = f1 a b) : zRl f2 fr := by
  obtain ⟨⟨n, a1, a2, a3, a4, p, a5, a6, a7, a8⟩, ad⟩ := h
  obtain ⟨c1, F1⟩ := hc
  obtain ⟨m1, F2⟩ := hm
  have F : ∀ a b, ¬ (a = 24 ∨ a = 25 ∨ a = 26 ∨ a = 27 ∨ (a = 22 ∧ b = 1) ∨ a = 72 ∨ (a = 30 ∧ (b = 0 ∨ b = 68))) → f2 a b = fi a b := fun a b q => by rw [F2 a b (by omega)]; exact F1 a b (by omega)
  refine ⟨⟨n, a1, by rw [F _ _ (by omega)]; exact a2, by rw [F _ _ (by omega)]; exact a3, fun t ht => ⟨by rw [F (300 + t) 1 (by omega), F 31 t (by omega)]; exact (a4 t ht).1, ?_⟩, 0, by omega, by rw [F2 _ _ (by omega)]; exact c1, m1, fun j hj => absurd hj (by omega)⟩, by rw [F _ _ (by omega), F _ _ (by omega)]; exact ad⟩
  obtain ⟨k1, d1, d2, d3, d4⟩ := (a4 t ht).2
  refine ⟨k1, d1, by rw [F _ _ (by omega)]; exact d2, by rw [F _ _ (by omega)]; exact d3, fun j hj => ?_⟩
  rw [F (340 + t) j (by omega), F (380 + t) j (by omega), F (420 + t) j (by omega), F 37 _ (by omega), F 38 _ (by omega), F 39 _ (by omega)]
  exact d4 j hj
theorem zRl.kM (h : zRl fi fr) (F : ∀ i k, zRc i k ∨ (i = 0 ∧ k = 15) ∨ (i = 30 ∧ k = 1) → f1 i k = fi i k) : zRl f1 fr := h.cg (fun i k q => F i k (Or.inl q)) (by rw [F 0 15 (Or.inr (Or.inl ⟨rfl, rfl⟩)), F 30 1 (Or.inr (Or.inr ⟨rfl, rfl⟩))]; exact h.2) (fun _ => rfl)
theorem zRl.kMr (h : zRl fi fr) (F : ∀ i k, zRc i k ∨ (i = 0 ∧ k = 15) ∨ (i = 30 ∧ k = 1) → f1 i k = fi i k) (hr : ∀ k, r1 23 k = fr 23 k) : zRl f1 r1 := h.cg (fun i k q => F i k (Or.inl q)) (by rw [F 0 15 (Or.inr (Or.inl ⟨rfl, rfl⟩)), F 30 1 (Or.inr (Or.inr ⟨rfl, rfl⟩))]; exact h.2) hr
theorem zBI.rl {x y j : Nat} (h : zBI τ fi fr 73 208 x y j) (ef : f1 = va_up fi 28 (fun _ => 0)) : zRl f1 r1 := by
  have Z : ∀ i k, ¬ zXc i k → i ≠ 28 → f1 i k = nI 0 := fun i k q e => by rw [ef, va_up_ne _ _ e, h.2.2.2 i k q]; rfl
  exact ⟨⟨0, by omega, Z _ _ (by unfold zXc; omega) (by omega), Z _ _ (by unfold zXc; omega) (by omega), fun t ht => absurd ht (by omega), 0, by omega, Z _ _ (by unfold zXc; omega) (by omega), Z _ _ (by unfold zXc; omega) (by omega), fun t ht => absurd ht (by omega)⟩, by rw [Z 0 15 (by unfold zXc; omega) (by omega), Z 30 1 (by unfold zXc; omega) (by omega)]⟩
theorem mx_costs {n : Nat} {x y r : Int32} (hw : (∃ t k, t < n ∧ x = nI t ∧ fi 36 t = nI k ∧ k ≤ 4 ∧ zMonM fi t k y r ∧ f1 = zu fi 30 0 (nI 0)) ∨ (¬ (0 ≤ x.toInt ∧ x.toInt < (n : Int)) ∧ r = nI 0 ∧ f1 = zu fi 30 0 (nI 1))) : ∀ a b, ¬ (a = 30 ∧ b = 0) → f1 a b = fi a b := fun a b q => by
  rcases hw with ⟨-, -, -, -, -, -, -, e⟩ | ⟨-, -, e⟩ <;> rw [e, zu_n (by omega)]
theorem mx_price {n : Nat} {x y z w r : Int32} {P : Prop} (hM : zMt fi n) (hw : (∃ t k, t < n ∧ x = nI t ∧ P ∧ fi 36 t = nI k ∧ k < 4 ∧ r = nI (k + 1) ∧ f1 = zu (zu (zu (zu (zu fi 30 0 (nI 0)) 37 (4 * t + k) y) 38 (4 * t + k) z) 39 (4 * t + k) w) 36 t (nI (k + 1))) ∨ (¬ (0 ≤ x.toInt ∧ x.toInt < (n : Int)) ∧ r = nI 0 ∧ f1 = zu fi 30 0 (nI 1)) ∨ ((∃ t, t < n ∧ x = nI t) ∧ ¬ P ∧ r = nI 0 ∧ f1 = zu fi 30 0 (nI 2)) ∨ (∃ t, t < n ∧ x = nI t ∧ P ∧ fi 36 t = nI 4 ∧ r = nI 0 ∧ f1 = zu fi 30 0 (nI 3))) : zMt f1 n ∧ ∀ a b, ¬ (a = 36 ∨ a = 37 ∨ a = 38 ∨ a = 39 ∨ (a = 30 ∧ b = 0)) → f1 a b = fi a b := by
  have kp : ∀ v, f1 = zu fi 30 0 (nI v) → zMt f1 n ∧ ∀ a b, ¬ (a = 36 ∨ a = 37 ∨ a = 38 ∨ a = 39 ∨ (a = 30 ∧ b = 0)) → f1 a b = fi a b := fun v e => ⟨hM.ci (fun i k q => by rw [e, zu_n (by omega)]), fun a b q => by rw [e, zu_n (by omega)]⟩
  rcases hw with ⟨t, k, a1, -, -, a2, a3, -, e⟩ | ⟨-, -, e⟩ | ⟨-, -, -, e⟩ | ⟨t, -, -, -, -, -, e⟩
  · refine ⟨hM.pr (t := t) (k := k + 1) (by rw [e, zu_n (by omega), zu_n (by omega), zu_n (by omega), zu_n (by omega), zu_n (by omega)]) (by omega) (by rw [e, zu_s]) (fun j q => by rw [e, zu_n (by omega), zu_n (by omega), zu_n (by omega), zu_n (by omega), zu_n (by omega)]), fun a b q => by rw [e, zu_n (by omega), zu_n (by omega), zu_n (by omega), zu_n (by omega), zu_n (by omega)]⟩
  · exact kp 1 e
  · exact kp 2 e
  · exact kp 3 e
theorem mx_pick {n p : Nat} {x r : Int32} (hM : zMp fi n p) (hw : (∃ t, t < n ∧ x = nI t ∧ ((r = -1 ∧ f1 = zu fi 30 0 (nI 0) ∧ ((∃ j, j < p ∧ fi 71 j = nI t) ∨ p = 10)) ∨ (p < 10 ∧ (∀ j, j < p → ¬ fi 71 j = nI t) ∧ r = nI (p + 1) ∧ f1 = zu (zu (zu fi 30 0 (nI 0)) 71 p (nI t)) 30 68 (nI (p + 1))))) ∨ (¬ (0 ≤ x.toInt ∧ x.toInt < (n : Int)) ∧ r = nI 0 ∧ f1 = zu fi 30 0 (nI 1))) : (∃ k, zMp f1 n k) ∧ ∀ a b, ¬ (a = 71 ∨ (a = 30 ∧ (b = 0 ∨ b = 68))) → f1 a b = fi a b := by
  have kp : ∀ v, f1 = zu fi 30 0 (nI v) → (∃ k, zMp f1 n k) ∧ ∀ a b, ¬ (a = 71 ∨ (a = 30 ∧ (b = 0 ∨ b = 68))) → f1 a b = fi a b := fun v e => ⟨⟨p, hM.ci (fun i k q => by rw [e, zu_n (by omega)])⟩, fun a b q => by rw [e, zu_n (by omega)]⟩
  rcases hw with ⟨t, a1, -, ⟨-, e, -⟩ | ⟨a2, -, -, e⟩⟩ | ⟨-, -, e⟩
  · exact kp 0 e
  · exact ⟨⟨p + 1, hM.add a2 a1 (by rw [e, zu_s]) (by rw [e, zu_n (by omega), zu_s]) (fun j q => by rw [e, zu_n (by omega), zu_n (by omega), zu_n (by omega)])⟩, fun a b q => by rw [e, zu_n (by omega), zu_n (by omega), zu_n (by omega)]⟩
  · exact kp 1 e
end RL
