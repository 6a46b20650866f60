/-! ===== THE TEXTS: the tape's bytes and the rules are alike ===== -/
def zTc (fi : zFi) (L : Nat) : Prop := ∀ j, j < L → ((fi 2 j).toInt = (fi 47 j).toInt ∨ ((fi 2 j).toInt < 0 ∧ 128 ≤ (fi 47 j).toInt)) ∧ 0 ≤ (fi 47 j).toInt
def zRt (fi : zFi) : Prop := (∃ L, L ≤ 400 ∧ fi 1 1 = nI L ∧ zTc fi L) ∧ zDru fi = zDot fi
def zTd (i k : Nat) : Prop := (i = 1 ∧ k = 1) ∨ i = 2 ∨ i = 47 ∨ i = 10 ∨ i = 11 ∨ i = 40 ∨ i = 44 ∨ (i = 0 ∧ k = 14) ∨ (i = 30 ∧ k = 24)
def zTd0 (i k : Nat) : Prop := (i = 1 ∧ k = 1) ∨ i = 2 ∨ i = 47 ∨ i = 10 ∨ i = 11 ∨ i = 40 ∨ i = 44
section RT
variable {τ τ' : zTy} {fi f1 f2 : zFi} {fr r1 : zFr}
theorem zRt.cg0 (h : zRt fi) (hi : ∀ i k, zTd0 i k → f1 i k = fi i k) : zRt f1 := by
  obtain ⟨⟨L, a1, a2, a3⟩, a4⟩ := h
  refine ⟨⟨L, a1, by rw [hi _ _ (by unfold zTd0; omega)]; exact a2, fun j hj => ?_⟩, ?_⟩
  · rw [hi 2 j (by unfold zTd0; omega), hi 47 j (by unfold zTd0; omega)]; exact a3 j hj
  · rw [zDru_cg (f := f1) (g := fi) (fun i k q => hi i k (by unfold zTd0; omega)), zDot_cg (f := f1) (g := fi) (fun i k q => hi i k (by unfold zTd0; omega))]; exact a4
theorem zRt.cg (h : zRt fi) (hi : ∀ i k, zTd i k → f1 i k = fi i k) : zRt f1 := h.cg0 (fun i k q => hi i k (by unfold zTd0 at q; unfold zTd; omega))
theorem zRv.dru {f : zFi} (h : zRv f 10 11) (h2 : zRv f 44 40) : zDru f = zDot f := by
  obtain ⟨⟨a0, a1, a2, a3⟩, a4⟩ := h
  obtain ⟨⟨b0, b1, b2, b3⟩, b4⟩ := h2
  funext k
  simp only [zDru, zDot]
  by_cases q : k < 4
  · rw [if_pos q, if_pos q]
    have : k = 0 ∨ k = 1 ∨ k = 2 ∨ k = 3 := by omega
    rcases this with rfl | rfl | rfl | rfl
    · rw [a0, b0]
    · rw [a1, b1]
    · rw [a2, b2]
    · rw [a3, b3]
  · by_cases q2 : k < 34
    · rw [if_neg q, if_pos q2, if_neg q, if_pos q2, a4 _ (by omega), b4 _ (by omega)]
    · rw [if_neg q, if_neg q2, if_neg q, if_neg q2]
theorem zBI.rt {x y j : Nat} (h : zBI τ fi fr 73 208 x y j) (ef : f1 = va_up fi 28 (fun _ => 0)) (h1 : zRv fi 10 11) (h2 : zRv fi 44 40) : zRt f1 := by
  have e : ∀ i k, i ≠ 28 → f1 i k = fi i k := fun i k q => by rw [ef, va_up_ne _ _ q]
  refine ⟨⟨0, by omega, by rw [e 1 1 (by omega), h.2.2.2 1 1 (by unfold zXc; omega)]; rfl, fun j hj => absurd hj (by omega)⟩, ?_⟩
  exact zRv.dru (h1.cg (fun i k q => e i k (by omega))) (h2.cg (fun i k q => e i k (by omega)))
theorem rt_feed {L : Nat} {r r' x0 x1 x2 x3 x4 : Int32} (h : zRt fi) (hL : fi 1 1 = nI L) (hL4 : L ≤ 400) (hw : (L + 20 ≤ 400 ∧ r = nI (L + 20) ∧ f1 1 1 = nI (L + 20) ∧ (∀ i, i ≠ 1 → i ≠ 2 → f1 i = fi i) ∧ (∀ b, b ≠ 1 → f1 1 b = fi 1 b) ∧ (∀ b, b < L → f1 2 b = fi 2 b) ∧ f1 2 (L + 0) = zB8 x0 24 ∧ f1 2 (L + 1) = zB8 x0 16 ∧ f1 2 (L + 2) = zB8 x0 8 ∧ f1 2 (L + 3) = zB8 x0 0 ∧ f1 2 (L + 4) = zB8 x1 24 ∧ f1 2 (L + 5) = zB8 x1 16 ∧ f1 2 (L + 6) = zB8 x1 8 ∧ f1 2 (L + 7) = zB8 x1 0 ∧ f1 2 (L + 8) = zB8 x2 24 ∧ f1 2 (L + 9) = zB8 x2 16 ∧ f1 2 (L + 10) = zB8 x2 8 ∧ f1 2 (L + 11) = zB8 x2 0 ∧ f1 2 (L + 12) = zB8 x3 24 ∧ f1 2 (L + 13) = zB8 x3 16 ∧ f1 2 (L + 14) = zB8 x3 8 ∧ f1 2 (L + 15) = zB8 x3 0 ∧ f1 2 (L + 16) = zB8 x4 24 ∧ f1 2 (L + 17) = zB8 x4 16 ∧ f1 2 (L + 18) = zB8 x4 8 ∧ f1 2 (L + 19) = zB8 x4 0) ∨ (400 < L + 20 ∧ r = -1 ∧ f1 = fi))
    (hm : (((L + 20 ≤ 400 ∧ r' = nI (L + 20) ∧ f2 30 21 = nI (L + 20)) ∨ (400 < L + 20 ∧ r' = -1 ∧ f2 30 21 = nI L)) ∧ ∀ a b, ¬ (a = 47 ∨ (a = 30 ∧ (b = 0 ∨ b = 21))) → f2 a b = f1 a b) ∧ (L + 20 ≤ 400 → (∀ b, b < L → f2 47 b = f1 47 b) ∧ f2 47 (L + 0) = zB9 x0 24 ∧ f2 47 (L + 1) = zB9 x0 16 ∧ f2 47 (L + 2) = zB9 x0 8 ∧ f2 47 (L + 3) = zB9 x0 0 ∧ f2 47 (L + 4) = zB9 x1 24 ∧ f2 47 (L + 5) = zB9 x1 16 ∧ f2 47 (L + 6) = zB9 x1 8 ∧ f2 47 (L + 7) = zB9 x1 0 ∧ f2 47 (L + 8) = zB9 x2 24 ∧ f2 47 (L + 9) = zB9 x2 16 ∧ f2 47 (L + 10) = zB9 x2 8 ∧ f2 47 (L + 11) = zB9 x2 0 ∧ f2 47 (L + 12) = zB9 x3 24 ∧ f2 47 (L + 13) = zB9 x3 16 ∧ f2 47 (L + 14) = zB9 x3 8 ∧ f2 47 (L + 15) = zB9 x3 0 ∧ f2 47 (L + 16) = zB9 x4 24 ∧ f2 47 (L + 17) = zB9 x4 16 ∧ f2 47 (L + 18) = zB9 x4 8 ∧ f2 47 (L + 19) = zB9 x4 0) ∧ (400 < L + 20 → ∀ b, f2 47 b = f1 47 b)) : zRt f2 := by
  obtain ⟨⟨-, F⟩, hb, hn⟩ := hm
  rcases hw with ⟨a1, -, a3, a4, -, a5, c0, c1, c2, c3, c4, c5, c6, c7, c8, c9, c10, c11, c12, c13, c14, c15, c16, c17, c18, c19⟩ | ⟨a1, -, rfl⟩
  · obtain ⟨b1, m0, m1, m2, m3, m4, m5, m6, m7, m8, m9, m10, m11, m12, m13, m14, m15, m16, m17, m18, m19⟩ := hb a1
    obtain ⟨⟨L', p1, p2, p3⟩, p4⟩ := h
    have eL : L' = L := zNi (by omega) (by omega) (p2.symm.trans hL)
    subst eL
    refine ⟨⟨L' + 20, a1, by rw [F _ _ (by omega)]; exact a3, fun j hj => ?_⟩, ?_⟩
    · by_cases q : j < L'
      · rw [F 2 j (by omega), a5 j q, b1 j q, a4 47 (by omega) (by omega)]; exact p3 j q
      · have hj2 : j = L' + 0 ∨ j = L' + 1 ∨ j = L' + 2 ∨ j = L' + 3 ∨ j = L' + 4 ∨ j = L' + 5 ∨ j = L' + 6 ∨ j = L' + 7 ∨ j = L' + 8 ∨ j = L' + 9 ∨ j = L' + 10 ∨ j = L' + 11 ∨ j = L' + 12 ∨ j = L' + 13 ∨ j = L' + 14 ∨ j = L' + 15 ∨ j = L' + 16 ∨ j = L' + 17 ∨ j = L' + 18 ∨ j = L' + 19 := by omega
        rw [F 2 j (by omega)]
        rcases hj2 with e | e | e | e | e | e | e | e | e | e | e | e | e | e | e | e | e | e | e | e
        · rw [e, c0, m0]; exact zB89 _ _
        · rw [e, c1, m1]; exact zB89 _ _
        · rw [e, c2, m2]; exact zB89 _ _
        · rw [e, c3, m3]; exact zB89 _ _
        · rw [e, c4, m4]; exact zB89 _ _
        · rw [e, c5, m5]; exact zB89 _ _
        · rw [e, c6, m6]; exact zB89 _ _
        · rw [e, c7, m7]; exact zB89 _ _
        · rw [e, c8, m8]; exact zB89 _ _
        · rw [e, c9, m9]; exact zB89 _ _
        · rw [e, c10, m10]; exact zB89 _ _
        · rw [e, c11, m11]; exact zB89 _ _
        · rw [e, c12, m12]; exact zB89 _ _
        · rw [e, c13, m13]; exact zB89 _ _
        · rw [e, c14, m14]; exact zB89 _ _
        · rw [e, c15, m15]; exact zB89 _ _
        · rw [e, c16, m16]; exact zB89 _ _
        · rw [e, c17, m17]; exact zB89 _ _
        · rw [e, c18, m18]; exact zB89 _ _
        · rw [e, c19, m19]; exact zB89 _ _
    · rw [zDru_cg (f := f2) (g := fi) (fun i k q => by rw [F i k (by omega), a4 i (by omega) (by omega)]), zDot_cg (f := f2) (g := fi) (fun i k q => by rw [F i k (by omega), a4 i (by omega) (by omega)])]; exact p4
  · exact h.cg (fun i k q => by
      by_cases e : i = 47
      · subst e; exact hn a1 k
      · exact F i k (by unfold zTd at q; omega))
theorem rt_end {L : Nat} {r x : Int32} (h : zRt fi) (hL : fi 1 1 = nI L) (hL4 : L ≤ 400) (hw : (r = 1 ∧ 0 ≤ x.toInt ∧ x.toInt ≤ L ∧ f1 = zu fi 1 1 x) ∨ (r = 0 ∧ ¬ (0 ≤ x.toInt ∧ x.toInt ≤ L) ∧ f1 = fi)) : zRt f1 := by
  rcases hw with ⟨-, a1, a2, e⟩ | ⟨-, -, rfl⟩
  · obtain ⟨⟨L', p1, p2, p3⟩, p4⟩ := h
    have eL : L' = L := zNi (by omega) (by omega) (p2.symm.trans hL)
    subst eL
    obtain ⟨L1, b1, b2⟩ := zNatB (x := x) (n := 401) a1 (by omega)
    have b3 : x.toInt = (L1 : Int) := by rw [b2, nI_toInt (by omega)]
    refine ⟨⟨L1, by omega, by rw [e, zu_s]; exact b2, fun j hj => ?_⟩, ?_⟩
    · rw [e, zu_n (by omega), zu_n (by omega)]; exact p3 j (by omega)
    · rw [zDru_cg (f := f1) (g := fi) (fun i k q => by rw [e, zu_n (by omega)]), zDot_cg (f := f1) (g := fi) (fun i k q => by rw [e, zu_n (by omega)])]; exact p4
  · exact h
theorem rt_len0 (h : zRt fi) (h0 : f1 1 1 = nI 0) (hi : ∀ i k, i = 10 ∨ i = 11 ∨ i = 40 ∨ i = 44 ∨ i = 47 → f1 i k = fi i k) : zRt f1 := ⟨⟨0, by omega, h0, fun j hj => absurd hj (by omega)⟩, by
  rw [zDru_cg (f := f1) (g := fi) (fun i k q => hi i k (by omega)), zDot_cg (f := f1) (g := fi) (fun i k q => hi i k (by omega))]; exact h.2⟩
theorem ct_letter {n o d : Nat} {r : Int32} {P1 : Int32 → Prop} {P3 P4 P5 P6 : Prop} (ho : o ≤ 60) (hd : d ≤ 512) (hw : (∃ rv : Int32, r = nI 0 ∧ P1 rv ∧ ((o < 60 ∧ rv = nI o ∧ zLo τ fi fr n o d τ' f1 r1) ∨ (d < 512 ∧ zLd τ fi fr d τ' f1 r1))) ∨ (r = nI 1 ∧ P3 ∧ (P4 ∧ zLg τ fi fr d τ' f1 r1)) ∨ (r = nI 2 ∧ P5 ∧ (P6 ∧ zLg τ fi fr d τ' f1 r1))) : f1 1 1 = nI 0 ∧ ∀ i k, i = 10 ∨ i = 11 ∨ i = 40 ∨ i = 44 ∨ i = 47 → f1 i k = fi i k := by
  rcases hw with ⟨rv, -, -, ⟨-, -, e⟩ | ⟨-, e⟩⟩ | ⟨-, -, -, e⟩ | ⟨-, -, -, e⟩
  · exact ⟨e.2.2.1, fun i k q => e.2.2.2.2.2.1 i k (by omega)⟩
  · exact ⟨e.2.2.1, fun i k q => e.2.2.2.2.1 i k (by omega)⟩
  · exact ⟨e.2.1, fun i k q => e.2.2.2.2.1 i k (by omega)⟩
  · exact ⟨e.2.1, fun i k q => e.2.2.2.2.1 i k (by omega)⟩
theorem ct_settle {n o d : Nat} {r x : Int32} {P1 : Int32 → Prop} {P3 P4 P5 : Prop} (ho : o ≤ 60) (hw : (∃ rv : Int32, r = nI 0 ∧ P1 rv ∧ ((τ' = τ ∧ r1 = fr ∧ ((∃ b, b < d ∧ x = nI b ∧ f1 = zu fi (3000 + b) 9 (nI 0)) ∨ f1 = fi)) ∨ (∃ b, b < d ∧ x = nI b ∧ rv = nI o ∧ zNO τ (zu fi (3000 + b) 9 (nI 0)) fr n o τ' f1 r1))) ∨ (r = nI 1 ∧ τ' = τ ∧ f1 = fi ∧ r1 = fr ∧ P3) ∨ (r = nI 2 ∧ τ' = τ ∧ f1 = fi ∧ r1 = fr ∧ P4) ∨ (r = nI 3 ∧ τ' = τ ∧ f1 = fi ∧ r1 = fr ∧ P5)) : ∀ i k, zTd i k → f1 i k = fi i k := fun i k q => by
  unfold zTd at q
  rcases hw with ⟨rv, -, -, ⟨-, -, ⟨b, -, -, e⟩ | rfl⟩ | ⟨b, -, -, -, e⟩⟩ | ⟨-, -, rfl, -, -⟩ | ⟨-, -, rfl, -, -⟩ | ⟨-, -, rfl, -, -⟩
  · rw [e, zu_n (by omega)]
  · rfl
  · rw [e.2.2.2.1 i k (by omega), zu_n (by omega)]
  all_goals rfl
theorem ct_back {r : Int32} {P3 P4 : Prop} (hw : (∃ rv : Int32, r = nI 0 ∧ (∀ i k, ¬ ((1000 ≤ i ∧ i < 1480 ∧ 3 ≤ k) ∨ (300 ≤ i ∧ i < 330 ∧ k = 5) ∨ (500 ≤ i ∧ i < 560 ∧ k = 4)) → f1 i k = fi i k)) ∨ (r = nI 1 ∧ f1 = fi ∧ P3) ∨ (r = nI 2 ∧ f1 = fi ∧ P4)) : ∀ i k, zTd i k → f1 i k = fi i k := fun i k q => by
  unfold zTd at q
  rcases hw with ⟨rv, -, F⟩ | ⟨-, rfl, -⟩ | ⟨-, rfl, -⟩
  · exact F i k (by omega)
  all_goals rfl
theorem ct_thing {n : Nat} {r x1 x2 x3 x4 : Int32} {P1 : Int32 → Prop} {P2 P3 P4 : Prop} (hw : (∃ rv : Int32, r = nI 0 ∧ P1 rv ∧ (n < 30 ∧ P2 ∧ rv = nI n ∧ zAdd τ fi fr n x1 x2 x3 x4 τ' f1 r1)) ∨ (r = nI 1 ∧ τ' = τ ∧ f1 = fi ∧ r1 = fr ∧ P3) ∨ (r = nI 2 ∧ τ' = τ ∧ f1 = fi ∧ r1 = fr ∧ P4)) : ∀ i k, zTd i k → f1 i k = fi i k := fun i k q => by
  unfold zTd at q
  rcases hw with ⟨rv, -, -, -, -, -, e⟩ | ⟨-, -, rfl, -⟩ | ⟨-, -, rfl, -⟩
  · exact e.2.2.2.1 i k (by omega)
  all_goals rfl
theorem ct_price {n : Nat} {r x y z w : Int32} {P1 : Int32 → Prop} {P2 P3 P4 P5 : Prop} (hw : (∃ rv : Int32, r = nI 0 ∧ P1 rv ∧ (∃ t k, t < n ∧ x = nI t ∧ P2 ∧ fi (300 + t) 6 = nI k ∧ k < 4 ∧ rv = nI (k + 1) ∧ f1 = zu (zu (zu (zu fi (340 + t) k y) (380 + t) k z) (420 + t) k w) (300 + t) 6 (nI (k + 1)))) ∨ (r = nI 1 ∧ f1 = fi ∧ P3) ∨ (r = nI 2 ∧ f1 = fi ∧ P4) ∨ (r = nI 3 ∧ f1 = fi ∧ P5)) : ∀ i k, zTd i k → f1 i k = fi i k := fun i k q => by
  unfold zTd at q
  rcases hw with ⟨rv, -, -, t, k, -, -, -, -, -, -, e⟩ | ⟨-, rfl, -⟩ | ⟨-, rfl, -⟩ | ⟨-, rfl, -⟩
  · rw [e, zu_n (by omega), zu_n (by omega), zu_n (by omega), zu_n (by omega)]
  all_goals rfl
theorem ct_pick {n p : Nat} {r x : Int32} {P1 : Int32 → Prop} {P2 P3 : Nat → Prop} {P5 : Prop} (hw : (∃ rv : Int32, r = nI 0 ∧ P1 rv ∧ (∃ b, b < n ∧ x = nI b ∧ ((rv = -1 ∧ f1 = fi ∧ r1 = fr ∧ P2 b) ∨ (p < 10 ∧ P3 b ∧ rv = nI (p + 1) ∧ f1 = zu fi 22 1 (nI (p + 1)) ∧ r1 = zur fr 23 p (some (300 + b)))))) ∨ (r = nI 1 ∧ f1 = fi ∧ r1 = fr ∧ P5)) : ∀ i k, zTd i k → f1 i k = fi i k := fun i k q => by
  unfold zTd at q
  rcases hw with ⟨rv, -, -, b, -, -, ⟨-, rfl, -⟩ | ⟨-, -, -, e, -⟩⟩ | ⟨-, rfl, -⟩
  · rfl
  · rw [e, zu_n (by omega)]
  · rfl
theorem ct_coming {n c : Nat} {r x y z : Int32} {P1 : Int32 → Prop} {P2 P3 P4 P5 : Prop} (hw : (∃ rv : Int32, r = nI 0 ∧ P1 rv ∧ (∃ b, b < n ∧ x = nI b ∧ P2 ∧ c < 60 ∧ rv = nI (c + 1) ∧ f1 = zu (zu (zu fi 7 c y) 8 c z) 5 3 (nI (c + 1)) ∧ r1 = zur fr 6 c (some (300 + b)))) ∨ (r = nI 1 ∧ f1 = fi ∧ r1 = fr ∧ P3) ∨ (r = nI 2 ∧ f1 = fi ∧ r1 = fr ∧ P4) ∨ (r = nI 3 ∧ f1 = fi ∧ r1 = fr ∧ P5)) : ∀ i k, zTd i k → f1 i k = fi i k := fun i k q => by
  unfold zTd at q
  rcases hw with ⟨rv, -, -, b, -, -, -, -, -, e, e2⟩ | ⟨-, rfl, rfl, -⟩ | ⟨-, rfl, rfl, -⟩ | ⟨-, rfl, rfl, -⟩
  · rw [e, zu_n (by omega), zu_n (by omega), zu_n (by omega)]
  all_goals rfl
theorem ct_days {n : Nat} {r x : Int32} {P1 : Int32 → Prop} {P9 : Int32 → Nat → Prop} {P3 : Prop} (hw : (∃ rv : Int32, r = nI 0 ∧ P1 rv ∧ (∃ b, b ≤ 100 ∧ x = nI b ∧ (∃ c2, zCm f1 r1 n c2) ∧ zDy n τ fi fr τ' f1 r1 ∧ P9 rv b)) ∨ (r = nI 1 ∧ τ' = τ ∧ f1 = fi ∧ r1 = fr ∧ P3)) : ∀ i k, zTd i k → f1 i k = fi i k := fun i k q => by
  unfold zTd at q
  rcases hw with ⟨rv, -, -, b, -, -, -, w, -⟩ | ⟨-, -, rfl, -⟩
  · exact w.2.1 i k (by omega)
  · rfl
theorem mt_thing {n : Nat} {r x1 x2 x3 x4 : Int32} {P : Prop} (hw : (P ∧ n < 30 ∧ r = nI n ∧ f1 = zu (zu (zu (zu (zu (zu (zu (zu fi 30 0 (nI 0)) 31 n x1) 32 n x2) 33 n x3) 34 n x4) 35 n (nI 0)) 36 n (nI 0)) 30 2 (nI (n + 1))) ∨ (¬ P ∧ r = nI 0 ∧ f1 = zu fi 30 0 (nI 1)) ∨ (P ∧ n = 30 ∧ r = nI 0 ∧ f1 = zu fi 30 0 (nI 2))) : ∀ i k, zTd i k → f1 i k = fi i k := fun i k q => by
  unfold zTd at q
  rcases hw with ⟨-, -, -, e⟩ | ⟨-, -, e⟩ | ⟨-, -, -, e⟩
  · rw [e, zu_n (by omega), zu_n (by omega), zu_n (by omega), zu_n (by omega), zu_n (by omega), zu_n (by omega), zu_n (by omega), zu_n (by omega)]
  · rw [e, zu_n (by omega)]
  · rw [e, zu_n (by omega)]
theorem zRls_hi {b cd : Nat → Int32} {L n : Nat} : ∀ f a D k, a ≤ L → ∀ m D', zRls b L cd n f a D k = .ok (m, D') → ∀ i, 4 + n ≤ i → D' i = D i := by
  intro f
  induction f with
  | zero => intro a D k _ m D' h; simp [zRls] at h
  | succ f ih =>
    intro a D k ha m D' h i hi
    simp only [zRls] at h
    cases e : zRul b L cd n a with
    | error p => rw [e] at h; simp at h
    | ok x =>
      rw [e] at h
      simp only at h
      have l := (zRul_le ha).2 x e
      have eu : zup D x.2.1 x.2.2 i = D i := by
        simp only [zup]
        rw [if_neg (by omega)]
      split at h
      · rename_i c
        rw [ih _ _ _ (zS_le (by omega)) m D' h i hi, eu]
      · split at h
        · simp at h
        · cases h
          exact eu
/-- what the class's rules tell, as the elder rows want it -/
theorem rx_old {r : Int32} {P1 X : Int32 → Prop} {P3 P4 X2 : Prop} (hw : (∃ rv : Int32, r = nI 0 ∧ P1 rv ∧ (X rv ∧ f1 1 1 = nI 0 ∧ ∀ i k, ¬ (i = 1 ∨ i = 10 ∨ i = 11 ∨ i = 13 ∨ i = 14 ∨ (i = 0 ∧ k = 14)) → f1 i k = fi i k)) ∨ (r = nI 1 ∧ P3 ∧ (P4 ∧ X2 ∧ f1 1 1 = nI 0 ∧ ∀ i k, ¬ (i = 1 ∨ i = 10 ∨ i = 11 ∨ i = 13 ∨ i = 14 ∨ (i = 0 ∧ k = 14)) → f1 i k = fi i k))) : (∃ rv : Int32, r = nI 0 ∧ P1 rv ∧ (f1 1 1 = nI 0 ∧ ∀ i k, ¬ (i = 1 ∨ i = 10 ∨ i = 11 ∨ i = 13 ∨ i = 14 ∨ (i = 0 ∧ k = 14)) → f1 i k = fi i k)) ∨ (r = nI 1 ∧ P3 ∧ (P4 ∧ f1 1 1 = nI 0 ∧ ∀ i k, ¬ (i = 1 ∨ i = 10 ∨ i = 11 ∨ i = 13 ∨ i = 14 ∨ (i = 0 ∧ k = 14)) → f1 i k = fi i k)) := by
  rcases hw with ⟨rv, a, b, -, c⟩ | ⟨a, b, c, -, d⟩
  · exact Or.inl ⟨rv, a, b, c⟩
  · exact Or.inr ⟨a, b, c, d⟩
theorem rt_rules {n nM L : Nat} {k b : Int32} {ol' : Int64} {P3 P4 Q : Prop} (hR : zRl fi fr) (h : zRt fi) (hn : fi 3 1 = nI n) (hn3 : n ≤ 30) (hnM : f1 30 2 = nI nM) (hnM3 : nM ≤ 30) (hL : fi 1 1 = nI L) (hL4 : L ≤ 400)
    (hc : (∃ rv : Int32, k = nI 0 ∧ ol' = rv.toInt64 ∧ ((∃ m D9, zRls (fi 2) L (fun t9 => fi (300 + t9) 1) n 401 (zS (fi 2) L 0) (zDru fi) 0 = .ok (m, D9) ∧ rv = nI m ∧ f1 0 14 = -1 ∧ zDru f1 = D9) ∧ f1 1 1 = nI 0 ∧ ∀ i k, ¬ (i = 1 ∨ i = 10 ∨ i = 11 ∨ i = 13 ∨ i = 14 ∨ (i = 0 ∧ k = 14)) → f1 i k = fi i k)) ∨ (k = nI 1 ∧ P3 ∧ (P4 ∧ (∃ p, p ≤ 400 ∧ zRls (fi 2) L (fun t9 => fi (300 + t9) 1) n 401 (zS (fi 2) L 0) (zDru fi) 0 = .error p ∧ f1 0 14 = nI p ∧ zDru f1 = zDru fi) ∧ f1 1 1 = nI 0 ∧ ∀ i k, ¬ (i = 1 ∨ i = 10 ∨ i = 11 ∨ i = 13 ∨ i = 14 ∨ (i = 0 ∧ k = 14)) → f1 i k = fi i k)))
    (hm : ((∃ m D9, zRls (f1 47) L (f1 31) nM 401 (zS (f1 47) L 0) (zDot f1) 0 = .ok (m, D9) ∧ b = nI m ∧ f2 30 0 = nI 0 ∧ f2 30 24 = -1 ∧ (∀ k, k < 4 + nM → zDot f2 k = D9 k) ∧ ∀ k, 4 + nM ≤ k → zDot f2 k = zDot f1 k) ∨ (∃ p, p ≤ 400 ∧ zRls (f1 47) L (f1 31) nM 401 (zS (f1 47) L 0) (zDot f1) 0 = .error p ∧ b = nI 0 ∧ f2 30 0 = nI 1 ∧ f2 30 24 = nI p ∧ zDot f2 = zDot f1)) ∧ f2 30 21 = nI 0 ∧ Q ∧ ∀ a b, ¬ (a = 40 ∨ a = 44 ∨ a = 45 ∨ a = 46 ∨ (a = 30 ∧ (b = 0 ∨ (21 ≤ b ∧ b ≤ 25)))) → f2 a b = f1 a b) : (zRt f2 ∧ f2 0 14 = f2 30 24) ∧ zEqv k b ol' f2 := by
  obtain ⟨⟨L', p1, p2, p3⟩, p4⟩ := h
  have eL : L' = L := zNi (by omega) (by omega) (p2.symm.trans hL)
  subst eL
  obtain ⟨⟨n', a1, a2, a3, a4, -⟩, -⟩ := hR
  have en : n' = n := zNi (by omega) (by omega) (a2.symm.trans hn)
  subst en
  obtain ⟨F, h11⟩ : (∀ i k, ¬ (i = 1 ∨ i = 10 ∨ i = 11 ∨ i = 13 ∨ i = 14 ∨ (i = 0 ∧ k = 14)) → f1 i k = fi i k) ∧ f1 1 1 = nI 0 := by
    rcases hc with ⟨rv, -, -, -, q, F⟩ | ⟨-, -, -, -, q, F⟩
    · exact ⟨F, q⟩
    · exact ⟨F, q⟩
  have enM : nM = n' := zNi (by omega) (by omega) (hnM.symm.trans (by rw [F 30 2 (by omega)]; exact a3))
  subst enM
  obtain ⟨hm, -, -, G⟩ := hm
  have e47 : f1 47 = fi 47 := funext (fun k => F 47 k (by omega))
  have e31 : f1 31 = fi 31 := funext (fun k => F 31 k (by omega))
  have eD : zDot f1 = zDot fi := zDot_cg (fun i k q => F i k (by omega))
  have eU : zDru f2 = zDru f1 := zDru_cg (fun i k q => G i k (by omega))
  have tb : zTb (fi 2) (fi 47) L' := fun j hj => (p3 j hj).1
  have eT : zRls (fi 2) L' (fun t9 => fi (300 + t9) 1) nM 401 (zS (fi 2) L' 0) (zDru fi) 0 = zRls (fi 47) L' (fi 31) nM 401 (zS (fi 47) L' 0) (zDot fi) 0 := by
    rw [← zS_tb tb, p4]
    exact zRls_tb tb (fun j hj => (a4 j hj).1) 401 _ _ 0 (zS_le (by omega))
  rw [eT] at hc
  rw [e47, e31, eD] at hm
  have l0 : f2 1 1 = nI 0 := by rw [G 1 1 (by omega)]; exact h11
  have z0 : zTc f2 0 := fun j hj => absurd hj (by omega)
  have k14 : f2 0 14 = f1 0 14 := G 0 14 (by omega)
  rcases hc with ⟨rv, c1, c2, ⟨m, D9, c3, c4, c5, c6⟩, -⟩ | ⟨c1, -, -, ⟨p, c2, c3, c4, c5⟩, -⟩
  · rcases hm with ⟨m', D', m1, m2, m3, m4, m5, m6⟩ | ⟨p, -, m1, -⟩
    · rw [c3] at m1
      cases m1
      refine ⟨⟨⟨⟨0, by omega, l0, z0⟩, ?_⟩, by rw [k14, c5, m4]⟩, by rw [c1, m3], fun _ => by rw [c2, c4, m2]⟩
      rw [eU, c6]
      funext i
      by_cases q : i < 4 + nM
      · exact (m5 i q).symm
      · rw [m6 i (by omega)]
        exact zRls_hi 401 _ _ 0 (zS_le (by omega)) m D9 c3 i (by omega)
    · rw [c3] at m1
      cases m1
  · rcases hm with ⟨m', D', m1, -⟩ | ⟨p', -, m1, m2, m3, m4, m5⟩
    · rw [c3] at m1
      cases m1
    · rw [c3] at m1
      cases m1
      refine ⟨⟨⟨⟨0, by omega, l0, z0⟩, by rw [eU, c5, m5, p4]⟩, by rw [k14, c4, m4]⟩, by rw [c1, m3], fun h9 => ?_⟩
      rw [c1] at h9
      exact absurd h9 (by decide)
theorem zRt.num (h : zRt fi) {k : Nat} (hk : k < 4) : fi 10 k = fi 44 k := by
  have := congrFun h.2 k
  simp only [zDru, zDot, if_pos hk] at this
  exact this
theorem zRt.plc (h : zRt fi) {t : Nat} (hk : t < 30) : fi 11 t = fi 40 t := by
  have := congrFun h.2 (4 + t)
  simp only [zDru, zDot] at this
  rw [if_neg (by omega), if_pos (by omega), if_neg (by omega), if_pos (by omega), show 4 + t - 4 = t by omega] at this
  exact this
theorem rt_b0 {L : Nat} (h : zRt fi) (hL : fi 1 1 = nI L) (hL4 : L ≤ 400) (e : ∀ j, f1 47 j = fi 47 j) : ∀ j, j < L → 0 ≤ (f1 47 j).toInt := fun j hj => by
  obtain ⟨⟨L', p1, p2, p3⟩, -⟩ := h
  have eL : L' = L := zNi (by omega) (by omega) (p2.symm.trans hL)
  subst eL
  rw [e]
  exact (p3 j hj).2
theorem rt_says {k b x : Int32} {ol' : Int64} {P3 : Prop} (h : zRt fi) (hc : (∃ rv : Int32, k = nI 0 ∧ ol' = rv.toInt64 ∧ (∃ k, k < 4 ∧ x = nI k ∧ rv = fi 10 k)) ∨ (k = nI 1 ∧ P3)) (h3 : P3 → ¬ (0 ≤ x.toInt ∧ x.toInt ≤ 3)) (hm : (∃ k, k < 4 ∧ x = nI k ∧ b = fi 44 k ∧ f2 = zu fi 30 0 (nI 0)) ∨ (¬ (0 ≤ x.toInt ∧ x.toInt ≤ 3) ∧ b = nI 0 ∧ f2 = zu fi 30 0 (nI 1))) : zEqv k b ol' f2 ∧ ∀ a b, ¬ (a = 30 ∧ b = 0) → f2 a b = fi a b := by
  have low : ∀ t, t < 4 → x = nI t → 0 ≤ x.toInt ∧ x.toInt ≤ 3 := fun t p q => by rw [q, nI_toInt (by omega)]; omega
  rcases hc with ⟨rv, c1, c2, t, c3, c4, c5⟩ | ⟨c1, p3⟩ <;> rcases hm with ⟨t', m1, m2, m3, m4⟩ | ⟨m1, m2, m3⟩
  · have et : t' = t := zNi (by omega) (by omega) (m2.symm.trans c4)
    subst et
    exact ⟨⟨by rw [c1, m4, zu_s], fun _ => by rw [c2, c5, m3, h.num c3]⟩, fun a b q => by rw [m4, zu_n (by omega)]⟩
  · exact absurd (low t c3 c4) m1
  · exact absurd (low t' m1 m2) (h3 p3)
  · exact ⟨zEqv.no (by omega) c1 m3, fun a b q => by rw [m3, zu_n (by omega)]⟩
theorem rt_instead {n nM : Nat} {k b x : Int32} {ol' : Int64} {P3 : Prop} (h : zRt fi) (hR : zRl fi fr) (hn : fi 3 1 = nI n) (hn3 : n ≤ 30) (hnM : fi 30 2 = nI nM) (hnM3 : nM ≤ 30) (hc : (∃ rv : Int32, k = nI 0 ∧ ol' = rv.toInt64 ∧ (∃ t, t < n ∧ x = nI t ∧ rv = fi 11 t)) ∨ (k = nI 1 ∧ P3)) (h3 : P3 → ¬ (0 ≤ x.toInt ∧ x.toInt < (n : Int))) (hm : (∃ t, t < nM ∧ x = nI t ∧ b = fi 40 t ∧ f2 = zu fi 30 0 (nI 0)) ∨ (¬ (0 ≤ x.toInt ∧ x.toInt < (nM : Int)) ∧ b = nI 0 ∧ f2 = zu fi 30 0 (nI 1))) : zEqv k b ol' f2 ∧ ∀ a b, ¬ (a = 30 ∧ b = 0) → f2 a b = fi a b := by
  obtain ⟨⟨n', a1, a2, a3, -⟩, -⟩ := hR
  have en : n' = n := zNi (by omega) (by omega) (a2.symm.trans hn)
  subst en
  have enM : nM = n' := zNi (by omega) (by omega) (hnM.symm.trans a3)
  subst enM
  have low : ∀ t, t < nM → x = nI t → 0 ≤ x.toInt ∧ x.toInt < (nM : Int) := fun t p q => by rw [q, nI_toInt (by omega)]; omega
  rcases hc with ⟨rv, c1, c2, t, c3, c4, c5⟩ | ⟨c1, p3⟩ <;> rcases hm with ⟨t', m1, m2, m3, m4⟩ | ⟨m1, m2, m3⟩
  · have et : t' = t := zNi (by omega) (by omega) (m2.symm.trans c4)
    subst et
    exact ⟨⟨by rw [c1, m4, zu_s], fun _ => by rw [c2, c5, m3, h.plc (by omega)]⟩, fun a b q => by rw [m4, zu_n (by omega)]⟩
  · exact absurd (low t c3 c4) m1
  · exact absurd (low t' m1 m2) (h3 p3)
  · exact ⟨zEqv.no (by omega) c1 m3, fun a b q => by rw [m3, zu_n (by omega)]⟩
end RT
/-! ===== THE FAULT ===== -/
section RFX
variable {τ τ' : zTy} {fi f1 f2 : zFi} {fr r1 : zFr}
theorem rf_k (h : fi 0 14 = fi 30 24) (F : ∀ i k, zTd i k → f1 i k = fi i k) : f1 0 14 = f1 30 24 := by
  rw [F 0 14 (by unfold zTd; omega), F 30 24 (by unfold zTd; omega)]; exact h
theorem cf_feed {L : Nat} {r : Int32} {R : Prop} (h : fi 0 14 = fi 30 24) (hw : (L + 20 ≤ 400 ∧ r = nI (L + 20) ∧ f1 1 1 = nI (L + 20) ∧ (∀ i, i ≠ 1 → i ≠ 2 → f1 i = fi i) ∧ R) ∨ (400 < L + 20 ∧ r = -1 ∧ f1 = fi)) : f1 0 14 = f1 30 24 := by
  rcases hw with ⟨-, -, -, a4, -⟩ | ⟨-, -, rfl⟩
  · rw [a4 0 (by omega) (by omega), a4 30 (by omega) (by omega)]; exact h
  · exact h
theorem cf_end {L : Nat} {r x : Int32} (h : fi 0 14 = fi 30 24) (hw : (r = 1 ∧ 0 ≤ x.toInt ∧ x.toInt ≤ L ∧ f1 = zu fi 1 1 x) ∨ (r = 0 ∧ ¬ (0 ≤ x.toInt ∧ x.toInt ≤ L) ∧ f1 = fi)) : f1 0 14 = f1 30 24 := by
  rcases hw with ⟨-, -, -, e⟩ | ⟨-, -, rfl⟩
  · rw [e, zu_n (by omega), zu_n (by omega)]; exact h
  · exact h
/-- what the class's letter tells, as the elder rows want it, and the fault -/
theorem lx_old {n o d : Nat} {r v : Int32} {P1 : Int32 → Prop} {P3 P4 P5 P6 : Prop} (hw : (∃ rv : Int32, r = nI 0 ∧ P1 rv ∧ (((o < 60 ∧ rv = nI o ∧ zLo τ fi fr n o d τ' f1 r1) ∨ (d < 512 ∧ zLd τ fi fr d τ' f1 r1)) ∧ f1 0 14 = v)) ∨ (r = nI 1 ∧ P3 ∧ (P4 ∧ zLg τ fi fr d τ' f1 r1 ∧ f1 0 14 = v)) ∨ (r = nI 2 ∧ P5 ∧ (P6 ∧ zLg τ fi fr d τ' f1 r1 ∧ f1 0 14 = v))) : ((∃ rv : Int32, r = nI 0 ∧ P1 rv ∧ ((o < 60 ∧ rv = nI o ∧ zLo τ fi fr n o d τ' f1 r1) ∨ (d < 512 ∧ zLd τ fi fr d τ' f1 r1))) ∨ (r = nI 1 ∧ P3 ∧ (P4 ∧ zLg τ fi fr d τ' f1 r1)) ∨ (r = nI 2 ∧ P5 ∧ (P6 ∧ zLg τ fi fr d τ' f1 r1))) ∧ f1 0 14 = v := by
  rcases hw with ⟨rv, a, b, c, e⟩ | ⟨a, b, c, d, e⟩ | ⟨a, b, c, d, e⟩
  · exact ⟨Or.inl ⟨rv, a, b, c⟩, e⟩
  · exact ⟨Or.inr (Or.inl ⟨a, b, c, d⟩), e⟩
  · exact ⟨Or.inr (Or.inr ⟨a, b, c, d⟩), e⟩
theorem rt_fault {L : Nat} (h : zRt fi) (hL : fi 1 1 = nI L) (hL4 : L ≤ 400) (e : ∀ j, f1 47 j = fi 47 j) : zFv (zLet (fi 2) L (zS (fi 2) L 0)) = zFv (zLet (f1 47) L (zS (f1 47) L 0)) := by
  obtain ⟨⟨L', p1, p2, p3⟩, -⟩ := h
  have eL : L' = L := zNi (by omega) (by omega) (p2.symm.trans hL)
  subst eL
  have e47 : f1 47 = fi 47 := funext e
  have tb : zTb (fi 2) (fi 47) L' := fun j hj => (p3 j hj).1
  rw [e47, ← zS_tb tb, zLet_tb tb (zS_le (by omega))]
end RFX
