/-! ===== THE TEXTS: the tape's bytes and the rules are alike ===== -/
def zTc (fi : zFi) (L : Nat) : Prop := ∀ j, j < L → ((fi 2 j).toInt = (fi 47 j).toInt ∨ ((fi 2 j).toInt < 0 ∧ 128 ≤ (fi 47 j).toInt)) ∧ 0 ≤ (fi 47 j).toInt
def zRt (fi : zFi) : Prop := (∃ L, L ≤ 400 ∧ fi 1 1 = nI L ∧ zTc fi L) ∧ zDru fi = zDot fi
def zTd (i k : Nat) : Prop := (i = 1 ∧ k = 1) ∨ i = 2 ∨ i = 47 ∨ i = 10 ∨ i = 11 ∨ i = 40 ∨ i = 44 ∨ (i = 0 ∧ k = 14) ∨ (i = 30 ∧ k = 24)
def zTd0 (i k : Nat) : Prop := (i = 1 ∧ k = 1) ∨ i = 2 ∨ i = 47 ∨ i = 10 ∨ i = 11 ∨ i = 40 ∨ i = 44
section RT
variable {τ τ' : zTy} {fi f1 f2 : zFi} {fr r1 : zFr}
theorem zRt.cg0 (h : zRt fi) (hi : ∀ i k, zTd0 i k → f1 i k = fi i k) : zRt f1 := by
  obtain ⟨⟨L, a1, a2, a3⟩, a4⟩ := h
  refine ⟨⟨L, a1, by rw [hi _ _ (by unfold zTd0; omega)]; exact a2, fun j hj => ?_⟩, ?_⟩
  · rw [hi 2 j (by unfold zTd0; omega), hi 47 j (by unfold zTd0; omega)]; exact a3 j hj
  · rw [zDru_cg (f := f1) (g := fi) (fun i k q => hi i k (by unfold zTd0; omega)), zDot_cg (f := f1) (g := fi) (fun i k q => hi i k (by unfold zTd0; omega))]; exact a4
theorem zRt.cg (h : zRt fi) (hi : ∀ i k, zTd i k → f1 i k = fi i k) : zRt f1 := h.cg0 (fun i k q => hi i k (by unfold zTd0 at q; unfold zTd; omega))
theorem zRv.dru {f : zFi} (h : zRv f 10 11) (h2 : zRv f 44 40) : zDru f = zDot f := by
  obtain ⟨⟨a0, a1, a2, a3⟩, a4⟩ := h
  obtain ⟨⟨b0, b1, b2, b3⟩, b4⟩ := h2
  funext k
  simp only [zDru, zDot]
  by_cases q : k < 4
  · rw [if_pos q, if_pos q]
    have : k = 0 ∨ k = 1 ∨ k = 2 ∨ k = 3 := by omega
    rcases this with rfl | rfl | rfl | rfl
    · rw [a0, b0]
    · rw [a1, b1]
    · rw [a2, b2]
    · rw [a3, b3]
  · by_cases q2 : k < 34
    · rw [if_neg q, if_pos q2, if_neg q, if_pos q2, a4 _ (by omega), b4 _ (by omega)]
    · rw [if_neg q, if_neg q2, if_neg q, if_neg q2]
theorem zBI.rt {x y j : Nat} (h : zBI τ fi fr 73 208 x y j) (ef : f1 = va_up fi 28 (fun _ => 0)) (h1 : zRv fi 10 11) (h2 : zRv fi 44 40) : zRt f1 := by
  have e : ∀ i k, i ≠ 28 → f1 i k = fi i k := fun i k q => by rw [ef, va_up_ne _ _ q]
  refine ⟨⟨0, by omega, by rw [e 1 1 (by omega), h.2.2.2 1 1 (by unfold zXc; omega)]; rfl, fun j hj => absurd hj (by omega)⟩, ?_⟩
  exact zRv.dru (h1.cg (fun i k q => e i k (by omega))) (h2.cg (fun i k q => e i k (by omega)))
theorem rt_feed {L : Nat} {r r' x0 x1 x2 x3 x4 : Int32} (h : zRt fi) (hL : fi 1 1 = nI L) (hL4 : L ≤ 400) (hw : (L + 20 ≤ 400 ∧ r = nI (L + 20) ∧ f1 1 1 = nI (L + 20) ∧ (∀ i, i ≠ 1 → i ≠ 2 → f1 i = fi i) ∧ (∀ b, b ≠ 1 → f1 1 b = fi 1 b) ∧ (∀ b, b < L → f1 2 b = fi 2 b) ∧ f1 2 (L + 0) = zB8 x0 24 ∧ f1 2 (L + 1) = zB8 x0 16 ∧ f1 2 (L + 2) = zB8 x0 8 ∧ f1 2 (L + 3) = zB8 x0 0 ∧ f1 2 (L + 4) = zB8 x1 24 ∧ f1 2 (L + 5) = zB8 x1 16 ∧ f1 2 (L + 6) = zB8 x1 8 ∧ f1 2 (L + 7) = zB8 x1 0 ∧ f1 2 (L + 8) = zB8 x2 24 ∧ f1 2 (L + 9) = zB8 x2 16 ∧ f1 2 (L + 10) = zB8 x2 8 ∧ f1 2 (L + 11) = zB8 x2 0 ∧ f1 2 (L + 12) = zB8 x3 24 ∧ f1 2 (L + 13) = zB8 x3 16 ∧ f1 2 (L + 14) = zB8 x3 8 ∧ f1 2 (L + 15) = zB8 x3 0 ∧ f1 2 (L + 16) = zB8 x4 24 ∧ f1 2 (L + 17) = zB8 x4 16 ∧ f1 2 (L + 18) = zB8 x4 8 ∧ f1 2 (L + 19) = zB8 x4 0) ∨ (400 < L + 20 ∧ r = -1 ∧ f1 = fi))
    (hm : (((L + 20 ≤ 400 ∧ r' = nI (L + 20) ∧ f2 30 21 = nI (L + 20)) ∨ (400 < L + 20 ∧ r' = -1 ∧ f2 30 21 = nI L)) ∧ ∀ a b, ¬ (a = 47 ∨ (a = 30 ∧ (b = 0 ∨ b = 21))) → f2 a b = f1 a b) ∧ (L + 20 ≤ 400 → (∀ b, b < L → f2 47 b = f1 47 b) ∧ f2 47 (L + 0) = zB9 x0 24 ∧ f2 47 (L + 1) = zB9 x0 16 ∧ f2 47 (L + 2) = zB9 x0 8 ∧ f2 47 (L + 3) = zB9 x0 0 ∧ f2 47 (L + 4) = zB9 x1 24 ∧ f2 47 (L + 5) = zB9 x1 16 ∧ f2 47 (L + 6) = zB9 x1 8 ∧ f2 47 (L + 7) = zB9 x1 0 ∧ f2 47 (L + 8) = zB9 x2 24 ∧ f2 47 (L + 9) = zB9 x2 16 ∧ f2 47 (L + 10) = zB9 x2 8 ∧ f2 47 (L + 11) = zB9 x2 0 ∧ f2 47 (L + 12) = zB9 x3 24 ∧ f2 47 (L + 13) = zB9 x3 16 ∧ f2 47 (L + 14) = zB9 x3 8 ∧ f2 47 (L + 15) = zB9 x3 0 ∧ f2 47 (L + 16) = zB9 x4 24 ∧ f2 47 (L + 17) = zB9 x4 16 ∧ f2 47 (L + 18) = zB9 x4 8 ∧ f2 47 (L + 19) = zB9 x4 0) ∧ (400 < L + 20 → ∀ b, f2 47 b = f1 47 b)) : zRt f2 := by
  obtain ⟨⟨-, F⟩, hb, hn⟩ := hm
  rcases hw with ⟨a1, -, a3, a4, -, a5, c0, c1, c2, c3, c4, c5, c6, c7, c8, c9, c10, c11, c12, c13, c14, c15, c16, c17, c18, c19⟩ | ⟨a1, -, rfl⟩
  · obtain ⟨b1, m0, m1, m2, m3, m4, m5, m6, m7, m8, m9, m10, m11, m12, m13, m14, m15, m16, m17, m18, m19⟩ := hb a1
    obtain ⟨⟨L', p1, p2, p3⟩, p4⟩ := h
    have eL : L' = L := zNi (by omega) (by omega) (p2.symm.trans hL)
    subst eL
    refine ⟨⟨L' + 20, a1, by rw [F _ _ (by omega)]; exact a3, fun j hj => ?_⟩, ?_⟩
    · by_cases q : j < L'
      · rw [F 2 j (by omega), a5 j q, b1 j q, a4 47 (by omega) (by omega)]; exact p3 j q
      · have hj2 : j = L' + 0 ∨ j = L' + 1 ∨ j = L' + 2 ∨ j = L' + 3 ∨ j = L' + 4 ∨ j = L' + 5 ∨ j = L' + 6 ∨ j = L' + 7 ∨ j = L' + 8 ∨ j = L' + 9 ∨ j = L' + 10 ∨ j = L' + 11 ∨ j = L' + 12 ∨ j = L' + 13 ∨ j = L' + 14 ∨ j = L' + 15 ∨ j = L' + 16 ∨ j = L' + 17 ∨ j = L' + 18 ∨ j = L' + 19 := by omega
        rw [F 2 j (by omega)]
        rcases hj2 with e | e | e | e | e | e | e | e | e | e | e | e | e | e | e | e | e | e | e | e
        · rw [e, c0, m0]; exact zB89 _ _
        · rw [e, c1, m1]; exact zB89 _ _
        · rw [e, c2, m2]; exact zB89 _ _
        · rw [e, c3, m3]; exact zB89 _ _
        · rw [e, c4, m4]; exact zB89 _ _
        · rw [e, c5, m5]; exact zB89 _ _
        · rw [e, c6, m6]; exact zB89 _ _
        · rw [e, c7, m7]; exact zB89 _ _
        · rw [e, c8, m8]; exact zB89 _ _
        · rw [e, c9, m9]; exact zB89 _ _
        · rw [e, c10, m10]; exact zB89 _ _
        · rw [e, c11, m11]; exact zB89 _ _
        · rw [e, c12, m12]; exact zB89 _ _
        · rw [e, c13, m13]; exact zB89 _ _
        · rw [e, c14, m14]; exact zB89 _ _
        · rw [e, c15, m15]; exact zB89 _ _
        · rw [e, c16, m16]; exact zB89 _ _
        · rw [e, c17, m17]; exact zB89 _ _
        · rw [e, c18, m18]; exact zB89 _ _
        · rw [e, c19, m19]; exact zB89 _ _
    · rw [zDru_cg (f := f2) (g := fi) (fun i k q => by rw [F i k (by omega), a4 i (by omega) (by omega)]), zDot_cg (f := f2) (g := fi) (fun i k q => by rw [F i k (by omega), a4 i (by omega) (by omega)])]; exact p4
  · exact h.cg (fun i k q => by
      by_cases e : i = 47
      · subst e; exact hn a1 k
      · exact F i k (by unfold zTd at q; omega))
theorem rt_end {L : Nat} {r x : Int32} (h : zRt fi) (hL : fi 1 1 = nI L) (hL4 : L ≤ 400) (hw : (r = 1 ∧ 0 ≤ x.toInt ∧ x.toInt ≤ L ∧ f1 = zu fi 1 1 x) ∨ (r = 0 ∧ ¬ (0 ≤ x.toInt ∧ x.toInt ≤ L) ∧ f1 = fi)) : zRt f1 := by
  rcases hw with ⟨-, a1, a2, e⟩ | ⟨-, -, rfl⟩
  · obtain ⟨⟨L', p1, p2, p3⟩, p4⟩ := h
    have eL : L' = L := zNi (by omega) (by omega) (p2.symm.trans hL)
    subst eL
    obtain ⟨L1, b1, b2⟩ := zNatB (x := x) (n := 401) a1 (by omega)
    have b3 : x.toInt = (L1 : Int) := by rw [b2, nI_toInt (by omega)]
    refine ⟨⟨L1, by omega, by rw [e, zu_s]; exact b2, fun j hj => ?_⟩, ?_⟩
    · rw [e, zu_n (by omega), zu_n (by omega)]; exact p3 j (by omega)
    · rw [zDru_cg (f := f1) (g := fi) (fun i k q => by rw [e, zu_n (by omega)]), zDot_cg (f := f1) (g := fi) (fun i k q => by rw [e, zu_n (by omega)])]; exact p4
  · exact h
theorem rt_len0 (h : zRt fi) (h0 : f1 1 1 = nI 0) (hi : ∀ i k, i = 10 ∨ i = 11 ∨ i = 40 ∨ i = 44 ∨ i = 47 → f1 i k = fi i k) : zRt f1 := ⟨⟨0, by omega, h0, fun j hj => absurd hj (by omega)⟩, by
  rw [zDru_cg (f := f1) (g := fi) (fun i k q => hi i k (by omega)), zDot_cg (f := f1) (g := fi) (fun i k q => hi i k (by omega))]; exact h.2⟩
theorem ct_letter {n o d : Nat} {r : Int32} {P1 : Int32 → Prop} {P3 P4 P5 P6 : Prop} (ho : o ≤ 60) (hd : d ≤ 512) (hw : (∃ rv : Int32, r = nI 0 ∧ P1 rv ∧ ((o < 60 ∧ rv = nI o ∧ zLo τ fi fr n o d τ' f1 r1) ∨ (d < 512 ∧ zLd τ fi fr d τ' f1 r1))) ∨ (r = nI 1 ∧ P3 ∧ (P4 ∧ zLg τ fi fr d τ' f1 r1)) ∨ (r = nI 2 ∧ P5 ∧ (P6 ∧ zLg τ fi fr d τ' f1 r1))) : f1 1 1 = nI 0 ∧ ∀ i k, i = 10 ∨ i = 11 ∨ i = 40 ∨ i = 44 ∨ i = 47 → f1 i k = fi i k := by
  rcases hw with ⟨rv, -, -, ⟨-, -, e⟩ | ⟨-, e⟩⟩ | ⟨-, -, -, e⟩ | ⟨-, -, -, e⟩
  · exact ⟨e.2.2.1, fun i k q => e.2.2.2.2.2.1 i k (by omega)⟩
  · exact ⟨e.2.2.1, fun i k q => e.2.2.2.2.1 i k (by omega)⟩
  · exact ⟨e.2.1, fun i k q => e.2.2.2.2.1 i k (by omega)⟩
  · exact ⟨e.2.1, fun i k q => e.2.2.2.2.1 i k (by omega)⟩
theorem ct_settle {n o d : Nat} {r x : Int32} {P1 : Int32 → Prop} {P3 P4 P5 : Prop} (ho : o ≤ 60) (hw : (∃ rv : Int32, r = nI 0 ∧ P1 rv ∧ ((τ' = τ ∧ r1 = fr ∧ ((∃ b, b < d ∧ x = nI b ∧ f1 = zu fi (3000 + b) 9 (nI 0)) ∨ f1 = fi)) ∨ (∃ b, b < d ∧ x = nI b ∧ rv = nI o ∧ zNO τ (zu fi (3000 + b) 9 (nI 0)) fr n o τ' f1 r1))) ∨ (r = nI 1 ∧ τ' = τ ∧ f1 = fi ∧ r1 = fr ∧ P3) ∨ (r = nI 2 ∧ τ' = τ ∧ f1 = fi ∧ r1 = fr ∧ P4) ∨ (r = nI 3 ∧ τ' = τ ∧ f1 = fi ∧ r1 = fr ∧ P5)) : ∀ i k, zTd i k → f1 i k = fi i k := fun i k q => by
  unfold zTd at q
  rcases hw with ⟨rv, -, -, ⟨-, -, ⟨b, -, -, e⟩ | rfl⟩ | ⟨b, -, -, -, e⟩⟩ | ⟨-, -, rfl, -, -⟩ | ⟨-, -, rfl, -, -⟩ | ⟨-, -, rfl, -, -⟩
  · rw [e, zu_n (by omega)]
  · rfl
  · rw [e.2.2.2.1 i k (by omega), zu_n (by omega)]
  all_goals rfl
theorem ct_back {r : Int32} {P3 P4 : Prop} (hw : (∃ rv : Int32, r = nI 0 ∧ (∀ i k, ¬ ((1000 ≤ i ∧ i < 1480 ∧ 3 ≤ k) ∨ (300 ≤ i ∧ i < 330 ∧ k = 5) ∨ (500 ≤ i ∧ i < 560 ∧ k = 4)) → f1 i k = fi i k)) ∨ (r = nI 1 ∧ f1 = fi ∧ P3) ∨ (r = nI 2 ∧ f1 = fi ∧ P4)) : ∀ i k, zTd i k → f1 i k = fi i k := fun i k q => by
  unfold zTd at q
  rcases hw with ⟨rv, -, F⟩ | ⟨-, rfl, -⟩ | ⟨-, rfl, -⟩
  · exact F i k (by omega)
  all_goals rfl
theorem ct_thing {n : Nat} {r x1 x2 x3 x4 : Int32} {P1 : Int32 → Prop} {P2 P3 P4 : Prop} (hw : (∃ rv : Int32, r = nI 0 ∧ P1 rv ∧ (n < 30 ∧ P2 ∧ rv = nI n ∧ zAdd τ fi fr n x1 x2 x3 x4 τ' f1 r1)) ∨ (r = nI 1 ∧ τ' = τ ∧ f1 = fi ∧ r1 = fr ∧ P3) ∨ (r = nI 2 ∧ τ' = τ ∧ f1 = fi ∧ r1 = fr ∧ P4)) : ∀ i k, zTd i k → f1 i k = fi i k := fun i k q => by
  unfold zTd at q
  rcases hw with ⟨rv, -, -, -, -, -, e⟩ | ⟨-, -, rfl, -⟩ | ⟨-, -, rfl, -⟩
  · exact e.2.2.2.1 i k (by omega)
  all_goals rfl
theorem ct_price {n : Nat} {r x y z w : Int32} {P1 : Int32 → Prop} {P2 P3 P4 P5 : Prop} (hw : (∃ rv : Int32, r = nI 0 ∧ P1 rv ∧ (∃ t k, t < n ∧ x = nI t ∧ P2 ∧ fi (300 + t) 6 = nI k ∧ k < 4 ∧ rv = nI (k + 1) ∧ f1 = zu (zu (zu (zu fi (340 + t) k y) (380 + t) k z) (420 + t) k w) (300 + t) 6 (nI (k + 1)))) ∨ (r = nI 1 ∧ f1 = fi ∧ P3) ∨ (r = nI 2 ∧ f1 = fi ∧ P4) ∨ (r = nI 3 ∧ f1 = fi ∧ P5)) : ∀ i k, zTd i k → f1 i k = fi i k := fun i k q => by
  unfold zTd at q
  rcases hw with ⟨rv, -, -, t, k, -, -, -, -, -, -, e⟩ | ⟨-, rfl, -⟩ | ⟨-, rfl, -⟩ | ⟨-, rfl, -⟩
  · rw [e, zu_n (by omega), zu_n (by omega), zu_n (by omega), zu_n (by omega)]
  all_goals rfl
theorem ct_pick {n p : Nat} {r x : Int32} {P1 : Int32 → Prop} {P2 P3 : Nat → Prop} {P5 : Prop} (hw : (∃ rv : Int32, r = nI 0 ∧ P1 rv ∧ (∃ b, b < n ∧ x = nI b ∧ ((rv = -1 ∧ f1 = fi ∧ r1 = fr ∧ P2 b) ∨ (p < 10 ∧ P3 b ∧ rv = nI (p + 1) ∧ f1 = zu fi 22 1 (nI (p + 1)) ∧ r1 = zur fr 23 p (some (300 + b)))))) ∨ (r = nI 1 ∧ f1 = fi ∧ r1 = fr ∧ P5)) : ∀ i k, zTd i k → f1 i k = fi i k := fun i k q => by
  unfold zTd at q
  rcases hw with ⟨rv, -, -, b, -, -, ⟨-, rfl, -⟩ | ⟨-, -, -, e, -⟩⟩ | ⟨-, rfl, -⟩
  · rfl
  · rw [e, zu_n (by omega)]
  · rfl
theorem ct_coming {n c : Nat} {r x y z : Int32} {P1 : Int32 → Prop} {P2 P3 P4 P5 : Prop} (hw : (∃ rv : Int32, r = nI 0 ∧ P1 rv ∧ (∃ b, b < n ∧ x = nI b ∧ P2 ∧ c < 60 ∧ rv = nI (c + 1) ∧ f1 = zu (zu (zu fi 7 c y) 8 c z) 5 3 (nI (c + 1)) ∧ r1 = zur fr 6 c (some (300 + b)))) ∨ (r = nI 1 ∧ f1 = fi ∧ r1 = fr ∧ P3) ∨ (r = nI 2 ∧ f1 = fi ∧ r1 = fr ∧ P4) ∨ (r = nI 3 ∧ f1 = fi ∧ r1 = fr ∧ P5)) : ∀ i k, zTd i k → f1 i k = fi i k := fun i k q => by
  unfold zTd at q
  rcases hw with ⟨rv, -, -, b, -, -, -, -, -, e, e2⟩ | ⟨-, rfl, rfl, -⟩ | ⟨-, rfl, rfl, -⟩ | ⟨-, rfl, rfl, -⟩
  · rw [e, zu_n (by omega), zu_n (by omega), zu_n (by omega)]
  all_goals rfl
theorem ct_days {n : Nat} {r x : Int32} {P1 : Int32 → Prop} {P9 : Int32 → Nat → Prop} {P3 : Prop} (hw : (∃ rv : Int32, r = nI 0 ∧ P1 rv ∧ (∃ b, b ≤ 100 ∧ x = nI b ∧ (∃ c2, zCm f1 r1 n c2) ∧ zDy n τ fi fr τ' f1 r1 ∧ P9 rv b)) ∨ (r = nI 1 ∧ τ' = τ ∧ f1 = fi ∧ r1 = fr ∧ P3)) : ∀ i k, zTd i k → f1 i k = fi i k := fun i k q => by
  unfold zTd at q
  rcases hw with ⟨rv, -, -, b, -, -, -, w, -⟩ | ⟨-, -, rfl, -⟩
  · exact w.2.1 i k (by omega)
  · rfl
theorem mt_thing {n : Nat} {r x1 x2 x3 x4 : Int32} {P : Prop} (hw : (P ∧ n < 30 ∧ r = nI n ∧ f1 = zu (zu (zu (zu (zu (zu (zu (zu fi 30 0 (nI 0)) 31 n x1) 32 n x2) 33 n x3) 34 n x4) 35 n (nI 0)) 36 n (nI 0)) 30 2 (nI (n + 1))) ∨ (¬ P ∧ r = nI 0 ∧ f1 = zu fi 30 0 (nI 1)) ∨ (P ∧ n = 30 ∧ r = nI 0 ∧ f1 = zu fi 30 0 (nI 2))) : ∀ i k, zTd i k → f1 i k = fi i k := fun i k q => by
  unfold zTd at q
  rcases hw with ⟨-, -, -, e⟩ | ⟨-, -, e⟩ | ⟨-, -, -, e⟩
  · rw [e, zu_n (by omega), zu_n (by omega), zu_n (by omega), zu_n (by omega), zu_n (by omega), zu_n (by omega), zu_n (by omega), zu_n (by omega)]
  · rw [e, zu_n (by omega)]
  · rw [e, zu_n (by omega)]
theorem zRls_hi {b cd : Nat → Int32} {L n : Nat} : ∀ f a D k, a ≤ L → ∀ m D', zRls b L cd n f a D k = .ok (m, D') → ∀ i, 4 + n ≤ i → D' i = D i := by
  intro f
  induction f with
  | zero => intro a D k _ m D' h; simp [zRls] at h
  | succ f ih =>
    intro a D k ha m D' h i hi
    simp only [zRls] at h
    cases e : zRul b L cd n a with
    | error p => rw [e] at h; simp at h
    | ok x =>
      rw [e] at h
      simp only at h
      have l := (zRul_le ha).2 x e
      have eu : zup D x.2.1 x.2.2 i = D i := by
        simp only [zup]
        rw [if_neg (by omega)]
      split at h
      · rename_i c
        rw [ih _ _ _ (zS_le (by omega)) m D' h i hi, eu]
      · split at h
        · simp at h
        · cases h
          exact eu
/-- what the class's rules tell, as the elder rows want it -/
theorem rx_old {r : Int32} {P1 X : Int32 → Prop} {P3 P4 X2 : Prop} (hw : (∃ rv : Int32, r = nI 0 ∧ P1 rv ∧ (X rv ∧ f1 1 1 = nI 0 ∧ ∀ i k, ¬ (i = 1 ∨ i = 10 ∨ i = 11 ∨ i = 13 ∨ i = 14 ∨ (i = 0 ∧ k = 14)) → f1 i k = fi i k)) ∨ (r = nI 1 ∧ P3 ∧ (P4 ∧ X2 ∧ f1 1 1 = nI 0 ∧ ∀ i k, ¬ (i = 1 ∨ i = 10 ∨ i = 11 ∨ i = 13 ∨ i = 14 ∨ (i = 0 ∧ k = 14)) → f1 i k = fi i k))) : (∃ rv : Int32, r = nI 0 ∧ P1 rv ∧ (f1 1 1 = nI 0 ∧ ∀ i k, ¬ (i = 1 ∨ i = 10 ∨ i = 11 ∨ i = 13 ∨ i = 14 ∨ (i = 0 ∧ k = 14)) → f1 i k = fi i k)) ∨ (r = nI 1 ∧ P3 ∧ (P4 ∧ f1 1 1 = nI 0 ∧ ∀ i k, ¬ (i = 1 ∨ i = 10 ∨ i = 11 ∨ i = 13 ∨ i = 14 ∨ (i = 0 ∧ k = 14)) → f1 i k = fi i k)) := by
  rcases hw with ⟨rv, a, b, -, c⟩ | ⟨a, b, c, -, d⟩
  · exact Or.inl ⟨rv, a, b, c⟩
  · exact Or.inr ⟨a, b, c, d⟩
theorem rt_rules {n nM L : Nat} {k b : Int32} {ol' : Int64} {P3 P4 Q : Prop} (hR : zRl fi fr) (h : zRt fi) (hn : fi 3 1 = nI n) (hn3 : n ≤ 30) (hnM : f1 30 2 = nI nM) (hnM3 : nM ≤ 30) (hL : fi 1 1 = nI L) (hL4 : L ≤ 400)
    (hc : (∃ rv : Int32, k = nI 0 ∧ ol' = rv.toInt64 ∧ ((∃ m D9, zRls (fi 2) L (fun t9 => fi (300 + t9) 1) n 401 (zS (fi 2) L 0) (zDru fi) 0 = .ok (m, D9) ∧ rv = nI m ∧ f1 0 14 = -1 ∧ zDru f1 = D9) ∧ f1 1 1 = nI 0 ∧ ∀ i k, ¬ (i = 1 ∨ i = 10 ∨ i = 11 ∨ i = 13 ∨ i = 14 ∨ (i = 0 ∧ k = 14)) → f1 i k = fi i k)) ∨ (k = nI 1 ∧ P3 ∧ (P4 ∧ (∃ p, p ≤ 400 ∧ zRls (fi 2) L (fun t9 => fi (300 + t9) 1) n 401 (zS (fi 2) L 0) (zDru fi) 0 = .error p ∧ f1 0 14 = nI p ∧ zDru f1 = zDru fi) ∧ f1 1 1 = nI 0 ∧ ∀ i k, ¬ (i = 1 ∨ i = 10 ∨ i = 11 ∨ i = 13 ∨ i = 14 ∨ (i = 0 ∧ k = 14)) → f1 i k = fi i k)))
    (hm : ((∃ m D9, zRls (f1 47) L (f1 31) nM 401 (zS (f1 47) L 0) (zDot f1) 0 = .ok (m, D9) ∧ b = nI m ∧ f2 30 0 = nI 0 ∧ f2 30 24 = -1 ∧ (∀ k, k < 4 + nM → zDot f2 k = D9 k) ∧ ∀ k, 4 + nM ≤ k → zDot f2 k = zDot f1 k) ∨ (∃ p, p ≤ 400 ∧ zRls (f1 47) L (f1 31) nM 401 (zS (f1 47) L 0) (zDot f1) 0 = .error p ∧ b = nI 0 ∧ f2 30 0 = nI 1 ∧ f2 30 24 = nI p ∧ zDot f2 = zDot f1)) ∧ f2 30 21 = nI 0 ∧ Q ∧ ∀ a b, ¬ (a = 40 ∨ a = 44 ∨ a = 45 ∨ a = 46 ∨ (a = 30 ∧ (b = 0 ∨ (21 ≤ b ∧ b ≤ 25)))) → f2 a b = f1 a b) : (zRt f2 ∧ f2 0 14 = f2 30 24) ∧ zEqv k b ol' f2 := by
  obtain ⟨⟨L', p1, p2, p3⟩, p4⟩ := h
  have eL : L' = L := zNi (by omega) (by omega) (p2.symm.trans hL)
  subst eL
  obtain ⟨⟨n', a1, a2, a3, a4, -⟩, -⟩ := hR
  have en : n' = n := zNi (by omega) (by omega) (a2.symm.trans hn)
  subst en
  obtain ⟨F, h11⟩ : (∀ i k, ¬ (i = 1 ∨ i = 10 ∨ i = 11 ∨ i = 13 ∨ i = 14 ∨ (i = 0 ∧ k = 14)) → f1 i k = fi i k) ∧ f1 1 1 = nI 0 := by
    rcases hc with ⟨rv, -, -, -, q, F⟩ | ⟨-, -, -, -, q, F⟩
    · exact ⟨F, q⟩
    · exact ⟨F, q⟩
  have enM : nM = n' := zNi (by omega) (by omega) (hnM.symm.trans (by rw [F 30 2 (by omega)]; exact a3))
  subst enM
  obtain ⟨hm, -, -, G⟩ := hm
  have e47 : f1 47 = fi 47 := funext (fun k => F 47 k (by omega))
  have e31 : f1 31 = fi 31 := funext (fun k => F 31 k (by omega))
  have eD : zDot f1 = zDot fi := zDot_cg (fun i k q => F i k (by omega))
  have eU : zDru f2 = zDru f1 := zDru_cg (fun i k q => G i k (by omega))
  have tb : zTb (fi 2) (fi 47) L' := fun j hj => (p3 j hj).1
  have eT : zRls (fi 2) L' (fun t9 => fi (300 + t9) 1) nM 401 (zS (fi 2) L' 0) (zDru fi) 0 = zRls (fi 47) L' (fi 31) nM 401 (zS (fi 47) L' 0) (zDot fi) 0 := by
    rw [← zS_tb tb, p4]
    exact zRls_tb tb (fun j hj => (a4 j hj).1) 401 _ _ 0 (zS_le (by omega))
  rw [eT] at hc
  rw [e47, e31, eD] at hm
  have l0 : f2 1 1 = nI 0 := by rw [G 1 1 (by omega)]; exact h11
  have z0 : zTc f2 0 := fun j hj => absurd hj (by omega)
  have k14 : f2 0 14 = f1 0 14 := G 0 14 (by omega)
  rcases hc with ⟨rv, c1, c2, ⟨m, D9, c3, c4, c5, c6⟩, -⟩ | ⟨c1, -, -, ⟨p, c2, c3, c4, c5⟩, -⟩
  · rcases hm with ⟨m', D', m1, m2, m3, m4, m5, m6⟩ | ⟨p, -, m1, -⟩
    · rw [c3] at m1
      cases m1
      refine ⟨⟨⟨⟨0, by omega, l0, z0⟩, ?_⟩, by rw [k14, c5, m4]⟩, by rw [c1, m3], fun _ => by rw [c2, c4, m2]⟩
      rw [eU, c6]
      funext i
      by_cases q : i < 4 + nM
      · exact (m5 i q).symm
      · rw [m6 i (by omega)]
        exact zRls_hi 401 _ _ 0 (zS_le (by omega)) m D9 c3 i (by omega)
    · rw [c3] at m1
      cases m1
  · rcases hm with ⟨m', D', m1, -⟩ | ⟨p', -, m1, m2, m3, m4, m5⟩
    · rw [c3] at m1
      cases m1
    · rw [c3] at m1
      cases m1
      refine ⟨⟨⟨⟨0, by omega, l0, z0⟩, by rw [eU, c5, m5, p4]⟩, by rw [k14, c4, m4]⟩, by rw [c1, m3], fun h9 => ?_⟩
      rw [c1] at h9
      exact absurd h9 (by decide)
theorem zRt.num (h : zRt fi) {k : Nat} (hk : k < 4) : fi 10 k = fi 44 k := by
  have := congrFun h.2 k
  simp only [zDru, zDot, if_pos hk] at this
  exact this
theorem zRt.plc (h : zRt fi) {t : Nat} (hk : t < 30) : fi 11 t = fi 40 t := by
  have := congrFun h.2 (4 + t)
  simp only [zDru, zDot] at this
  rw [if_neg (by omega), if_pos (by omega), if_neg (by omega), if_pos (by omega), show 4 + t - 4 = t by omega] at this
  exact this
theorem rt_b0 {L : Nat} (h : zRt fi) (hL : fi 1 1 = nI L) (hL4 : L ≤ 400) (e : ∀ j, f1 47 j = fi 47 j) : ∀ j, j < L → 0 ≤ (f1 47 j).toInt := fun j hj => by
  obtain ⟨⟨L', p1, p2, p3⟩, -⟩ := h
  have eL : L' = L := zNi (by omega) (by omega) (p2.symm.trans hL)
  subst eL
  rw [e]
  exact (p3 j hj).2
theorem rt_says {k b x : Int32} {ol' : Int64} {P3 : Prop} (h : zRt fi) (hc : (∃ rv : Int32, k = nI 0 ∧ ol' = rv.toInt64 ∧ (∃ k, k < 4 ∧ x = nI k ∧ rv = fi 10 k)) ∨ (k = nI 1 ∧ P3)) (h3 : P3 → ¬ (0 ≤ x.toInt ∧ x.toInt ≤ 3)) (hm : (∃ k, k < 4 ∧ x = nI k ∧ b = fi 44 k ∧ f2 = zu fi 30 0 (nI 0)) ∨ (¬ (0 ≤ x.toInt ∧ x.toInt ≤ 3) ∧ b = nI 0 ∧ f2 = zu fi 30 0 (nI 1))) : zEqv k b ol' f2 ∧ ∀ a b, ¬ (a = 30 ∧ b = 0) → f2 a b = fi a b := by
  have low : ∀ t, t < 4 → x = nI t → 0 ≤ x.toInt ∧ x.toInt ≤ 3 := fun t p q => by rw [q, nI_toInt (by omega)]; omega
  rcases hc with ⟨rv, c1, c2, t, c3, c4, c5⟩ | ⟨c1, p3⟩ <;> rcases hm with ⟨t', m1, m2, m3, m4⟩ | ⟨m1, m2, m3⟩
  · have et : t' = t := zNi (by omega) (by omega) (m2.symm.trans c4)
    subst et
    exact ⟨⟨by rw [c1, m4, zu_s], fun _ => by rw [c2, c5, m3, h.num c3]⟩, fun a b q => by rw [m4, zu_n (by omega)]⟩
  · exact absurd (low t c3 c4) m1
  · exact absurd (low t' m1 m2) (h3 p3)
  · exact ⟨zEqv.no (by omega) c1 m3, fun a b q => by rw [m3, zu_n (by omega)]⟩
theorem rt_instead {n nM : Nat} {k b x : Int32} {ol' : Int64} {P3 : Prop} (h : zRt fi) (hR : zRl fi fr) (hn : fi 3 1 = nI n) (hn3 : n ≤ 30) (hnM : fi 30 2 = nI nM) (hnM3 : nM ≤ 30) (hc : (∃ rv : Int32, k = nI 0 ∧ ol' = rv.toInt64 ∧ (∃ t, t < n ∧ x = nI t ∧ rv = fi 11 t)) ∨ (k = nI 1 ∧ P3)) (h3 : P3 → ¬ (0 ≤ x.toInt ∧ x.toInt < (n : Int))) (hm : (∃ t, t < nM ∧ x = nI t ∧ b = fi 40 t ∧ f2 = zu fi 30 0 (nI 0)) ∨ (¬ (0 ≤ x.toInt ∧ x.toInt < (nM : Int)) ∧ b = nI 0 ∧ f2 = zu fi 30 0 (nI 1))) : zEqv k b ol' f2 ∧ ∀ a b, ¬ (a = 30 ∧ b = 0) → f2 a b = fi a b := by
  obtain ⟨⟨n', a1, a2, a3, -⟩, -⟩ := hR
  have en : n' = n := zNi (by omega) (by omega) (a2.symm.trans hn)
  subst en
  have enM : nM = n' := zNi (by omega) (by omega) (hnM.symm.trans a3)
  subst enM
  have low : ∀ t, t < nM → x = nI t → 0 ≤ x.toInt ∧ x.toInt < (nM : Int) := fun t p q => by rw [q, nI_toInt (by omega)]; omega
  rcases hc with ⟨rv, c1, c2, t, c3, c4, c5⟩ | ⟨c1, p3⟩ <;> rcases hm with ⟨t', m1, m2, m3, m4⟩ | ⟨m1, m2, m3⟩
  · have et : t' = t := zNi (by omega) (by omega) (m2.symm.trans c4)
    subst et
    exact ⟨⟨by rw [c1, m4, zu_s], fun _ => by rw [c2, c5, m3, h.plc (by omega)]⟩, fun a b q => by rw [m4, zu_n (by omega)]⟩
  · exact absurd (low t c3 c4) m1
  · exact absurd (low t' m1 m2) (h3 p3)
  · exact ⟨zEqv.no (by omega) c1 m3, fun a b q => by rw [m3, zu_n (by omega)]⟩
end RT
/-! ===== THE DOUBTS ARE ALIKE ===== -/
def zGo (fi : zFi) : Prop := ∃ n, n ≤ 30 ∧ fi 30 2 = nI n ∧ ∀ t, t < n → (0 ≤ (fi 31 t).toInt ∧ (fi 31 t).toInt ≤ 9999) ∧ (∀ t', t' < n → fi 31 t = fi 31 t' → t = t') ∧ ∃ k, k ≤ 4 ∧ fi 36 t = nI k ∧ ∀ j, j < k → 1 ≤ (fi 37 (4 * t + j)).toInt ∧ (fi 37 (4 * t + j)).toInt ≤ 10000
def zDd (i k : Nat) : Prop := (i = 0 ∧ (k = 10 ∨ k = 11)) ∨ (3000 ≤ i ∧ i < 6000) ∨ (i = 30 ∧ (k = 2 ∨ k = 35 ∨ k = 36 ∨ k = 45)) ∨ i = 31 ∨ i = 36 ∨ i = 37 ∨ (200 ≤ i ∧ i < 240)
def zDq (fi : zFi) (g q : Nat) : Prop := (fi (3000 + q) 9 = fi (200 + 10 * g) q ∧ (fi (3000 + q) 9 = 0 ∨ fi (3000 + q) 9 = 1)) ∧ (fi (3000 + q) 5 = fi (201 + 10 * g) q ∧ fi (3000 + q) 2 = fi (202 + 10 * g) q ∧ fi (3000 + q) 8 = fi (203 + 10 * g) q ∧ fi (3000 + q) 3 = fi (204 + 10 * g) q ∧ fi (3000 + q) 4 = fi (205 + 10 * g) q) ∧ ∃ L lc mn, zqLw fi q L lc mn ∧ ∀ j, j < L → fi (206 + 10 * g) (8 * q + j) = nI (lc j) ∧ fi (207 + 10 * g) (8 * q + j) = nI (mn j)
def zRw (fi : zFi) (fr : zFr) : Prop := (∃ d g, d ≤ 512 ∧ g ≤ 3 ∧ fi 0 10 = nI d ∧ fi 30 35 = nI d ∧ fr 30 37 = some (200 + 10 * g) ∧ fi 30 36 = nI (zWt fi d) ∧ zWt fi d ≤ 20 ∧ ∀ q, q < d → zDq fi g q) ∧ ∃ o, o ≤ 60 ∧ fi 0 11 = nI o ∧ fi 30 45 = nI o
def zGw (i k : Nat) : Prop := (i = 30 ∧ k = 2) ∨ i = 31 ∨ i = 36 ∨ i = 37
def zDw (i k : Nat) : Prop := (i = 0 ∧ (k = 10 ∨ k = 11)) ∨ (3000 ≤ i ∧ i < 6000) ∨ (i = 30 ∧ (k = 35 ∨ k = 36 ∨ k = 45)) ∨ (200 ≤ i ∧ i < 240)
section RW
variable {τ τ' τ1 : zTy} {fi f1 f2 : zFi} {fr r1 r2 : zFr}
theorem zGo.cg (h : zGo fi) (hi : ∀ i k, zGw i k → f1 i k = fi i k) : zGo f1 := by
  obtain ⟨n, a1, a2, a3⟩ := h
  refine ⟨n, a1, by rw [hi _ _ (by unfold zGw; omega)]; exact a2, fun t ht => ?_⟩
  obtain ⟨b1, b2, k, b3, b4, b5⟩ := a3 t ht
  exact ⟨by rw [hi 31 t (by unfold zGw; omega)]; exact b1, fun t' q e => b2 t' q (by rw [← hi 31 t (by unfold zGw; omega), ← hi 31 t' (by unfold zGw; omega)]; exact e), k, b3, by rw [hi _ _ (by unfold zGw; omega)]; exact b4, fun j q => by rw [hi 37 _ (by unfold zGw; omega)]; exact b5 j q⟩
theorem zDq.cg {g g' q d : Nat} (h : zDq fi g q) (hq : q < d) (hi : ∀ i k, i = 3000 + q ∨ i = 4000 + q ∨ i = 5000 + q → f1 i k = fi i k) (hm : ∀ j, j < 8 → ∀ k, k < (if j < 6 then d else 8 * d) → f1 (200 + j + 10 * g') k = fi (200 + j + 10 * g) k) : zDq f1 g' q := by
  obtain ⟨⟨a1, a2⟩, ⟨a3, a4, a5, a6, a7⟩, L, lc, mn, b1, b2⟩ := h
  have e : ∀ k, f1 (3000 + q) k = fi (3000 + q) k := fun k => hi _ k (by omega)
  have m : ∀ j, j < 6 → f1 (200 + j + 10 * g') q = fi (200 + j + 10 * g) q := fun j hj => hm j (by omega) q (by rw [if_pos hj]; exact hq)
  have m0 := m 0 (by omega); have m1 := m 1 (by omega); have m2 := m 2 (by omega); have m3 := m 3 (by omega); have m4 := m 4 (by omega); have m5 := m 5 (by omega)
  simp only [Nat.add_zero] at m0
  refine ⟨⟨by rw [e, m0]; exact a1, by rw [e]; exact a2⟩, ⟨by rw [e, m1]; exact a3, by rw [e, m2]; exact a4, by rw [e, m3]; exact a5, by rw [e, m4]; exact a6, by rw [e, m5]; exact a7⟩, L, lc, mn, b1.cg (fun i k w => hi i k (by omega)), fun j hj => ?_⟩
  have l8 := b1.1
  have m6 := hm 6 (by omega) (8 * q + j) (by rw [if_neg (by omega)]; omega)
  have m7 := hm 7 (by omega) (8 * q + j) (by rw [if_neg (by omega)]; omega)
  exact ⟨by rw [m6]; exact (b2 j hj).1, by rw [m7]; exact (b2 j hj).2⟩
theorem zRw.cg (h : zRw fi fr) (hi : ∀ i k, zDw i k → f1 i k = fi i k) (hr : r1 30 37 = fr 30 37) : zRw f1 r1 := by
  obtain ⟨⟨d, g, d5, g3, a1, a2, a3, a4, a5, a6⟩, o, b0, b1, b2⟩ := h
  have ew : zWt f1 d = zWt fi d := zWt_cg (fun i q => hi _ _ (by unfold zDw; omega))
  exact ⟨⟨d, g, d5, g3, by rw [hi _ _ (by unfold zDw; omega)]; exact a1, by rw [hi _ _ (by unfold zDw; omega)]; exact a2, by rw [hr]; exact a3, by rw [hi _ _ (by unfold zDw; omega), ew]; exact a4, by rw [ew]; exact a5, fun q hq => (a6 q hq).cg hq (fun i k w => hi i k (by unfold zDw; omega)) (fun j hj k hk => hi _ _ (by unfold zDw; omega))⟩, o, b0, by rw [hi _ _ (by unfold zDw; omega)]; exact b1, by rw [hi _ _ (by unfold zDw; omega)]; exact b2⟩
/-! prices of today -/
def zMn (fi : zFi) (t : Nat) (x : Int32) : Nat → Int32
  | 0 => -1
  | k + 1 => if (fi 38 (4 * t + k)).toInt ≤ x.toInt ∧ x.toInt ≤ (fi 39 (4 * t + k)).toInt then fi 37 (4 * t + k) else zMn fi t x k
theorem zMn_ok {t : Nat} {x : Int32} : ∀ {k : Nat}, zMonM fi t k x (zMn fi t x k)
  | 0 => zMonM.z
  | k + 1 => by
    unfold zMn
    by_cases h : (fi 38 (4 * t + k)).toInt ≤ x.toInt ∧ x.toInt ≤ (fi 39 (4 * t + k)).toInt
    · rw [if_pos h]; exact zMonM.y h
    · rw [if_neg h]; exact zMonM.n zMn_ok h
theorem zMn_v {t : Nat} {x : Int32} : ∀ {k : Nat}, (∀ j, j < k → 1 ≤ (fi 37 (4 * t + j)).toInt ∧ (fi 37 (4 * t + j)).toInt ≤ 10000) → zMn fi t x k = -1 ∨ (1 ≤ (zMn fi t x k).toInt ∧ (zMn fi t x k).toInt ≤ 10000)
  | 0, _ => Or.inl rfl
  | k + 1, h => by
    unfold zMn
    split
    · exact Or.inr (h k (by omega))
    · exact zMn_v (fun j q => h j (by omega))
theorem zMon.of {t k : Nat} {y r : Int32} (h : ∀ j, j < k → fi (340 + t) j = fi 37 (4 * t + j) ∧ fi (380 + t) j = fi 38 (4 * t + j) ∧ fi (420 + t) j = fi 39 (4 * t + j)) (b : zMonM fi t k y r) : zMon fi t k y r := by
  rcases b with ⟨j, a, b, c, d⟩ | ⟨a, b⟩
  · exact Or.inl ⟨j, a, by rw [(h j a).2.1, (h j a).2.2]; exact b, fun i p q => by rw [(h i q).2.1, (h i q).2.2]; exact c i p q, by rw [(h j a).1]; exact d⟩
  · exact Or.inr ⟨fun j p => by rw [(h j p).2.1, (h j p).2.2]; exact a j p, b⟩
def zPn (r : Int32) : Nat := if r = -1 then 0 else zN r
theorem zPv_pn {r : Int32} (h : r = -1 ∨ (1 ≤ r.toInt ∧ r.toInt ≤ 10000)) : zPv (zPn r) = r ∧ zPn r ≤ 10000 := by
  unfold zPn
  rcases h with h | ⟨h1, h2⟩
  · rw [if_pos h]; exact ⟨by rw [h]; rfl, by omega⟩
  · have hn : ¬ r = -1 := fun e => by rw [e] at h1; exact absurd h1 (by decide)
    rw [if_neg hn]
    have h3 : 1 ≤ zN r := zN_ge (by omega)
    exact ⟨by unfold zPv; rw [if_neg (by omega)]; exact (zN_eq (by omega)).symm, zN_le (by omega)⟩
theorem zRl.pr {n td : Nat} (hR : zRl fi fr) (hG : zGo fi) (hn : fi 3 1 = nI n) (hn3 : n ≤ 30) (htd : fi 0 15 = nI td) (ht9 : td ≤ 999) : ∃ cd pN, zqPk fi n td cd pN ∧ zqPb fi n td cd pN := by
  obtain ⟨⟨n', a1, a2, a3, a4, -⟩, a5⟩ := hR
  have en : n' = n := zNi (by omega) (by omega) (a2.symm.trans hn)
  subst en
  obtain ⟨n2, g1, g2, g3⟩ := hG
  have en2 : n2 = n' := zNi (by omega) (by omega) (g2.symm.trans a3)
  subst en2
  refine ⟨fun t => zN (fi 31 t), fun t => zPn (zMn fi t (nI td) (zN (fi 36 t))), ⟨htd, ht9, hn3, fun t ht => ?_⟩, ⟨a5.symm.trans htd, ht9, fun t ht => ?_⟩⟩
  all_goals
    obtain ⟨⟨b1, b1'⟩, b2, k, b3, b4, b5⟩ := g3 t ht
    obtain ⟨c1, k', c2, c3, c4, c5⟩ := a4 t ht
    have ek : k' = k := zNi (by omega) (by omega) (c4.symm.trans b4)
    subst ek
    have ez : zN (fi 36 t) = k' := by unfold zN; rw [b4, nI_toInt (by omega)]; rfl
    have hv := zPv_pn (zMn_v (fi := fi) (t := t) (x := nI td) (k := k') b5)
    have hz : zN (fi 31 t) < 10000 := by have := zN_le (i := fi 31 t) (B := 9999) (by omega); omega
    have hd : ∀ t', t' < n2 → zN (fi 31 t) = zN (fi 31 t') → t = t' := fun t' q e => b2 t' q (by rw [zN_eq b1, zN_eq (g3 t' q).1.1, e])
  · exact ⟨by rw [c1]; exact zN_eq b1, hz, by simp only [ez]; exact hv.2, ⟨k', b3, c3, by simp only [ez]; rw [hv.1]; exact zMon.of c5 zMn_ok⟩, hd⟩
  · exact ⟨zN_eq b1, hz, by simp only [ez]; exact hv.2, ⟨k', b3, b4, by simp only [ez]; rw [hv.1]; exact zMn_ok⟩, hd⟩
theorem zGo.thing {n : Nat} {r x1 x2 x3 x4 : Int32} (h : zGo fi) (hn : fi 30 2 = nI n) (hn3 : n ≤ 30) (hw : ((0 ≤ x1.toInt ∧ x1.toInt ≤ 9999 ∧ 1 ≤ x2.toInt ∧ x2.toInt ≤ 2000 ∧ 0 ≤ x3.toInt ∧ x3.toInt ≤ 7 ∧ 1 ≤ x4.toInt ∧ x4.toInt ≤ 20 ∧ ∀ j, j < n → ¬ fi 31 j = x1) ∧ n < 30 ∧ r = nI n ∧ f1 = zu (zu (zu (zu (zu (zu (zu (zu fi 30 0 (nI 0)) 31 n x1) 32 n x2) 33 n x3) 34 n x4) 35 n (nI 0)) 36 n (nI 0)) 30 2 (nI (n + 1))) ∨ (¬ (0 ≤ x1.toInt ∧ x1.toInt ≤ 9999 ∧ 1 ≤ x2.toInt ∧ x2.toInt ≤ 2000 ∧ 0 ≤ x3.toInt ∧ x3.toInt ≤ 7 ∧ 1 ≤ x4.toInt ∧ x4.toInt ≤ 20 ∧ ∀ j, j < n → ¬ fi 31 j = x1) ∧ r = nI 0 ∧ f1 = zu fi 30 0 (nI 1)) ∨ ((0 ≤ x1.toInt ∧ x1.toInt ≤ 9999 ∧ 1 ≤ x2.toInt ∧ x2.toInt ≤ 2000 ∧ 0 ≤ x3.toInt ∧ x3.toInt ≤ 7 ∧ 1 ≤ x4.toInt ∧ x4.toInt ≤ 20 ∧ ∀ j, j < n → ¬ fi 31 j = x1) ∧ n = 30 ∧ r = nI 0 ∧ f1 = zu fi 30 0 (nI 2))) : zGo f1 := by
  rcases hw with ⟨⟨c1, c2, -, -, -, -, -, -, c3⟩, c4, -, e⟩ | ⟨-, -, e⟩ | ⟨-, -, -, e⟩
  · obtain ⟨n', a1, a2, a3⟩ := h
    have en : n' = n := zNi (by omega) (by omega) (a2.symm.trans hn)
    subst en
    have F : ∀ a b, ¬ ((a = 30 ∧ (b = 0 ∨ b = 2)) ∨ (31 ≤ a ∧ a ≤ 36 ∧ b = n')) → f1 a b = fi a b := fun a b q => by rw [e, zu_n (by omega), zu_n (by omega), zu_n (by omega), zu_n (by omega), zu_n (by omega), zu_n (by omega), zu_n (by omega), zu_n (by omega)]
    have e36 : f1 36 n' = nI 0 := by rw [e, zu_n (by omega), zu_s]
    have e31 : f1 31 n' = x1 := by rw [e, zu_n (by omega), zu_n (by omega), zu_n (by omega), zu_n (by omega), zu_n (by omega), zu_n (by omega), zu_s]
    refine ⟨n' + 1, by omega, by rw [e]; exact zu_s, fun t ht => ?_⟩
    by_cases q : t = n'
    · subst q
      exact ⟨by rw [e31]; exact ⟨c1, c2⟩, fun t' q2 e2 => by by_cases w : t' = t; (exact w.symm); (rw [e31, F 31 t' (by omega)] at e2; exact absurd e2.symm (c3 t' (by omega))), 0, by omega, e36, fun j hj => absurd hj (by omega)⟩
    · obtain ⟨b1, b2, k, b3, b4, b5⟩ := a3 t (by omega)
      exact ⟨by rw [F 31 t (by omega)]; exact b1, fun t' q2 e2 => by by_cases w : t' = n'; (subst w; rw [e31, F 31 t (by omega)] at e2; exact absurd e2 (c3 t (by omega))); (rw [F 31 t (by omega), F 31 t' (by omega)] at e2; exact b2 t' (by omega) e2), k, b3, by rw [F 36 t (by omega)]; exact b4, fun j hj => by rw [F 37 _ (by omega)]; exact b5 j hj⟩
  · exact h.cg (fun i k q => by unfold zGw at q; rw [e, zu_n (by omega)])
  · exact h.cg (fun i k q => by unfold zGw at q; rw [e, zu_n (by omega)])
theorem zGo.price {n : Nat} {r x y z w : Int32} {Q1 Q2 Q3 : Prop} (h : zGo fi) (hn : fi 30 2 = nI n) (hn3 : n ≤ 30) (hw : (∃ t k, t < n ∧ x = nI t ∧ (1 ≤ y.toInt ∧ y.toInt ≤ 10000 ∧ 0 ≤ z.toInt ∧ z.toInt ≤ 999 ∧ z.toInt ≤ w.toInt ∧ w.toInt ≤ 999) ∧ fi 36 t = nI k ∧ k < 4 ∧ r = nI (k + 1) ∧ f1 = zu (zu (zu (zu (zu fi 30 0 (nI 0)) 37 (4 * t + k) y) 38 (4 * t + k) z) 39 (4 * t + k) w) 36 t (nI (k + 1))) ∨ (Q1 ∧ r = nI 0 ∧ f1 = zu fi 30 0 (nI 1)) ∨ (Q2 ∧ Q3 ∧ r = nI 0 ∧ f1 = zu fi 30 0 (nI 2)) ∨ (∃ t, t < n ∧ x = nI t ∧ (1 ≤ y.toInt ∧ y.toInt ≤ 10000 ∧ 0 ≤ z.toInt ∧ z.toInt ≤ 999 ∧ z.toInt ≤ w.toInt ∧ w.toInt ≤ 999) ∧ fi 36 t = nI 4 ∧ r = nI 0 ∧ f1 = zu fi 30 0 (nI 3))) : zGo f1 := by
  rcases hw with ⟨t, k, c1, -, ⟨c2, c3, -⟩, c4, c5, -, e⟩ | ⟨-, -, e⟩ | ⟨-, -, -, e⟩ | ⟨t, -, -, -, -, -, e⟩
  · obtain ⟨n', a1, a2, a3⟩ := h
    have en : n' = n := zNi (by omega) (by omega) (a2.symm.trans hn)
    subst en
    have F : ∀ a b, ¬ ((a = 30 ∧ b = 0) ∨ (37 ≤ a ∧ a ≤ 39 ∧ b = 4 * t + k) ∨ (a = 36 ∧ b = t)) → f1 a b = fi a b := fun a b q => by rw [e, zu_n (by omega), zu_n (by omega), zu_n (by omega), zu_n (by omega), zu_n (by omega)]
    refine ⟨n', a1, by rw [F _ _ (by omega)]; exact a2, fun t2 ht => ?_⟩
    obtain ⟨b1, b2, k2, b3, b4, b5⟩ := a3 t2 ht
    refine ⟨by rw [F 31 t2 (by omega)]; exact b1, fun t' q2 e2 => b2 t' q2 (by rw [F 31 t2 (by omega), F 31 t' (by omega)] at e2; exact e2), ?_⟩
    by_cases q : t2 = t
    · subst q
      have ek : k2 = k := zNi (by omega) (by omega) (b4.symm.trans c4)
      subst ek
      refine ⟨k2 + 1, by omega, by rw [e]; exact zu_s, fun j hj => ?_⟩
      by_cases w2 : j = k2
      · subst w2
        rw [e, zu_n (by omega), zu_n (by omega), zu_n (by omega), zu_s]
        exact ⟨c2, c3⟩
      · rw [F 37 _ (by omega)]; exact b5 j (by omega)
    · exact ⟨k2, b3, by rw [F 36 t2 (by omega)]; exact b4, fun j hj => by rw [F 37 _ (by omega)]; exact b5 j hj⟩
  all_goals exact h.cg (fun i k q => by unfold zGw at q; rw [e, zu_n (by omega)])
theorem zBI.go {x y j : Nat} (h : zBI τ fi fr 73 208 x y j) (ef : f1 = va_up fi 28 (fun _ => 0)) : zGo f1 := ⟨0, by omega, by rw [ef, va_up_ne _ _ (by omega), h.2.2.2 30 2 (by unfold zXc; omega)]; rfl, fun t ht => absurd ht (by omega)⟩
theorem zBI.rw {x y j : Nat} (h : zBI τ fi fr 73 208 x y j) (ef : f1 = va_up fi 28 (fun _ => 0)) (h37 : r1 30 37 = some 200) : zRw f1 r1 := by
  have e : ∀ i k, i ≠ 28 → ¬ zXc i k → f1 i k = 0 := fun i k q w => by rw [ef, va_up_ne _ _ q]; exact h.2.2.2 i k w
  exact ⟨⟨0, 0, by omega, by omega, e 0 10 (by omega) (by unfold zXc; omega), e 30 35 (by omega) (by unfold zXc; omega), h37, e 30 36 (by omega) (by unfold zXc; omega), by unfold zWt; omega, fun q hq => absurd hq (by omega)⟩, 0, by omega, e 0 11 (by omega) (by unfold zXc; omega), e 30 45 (by omega) (by unfold zXc; omega)⟩
theorem zDue_cg {ru ru' : Nat → Int32} {x : Int32} (h1 : ru 1 = ru' 1) (h2 : ru 2 = ru' 2) : zDue ru x = zDue ru' x := by unfold zDue; rw [h1, h2]
theorem rw_lt {d K : Nat} (h : zRw fi fr) (hd : fi 0 10 = nI d) (hd5 : d ≤ 512) (hM : zMI τ fi fr K) (hK : K < 512) : d < 512 := by
  obtain ⟨⟨d', g, d5, g3, a1, a2, -⟩, -⟩ := h
  obtain ⟨n, c, o, g, Ln, dM, p, sn, td, Bd, h1, h2, h3, h4, h5, h6, -⟩ := hM
  have e1 : d' = d := zNi (by omega) (by omega) (a1.symm.trans hd)
  have l1 : dM ≤ 512 := by have := h5.1; have := h5.2.1; omega
  have e2 : dM = d' := zNi (by omega) (by omega) (h5.2.2.1.symm.trans a2)
  omega
theorem rw_letEq {L : Nat} (h : zRt fi) (hL : fi 1 1 = nI L) (hL4 : L ≤ 400) (e : ∀ j, f1 47 j = fi 47 j) : zLet (fi 2) L (zS (fi 2) L 0) = zLet (f1 47) L (zS (f1 47) L 0) := by
  obtain ⟨⟨L', p1, p2, p3⟩, -⟩ := h
  have eL : L' = L := zNi (by omega) (by omega) (p2.symm.trans hL)
  subst eL
  have e47 : f1 47 = fi 47 := funext e
  have tb : zTb (fi 2) (fi 47) L' := fun j hj => (p3 j hj).1
  rw [e47, ← zS_tb tb, zLet_tb tb (zS_le (by omega))]
/-- paid alike -/
theorem zLm2.paid {n td : Nat} {cd pN : Nat → Nat} {x : Nat × (Nat → Int32) × (Nat → Int32) × Int32 × Int32} {lc2 : Nat → Nat} {m2 b2 : Nat} {ru ru' : Nat → Int32} (h : zLm2 cd pN n x lc2 m2 b2) (hx : zGd x) (hPk : zqPk fi n td cd pN) (h1 : ru 1 = ru' 1) (h2 : ru 2 = ru' 2) : (b2 = 1 ∧ zPd cd pN n ru x.1 lc2 (zMnN x) x.2.2.2.2) ↔ (b2 = 1 ∧ (zDue ru' (nI (zN x.2.2.2.1))).toInt ≤ x.2.2.2.2.toInt) := by
  constructor
  · rintro ⟨e, p⟩
    obtain ⟨s1, s2⟩ := zMe.sum h e hx.2.1 hx.1 (fun j hj => zN_ge (by have := (hx.2.2.1 j hj).2.1; omega)) (fun t t' q1 q2 e => (hPk.2.2.2 t q1).2.2.2.2 t' q2 e)
    have p2 := p.2
    rw [s1, zDue_cg h1 h2] at p2
    exact ⟨e, p2⟩
  · rintro ⟨e, p⟩
    obtain ⟨s1, s2⟩ := zMe.sum h e hx.2.1 hx.1 (fun j hj => zN_ge (by have := (hx.2.2.1 j hj).2.1; omega)) (fun t t' q1 q2 e => (hPk.2.2.2 t q1).2.2.2.2 t' q2 e)
    exact ⟨e, by rw [s1]; exact s2, by rw [s1, zDue_cg h1 h2]; exact p⟩
theorem cw_back {r : Int32} {P3 P4 : Prop} (hw : (∃ rv : Int32, r = nI 0 ∧ (∀ i k, ¬ ((1000 ≤ i ∧ i < 1480 ∧ 3 ≤ k) ∨ (300 ≤ i ∧ i < 330 ∧ k = 5) ∨ (500 ≤ i ∧ i < 560 ∧ k = 4)) → f1 i k = fi i k)) ∨ (r = nI 1 ∧ f1 = fi ∧ P3) ∨ (r = nI 2 ∧ f1 = fi ∧ P4)) : ∀ i k, zDd i k → f1 i k = fi i k := fun i k q => by
  unfold zDd at q
  rcases hw with ⟨rv, -, F⟩ | ⟨-, rfl, -⟩ | ⟨-, rfl, -⟩
  · exact F i k (by omega)
  all_goals rfl
theorem cw_thing {n : Nat} {r x1 x2 x3 x4 : Int32} {P1 : Int32 → Prop} {P2 P3 P4 : Prop} (hw : (∃ rv : Int32, r = nI 0 ∧ P1 rv ∧ (n < 30 ∧ P2 ∧ rv = nI n ∧ zAdd τ fi fr n x1 x2 x3 x4 τ' f1 r1)) ∨ (r = nI 1 ∧ τ' = τ ∧ f1 = fi ∧ r1 = fr ∧ P3) ∨ (r = nI 2 ∧ τ' = τ ∧ f1 = fi ∧ r1 = fr ∧ P4)) : ∀ i k, zDd i k → f1 i k = fi i k := fun i k q => by
  unfold zDd at q
  rcases hw with ⟨rv, -, -, hn9, -, -, e⟩ | ⟨-, -, rfl, -⟩ | ⟨-, -, rfl, -⟩
  · exact e.2.2.2.1 i k (by omega)
  all_goals rfl
theorem cw_price {n : Nat} {r x y z w : Int32} {P1 : Int32 → Prop} {P2 P3 P4 P5 : Prop} (hn3 : n ≤ 30) (hw : (∃ rv : Int32, r = nI 0 ∧ P1 rv ∧ (∃ t k, t < n ∧ x = nI t ∧ P2 ∧ fi (300 + t) 6 = nI k ∧ k < 4 ∧ rv = nI (k + 1) ∧ f1 = zu (zu (zu (zu fi (340 + t) k y) (380 + t) k z) (420 + t) k w) (300 + t) 6 (nI (k + 1)))) ∨ (r = nI 1 ∧ f1 = fi ∧ P3) ∨ (r = nI 2 ∧ f1 = fi ∧ P4) ∨ (r = nI 3 ∧ f1 = fi ∧ P5)) : ∀ i k, zDd i k → f1 i k = fi i k := fun i k q => by
  unfold zDd at q
  rcases hw with ⟨rv, -, -, t, k, ht9, -, -, -, -, -, e⟩ | ⟨-, rfl, -⟩ | ⟨-, rfl, -⟩ | ⟨-, rfl, -⟩
  · rw [e, zu_n (by omega), zu_n (by omega), zu_n (by omega), zu_n (by omega)]
  all_goals rfl
theorem cw_pick {n p : Nat} {r x : Int32} {P1 : Int32 → Prop} {P2 P3 : Nat → Prop} {P5 : Prop} (hw : (∃ rv : Int32, r = nI 0 ∧ P1 rv ∧ (∃ b, b < n ∧ x = nI b ∧ ((rv = -1 ∧ f1 = fi ∧ r1 = fr ∧ P2 b) ∨ (p < 10 ∧ P3 b ∧ rv = nI (p + 1) ∧ f1 = zu fi 22 1 (nI (p + 1)) ∧ r1 = zur fr 23 p (some (300 + b)))))) ∨ (r = nI 1 ∧ f1 = fi ∧ r1 = fr ∧ P5)) : ∀ i k, zDd i k → f1 i k = fi i k := fun i k q => by
  unfold zDd at q
  rcases hw with ⟨rv, -, -, b, -, -, ⟨-, rfl, -⟩ | ⟨-, -, -, e, -⟩⟩ | ⟨-, rfl, -⟩
  · rfl
  · rw [e, zu_n (by omega)]
  · rfl
theorem cw_coming {n c : Nat} {r x y z : Int32} {P1 : Int32 → Prop} {P2 P3 P4 P5 : Prop} (hw : (∃ rv : Int32, r = nI 0 ∧ P1 rv ∧ (∃ b, b < n ∧ x = nI b ∧ P2 ∧ c < 60 ∧ rv = nI (c + 1) ∧ f1 = zu (zu (zu fi 7 c y) 8 c z) 5 3 (nI (c + 1)) ∧ r1 = zur fr 6 c (some (300 + b)))) ∨ (r = nI 1 ∧ f1 = fi ∧ r1 = fr ∧ P3) ∨ (r = nI 2 ∧ f1 = fi ∧ r1 = fr ∧ P4) ∨ (r = nI 3 ∧ f1 = fi ∧ r1 = fr ∧ P5)) : ∀ i k, zDd i k → f1 i k = fi i k := fun i k q => by
  unfold zDd at q
  rcases hw with ⟨rv, -, -, b, -, -, -, -, -, e, e2⟩ | ⟨-, rfl, rfl, -⟩ | ⟨-, rfl, rfl, -⟩ | ⟨-, rfl, rfl, -⟩
  · rw [e, zu_n (by omega), zu_n (by omega), zu_n (by omega)]
  all_goals rfl
theorem cw_days {n : Nat} {r x : Int32} {P1 : Int32 → Prop} {P9 : Int32 → Nat → Prop} {P3 : Prop} (hw : (∃ rv : Int32, r = nI 0 ∧ P1 rv ∧ (∃ b, b ≤ 100 ∧ x = nI b ∧ (∃ c2, zCm f1 r1 n c2) ∧ zDy n τ fi fr τ' f1 r1 ∧ P9 rv b)) ∨ (r = nI 1 ∧ τ' = τ ∧ f1 = fi ∧ r1 = fr ∧ P3)) : ∀ i k, zDd i k → f1 i k = fi i k := fun i k q => by
  unfold zDd at q
  rcases hw with ⟨rv, -, -, b, -, -, -, w, -⟩ | ⟨-, -, rfl, -⟩
  · exact w.2.1 i k (by omega)
  · rfl
theorem cw_feed {L : Nat} {r : Int32} {R : Prop} (hw : (L + 20 ≤ 400 ∧ r = nI (L + 20) ∧ f1 1 1 = nI (L + 20) ∧ (∀ i, i ≠ 1 → i ≠ 2 → f1 i = fi i) ∧ R) ∨ (400 < L + 20 ∧ r = -1 ∧ f1 = fi)) : ∀ i k, zDd i k → f1 i k = fi i k := fun i k q => by
  unfold zDd at q
  rcases hw with ⟨-, -, -, a4, -⟩ | ⟨-, -, rfl⟩
  · rw [a4 i (by omega) (by omega)]
  · rfl
theorem cw_end {L : Nat} {r x : Int32} (hw : (r = 1 ∧ 0 ≤ x.toInt ∧ x.toInt ≤ L ∧ f1 = zu fi 1 1 x) ∨ (r = 0 ∧ ¬ (0 ≤ x.toInt ∧ x.toInt ≤ L) ∧ f1 = fi)) : ∀ i k, zDd i k → f1 i k = fi i k := fun i k q => by
  unfold zDd at q
  rcases hw with ⟨-, -, -, e⟩ | ⟨-, -, rfl⟩
  · rw [e, zu_n (by omega)]
  · rfl
theorem cw_rules {r : Int32} {P1 : Int32 → Prop} {P3 P4 : Prop} (hw : (∃ rv : Int32, r = nI 0 ∧ P1 rv ∧ (f1 1 1 = nI 0 ∧ ∀ i k, ¬ (i = 1 ∨ i = 10 ∨ i = 11 ∨ i = 13 ∨ i = 14 ∨ (i = 0 ∧ k = 14)) → f1 i k = fi i k)) ∨ (r = nI 1 ∧ P3 ∧ (P4 ∧ f1 1 1 = nI 0 ∧ ∀ i k, ¬ (i = 1 ∨ i = 10 ∨ i = 11 ∨ i = 13 ∨ i = 14 ∨ (i = 0 ∧ k = 14)) → f1 i k = fi i k))) : ∀ i k, zDd i k → f1 i k = fi i k := fun i k q => by
  unfold zDd at q
  rcases hw with ⟨rv, -, -, -, F⟩ | ⟨-, -, -, -, F⟩ <;> exact F i k (by omega)
theorem cv_thing {n : Nat} {r x1 x2 x3 x4 : Int32} {P1 : Int32 → Prop} {P2 P3 P4 : Prop} (hw : (∃ rv : Int32, r = nI 0 ∧ P1 rv ∧ (n < 30 ∧ P2 ∧ rv = nI n ∧ zAdd τ fi fr n x1 x2 x3 x4 τ' f1 r1)) ∨ (r = nI 1 ∧ τ' = τ ∧ f1 = fi ∧ r1 = fr ∧ P3) ∨ (r = nI 2 ∧ τ' = τ ∧ f1 = fi ∧ r1 = fr ∧ P4)) : r1 30 37 = fr 30 37 := by
  rcases hw with ⟨rv, -, -, -, -, -, e⟩ | ⟨-, -, -, rfl, -⟩ | ⟨-, -, -, rfl, -⟩
  · exact e.2.2.2.2.1 30 37 (by omega)
  all_goals rfl
theorem cv_pick {n p : Nat} {r x : Int32} {P1 : Int32 → Prop} {P2 P3 : Nat → Prop} {P5 : Prop} (hw : (∃ rv : Int32, r = nI 0 ∧ P1 rv ∧ (∃ b, b < n ∧ x = nI b ∧ ((rv = -1 ∧ f1 = fi ∧ r1 = fr ∧ P2 b) ∨ (p < 10 ∧ P3 b ∧ rv = nI (p + 1) ∧ f1 = zu fi 22 1 (nI (p + 1)) ∧ r1 = zur fr 23 p (some (300 + b)))))) ∨ (r = nI 1 ∧ f1 = fi ∧ r1 = fr ∧ P5)) : r1 30 37 = fr 30 37 := by
  rcases hw with ⟨rv, -, -, b, -, -, ⟨-, -, rfl, -⟩ | ⟨-, -, -, -, e⟩⟩ | ⟨-, -, rfl, -⟩
  · rfl
  · rw [e, zur_n (by omega)]
  · rfl
theorem cv_coming {n c : Nat} {r x y z : Int32} {P1 : Int32 → Prop} {P2 P3 P4 P5 : Prop} (hw : (∃ rv : Int32, r = nI 0 ∧ P1 rv ∧ (∃ b, b < n ∧ x = nI b ∧ P2 ∧ c < 60 ∧ rv = nI (c + 1) ∧ f1 = zu (zu (zu fi 7 c y) 8 c z) 5 3 (nI (c + 1)) ∧ r1 = zur fr 6 c (some (300 + b)))) ∨ (r = nI 1 ∧ f1 = fi ∧ r1 = fr ∧ P3) ∨ (r = nI 2 ∧ f1 = fi ∧ r1 = fr ∧ P4) ∨ (r = nI 3 ∧ f1 = fi ∧ r1 = fr ∧ P5)) : r1 30 37 = fr 30 37 := by
  rcases hw with ⟨rv, -, -, b, -, -, -, -, -, e, e2⟩ | ⟨-, -, rfl, -⟩ | ⟨-, -, rfl, -⟩ | ⟨-, -, rfl, -⟩
  · rw [e2, zur_n (by omega)]
  all_goals rfl
theorem cv_days {n : Nat} {r x : Int32} {P1 : Int32 → Prop} {P9 : Int32 → Nat → Prop} {P3 : Prop} (hw : (∃ rv : Int32, r = nI 0 ∧ P1 rv ∧ (∃ b, b ≤ 100 ∧ x = nI b ∧ (∃ c2, zCm f1 r1 n c2) ∧ zDy n τ fi fr τ' f1 r1 ∧ P9 rv b)) ∨ (r = nI 1 ∧ τ' = τ ∧ f1 = fi ∧ r1 = fr ∧ P3)) : r1 30 37 = fr 30 37 := by
  rcases hw with ⟨rv, -, -, b, -, -, -, w, -⟩ | ⟨-, -, -, rfl, -⟩
  · exact w.2.2.1 30 37 (by omega)
  · rfl
theorem mw_thing {n : Nat} {r x1 x2 x3 x4 : Int32} {P : Prop} (hw : (P ∧ n < 30 ∧ r = nI n ∧ f1 = zu (zu (zu (zu (zu (zu (zu (zu fi 30 0 (nI 0)) 31 n x1) 32 n x2) 33 n x3) 34 n x4) 35 n (nI 0)) 36 n (nI 0)) 30 2 (nI (n + 1))) ∨ (¬ P ∧ r = nI 0 ∧ f1 = zu fi 30 0 (nI 1)) ∨ (P ∧ n = 30 ∧ r = nI 0 ∧ f1 = zu fi 30 0 (nI 2))) : ∀ i k, zDw i k → f1 i k = fi i k := fun i k q => by
  unfold zDw at q
  rcases hw with ⟨-, -, -, e⟩ | ⟨-, -, e⟩ | ⟨-, -, -, e⟩
  · rw [e, zu_n (by omega), zu_n (by omega), zu_n (by omega), zu_n (by omega), zu_n (by omega), zu_n (by omega), zu_n (by omega), zu_n (by omega)]
  · rw [e, zu_n (by omega)]
  · rw [e, zu_n (by omega)]
theorem zDd.w {i k : Nat} (q : zDw i k) : zDd i k := by unfold zDw at q; unfold zDd; omega
theorem zDd.g {i k : Nat} (q : zGw i k) : zDd i k := by unfold zGw at q; unfold zDd; omega
theorem zRl.nn {n : Nat} (h : zRl fi fr) (hn : fi 3 1 = nI n) (hn3 : n ≤ 30) : fi 30 2 = nI n := by
  obtain ⟨⟨n', a1, a2, a3, -⟩, -⟩ := h
  have e : n' = n := zNi (by omega) (by omega) (a2.symm.trans hn)
  rw [a3, e]
theorem rw_wq (h : zRw fi fr) : ∃ w, w ≤ 20 ∧ fi 30 36 = nI w := by
  obtain ⟨⟨d, g, d5, g3, a1, a2, a3, a4, a5, a6⟩, -⟩ := h
  exact ⟨_, a5, a4⟩
theorem zWt_pos {b : Nat} (h : ¬ fi (3000 + b) 9 = 0) : ∀ {d : Nat}, b < d → 1 ≤ zWt fi d
  | 0, hb => absurd hb (by omega)
  | d + 1, hb => by
    by_cases e : b = d
    · subst e; rw [← zWt_y h]; omega
    · have ih := zWt_pos h (d := d) (by omega)
      unfold zWt
      omega
theorem rw_bl {dM gM wq : Nat} (h : zRw fi fr) (hd : fi 30 35 = nI dM) (hd5 : dM ≤ 512) (h37 : fr 30 37 = some (200 + 10 * gM)) (hq : fi 30 36 = nI wq) (hq9 : wq ≤ 20) : (∀ k, k < dM → fi (200 + 10 * gM) k = 0 ∨ fi (200 + 10 * gM) k = 1) ∧ ∀ b, b < dM → ¬ fi (200 + 10 * gM) b = 0 → 1 ≤ wq := by
  obtain ⟨⟨d, g, d5, g3, a1, a2, a3, a4, a5, a6⟩, -⟩ := h
  have e1 : d = dM := zNi (by omega) (by omega) (a2.symm.trans hd)
  subst e1
  have e2 : gM = g := by have h9 := Option.some.inj (h37.symm.trans a3); omega
  subst e2
  have e3 : wq = zWt fi d := zNi (by omega) (by omega) (hq.symm.trans a4)
  exact ⟨fun k hk => by rw [← (a6 k hk).1.1]; exact (a6 k hk).1.2, fun b hb hn => by rw [e3]; exact zWt_pos (by rw [(a6 b hb).1.1]; exact hn) hb⟩
theorem rw_fn {d : Nat} (h : zRw fi fr) (hd : fi 0 10 = nI d) (hd5 : d ≤ 512) : ∃ (LL : Nat → Nat) (LC MN : Nat → Nat → Nat), (∀ q, q < d → zqLw fi q (LL q) (LC q) (MN q)) ∧ ∀ dM gM, fi 30 35 = nI dM → dM ≤ 512 → fr 30 37 = some (200 + 10 * gM) → ∀ k, k < dM → fi (202 + 10 * gM) k = nI (LL k) ∧ LL k ≤ 8 ∧ ∀ j, j < LL k → fi (206 + 10 * gM) (8 * k + j) = nI (LC k j) ∧ LC k j < 10000 ∧ fi (207 + 10 * gM) (8 * k + j) = nI (MN k j) ∧ 1 ≤ MN k j ∧ MN k j ≤ 99 := by
  obtain ⟨⟨d', g, d5, g3, a1, a2, a3, a4, a5, a6⟩, -⟩ := h
  have e0 : d' = d := zNi (by omega) (by omega) (a1.symm.trans hd)
  subst e0
  have key : ∀ q, q < d' → zqLw fi q (zN (fi (3000 + q) 2)) (fun j => zN (fi (4000 + q) j)) (fun j => zN (fi (5000 + q) j)) ∧ fi (202 + 10 * g) q = nI (zN (fi (3000 + q) 2)) ∧ ∀ j, j < zN (fi (3000 + q) 2) → fi (206 + 10 * g) (8 * q + j) = nI (zN (fi (4000 + q) j)) ∧ fi (207 + 10 * g) (8 * q + j) = nI (zN (fi (5000 + q) j)) := fun q hq => by
    obtain ⟨-, ⟨-, b2, -⟩, L, lc, mn, c1, c2⟩ := a6 q hq
    have nn : ∀ v : Nat, v < 2147483648 → zN (nI v) = v := fun v hv => by unfold zN; rw [nI_toInt hv]; rfl
    have l8 := c1.1
    have eL : zN (fi (3000 + q) 2) = L := by rw [c1.2.1, nn L (by omega)]
    have ec : ∀ j, j < L → zN (fi (4000 + q) j) = lc j := fun j hj => by have := (c1.2.2 j hj).2.1; rw [(c1.2.2 j hj).1, nn _ (by omega)]
    have em : ∀ j, j < L → zN (fi (5000 + q) j) = mn j := fun j hj => by have := (c1.2.2 j hj).2.2.2.2; rw [(c1.2.2 j hj).2.2.1, nn _ (by omega)]
    rw [eL]
    exact ⟨⟨l8, c1.2.1, fun j hj => by simp only; rw [ec j hj, em j hj]; exact c1.2.2 j hj⟩, b2.symm.trans c1.2.1, fun j hj => by rw [ec j hj, em j hj]; exact c2 j hj⟩
  refine ⟨fun q => zN (fi (3000 + q) 2), fun q j => zN (fi (4000 + q) j), fun q j => zN (fi (5000 + q) j), fun q hq => (key q hq).1, fun dM gM m1 m2 m3 k hk => ?_⟩
  have e1 : dM = d' := zNi (by omega) (by omega) (m1.symm.trans a2)
  subst e1
  have e2 : gM = g := by have h9 := Option.some.inj (m3.symm.trans a3); omega
  subst e2
  obtain ⟨k1, k2, k3⟩ := key k hk
  exact ⟨k2, k1.1, fun j hj => ⟨(k3 j hj).1, (k1.2.2 j hj).2.1, (k3 j hj).2, (k1.2.2 j hj).2.2.2⟩⟩
end RW
/-! ===== LETTER, DOUBT AND SETTLE ANSWER ALIKE ===== -/
section RY
variable {τ τ1 τ2 : zTy} {fi f1 f2 : zFi} {fr r1 r2 : zFr} {n nM td L q d dM o oM gM LnM wq : Nat} {cd pN : Nat → Nat} {kc rb : Int32} {ol0 ol' : Int64}
theorem lx_oldN (hw : (∃ rv : Int32, kc = nI 0 ∧ ol' = rv.toInt64 ∧ ((∃ xl lc2 m2 b2, zLet (fi 2) L (zS (fi 2) L 0) = .ok xl ∧ zLm2 cd pN n xl lc2 m2 b2 ∧ (((b2 = 1 ∧ zPd cd pN n (fi 10) xl.1 lc2 (zMnN xl) xl.2.2.2.2) ∧ o < 60 ∧ rv = nI o ∧ zLo τ fi fr n o q τ1 f1 r1) ∨ (¬ (b2 = 1 ∧ zPd cd pN n (fi 10) xl.1 lc2 (zMnN xl) xl.2.2.2.2) ∧ zWt fi q < 20 ∧ rv = -1 - nI (q + 1) ∧ zLd τ fi fr q τ1 f1 r1 ∧ zqLw f1 q xl.1 lc2 (zMnN xl) ∧ f1 (3000 + q) 3 = nI (zN xl.2.2.2.1) ∧ f1 (3000 + q) 4 = xl.2.2.2.2 ∧ f1 (3000 + q) 5 = nI m2 ∧ f1 (3000 + q) 8 = nI (zCn (fun j => zPo cd pN n (lc2 j)) xl.1) ∧ f1 (3000 + q) 9 = nI 1))) ∧ f1 0 14 = zFv (zLet (fi 2) L (zS (fi 2) L 0)))) ∨ (kc = nI 1 ∧ ol' = ol0 ∧ ((True ∧ (∃ p, zLet (fi 2) L (zS (fi 2) L 0) = .error p) ∧ zLg τ fi fr q τ1 f1 r1 ∧ f1 0 14 = zFv (zLet (fi 2) L (zS (fi 2) L 0))) ∨ ("java/lang/IllegalArgumentException" = "java/lang/UnsupportedOperationException" ∧ (∃ xl lc2 m2 b2, zLet (fi 2) L (zS (fi 2) L 0) = .ok xl ∧ zLm2 cd pN n xl lc2 m2 b2 ∧ (((b2 = 1 ∧ zPd cd pN n (fi 10) xl.1 lc2 (zMnN xl) xl.2.2.2.2) ∧ o = 60) ∨ (¬ (b2 = 1 ∧ zPd cd pN n (fi 10) xl.1 lc2 (zMnN xl) xl.2.2.2.2) ∧ 20 ≤ zWt fi q))) ∧ zLg τ fi fr q τ1 f1 r1 ∧ f1 0 14 = zFv (zLet (fi 2) L (zS (fi 2) L 0))))) ∨ (kc = nI 2 ∧ ol' = ol0 ∧ (("java/lang/UnsupportedOperationException" = "java/lang/IllegalArgumentException" ∧ (∃ p, zLet (fi 2) L (zS (fi 2) L 0) = .error p) ∧ zLg τ fi fr q τ1 f1 r1 ∧ f1 0 14 = zFv (zLet (fi 2) L (zS (fi 2) L 0))) ∨ (True ∧ (∃ xl lc2 m2 b2, zLet (fi 2) L (zS (fi 2) L 0) = .ok xl ∧ zLm2 cd pN n xl lc2 m2 b2 ∧ (((b2 = 1 ∧ zPd cd pN n (fi 10) xl.1 lc2 (zMnN xl) xl.2.2.2.2) ∧ o = 60) ∨ (¬ (b2 = 1 ∧ zPd cd pN n (fi 10) xl.1 lc2 (zMnN xl) xl.2.2.2.2) ∧ 20 ≤ zWt fi q))) ∧ zLg τ fi fr q τ1 f1 r1 ∧ f1 0 14 = zFv (zLet (fi 2) L (zS (fi 2) L 0)))))) : (∃ rv : Int32, kc = nI 0 ∧ ol' = rv.toInt64 ∧ ((o < 60 ∧ rv = nI o ∧ zLo τ fi fr n o q τ1 f1 r1) ∨ (q < 512 ∧ zLd τ fi fr q τ1 f1 r1))) ∨ (kc = nI 1 ∧ ol' = ol0 ∧ (True ∧ zLg τ fi fr q τ1 f1 r1)) ∨ (kc = nI 2 ∧ ol' = ol0 ∧ (True ∧ zLg τ fi fr q τ1 f1 r1)) := by
  rcases hw with ⟨rv, c1, c2, ⟨xl, lc2, m2, b2, cR, cM, ⟨cp, co, cr, cL⟩ | ⟨cp, cw, cr, cL, -⟩⟩, -⟩ | ⟨c1, c2, hX⟩ | ⟨c1, c2, hX⟩
  · exact Or.inl ⟨rv, c1, c2, Or.inl ⟨co, cr, cL⟩⟩
  · exact Or.inl ⟨rv, c1, c2, Or.inr ⟨by have := cL.1.1; omega, cL⟩⟩
  · exact Or.inr (Or.inl ⟨c1, c2, trivial, by rcases hX with h9 | h9 <;> exact h9.2.2.1⟩)
  · exact Or.inr (Or.inr ⟨c1, c2, trivial, by rcases hX with h9 | h9 <;> exact h9.2.2.1⟩)
theorem lx_frm (ho6 : o ≤ 60) (hw : (∃ rv : Int32, kc = nI 0 ∧ ol' = rv.toInt64 ∧ ((o < 60 ∧ rv = nI o ∧ zLo τ fi fr n o q τ1 f1 r1) ∨ (q < 512 ∧ zLd τ fi fr q τ1 f1 r1))) ∨ (kc = nI 1 ∧ ol' = ol0 ∧ (True ∧ zLg τ fi fr q τ1 f1 r1)) ∨ (kc = nI 2 ∧ ol' = ol0 ∧ (True ∧ zLg τ fi fr q τ1 f1 r1))) : (∀ i k, ¬ (i = 0 ∨ i = 1 ∨ (500 ≤ i ∧ i < 1480) ∨ i = 3000 + q ∨ i = 4000 + q ∨ i = 5000 + q) → f1 i k = fi i k) ∧ ∀ k, r1 30 k = fr 30 k := by
  rcases hw with ⟨rv, -, -, ⟨h6, -, cL⟩ | ⟨-, cL⟩⟩ | ⟨-, -, -, cL⟩ | ⟨-, -, -, cL⟩
  · exact ⟨fun i k w => cL.2.2.2.2.2.1 i k (by omega), fun k => cL.2.2.2.2.2.2.1 30 k (by omega)⟩
  · exact ⟨fun i k w => cL.2.2.2.2.1 i k (by omega), fun k => cL.2.2.2.2.2 30 k (by omega)⟩
  · exact ⟨fun i k w => cL.2.2.2.2.1 i k (by omega), fun k => cL.2.2.2.2.2 30 k (by omega)⟩
  · exact ⟨fun i k w => cL.2.2.2.2.1 i k (by omega), fun k => cL.2.2.2.2.2 30 k (by omega)⟩
theorem rw_letter (hTx : zRt fi) (hD : zRw fi fr) (enM : nM = n) (hL : fi 1 1 = nI L) (hL4 : L ≤ 400) (hd : fi 0 10 = nI q) (hd5 : q ≤ 512) (ho : fi 0 11 = nI o) (ho6 : o ≤ 60) (hPk : zqPk fi n td cd pN) (hdM : f1 30 35 = nI dM) (hdM5 : dM ≤ 512) (hoM : f1 30 45 = nI oM) (hoM6 : oM ≤ 60) (hgM : gM ≤ 3) (h37 : r1 30 37 = some (200 + 10 * gM)) (hwq : f1 30 36 = nI wq) (hw9 : wq ≤ 20)
    (hc : (∃ rv : Int32, kc = nI 0 ∧ ol' = rv.toInt64 ∧ ((∃ xl lc2 m2 b2, zLet (fi 2) L (zS (fi 2) L 0) = .ok xl ∧ zLm2 cd pN n xl lc2 m2 b2 ∧ (((b2 = 1 ∧ zPd cd pN n (fi 10) xl.1 lc2 (zMnN xl) xl.2.2.2.2) ∧ o < 60 ∧ rv = nI o ∧ zLo τ fi fr n o q τ1 f1 r1) ∨ (¬ (b2 = 1 ∧ zPd cd pN n (fi 10) xl.1 lc2 (zMnN xl) xl.2.2.2.2) ∧ zWt fi q < 20 ∧ rv = -1 - nI (q + 1) ∧ zLd τ fi fr q τ1 f1 r1 ∧ zqLw f1 q xl.1 lc2 (zMnN xl) ∧ f1 (3000 + q) 3 = nI (zN xl.2.2.2.1) ∧ f1 (3000 + q) 4 = xl.2.2.2.2 ∧ f1 (3000 + q) 5 = nI m2 ∧ f1 (3000 + q) 8 = nI (zCn (fun j => zPo cd pN n (lc2 j)) xl.1) ∧ f1 (3000 + q) 9 = nI 1))) ∧ f1 0 14 = zFv (zLet (fi 2) L (zS (fi 2) L 0)))) ∨ (kc = nI 1 ∧ ol' = ol0 ∧ ((True ∧ (∃ p, zLet (fi 2) L (zS (fi 2) L 0) = .error p) ∧ zLg τ fi fr q τ1 f1 r1 ∧ f1 0 14 = zFv (zLet (fi 2) L (zS (fi 2) L 0))) ∨ ("java/lang/IllegalArgumentException" = "java/lang/UnsupportedOperationException" ∧ (∃ xl lc2 m2 b2, zLet (fi 2) L (zS (fi 2) L 0) = .ok xl ∧ zLm2 cd pN n xl lc2 m2 b2 ∧ (((b2 = 1 ∧ zPd cd pN n (fi 10) xl.1 lc2 (zMnN xl) xl.2.2.2.2) ∧ o = 60) ∨ (¬ (b2 = 1 ∧ zPd cd pN n (fi 10) xl.1 lc2 (zMnN xl) xl.2.2.2.2) ∧ 20 ≤ zWt fi q))) ∧ zLg τ fi fr q τ1 f1 r1 ∧ f1 0 14 = zFv (zLet (fi 2) L (zS (fi 2) L 0))))) ∨ (kc = nI 2 ∧ ol' = ol0 ∧ (("java/lang/UnsupportedOperationException" = "java/lang/IllegalArgumentException" ∧ (∃ p, zLet (fi 2) L (zS (fi 2) L 0) = .error p) ∧ zLg τ fi fr q τ1 f1 r1 ∧ f1 0 14 = zFv (zLet (fi 2) L (zS (fi 2) L 0))) ∨ (True ∧ (∃ xl lc2 m2 b2, zLet (fi 2) L (zS (fi 2) L 0) = .ok xl ∧ zLm2 cd pN n xl lc2 m2 b2 ∧ (((b2 = 1 ∧ zPd cd pN n (fi 10) xl.1 lc2 (zMnN xl) xl.2.2.2.2) ∧ o = 60) ∨ (¬ (b2 = 1 ∧ zPd cd pN n (fi 10) xl.1 lc2 (zMnN xl) xl.2.2.2.2) ∧ 20 ≤ zWt fi q))) ∧ zLg τ fi fr q τ1 f1 r1 ∧ f1 0 14 = zFv (zLet (fi 2) L (zS (fi 2) L 0))))))
    (hm : ((∃ o2, oM ≤ o2 ∧ o2 ≤ oM + 1 ∧ zMo f2 nM o2) ∧ (∃ g2 L2 d2, d2 ≤ dM + 1 ∧ zMq τ2 f2 r2 g2 L2 d2) ∧ f2 30 21 = nI 0 ∧ zGz τ1 r1 τ2 r2 ∧ ∀ a b, ¬ (a = 48 ∨ a = 49 ∨ (50 ≤ a ∧ a ≤ 64) ∨ (200 ≤ a ∧ a < 240) ∨ (a = 30 ∧ (b = 0 ∨ (21 ≤ b ∧ b ≤ 36) ∨ b = 45))) → f2 a b = f1 a b) ∧ f2 30 24 = (zFv (zLet (f1 47) L (zS (f1 47) L 0))) ∧ (((∃ p, zLet (f1 47) L (zS (f1 47) L 0) = .error p) ∧ f2 30 0 = nI 1 ∧ f2 30 45 = nI oM ∧ τ2 = τ1 ∧ r2 = r1 ∧ f2 30 35 = nI dM ∧ f2 30 36 = nI wq ∧ ∀ a b, 200 ≤ a → a < 240 → f2 a b = f1 a b) ∨ ((∃ xl lc2 m2 b2, zLet (f1 47) L (zS (f1 47) L 0) = .ok xl ∧ zLm2 cd pN nM xl lc2 m2 b2 ∧ (((b2 = 1 ∧ (zDue (f1 44) (nI (zN xl.2.2.2.1))).toInt ≤ xl.2.2.2.2.toInt) ∧ oM = 60) ∨ (¬ (b2 = 1 ∧ (zDue (f1 44) (nI (zN xl.2.2.2.1))).toInt ≤ xl.2.2.2.2.toInt) ∧ wq = 20))) ∧ f2 30 0 = nI 2 ∧ f2 30 45 = nI oM ∧ τ2 = τ1 ∧ r2 = r1 ∧ f2 30 35 = nI dM ∧ f2 30 36 = nI wq ∧ ∀ a b, 200 ≤ a → a < 240 → f2 a b = f1 a b) ∨ ((∃ xl lc2 m2 b2, zLet (f1 47) L (zS (f1 47) L 0) = .ok xl ∧ zLm2 cd pN nM xl lc2 m2 b2 ∧ b2 = 1 ∧ (zDue (f1 44) (nI (zN xl.2.2.2.1))).toInt ≤ xl.2.2.2.2.toInt) ∧ oM < 60 ∧ rb = nI oM ∧ f2 30 0 = nI 0 ∧ f2 30 45 = nI (oM + 1) ∧ τ2 = τ1 ∧ r2 = r1 ∧ f2 30 35 = nI dM ∧ f2 30 36 = nI wq ∧ ∀ a b, 200 ≤ a → a < 240 → f2 a b = f1 a b) ∨ ((∃ xl lc2 m2 b2, zLet (f1 47) L (zS (f1 47) L 0) = .ok xl ∧ zLm2 cd pN nM xl lc2 m2 b2 ∧ ¬ (b2 = 1 ∧ (zDue (f1 44) (nI (zN xl.2.2.2.1))).toInt ≤ xl.2.2.2.2.toInt) ∧ ∃ g2 L2, zMq τ2 f2 r2 g2 L2 (dM + 1) ∧ (∀ j, j < 8 → ∀ k, k < (if j < 6 then dM else 8 * dM) → f2 (200 + j + 10 * g2) k = f1 (200 + j + 10 * gM) k) ∧ f2 30 36 = nI (wq + 1) ∧ f2 (200 + 10 * g2) dM = nI 1 ∧ f2 (201 + 10 * g2) dM = nI m2 ∧ f2 (202 + 10 * g2) dM = nI xl.1 ∧ f2 (203 + 10 * g2) dM = nI (zCn (fun j => zPo cd pN nM (lc2 j)) xl.1) ∧ f2 (204 + 10 * g2) dM = nI (zN xl.2.2.2.1) ∧ f2 (205 + 10 * g2) dM = xl.2.2.2.2 ∧ ∀ j, j < xl.1 → f2 (206 + 10 * g2) (8 * dM + j) = nI (lc2 j) ∧ f2 (207 + 10 * g2) (8 * dM + j) = nI (zMnN xl j)) ∧ ¬ wq = 20 ∧ rb = -1 - nI (dM + 1) ∧ f2 30 0 = nI 0 ∧ f2 30 45 = nI oM))) : zRw f2 r2 ∧ zEqv kc rb ol' f2 := by
  obtain ⟨F, G0⟩ := lx_frm ho6 (lx_oldN hc)
  have G := G0 37
  obtain ⟨⟨d', g, d5, g3, a1, a2, a3, a4, a5, a6⟩, o', b0, b1, b2⟩ := hD
  have ed : d' = q := zNi (by omega) (by omega) (a1.symm.trans hd)
  subst ed
  have eo : o' = o := zNi (by omega) (by omega) (b1.symm.trans ho)
  subst eo
  have edM : dM = d' := zNi (by omega) (by omega) (hdM.symm.trans ((F 30 35 (by omega)).trans a2))
  subst edM
  have eoM : oM = o' := zNi (by omega) (by omega) (hoM.symm.trans ((F 30 45 (by omega)).trans b2))
  subst eoM
  have egM : gM = g := by have h9 := Option.some.inj (h37.symm.trans (G.trans a3)); omega
  subst egM
  have ew : wq = zWt fi dM := zNi (by omega) (by omega) (hwq.symm.trans ((F 30 36 (by omega)).trans a4))
  have eT := rw_letEq (f1 := f1) hTx hL hL4 (fun j => F 47 j (by omega))
  have r1' : fi 10 1 = f1 44 1 := (hTx.num (k := 1) (by omega)).trans (F 44 1 (by omega)).symm
  have r2' : fi 10 2 = f1 44 2 := (hTx.num (k := 2) (by omega)).trans (F 44 2 (by omega)).symm
  obtain ⟨⟨-, -, -, -, G2⟩, -, hm⟩ := hm
  rw [← eT] at hm
  have ewt : zWt f2 dM = zWt fi dM := zWt_cg (fun i hi => by rw [G2 _ _ (by omega), F _ _ (by omega)])
  have KP : ∀ o2 : Nat, o2 ≤ 60 → f2 0 10 = nI dM → f2 0 11 = nI o2 → f2 30 45 = nI o2 → (τ2 = τ1 ∧ r2 = r1 ∧ f2 30 35 = nI dM ∧ f2 30 36 = nI wq ∧ ∀ a b, 200 ≤ a → a < 240 → f2 a b = f1 a b) → zRw f2 r2 := fun o2 p1 p2 p3 p4 e => by
    obtain ⟨-, e1, e2, e3, e4⟩ := e
    exact ⟨⟨dM, gM, d5, g3, p2, e2, by rw [e1, G]; exact a3, by rw [e3, ewt, ew], by rw [ewt]; exact a5, fun q hq => (a6 q hq).cg hq (fun i k w => by rw [G2 i k (by omega), F i k (by omega)]) (fun j hj k hk => by rw [e4 _ _ (by omega) (by omega), F _ _ (by omega)])⟩, o2, p1, p3, p4⟩
  have no : ∀ v : Nat, v = 1 ∨ v = 2 → kc = nI v → f2 30 0 = nI v → zEqv kc rb ol' f2 := fun v hv e1 e2 => ⟨by rw [e1, e2], fun h9 => by rw [e1, nI_toInt (by omega)] at h9; omega⟩
  rcases hc with ⟨rv, c1, c2, ⟨xl, lc2, m2, b9, cR, cM, ⟨cp, co, cr, cL⟩ | ⟨cp, cw, cr, cL, cl1, cl2, cl3, cl4, cl5, cl6⟩⟩, -⟩ | ⟨c1, -, hX⟩ | ⟨c1, -, hX⟩
  · have hpp := cM.paid (zLet_in cR) hPk r1' r2'
    rcases hm with ⟨⟨p', mR⟩, -⟩ | ⟨⟨xl', lc', m', b', mR, mM, mc⟩, m0, m45, mK⟩ | ⟨⟨xl', lc', m', b', mR, mM, mp1, mp2⟩, mo, mr, m0, m45, mK⟩ | ⟨⟨xl', lc', m', b', mR, mM, mnp, -⟩, -⟩
    · rw [cR] at mR; cases mR
    · rw [cR] at mR; cases mR
      subst enM
      obtain ⟨rfl, rfl, rfl⟩ := zMe.uni cM mM
      rcases mc with ⟨-, mc⟩ | ⟨mc, -⟩
      · exact absurd mc (by omega)
      · exact absurd (hpp.mp cp) mc
    · exact ⟨KP (oM + 1) (by omega) (by rw [G2 0 10 (by omega), cL.2.2.2.2.2.1 0 10 (by omega)]; exact a1) (by rw [G2 0 11 (by omega)]; exact cL.1.2.1) m45 mK, by rw [c1, m0], fun _ => by rw [c2, cr, mr]⟩
    · rw [cR] at mR; cases mR
      subst enM
      obtain ⟨rfl, rfl, rfl⟩ := zMe.uni cM mM
      exact absurd (hpp.mp cp) mnp
  · have hpp := cM.paid (zLet_in cR) hPk r1' r2'
    rcases hm with ⟨⟨p', mR⟩, -⟩ | ⟨⟨xl', lc', m', b', mR, mM, mc⟩, m0, m45, mK⟩ | ⟨⟨xl', lc', m', b', mR, mM, mp1, mp2⟩, mo, mr, m0, m45, mK⟩ | ⟨⟨xl', lc', m', b', mR, mM, mnp, g2, L2, mq, mold, m36, n0, n1, n2, n3, n4, n5, n6⟩, mw, mr, m0, m45⟩
    · rw [cR] at mR; cases mR
    · rw [cR] at mR; cases mR
      subst enM
      obtain ⟨rfl, rfl, rfl⟩ := zMe.uni cM mM
      rcases mc with ⟨mc, -⟩ | ⟨-, mc⟩
      · exact absurd (hpp.mpr mc) cp
      · exact absurd mc (by omega)
    · rw [cR] at mR; cases mR
      subst enM
      obtain ⟨rfl, rfl, rfl⟩ := zMe.uni cM mM
      exact absurd (hpp.mpr ⟨mp1, mp2⟩) cp
    · rw [cR] at mR; cases mR
      subst enM
      obtain ⟨rfl, rfl, rfl⟩ := zMe.uni cM mM
      have g23 : g2 ≤ 3 := by have := mq.1; omega
      have d1 : dM + 1 ≤ 512 := cL.1.1
      have D : ∀ i k, 3000 ≤ i → i < 6000 → f2 i k = f1 i k := fun i k w1 w2 => G2 i k (by omega)
      have ew2 : zWt f2 (dM + 1) = zWt fi dM + 1 := by
        rw [← zWt_y (by rw [D _ _ (by omega) (by omega), cl6]; decide), ewt]
      refine ⟨⟨⟨dM + 1, g2, d1, g23, by rw [G2 0 10 (by omega)]; exact cL.1.2.1, mq.2.2.1, mq.2.2.2.2.1.1, by rw [m36, ew2, ew], by omega, fun q hq => ?_⟩, oM, b0, by rw [G2 0 11 (by omega), cL.2.2.2.2.1 0 11 (by omega)]; exact b1, m45⟩, by rw [c1, m0], fun _ => by rw [c2, cr, mr]⟩
      by_cases w : q = dM
      · subst w
        refine ⟨⟨by rw [D _ _ (by omega) (by omega), cl6, n0], Or.inr (by rw [D _ _ (by omega) (by omega), cl6]; decide)⟩, ⟨by rw [D _ _ (by omega) (by omega), cl4, n1], by rw [D _ _ (by omega) (by omega), cl1.2.1, n2], by rw [D _ _ (by omega) (by omega), cl5, n3], by rw [D _ _ (by omega) (by omega), cl2, n4], by rw [D _ _ (by omega) (by omega), cl3, n5]⟩, _, _, _, cl1.cg (fun i k w => D i k (by omega) (by omega)), n6⟩
      · exact (a6 q (by omega)).cg (by omega : q < dM) (fun i k w => by rw [D i k (by omega) (by omega), F i k (by omega)]) (fun j hj k hk => by rw [mold j hj k hk]; exact F _ _ (by omega))
  · rcases hX with ⟨-, ⟨p, cR⟩, cL, -⟩ | ⟨e, -⟩
    · rcases hm with ⟨⟨p', mR⟩, m0, m45, mK⟩ | ⟨⟨xl', lc', m', b', mR, -⟩, -⟩ | ⟨⟨xl', lc', m', b', mR, -⟩, -⟩ | ⟨⟨xl', lc', m', b', mR, -⟩, -⟩
      · exact ⟨KP oM b0 (by rw [G2 0 10 (by omega), cL.2.2.2.2.1 0 10 (by omega)]; exact a1) (by rw [G2 0 11 (by omega), cL.2.2.2.2.1 0 11 (by omega)]; exact b1) m45 mK, no 1 (by omega) c1 m0⟩
      all_goals rw [cR] at mR; cases mR
    · exact absurd e (by decide)
  · rcases hX with ⟨e, -⟩ | ⟨-, ⟨xl, lc2, m2, b9, cR, cM, cc⟩, cL, -⟩
    · exact absurd e (by decide)
    · have hpp := cM.paid (zLet_in cR) hPk r1' r2'
      rcases hm with ⟨⟨p', mR⟩, -⟩ | ⟨⟨xl', lc', m', b', mR, mM, mc⟩, m0, m45, mK⟩ | ⟨⟨xl', lc', m', b', mR, mM, mp1, mp2⟩, mo, mr, m0, m45, mK⟩ | ⟨⟨xl', lc', m', b', mR, mM, mnp, -⟩, mw, -⟩
      · rw [cR] at mR; cases mR
      · exact ⟨KP oM b0 (by rw [G2 0 10 (by omega), cL.2.2.2.2.1 0 10 (by omega)]; exact a1) (by rw [G2 0 11 (by omega), cL.2.2.2.2.1 0 11 (by omega)]; exact b1) m45 mK, no 2 (by omega) c1 m0⟩
      · rw [cR] at mR; cases mR
        subst enM
        obtain ⟨rfl, rfl, rfl⟩ := zMe.uni cM mM
        rcases cc with ⟨-, cc⟩ | ⟨cc, -⟩
        · exact absurd cc (by omega)
        · exact absurd (hpp.mpr ⟨mp1, mp2⟩) cc
      · rw [cR] at mR; cases mR
        subst enM
        obtain ⟨rfl, rfl, rfl⟩ := zMe.uni cM mM
        rcases cc with ⟨cc, -⟩ | ⟨-, cc⟩
        · exact absurd (hpp.mp cc) mnp
        · exact absurd (show wq = 20 by omega) mw
theorem zSm_cn {P mn : Nat → Nat} : ∀ {L : Nat}, (∀ j, j < L → 1 ≤ mn j) → (0 < zSm (fun j => P j * mn j) L ↔ 0 < zCn P L)
  | 0, _ => Iff.rfl
  | L + 1, h => by
    have ih := zSm_cn (P := P) (mn := mn) (L := L) (fun j q => h j (by omega))
    have h1 := h L (by omega)
    unfold zSm zCn
    by_cases e : P L = 0
    · rw [if_pos e, e, Nat.zero_mul, Nat.add_zero, Nat.add_zero]; exact ih
    · rw [if_neg e]
      have : 0 < P L * mn L := Nat.mul_pos (by omega) (by omega)
      omega
theorem zWt_dec {fi f : zFi} {b : Nat} (h1 : ¬ fi (3000 + b) 9 = 0) (h2 : f (3000 + b) 9 = 0) : ∀ {d : Nat}, b < d → (∀ i, i < d → i ≠ b → f (3000 + i) 9 = fi (3000 + i) 9) → zWt f d + 1 = zWt fi d
  | 0, h, _ => absurd h (by omega)
  | d + 1, hb, h => by
    by_cases e : b = d
    · subst e
      rw [← zWt_n h2, ← zWt_y h1, zWt_cg (fun i q => h i (by omega) (by omega))]
    · have ih := zWt_dec h1 h2 (d := d) (by omega) (fun i q w => h i (by omega) w)
      unfold zWt
      rw [h d (by omega) (by omega)]
      omega
theorem se_old {x y : Int32} {LL : Nat → Nat} {LC MN : Nat → Nat → Nat} (hw : (∃ rv : Int32, kc = nI 0 ∧ ol' = rv.toInt64 ∧ (∃ b, b < d ∧ x = nI b ∧ ¬ fi (3000 + b) 9 = 0 ∧ ((y.toInt = 0 ∧ rv = -1 ∧ τ1 = τ ∧ r1 = fr ∧ f1 = zu fi (3000 + b) 9 (nI 0)) ∨ (¬ y.toInt = 0 ∧ ¬ zPd cd pN n (fi 10) (LL b) (LC b) (MN b) (fi (3000 + b) 4) ∧ rv = -1 ∧ τ1 = τ ∧ r1 = fr ∧ f1 = fi) ∨ (¬ y.toInt = 0 ∧ zPd cd pN n (fi 10) (LL b) (LC b) (MN b) (fi (3000 + b) 4) ∧ o < 60 ∧ rv = nI o ∧ zNO τ (zu fi (3000 + b) 9 (nI 0)) fr n o τ1 f1 r1)))) ∨ (kc = nI 1 ∧ τ1 = τ ∧ f1 = fi ∧ r1 = fr ∧ ol' = ol0 ∧ ((True ∧ ¬ (0 ≤ x.toInt ∧ x.toInt < (d : Int))) ∨ ("java/lang/IndexOutOfBoundsException" = "java/lang/IllegalStateException" ∧ ∃ b, b < d ∧ x = nI b ∧ fi (3000 + b) 9 = 0) ∨ ("java/lang/IndexOutOfBoundsException" = "java/lang/UnsupportedOperationException" ∧ ∃ b, b < d ∧ x = nI b ∧ ¬ fi (3000 + b) 9 = 0 ∧ ¬ y.toInt = 0 ∧ zPd cd pN n (fi 10) (LL b) (LC b) (MN b) (fi (3000 + b) 4) ∧ o = 60))) ∨ (kc = nI 2 ∧ τ1 = τ ∧ f1 = fi ∧ r1 = fr ∧ ol' = ol0 ∧ (("java/lang/IllegalStateException" = "java/lang/IndexOutOfBoundsException" ∧ ¬ (0 ≤ x.toInt ∧ x.toInt < (d : Int))) ∨ (True ∧ ∃ b, b < d ∧ x = nI b ∧ fi (3000 + b) 9 = 0) ∨ ("java/lang/IllegalStateException" = "java/lang/UnsupportedOperationException" ∧ ∃ b, b < d ∧ x = nI b ∧ ¬ fi (3000 + b) 9 = 0 ∧ ¬ y.toInt = 0 ∧ zPd cd pN n (fi 10) (LL b) (LC b) (MN b) (fi (3000 + b) 4) ∧ o = 60))) ∨ (kc = nI 3 ∧ τ1 = τ ∧ f1 = fi ∧ r1 = fr ∧ ol' = ol0 ∧ (("java/lang/UnsupportedOperationException" = "java/lang/IndexOutOfBoundsException" ∧ ¬ (0 ≤ x.toInt ∧ x.toInt < (d : Int))) ∨ ("java/lang/UnsupportedOperationException" = "java/lang/IllegalStateException" ∧ ∃ b, b < d ∧ x = nI b ∧ fi (3000 + b) 9 = 0) ∨ (True ∧ ∃ b, b < d ∧ x = nI b ∧ ¬ fi (3000 + b) 9 = 0 ∧ ¬ y.toInt = 0 ∧ zPd cd pN n (fi 10) (LL b) (LC b) (MN b) (fi (3000 + b) 4) ∧ o = 60)))) : (∃ rv : Int32, kc = nI 0 ∧ ol' = rv.toInt64 ∧ ((τ1 = τ ∧ r1 = fr ∧ ((∃ b, b < d ∧ x = nI b ∧ f1 = zu fi (3000 + b) 9 (nI 0)) ∨ f1 = fi)) ∨ (∃ b, b < d ∧ x = nI b ∧ rv = nI o ∧ zNO τ (zu fi (3000 + b) 9 (nI 0)) fr n o τ1 f1 r1))) ∨ (kc = nI 1 ∧ τ1 = τ ∧ f1 = fi ∧ r1 = fr ∧ True) ∨ (kc = nI 2 ∧ τ1 = τ ∧ f1 = fi ∧ r1 = fr ∧ True) ∨ (kc = nI 3 ∧ τ1 = τ ∧ f1 = fi ∧ r1 = fr ∧ True) := by
  rcases hw with ⟨rv, c1, c2, b, hb, hx, hwt, ⟨-, -, e1, e2, e3⟩ | ⟨-, -, -, e1, e2, e3⟩ | ⟨-, -, -, e1, e2⟩⟩ | ⟨c1, e1, e2, e3, -, -⟩ | ⟨c1, e1, e2, e3, -, -⟩ | ⟨c1, e1, e2, e3, -, -⟩
  · exact Or.inl ⟨rv, c1, c2, Or.inl ⟨e1, e2, Or.inl ⟨b, hb, hx, e3⟩⟩⟩
  · exact Or.inl ⟨rv, c1, c2, Or.inl ⟨e1, e2, Or.inr e3⟩⟩
  · exact Or.inl ⟨rv, c1, c2, Or.inr ⟨b, hb, hx, e1, e2⟩⟩
  · exact Or.inr (Or.inl ⟨c1, e1, e2, e3, trivial⟩)
  · exact Or.inr (Or.inr (Or.inl ⟨c1, e1, e2, e3, trivial⟩))
  · exact Or.inr (Or.inr (Or.inr ⟨c1, e1, e2, e3, trivial⟩))
theorem se_frm {x y : Int32} {LL : Nat → Nat} {LC MN : Nat → Nat → Nat} (hd5 : d ≤ 512) (hw : (∃ rv : Int32, kc = nI 0 ∧ ol' = rv.toInt64 ∧ (∃ b, b < d ∧ x = nI b ∧ ¬ fi (3000 + b) 9 = 0 ∧ ((y.toInt = 0 ∧ rv = -1 ∧ τ1 = τ ∧ r1 = fr ∧ f1 = zu fi (3000 + b) 9 (nI 0)) ∨ (¬ y.toInt = 0 ∧ ¬ zPd cd pN n (fi 10) (LL b) (LC b) (MN b) (fi (3000 + b) 4) ∧ rv = -1 ∧ τ1 = τ ∧ r1 = fr ∧ f1 = fi) ∨ (¬ y.toInt = 0 ∧ zPd cd pN n (fi 10) (LL b) (LC b) (MN b) (fi (3000 + b) 4) ∧ o < 60 ∧ rv = nI o ∧ zNO τ (zu fi (3000 + b) 9 (nI 0)) fr n o τ1 f1 r1)))) ∨ (kc = nI 1 ∧ τ1 = τ ∧ f1 = fi ∧ r1 = fr ∧ ol' = ol0 ∧ ((True ∧ ¬ (0 ≤ x.toInt ∧ x.toInt < (d : Int))) ∨ ("java/lang/IndexOutOfBoundsException" = "java/lang/IllegalStateException" ∧ ∃ b, b < d ∧ x = nI b ∧ fi (3000 + b) 9 = 0) ∨ ("java/lang/IndexOutOfBoundsException" = "java/lang/UnsupportedOperationException" ∧ ∃ b, b < d ∧ x = nI b ∧ ¬ fi (3000 + b) 9 = 0 ∧ ¬ y.toInt = 0 ∧ zPd cd pN n (fi 10) (LL b) (LC b) (MN b) (fi (3000 + b) 4) ∧ o = 60))) ∨ (kc = nI 2 ∧ τ1 = τ ∧ f1 = fi ∧ r1 = fr ∧ ol' = ol0 ∧ (("java/lang/IllegalStateException" = "java/lang/IndexOutOfBoundsException" ∧ ¬ (0 ≤ x.toInt ∧ x.toInt < (d : Int))) ∨ (True ∧ ∃ b, b < d ∧ x = nI b ∧ fi (3000 + b) 9 = 0) ∨ ("java/lang/IllegalStateException" = "java/lang/UnsupportedOperationException" ∧ ∃ b, b < d ∧ x = nI b ∧ ¬ fi (3000 + b) 9 = 0 ∧ ¬ y.toInt = 0 ∧ zPd cd pN n (fi 10) (LL b) (LC b) (MN b) (fi (3000 + b) 4) ∧ o = 60))) ∨ (kc = nI 3 ∧ τ1 = τ ∧ f1 = fi ∧ r1 = fr ∧ ol' = ol0 ∧ (("java/lang/UnsupportedOperationException" = "java/lang/IndexOutOfBoundsException" ∧ ¬ (0 ≤ x.toInt ∧ x.toInt < (d : Int))) ∨ ("java/lang/UnsupportedOperationException" = "java/lang/IllegalStateException" ∧ ∃ b, b < d ∧ x = nI b ∧ fi (3000 + b) 9 = 0) ∨ (True ∧ ∃ b, b < d ∧ x = nI b ∧ ¬ fi (3000 + b) 9 = 0 ∧ ¬ y.toInt = 0 ∧ zPd cd pN n (fi 10) (LL b) (LC b) (MN b) (fi (3000 + b) 4) ∧ o = 60)))) : (∀ i k, ¬ (i = 0 ∨ (500 ≤ i ∧ i < 1480) ∨ (3000 ≤ i ∧ i < 4000 ∧ k = 9)) → f1 i k = fi i k) ∧ ∀ k, r1 30 k = fr 30 k := by
  rcases hw with ⟨rv, c1, c2, b, hb, hx, hwt, ⟨-, -, e1, e2, e3⟩ | ⟨-, -, -, e1, e2, e3⟩ | ⟨-, -, o6, e1, e2⟩⟩ | ⟨c1, e1, e2, e3, -, -⟩ | ⟨c1, e1, e2, e3, -, -⟩ | ⟨c1, e1, e2, e3, -, -⟩
  · exact ⟨fun i k w => by rw [e3, zu_n (by omega)], fun _ => by rw [e2]⟩
  · exact ⟨fun i k w => by rw [e3], fun _ => by rw [e2]⟩
  · exact ⟨fun i k w => by rw [e2.2.2.2.1 i k (by omega), zu_n (by omega)], fun k => e2.2.2.2.2.1 30 k (by omega)⟩
  all_goals exact ⟨fun i k w => by rw [e2], fun _ => by rw [e3]⟩
theorem zDq.cg1 {g g' q : Nat} (h : zDq fi g q) (hi : ∀ i k, i = 3000 + q ∨ i = 4000 + q ∨ i = 5000 + q → f1 i k = fi i k) (hm : ∀ j, j < 6 → f1 (200 + j + 10 * g') q = fi (200 + j + 10 * g) q) (hm2 : ∀ j i, 6 ≤ j → j < 8 → i < 8 → f1 (200 + j + 10 * g') (8 * q + i) = fi (200 + j + 10 * g) (8 * q + i)) : zDq f1 g' q := by
  obtain ⟨⟨a1, a2⟩, ⟨a3, a4, a5, a6, a7⟩, L, lc, mn, b1, b2⟩ := h
  have e : ∀ k, f1 (3000 + q) k = fi (3000 + q) k := fun k => hi _ k (by omega)
  have m0 := hm 0 (by omega); have m1 := hm 1 (by omega); have m2 := hm 2 (by omega); have m3 := hm 3 (by omega); have m4 := hm 4 (by omega); have m5 := hm 5 (by omega)
  simp only [Nat.add_zero] at m0
  refine ⟨⟨by rw [e, m0]; exact a1, by rw [e]; exact a2⟩, ⟨by rw [e, m1]; exact a3, by rw [e, m2]; exact a4, by rw [e, m3]; exact a5, by rw [e, m4]; exact a6, by rw [e, m5]; exact a7⟩, L, lc, mn, b1.cg (fun i k w => hi i k (by omega)), fun j hj => ?_⟩
  have l8 := b1.1
  have m6 := hm2 6 j (by omega) (by omega) (by omega)
  have m7 := hm2 7 j (by omega) (by omega) (by omega)
  exact ⟨by rw [m6]; exact (b2 j hj).1, by rw [m7]; exact (b2 j hj).2⟩
theorem rw_settle {x y : Int32} {LL : Nat → Nat} {LC MN : Nat → Nat → Nat} (hTx : zRt fi) (hD : zRw fi fr) (enM : nM = n) (hd : fi 0 10 = nI d) (hd5 : d ≤ 512) (ho : fi 0 11 = nI o) (ho6 : o ≤ 60) (hDl : ∀ q, q < d → zqLw fi q (LL q) (LC q) (MN q)) (hdM : f1 30 35 = nI dM) (hdM5 : dM ≤ 512) (hoM : f1 30 45 = nI oM) (hoM6 : oM ≤ 60) (hgM : gM ≤ 3) (h37 : r1 30 37 = some (200 + 10 * gM)) (hwq : f1 30 36 = nI wq) (hw9 : wq ≤ 20)
    (hc : (∃ rv : Int32, kc = nI 0 ∧ ol' = rv.toInt64 ∧ (∃ b, b < d ∧ x = nI b ∧ ¬ fi (3000 + b) 9 = 0 ∧ ((y.toInt = 0 ∧ rv = -1 ∧ τ1 = τ ∧ r1 = fr ∧ f1 = zu fi (3000 + b) 9 (nI 0)) ∨ (¬ y.toInt = 0 ∧ ¬ zPd cd pN n (fi 10) (LL b) (LC b) (MN b) (fi (3000 + b) 4) ∧ rv = -1 ∧ τ1 = τ ∧ r1 = fr ∧ f1 = fi) ∨ (¬ y.toInt = 0 ∧ zPd cd pN n (fi 10) (LL b) (LC b) (MN b) (fi (3000 + b) 4) ∧ o < 60 ∧ rv = nI o ∧ zNO τ (zu fi (3000 + b) 9 (nI 0)) fr n o τ1 f1 r1)))) ∨ (kc = nI 1 ∧ τ1 = τ ∧ f1 = fi ∧ r1 = fr ∧ ol' = ol0 ∧ ((True ∧ ¬ (0 ≤ x.toInt ∧ x.toInt < (d : Int))) ∨ ("java/lang/IndexOutOfBoundsException" = "java/lang/IllegalStateException" ∧ ∃ b, b < d ∧ x = nI b ∧ fi (3000 + b) 9 = 0) ∨ ("java/lang/IndexOutOfBoundsException" = "java/lang/UnsupportedOperationException" ∧ ∃ b, b < d ∧ x = nI b ∧ ¬ fi (3000 + b) 9 = 0 ∧ ¬ y.toInt = 0 ∧ zPd cd pN n (fi 10) (LL b) (LC b) (MN b) (fi (3000 + b) 4) ∧ o = 60))) ∨ (kc = nI 2 ∧ τ1 = τ ∧ f1 = fi ∧ r1 = fr ∧ ol' = ol0 ∧ (("java/lang/IllegalStateException" = "java/lang/IndexOutOfBoundsException" ∧ ¬ (0 ≤ x.toInt ∧ x.toInt < (d : Int))) ∨ (True ∧ ∃ b, b < d ∧ x = nI b ∧ fi (3000 + b) 9 = 0) ∨ ("java/lang/IllegalStateException" = "java/lang/UnsupportedOperationException" ∧ ∃ b, b < d ∧ x = nI b ∧ ¬ fi (3000 + b) 9 = 0 ∧ ¬ y.toInt = 0 ∧ zPd cd pN n (fi 10) (LL b) (LC b) (MN b) (fi (3000 + b) 4) ∧ o = 60))) ∨ (kc = nI 3 ∧ τ1 = τ ∧ f1 = fi ∧ r1 = fr ∧ ol' = ol0 ∧ (("java/lang/UnsupportedOperationException" = "java/lang/IndexOutOfBoundsException" ∧ ¬ (0 ≤ x.toInt ∧ x.toInt < (d : Int))) ∨ ("java/lang/UnsupportedOperationException" = "java/lang/IllegalStateException" ∧ ∃ b, b < d ∧ x = nI b ∧ fi (3000 + b) 9 = 0) ∨ (True ∧ ∃ b, b < d ∧ x = nI b ∧ ¬ fi (3000 + b) 9 = 0 ∧ ¬ y.toInt = 0 ∧ zPd cd pN n (fi 10) (LL b) (LC b) (MN b) (fi (3000 + b) 4) ∧ o = 60))))
    (hm : ((∃ o2, oM ≤ o2 ∧ o2 ≤ oM + 1 ∧ zMo f2 nM o2) ∧ zMq τ1 f2 r1 gM LnM dM ∧ ∀ a b, ¬ (a = 48 ∨ a = 49 ∨ (50 ≤ a ∧ a ≤ 64) ∨ (200 ≤ a ∧ a < 240) ∨ (a = 30 ∧ (b = 0 ∨ b = 26 ∨ b = 30 ∨ b = 36 ∨ b = 45))) → f2 a b = f1 a b) ∧ ((¬ (0 ≤ x.toInt ∧ x.toInt < (dM : Int)) ∧ f2 30 0 = nI 1 ∧ f2 30 45 = nI oM ∧ f2 30 36 = nI wq ∧ ∀ a c, 200 ≤ a → a < 240 → f2 a c = f1 a c) ∨ (∃ b, b < dM ∧ x = nI b ∧ f1 (200 + 10 * gM) b = 0 ∧ f2 30 0 = nI 2 ∧ f2 30 45 = nI oM ∧ f2 30 36 = nI wq ∧ ∀ a c, 200 ≤ a → a < 240 → f2 a c = f1 a c) ∨ (∃ b, b < dM ∧ x = nI b ∧ ¬ f1 (200 + 10 * gM) b = 0 ∧ ((y.toInt = 0 ∧ rb = -1 ∧ f2 30 0 = nI 0 ∧ f2 30 45 = nI oM ∧ f2 30 36 = nI (wq - 1) ∧ f2 (200 + 10 * gM) b = 0 ∧ ∀ a c, 200 ≤ a → a < 240 → ¬ (a = 200 + 10 * gM ∧ c = b) → f2 a c = f1 a c) ∨ (¬ y.toInt = 0 ∧ ¬ (0 < zCn (fun j => zPo cd pN nM (LC b j)) (LL b) ∧ (zDue (f1 44) (nI (zSm (fun j => zPo cd pN nM (LC b j) * MN b j) (LL b)))).toInt ≤ (f1 (205 + 10 * gM) b).toInt) ∧ rb = -1 ∧ f2 30 0 = nI 0 ∧ f2 30 45 = nI oM ∧ f2 30 36 = nI wq ∧ ∀ a c, 200 ≤ a → a < 240 → f2 a c = f1 a c) ∨ (¬ y.toInt = 0 ∧ (0 < zCn (fun j => zPo cd pN nM (LC b j)) (LL b) ∧ (zDue (f1 44) (nI (zSm (fun j => zPo cd pN nM (LC b j) * MN b j) (LL b)))).toInt ≤ (f1 (205 + 10 * gM) b).toInt) ∧ oM = 60 ∧ f2 30 0 = nI 3 ∧ f2 30 45 = nI oM ∧ f2 30 36 = nI wq ∧ ∀ a c, 200 ≤ a → a < 240 → f2 a c = f1 a c) ∨ (¬ y.toInt = 0 ∧ (0 < zCn (fun j => zPo cd pN nM (LC b j)) (LL b) ∧ (zDue (f1 44) (nI (zSm (fun j => zPo cd pN nM (LC b j) * MN b j) (LL b)))).toInt ≤ (f1 (205 + 10 * gM) b).toInt) ∧ oM < 60 ∧ rb = nI oM ∧ f2 30 0 = nI 0 ∧ f2 30 45 = nI (oM + 1) ∧ f2 30 36 = nI (wq - 1) ∧ f2 (200 + 10 * gM) b = 0 ∧ ∀ a c, 200 ≤ a → a < 240 → ¬ (a = 200 + 10 * gM ∧ c = b) → f2 a c = f1 a c))))) : zRw f2 r1 ∧ zEqv kc rb ol' f2 := by
  subst enM
  obtain ⟨F, G0⟩ := se_frm hd5 hc
  have G := G0 37
  obtain ⟨⟨d', g, d5, g3, a1, a2, a3, a4, a5, a6⟩, o', b0, b1, b2⟩ := hD
  have ed : d' = d := zNi (by omega) (by omega) (a1.symm.trans hd)
  subst ed
  have eo : o' = o := zNi (by omega) (by omega) (b1.symm.trans ho)
  subst eo
  have edM : dM = d' := zNi (by omega) (by omega) (hdM.symm.trans ((F 30 35 (by omega)).trans a2))
  subst edM
  have eoM : oM = o' := zNi (by omega) (by omega) (hoM.symm.trans ((F 30 45 (by omega)).trans b2))
  subst eoM
  have egM : gM = g := by have h9 := Option.some.inj (h37.symm.trans (G.trans a3)); omega
  subst egM
  have ew : wq = zWt fi dM := zNi (by omega) (by omega) (hwq.symm.trans ((F 30 36 (by omega)).trans a4))
  have r1' : fi 10 1 = f1 44 1 := (hTx.num (k := 1) (by omega)).trans (F 44 1 (by omega)).symm
  have r2' : fi 10 2 = f1 44 2 := (hTx.num (k := 2) (by omega)).trans (F 44 2 (by omega)).symm
  have hpp : ∀ b, b < dM → (zPd cd pN nM (fi 10) (LL b) (LC b) (MN b) (fi (3000 + b) 4) ↔ (0 < zCn (fun j => zPo cd pN nM (LC b j)) (LL b) ∧ (zDue (f1 44) (nI (zSm (fun j => zPo cd pN nM (LC b j) * MN b j) (LL b)))).toInt ≤ (f1 (205 + 10 * gM) b).toInt)) := fun b hb => by
    have e4 : fi (3000 + b) 4 = f1 (205 + 10 * gM) b := by rw [F _ _ (by omega)]; exact (a6 b hb).2.1.2.2.2.2
    have e5 := zSm_cn (P := fun j => zPo cd pN nM (LC b j)) (mn := MN b) (L := LL b) (fun j q => ((hDl b hb).2.2 j q).2.2.2.1)
    unfold zPd
    rw [e5, zDue_cg r1' r2', e4]
  obtain ⟨⟨-, -, G2⟩, hm⟩ := hm
  have wts : ∀ b, b < dM → fi (3000 + b) 9 = f1 (200 + 10 * gM) b := fun b hb => by rw [F _ _ (by omega)]; exact (a6 b hb).1.1
  -- all doubts stay
  have KP : (∀ i, i < dM → f1 (3000 + i) 9 = fi (3000 + i) 9) → f1 0 10 = nI dM → f1 0 11 = nI oM → f2 30 45 = nI oM ∧ f2 30 36 = nI wq ∧ (∀ a c, 200 ≤ a → a < 240 → f2 a c = f1 a c) → zRw f2 r1 := fun p0 p2 p3 e => by
    obtain ⟨p4, e3, e4⟩ := e
    have D : ∀ i k, i < dM → f2 (3000 + i) k = fi (3000 + i) k := fun i k hi => by
      rw [G2 _ _ (by omega)]
      by_cases w : k = 9
      · subst w; exact p0 i hi
      · exact F _ _ (by omega)
    have ewt : zWt f2 dM = zWt fi dM := zWt_cg (fun i hi => D i 9 hi)
    exact ⟨⟨dM, gM, d5, g3, by rw [G2 _ _ (by omega)]; exact p2, by rw [G2 _ _ (by omega), F _ _ (by omega)]; exact a2, h37, by rw [e3, ewt, ew], by rw [ewt]; exact a5, fun q hq => (a6 q hq).cg hq (fun i k w => by rcases w with w | w | w; (rw [w]; exact D q k hq); (rw [G2 _ _ (by omega), F _ _ (by omega)]); (rw [G2 _ _ (by omega), F _ _ (by omega)])) (fun j hj k hk => by rw [e4 _ _ (by omega) (by omega), F _ _ (by omega)])⟩, oM, b0, by rw [G2 _ _ (by omega)]; exact p3, p4⟩
  -- one waits no more
  have GN : ∀ (b o2 : Nat), b < dM → ¬ fi (3000 + b) 9 = 0 → f1 (3000 + b) 9 = 0 → (∀ i, i < dM → i ≠ b → f1 (3000 + i) 9 = fi (3000 + i) 9) → f1 0 10 = nI dM → o2 ≤ 60 → f1 0 11 = nI o2 → f2 30 45 = nI o2 ∧ f2 30 36 = nI (wq - 1) ∧ f2 (200 + 10 * gM) b = 0 ∧ (∀ a c, 200 ≤ a → a < 240 → ¬ (a = 200 + 10 * gM ∧ c = b) → f2 a c = f1 a c) → zRw f2 r1 := fun b o2 hb w1 w2 w3 p2 po p3 e => by
    obtain ⟨p4, e3, e0, e4⟩ := e
    have ewt : zWt f2 dM + 1 = zWt fi dM := zWt_dec w1 (by rw [G2 _ _ (by omega)]; exact w2) hb (fun i hi hn => by rw [G2 _ _ (by omega)]; exact w3 i hi hn)
    refine ⟨⟨dM, gM, d5, g3, by rw [G2 _ _ (by omega)]; exact p2, by rw [G2 _ _ (by omega), F _ _ (by omega)]; exact a2, h37, by rw [e3, ew, ← ewt]; rfl, by omega, fun q hq => ?_⟩, o2, po, by rw [G2 _ _ (by omega)]; exact p3, p4⟩
    by_cases w : q = b
    · subst w
      obtain ⟨-, ⟨c3, c4, c5, c6, c7⟩, L9, lc, mn, d1, d2⟩ := a6 q hq
      have D : ∀ k, k ≠ 9 → f2 (3000 + q) k = fi (3000 + q) k := fun k hk => by rw [G2 _ _ (by omega), F _ _ (by omega)]
      have E : ∀ a c, 200 ≤ a → a < 240 → ¬ (a = 200 + 10 * gM ∧ c = q) → f2 a c = fi a c := fun a c x1 x2 x3 => by rw [e4 a c x1 x2 x3, F _ _ (by omega)]
      refine ⟨⟨by rw [G2 _ _ (by omega), w2, e0], Or.inl (by rw [G2 _ _ (by omega)]; exact w2)⟩, ⟨by rw [D 5 (by omega), E _ _ (by omega) (by omega) (by omega)]; exact c3, by rw [D 2 (by omega), E _ _ (by omega) (by omega) (by omega)]; exact c4, by rw [D 8 (by omega), E _ _ (by omega) (by omega) (by omega)]; exact c5, by rw [D 3 (by omega), E _ _ (by omega) (by omega) (by omega)]; exact c6, by rw [D 4 (by omega), E _ _ (by omega) (by omega) (by omega)]; exact c7⟩, L9, lc, mn, d1.cg (fun i k w => by rcases w with ⟨w, w0⟩ | w | w; (rw [w]; exact D k (by omega)); (rw [G2 _ _ (by omega), F _ _ (by omega)]); (rw [G2 _ _ (by omega), F _ _ (by omega)])), fun j hj => ?_⟩
      rw [E (206 + 10 * gM) _ (by omega) (by omega) (by omega), E (207 + 10 * gM) _ (by omega) (by omega) (by omega)]
      exact d2 j hj
    · refine (a6 q hq).cg1 (fun i k w9 => ?_) (fun j hj => by rw [e4 _ _ (by omega) (by omega) (by omega), F _ _ (by omega)]) (fun j i h1 h2 h3 => by rw [e4 _ _ (by omega) (by omega) (by omega), F _ _ (by omega)])
      · rcases w9 with w9 | w9 | w9
        · rw [w9, G2 _ _ (by omega)]
          by_cases h9 : k = 9
          · subst h9; exact w3 q hq w
          · exact F _ _ (by omega)
        · rw [G2 _ _ (by omega), F _ _ (by omega)]
        · rw [G2 _ _ (by omega), F _ _ (by omega)]
  have no : ∀ v : Nat, v = 1 ∨ v = 2 ∨ v = 3 → kc = nI v → f2 30 0 = nI v → zEqv kc rb ol' f2 := fun v hv e1 e2 => ⟨by rw [e1, e2], fun h9 => by rw [e1, nI_toInt (by omega)] at h9; omega⟩
  have low : ∀ b, b < dM → x = nI b → 0 ≤ x.toInt ∧ x.toInt < (dM : Int) := fun b hb e => by rw [e, nI_toInt (by omega)]; omega
  rcases hc with ⟨rv, c1, c2, b, hb, hx, hwt, cc⟩ | ⟨c1, e1, e2, e3, -, hX⟩ | ⟨c1, e1, e2, e3, -, hX⟩ | ⟨c1, e1, e2, e3, -, hX⟩
  · rcases hm with ⟨m1, -⟩ | ⟨b', hb', hx', mwt, -⟩ | ⟨b', hb', hx', mwt, mm⟩
    · exact absurd (low b hb hx) m1
    · have eb : b' = b := zNi (by omega) (by omega) (hx'.symm.trans hx)
      subst eb
      exact absurd ((wts b' hb).trans mwt) hwt
    · have eb : b' = b := zNi (by omega) (by omega) (hx'.symm.trans hx)
      subst eb
      rcases cc with ⟨y0, q1, -, -, q2⟩ | ⟨y0, np, q1, -, -, q2⟩ | ⟨y0, pd, o6, q1, q2⟩
      · rcases mm with ⟨-, m2, m0, m45, mg⟩ | ⟨y1, -⟩ | ⟨y1, -⟩ | ⟨y1, -⟩
        · exact ⟨GN b' oM hb hwt (by rw [q2]; exact zu_s) (fun i hi hn => by rw [q2, zu_n (by omega)]) (by rw [q2, zu_n (by omega)]; exact a1) b0 (by rw [q2, zu_n (by omega)]; exact b1) ⟨m45, mg⟩, by rw [c1, m0], fun _ => by rw [c2, q1, m2]⟩
        all_goals exact absurd y0 y1
      · rcases mm with ⟨y1, -⟩ | ⟨-, -, m2, m0, mk⟩ | ⟨-, pd, -⟩ | ⟨-, pd, -⟩
        · exact absurd y1 y0
        · exact ⟨KP (fun i hi => by rw [q2]) (by rw [q2]; exact a1) (by rw [q2]; exact b1) mk, by rw [c1, m0], fun _ => by rw [c2, q1, m2]⟩
        · exact absurd ((hpp b' hb).mpr pd) np
        · exact absurd ((hpp b' hb).mpr pd) np
      · rcases mm with ⟨y1, -⟩ | ⟨-, np, -⟩ | ⟨-, -, o7, -⟩ | ⟨-, -, -, m2, m0, m45, mg⟩
        · exact absurd y1 y0
        · exact absurd ((hpp b' hb).mp pd) np
        · exact absurd o7 (by omega)
        · exact ⟨GN b' (oM + 1) hb hwt (by rw [q2.2.2.2.1 _ _ (by omega)]; exact zu_s) (fun i hi hn => by rw [q2.2.2.2.1 _ _ (by omega), zu_n (by omega)]) (by rw [q2.2.2.2.1 _ _ (by omega), zu_n (by omega)]; exact a1) (by omega) q2.1.2.1 ⟨m45, mg⟩, by rw [c1, m0], fun _ => by rw [c2, q1, m2]⟩
  · rcases hX with ⟨-, hX⟩ | ⟨e, -⟩ | ⟨e, -⟩
    · rcases hm with ⟨m1, m0, mk⟩ | ⟨b', hb', hx', -⟩ | ⟨b', hb', hx', -⟩
      · exact ⟨KP (fun i hi => by rw [e2]) (by rw [e2]; exact a1) (by rw [e2]; exact b1) mk, no 1 (by omega) c1 m0⟩
      · exact absurd (low b' hb' hx') hX
      · exact absurd (low b' hb' hx') hX
    · exact absurd e (by decide)
    · exact absurd e (by decide)
  · rcases hX with ⟨e, -⟩ | ⟨-, b, hb, hx, hwt⟩ | ⟨e, -⟩
    · exact absurd e (by decide)
    · rcases hm with ⟨m1, -⟩ | ⟨b', hb', hx', mwt, m0, mk⟩ | ⟨b', hb', hx', mwt, -⟩
      · exact absurd (low b hb hx) m1
      · exact ⟨KP (fun i hi => by rw [e2]) (by rw [e2]; exact a1) (by rw [e2]; exact b1) mk, no 2 (by omega) c1 m0⟩
      · have eb : b' = b := zNi (by omega) (by omega) (hx'.symm.trans hx)
        subst eb
        exact absurd ((wts b' hb).symm.trans hwt) mwt
    · exact absurd e (by decide)
  · rcases hX with ⟨e, -⟩ | ⟨e, -⟩ | ⟨-, b, hb, hx, hwt, y0, pd, o6⟩
    · exact absurd e (by decide)
    · exact absurd e (by decide)
    · rcases hm with ⟨m1, -⟩ | ⟨b', hb', hx', mwt, -⟩ | ⟨b', hb', hx', mwt, mm⟩
      · exact absurd (low b hb hx) m1
      · have eb : b' = b := zNi (by omega) (by omega) (hx'.symm.trans hx)
        subst eb
        exact absurd ((wts b' hb).trans mwt) hwt
      · have eb : b' = b := zNi (by omega) (by omega) (hx'.symm.trans hx)
        subst eb
        rcases mm with ⟨y1, -⟩ | ⟨-, np, -⟩ | ⟨-, -, -, m0, mk⟩ | ⟨-, -, o7, -⟩
        · exact absurd y1 y0
        · exact absurd ((hpp b' hb).mp pd) np
        · exact ⟨KP (fun i hi => by rw [e2]) (by rw [e2]; exact a1) (by rw [e2]; exact b1) mk, no 3 (by omega) c1 m0⟩
        · exact absurd o7 (by omega)
theorem rw_doubt {x y : Int32} (hD : zRw fi fr) (hd : fi 0 10 = nI d) (hd5 : d ≤ 512) (hdM : fi 30 35 = nI dM) (hdM5 : dM ≤ 512) (hgM : gM ≤ 3) (h37 : fr 30 37 = some (200 + 10 * gM)) (hc : (∃ rv : Int32, kc = nI 0 ∧ ol' = rv.toInt64 ∧ (∃ q, q < d ∧ x = nI q ∧ ((y = nI 0 ∧ ((rv = 1 ∧ ¬ fi (3000 + q) 9 = 0) ∨ (rv = 0 ∧ fi (3000 + q) 9 = 0))) ∨ (1 ≤ y.toInt ∧ y.toInt ≤ 5 ∧ rv = fi (3000 + q) (zDof y))))) ∨ (kc = nI 1 ∧ ol' = ol0 ∧ (("java/lang/IndexOutOfBoundsException" = "java/lang/IndexOutOfBoundsException" ∧ ¬ (0 ≤ x.toInt ∧ x.toInt < (d : Int))) ∨ ("java/lang/IndexOutOfBoundsException" = "java/util/NoSuchElementException" ∧ (∃ q, q < d ∧ x = nI q) ∧ ¬ (0 ≤ y.toInt ∧ y.toInt ≤ 5)))) ∨ (kc = nI 2 ∧ ol' = ol0 ∧ (("java/util/NoSuchElementException" = "java/lang/IndexOutOfBoundsException" ∧ ¬ (0 ≤ x.toInt ∧ x.toInt < (d : Int))) ∨ ("java/util/NoSuchElementException" = "java/util/NoSuchElementException" ∧ (∃ q, q < d ∧ x = nI q) ∧ ¬ (0 ≤ y.toInt ∧ y.toInt ≤ 5))))) (hm : (¬ (0 ≤ x.toInt ∧ x.toInt < (dM : Int)) ∧ rb = nI 0 ∧ f2 = zu fi 30 0 (nI 1)) ∨ (∃ b, b < dM ∧ x = nI b ∧ ¬ (0 ≤ y.toInt ∧ y.toInt ≤ 5) ∧ rb = nI 0 ∧ f2 = zu fi 30 0 (nI 2)) ∨ (∃ b, b < dM ∧ x = nI b ∧ (0 ≤ y.toInt ∧ y.toInt ≤ 5) ∧ f2 = zu fi 30 0 (nI 0) ∧ ((y = nI 0 ∧ ((rb = 1 ∧ ¬ fi (200 + 10 * gM) b = 0) ∨ (rb = 0 ∧ fi (200 + 10 * gM) b = 0))) ∨ (∃ k, 1 ≤ k ∧ k ≤ 5 ∧ y = nI k ∧ rb = fi (200 + k + 10 * gM) b)))) : zEqv kc rb ol' f2 ∧ ∀ a b, ¬ (a = 30 ∧ b = 0) → f2 a b = fi a b := by
  obtain ⟨⟨d', g, d5, g3, a1, a2, a3, a4, a5, a6⟩, -⟩ := hD
  have ed : d' = d := zNi (by omega) (by omega) (a1.symm.trans hd)
  subst ed
  have edM : dM = d' := zNi (by omega) (by omega) (hdM.symm.trans a2)
  subst edM
  have egM : gM = g := by have h9 := Option.some.inj (h37.symm.trans a3); omega
  subst egM
  have low : ∀ b, b < dM → x = nI b → 0 ≤ x.toInt ∧ x.toInt < (dM : Int) := fun b hb e => by rw [e, nI_toInt (by omega)]; omega
  have fr_ : ∀ v : Int32, f2 = zu fi 30 0 v → ∀ a b, ¬ (a = 30 ∧ b = 0) → f2 a b = fi a b := fun v e a b q => by rw [e, zu_n (by omega)]
  rcases hc with ⟨rv, c1, c2, q, hq, hx, cc⟩ | ⟨c1, -, hX⟩ | ⟨c1, -, hX⟩
  · rcases hm with ⟨m1, -⟩ | ⟨b, hb, hx', hy, -⟩ | ⟨b, hb, hx', hy, e, mm⟩
    · exact absurd (low q hq hx) m1
    · rcases cc with ⟨y0, -⟩ | ⟨y1, y5, -⟩
      · exact absurd (by rw [y0]; decide) hy
      · exact absurd ⟨by omega, y5⟩ hy
    · have eb : b = q := zNi (by omega) (by omega) (hx'.symm.trans hx)
      subst eb
      obtain ⟨⟨w1, w2⟩, ⟨k1, k2, k3, k4, k5⟩, -⟩ := a6 b hb
      refine ⟨⟨by rw [c1, e, zu_s], fun _ => ?_⟩, fr_ _ e⟩
      rw [c2]
      rcases cc with ⟨y0, cc⟩ | ⟨y1, y5, cr⟩
      · rcases mm with ⟨-, mm⟩ | ⟨k, j1, j5, jy, -⟩
        · rcases cc with ⟨q1, q2⟩ | ⟨q1, q2⟩ <;> rcases mm with ⟨r1, r2⟩ | ⟨r1, r2⟩
          · rw [q1, r1]
          · exact absurd (w1.trans r2) q2
          · exact absurd (w1.symm.trans q2) r2
          · rw [q1, r1]
        · rw [y0] at jy
          have := zNi (by omega) (by omega) jy
          omega
      · rcases mm with ⟨y0, -⟩ | ⟨k, j1, j5, jy, jr⟩
        · rw [y0] at y1; exact absurd y1 (by decide)
        · rw [cr, jr]
          have hk : k = 1 ∨ k = 2 ∨ k = 3 ∨ k = 4 ∨ k = 5 := by omega
          rcases hk with rfl | rfl | rfl | rfl | rfl
          · rw [jy, show zDof (nI 1) = 5 from by decide]; exact congrArg _ k1
          · rw [jy, show zDof (nI 2) = 2 from by decide]; exact congrArg _ k2
          · rw [jy, show zDof (nI 3) = 8 from by decide]; exact congrArg _ k3
          · rw [jy, show zDof (nI 4) = 3 from by decide]; exact congrArg _ k4
          · rw [jy, show zDof (nI 5) = 4 from by decide]; exact congrArg _ k5
  · rcases hX with ⟨-, hX⟩ | ⟨e, -⟩
    · rcases hm with ⟨m1, -, e⟩ | ⟨b, hb, hx', -⟩ | ⟨b, hb, hx', -⟩
      · exact ⟨zEqv.no (by omega) c1 e, fr_ _ e⟩
      · exact absurd (low b hb hx') hX
      · exact absurd (low b hb hx') hX
    · exact absurd e (by decide)
  · rcases hX with ⟨e, -⟩ | ⟨-, ⟨q, hq, hx⟩, hy⟩
    · exact absurd e (by decide)
    · rcases hm with ⟨m1, -⟩ | ⟨b, hb, hx', -, -, e⟩ | ⟨b, hb, hx', hy', -⟩
      · exact absurd (low q hq hx) m1
      · exact ⟨zEqv.no (by omega) c1 e, fr_ _ e⟩
      · exact absurd hy' hy
theorem lx_nxt (ho6 : o ≤ 60) (hTx : zRt fi) (hGo : zGo fi) (hPm : zqPb fi n td cd pN) (hL : fi 1 1 = nI L) (hL4 : L ≤ 400) (hw : (∃ rv : Int32, kc = nI 0 ∧ ol' = rv.toInt64 ∧ ((∃ xl lc2 m2 b2, zLet (fi 2) L (zS (fi 2) L 0) = .ok xl ∧ zLm2 cd pN n xl lc2 m2 b2 ∧ (((b2 = 1 ∧ zPd cd pN n (fi 10) xl.1 lc2 (zMnN xl) xl.2.2.2.2) ∧ o < 60 ∧ rv = nI o ∧ zLo τ fi fr n o q τ1 f1 r1) ∨ (¬ (b2 = 1 ∧ zPd cd pN n (fi 10) xl.1 lc2 (zMnN xl) xl.2.2.2.2) ∧ zWt fi q < 20 ∧ rv = -1 - nI (q + 1) ∧ zLd τ fi fr q τ1 f1 r1 ∧ zqLw f1 q xl.1 lc2 (zMnN xl) ∧ f1 (3000 + q) 3 = nI (zN xl.2.2.2.1) ∧ f1 (3000 + q) 4 = xl.2.2.2.2 ∧ f1 (3000 + q) 5 = nI m2 ∧ f1 (3000 + q) 8 = nI (zCn (fun j => zPo cd pN n (lc2 j)) xl.1) ∧ f1 (3000 + q) 9 = nI 1))) ∧ f1 0 14 = zFv (zLet (fi 2) L (zS (fi 2) L 0)))) ∨ (kc = nI 1 ∧ ol' = ol0 ∧ ((True ∧ (∃ p, zLet (fi 2) L (zS (fi 2) L 0) = .error p) ∧ zLg τ fi fr q τ1 f1 r1 ∧ f1 0 14 = zFv (zLet (fi 2) L (zS (fi 2) L 0))) ∨ ("java/lang/IllegalArgumentException" = "java/lang/UnsupportedOperationException" ∧ (∃ xl lc2 m2 b2, zLet (fi 2) L (zS (fi 2) L 0) = .ok xl ∧ zLm2 cd pN n xl lc2 m2 b2 ∧ (((b2 = 1 ∧ zPd cd pN n (fi 10) xl.1 lc2 (zMnN xl) xl.2.2.2.2) ∧ o = 60) ∨ (¬ (b2 = 1 ∧ zPd cd pN n (fi 10) xl.1 lc2 (zMnN xl) xl.2.2.2.2) ∧ 20 ≤ zWt fi q))) ∧ zLg τ fi fr q τ1 f1 r1 ∧ f1 0 14 = zFv (zLet (fi 2) L (zS (fi 2) L 0))))) ∨ (kc = nI 2 ∧ ol' = ol0 ∧ (("java/lang/UnsupportedOperationException" = "java/lang/IllegalArgumentException" ∧ (∃ p, zLet (fi 2) L (zS (fi 2) L 0) = .error p) ∧ zLg τ fi fr q τ1 f1 r1 ∧ f1 0 14 = zFv (zLet (fi 2) L (zS (fi 2) L 0))) ∨ (True ∧ (∃ xl lc2 m2 b2, zLet (fi 2) L (zS (fi 2) L 0) = .ok xl ∧ zLm2 cd pN n xl lc2 m2 b2 ∧ (((b2 = 1 ∧ zPd cd pN n (fi 10) xl.1 lc2 (zMnN xl) xl.2.2.2.2) ∧ o = 60) ∨ (¬ (b2 = 1 ∧ zPd cd pN n (fi 10) xl.1 lc2 (zMnN xl) xl.2.2.2.2) ∧ 20 ≤ zWt fi q))) ∧ zLg τ fi fr q τ1 f1 r1 ∧ f1 0 14 = zFv (zLet (fi 2) L (zS (fi 2) L 0)))))) : zGo f1 ∧ zqPb f1 n td cd pN ∧ (∀ j, j < L → 0 ≤ (f1 47 j).toInt) ∧ (∀ i k, (30 ≤ i ∧ i ≤ 72) ∨ (200 ≤ i ∧ i < 240) → f1 i k = fi i k) ∧ ∀ k, r1 30 k = fr 30 k := by
  obtain ⟨F, G⟩ := lx_frm ho6 (lx_oldN hw)
  exact ⟨hGo.cg (fun i k q => F i k (by unfold zGw at q; omega)), hPm.cg (fun i k q => F i k (by omega)), rt_b0 hTx hL hL4 (fun j => F 47 j (by omega)), fun i k q => F i k (by omega), G⟩
theorem se_nxt {x y : Int32} {LL : Nat → Nat} {LC MN : Nat → Nat → Nat} (hd5 : d ≤ 512) (hGo : zGo fi) (hPm : zqPb fi n td cd pN) (hw : (∃ rv : Int32, kc = nI 0 ∧ ol' = rv.toInt64 ∧ (∃ b, b < d ∧ x = nI b ∧ ¬ fi (3000 + b) 9 = 0 ∧ ((y.toInt = 0 ∧ rv = -1 ∧ τ1 = τ ∧ r1 = fr ∧ f1 = zu fi (3000 + b) 9 (nI 0)) ∨ (¬ y.toInt = 0 ∧ ¬ zPd cd pN n (fi 10) (LL b) (LC b) (MN b) (fi (3000 + b) 4) ∧ rv = -1 ∧ τ1 = τ ∧ r1 = fr ∧ f1 = fi) ∨ (¬ y.toInt = 0 ∧ zPd cd pN n (fi 10) (LL b) (LC b) (MN b) (fi (3000 + b) 4) ∧ o < 60 ∧ rv = nI o ∧ zNO τ (zu fi (3000 + b) 9 (nI 0)) fr n o τ1 f1 r1)))) ∨ (kc = nI 1 ∧ τ1 = τ ∧ f1 = fi ∧ r1 = fr ∧ ol' = ol0 ∧ ((True ∧ ¬ (0 ≤ x.toInt ∧ x.toInt < (d : Int))) ∨ ("java/lang/IndexOutOfBoundsException" = "java/lang/IllegalStateException" ∧ ∃ b, b < d ∧ x = nI b ∧ fi (3000 + b) 9 = 0) ∨ ("java/lang/IndexOutOfBoundsException" = "java/lang/UnsupportedOperationException" ∧ ∃ b, b < d ∧ x = nI b ∧ ¬ fi (3000 + b) 9 = 0 ∧ ¬ y.toInt = 0 ∧ zPd cd pN n (fi 10) (LL b) (LC b) (MN b) (fi (3000 + b) 4) ∧ o = 60))) ∨ (kc = nI 2 ∧ τ1 = τ ∧ f1 = fi ∧ r1 = fr ∧ ol' = ol0 ∧ (("java/lang/IllegalStateException" = "java/lang/IndexOutOfBoundsException" ∧ ¬ (0 ≤ x.toInt ∧ x.toInt < (d : Int))) ∨ (True ∧ ∃ b, b < d ∧ x = nI b ∧ fi (3000 + b) 9 = 0) ∨ ("java/lang/IllegalStateException" = "java/lang/UnsupportedOperationException" ∧ ∃ b, b < d ∧ x = nI b ∧ ¬ fi (3000 + b) 9 = 0 ∧ ¬ y.toInt = 0 ∧ zPd cd pN n (fi 10) (LL b) (LC b) (MN b) (fi (3000 + b) 4) ∧ o = 60))) ∨ (kc = nI 3 ∧ τ1 = τ ∧ f1 = fi ∧ r1 = fr ∧ ol' = ol0 ∧ (("java/lang/UnsupportedOperationException" = "java/lang/IndexOutOfBoundsException" ∧ ¬ (0 ≤ x.toInt ∧ x.toInt < (d : Int))) ∨ ("java/lang/UnsupportedOperationException" = "java/lang/IllegalStateException" ∧ ∃ b, b < d ∧ x = nI b ∧ fi (3000 + b) 9 = 0) ∨ (True ∧ ∃ b, b < d ∧ x = nI b ∧ ¬ fi (3000 + b) 9 = 0 ∧ ¬ y.toInt = 0 ∧ zPd cd pN n (fi 10) (LL b) (LC b) (MN b) (fi (3000 + b) 4) ∧ o = 60)))) : zGo f1 ∧ zqPb f1 n td cd pN ∧ (∀ i k, (30 ≤ i ∧ i ≤ 72) ∨ (200 ≤ i ∧ i < 240) → f1 i k = fi i k) ∧ ∀ k, r1 30 k = fr 30 k := by
  obtain ⟨F, G⟩ := se_frm hd5 hw
  exact ⟨hGo.cg (fun i k q => F i k (by unfold zGw at q; omega)), hPm.cg (fun i k q => F i k (by omega)), fun i k q => F i k (by omega), G⟩
theorem rw_pre {tM : Nat} (hDw : zRw fi fr) (F : ∀ i k, (30 ≤ i ∧ i ≤ 72) ∨ (200 ≤ i ∧ i < 240) → f1 i k = fi i k) (G : ∀ k, r1 30 k = fr 30 k) (hMt : zMt f1 nM) (hMq : zMq τ1 f1 r1 gM LnM dM) (htM : f1 30 1 = nI tM) (ht9M : tM ≤ 999) (hPm : zqPb f1 n td cd pN) (hn2 : fi 30 2 = nI n) (hn3 : n ≤ 30) (hwq : fi 30 36 = nI wq) (hw9 : wq ≤ 20) : (nM = n ∧ zqPb f1 nM tM cd pN ∧ f1 30 36 = nI wq) ∧ (∀ k, k < dM → f1 (200 + 10 * gM) k = 0 ∨ f1 (200 + 10 * gM) k = 1) ∧ (∀ b, b < dM → ¬ f1 (200 + 10 * gM) b = 0 → 1 ≤ wq) ∧ gM ≤ 3 ∧ dM ≤ 512 := by
  have hg : gM ≤ 3 := by have := hMq.1; omega
  have hd : dM ≤ 512 := by have := hMq.1; have := hMq.2.1; omega
  have m3 := hMt.1
  have e1 : nM = n := zNi (by omega) (by omega) (hMt.2.1.symm.trans ((F 30 2 (by omega)).trans hn2))
  have t9 := hPm.2.1
  have e2 : tM = td := zNi (by omega) (by omega) (htM.symm.trans hPm.1)
  obtain ⟨c1, c2⟩ := rw_bl hDw ((F 30 35 (by omega)).symm.trans hMq.2.2.1) hd ((G 37).symm.trans hMq.2.2.2.2.1.1) hwq hw9
  exact ⟨⟨e1, by rw [e1, e2]; exact hPm, (F 30 36 (by omega)).trans hwq⟩, fun k hk => by rw [F _ _ (by omega)]; exact c1 k hk, fun b hb => by rw [F _ _ (by omega)]; exact c2 b hb, hg, hd⟩
theorem rw_dm {LL : Nat → Nat} {LC MN : Nat → Nat → Nat} (h0 : ∀ dM gM, fi 30 35 = nI dM → dM ≤ 512 → fr 30 37 = some (200 + 10 * gM) → ∀ k, k < dM → fi (202 + 10 * gM) k = nI (LL k) ∧ LL k ≤ 8 ∧ ∀ j, j < LL k → fi (206 + 10 * gM) (8 * k + j) = nI (LC k j) ∧ LC k j < 10000 ∧ fi (207 + 10 * gM) (8 * k + j) = nI (MN k j) ∧ 1 ≤ MN k j ∧ MN k j ≤ 99) (F : ∀ i k, (30 ≤ i ∧ i ≤ 72) ∨ (200 ≤ i ∧ i < 240) → f1 i k = fi i k) (G : ∀ k, r1 30 k = fr 30 k) (hMq : zMq τ1 f1 r1 gM LnM dM) : ∀ k, k < dM → f1 (202 + 10 * gM) k = nI (LL k) ∧ LL k ≤ 8 ∧ ∀ j, j < LL k → f1 (206 + 10 * gM) (8 * k + j) = nI (LC k j) ∧ LC k j < 10000 ∧ f1 (207 + 10 * gM) (8 * k + j) = nI (MN k j) ∧ 1 ≤ MN k j ∧ MN k j ≤ 99 := fun k hk => by
  have hg : gM ≤ 3 := by have := hMq.1; omega
  have hd : dM ≤ 512 := by have := hMq.1; have := hMq.2.1; omega
  have h9 := h0 dM gM ((F 30 35 (by omega)).symm.trans hMq.2.2.1) hd ((G 37).symm.trans hMq.2.2.2.2.1.1) k hk
  refine ⟨by rw [F _ _ (by omega)]; exact h9.1, h9.2.1, fun j hj => ?_⟩
  rw [F (206 + 10 * gM) _ (by omega), F (207 + 10 * gM) _ (by omega)]
  exact h9.2.2 j hj
theorem zGo.ml (h : zGo f1) (F : ∀ a b, ¬ (a = 48 ∨ a = 49 ∨ (50 ≤ a ∧ a ≤ 64) ∨ (200 ≤ a ∧ a < 240) ∨ (a = 30 ∧ (b = 0 ∨ (21 ≤ b ∧ b ≤ 36) ∨ b = 45))) → f2 a b = f1 a b) : zGo f2 := h.cg (fun i k q => F i k (by unfold zGw at q; omega))
theorem zGo.ms (h : zGo f1) (F : ∀ a b, ¬ (a = 48 ∨ a = 49 ∨ (50 ≤ a ∧ a ≤ 64) ∨ (200 ≤ a ∧ a < 240) ∨ (a = 30 ∧ (b = 0 ∨ b = 26 ∨ b = 30 ∨ b = 36 ∨ b = 45))) → f2 a b = f1 a b) : zGo f2 := h.cg (fun i k q => F i k (by unfold zGw at q; omega))
theorem zMq.gd (h : zMq τ1 f1 r1 gM LnM dM) : dM ≤ 512 ∧ gM ≤ 3 := by have := h.1; have := h.2.1; omega
end RY
