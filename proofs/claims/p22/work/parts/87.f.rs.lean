/-! ===== STREETS AND PLACES ARE ALIKE ===== -/
def zSw (i k : Nat) : Prop := (i = 3 ∧ k = 1) ∨ (300 ≤ i ∧ i < 330 ∧ (k = 3 ∨ k = 4)) ∨ i = 33 ∨ i = 34
def zRs (fi : zFi) : Prop := ∃ n, n ≤ 30 ∧ fi 3 1 = nI n ∧ ∀ t, t < n → ∃ a b, a ≤ 7 ∧ 1 ≤ b ∧ b ≤ 20 ∧ fi (300 + t) 3 = nI a ∧ fi (300 + t) 4 = nI b ∧ fi 33 t = nI a ∧ fi 34 t = nI b
section RS
variable {τ τ' τ1 : zTy} {fi f1 f2 : zFi} {fr r1 r2 : zFr}
theorem zRs.cg (h : zRs fi) (hi : ∀ i k, zSw i k → f1 i k = fi i k) : zRs f1 := by
  obtain ⟨n, a1, a2, a3⟩ := h
  refine ⟨n, a1, by rw [hi _ _ (by unfold zSw; omega)]; exact a2, fun t ht => ?_⟩
  obtain ⟨a, b, b1, b2, b3, b4, b5, b6, b7⟩ := a3 t ht
  exact ⟨a, b, b1, b2, b3, by rw [hi _ _ (by unfold zSw; omega)]; exact b4, by rw [hi _ _ (by unfold zSw; omega)]; exact b5, by rw [hi _ _ (by unfold zSw; omega)]; exact b6, by rw [hi _ _ (by unfold zSw; omega)]; exact b7⟩
theorem zBI.rs {x y j : Nat} (h : zBI τ fi fr 73 208 x y j) (ef : f1 = va_up fi 28 (fun _ => 0)) : zRs f1 := ⟨0, by omega, by rw [ef, va_up_ne _ _ (by omega), h.2.2.2 3 1 (by unfold zXc; omega)]; rfl, fun t ht => absurd ht (by omega)⟩
theorem cz_back {r : Int32} {P3 P4 : Prop} (hw : (∃ rv : Int32, r = nI 0 ∧ (∀ i k, ¬ ((1000 ≤ i ∧ i < 1480 ∧ 3 ≤ k) ∨ (300 ≤ i ∧ i < 330 ∧ k = 5) ∨ (500 ≤ i ∧ i < 560 ∧ k = 4)) → f1 i k = fi i k)) ∨ (r = nI 1 ∧ f1 = fi ∧ P3) ∨ (r = nI 2 ∧ f1 = fi ∧ P4)) : ∀ i k, zSw i k → f1 i k = fi i k := fun i k q => by
  unfold zSw at q
  rcases hw with ⟨rv, -, F⟩ | ⟨-, rfl, -⟩ | ⟨-, rfl, -⟩
  · exact F i k (by omega)
  all_goals rfl
theorem cz_price {n : Nat} {r x y z w : Int32} {P1 : Int32 → Prop} {P2 P3 P4 P5 : Prop} (hn3 : n ≤ 30) (hw : (∃ rv : Int32, r = nI 0 ∧ P1 rv ∧ (∃ t k, t < n ∧ x = nI t ∧ P2 ∧ fi (300 + t) 6 = nI k ∧ k < 4 ∧ rv = nI (k + 1) ∧ f1 = zu (zu (zu (zu fi (340 + t) k y) (380 + t) k z) (420 + t) k w) (300 + t) 6 (nI (k + 1)))) ∨ (r = nI 1 ∧ f1 = fi ∧ P3) ∨ (r = nI 2 ∧ f1 = fi ∧ P4) ∨ (r = nI 3 ∧ f1 = fi ∧ P5)) : ∀ i k, zSw i k → f1 i k = fi i k := fun i k q => by
  unfold zSw at q
  rcases hw with ⟨rv, -, -, t, k, ht9, -, -, -, -, -, e⟩ | ⟨-, rfl, -⟩ | ⟨-, rfl, -⟩ | ⟨-, rfl, -⟩
  · rw [e, zu_n (by omega), zu_n (by omega), zu_n (by omega), zu_n (by omega)]
  all_goals rfl
theorem cz_pick {n p : Nat} {r x : Int32} {P1 : Int32 → Prop} {P2 P3 : Nat → Prop} {P5 : Prop} (hw : (∃ rv : Int32, r = nI 0 ∧ P1 rv ∧ (∃ b, b < n ∧ x = nI b ∧ ((rv = -1 ∧ f1 = fi ∧ r1 = fr ∧ P2 b) ∨ (p < 10 ∧ P3 b ∧ rv = nI (p + 1) ∧ f1 = zu fi 22 1 (nI (p + 1)) ∧ r1 = zur fr 23 p (some (300 + b)))))) ∨ (r = nI 1 ∧ f1 = fi ∧ r1 = fr ∧ P5)) : ∀ i k, zSw i k → f1 i k = fi i k := fun i k q => by
  unfold zSw at q
  rcases hw with ⟨rv, -, -, b, -, -, ⟨-, rfl, -⟩ | ⟨-, -, -, e, -⟩⟩ | ⟨-, rfl, -⟩
  · rfl
  · rw [e, zu_n (by omega)]
  · rfl
theorem cz_coming {n c : Nat} {r x y z : Int32} {P1 : Int32 → Prop} {P2 P3 P4 P5 : Prop} (hw : (∃ rv : Int32, r = nI 0 ∧ P1 rv ∧ (∃ b, b < n ∧ x = nI b ∧ P2 ∧ c < 60 ∧ rv = nI (c + 1) ∧ f1 = zu (zu (zu fi 7 c y) 8 c z) 5 3 (nI (c + 1)) ∧ r1 = zur fr 6 c (some (300 + b)))) ∨ (r = nI 1 ∧ f1 = fi ∧ r1 = fr ∧ P3) ∨ (r = nI 2 ∧ f1 = fi ∧ r1 = fr ∧ P4) ∨ (r = nI 3 ∧ f1 = fi ∧ r1 = fr ∧ P5)) : ∀ i k, zSw i k → f1 i k = fi i k := fun i k q => by
  unfold zSw at q
  rcases hw with ⟨rv, -, -, b, -, -, -, -, -, e, e2⟩ | ⟨-, rfl, rfl, -⟩ | ⟨-, rfl, rfl, -⟩ | ⟨-, rfl, rfl, -⟩
  · rw [e, zu_n (by omega), zu_n (by omega), zu_n (by omega)]
  all_goals rfl
theorem cz_days {n : Nat} {r x : Int32} {P1 : Int32 → Prop} {P9 : Int32 → Nat → Prop} {P3 : Prop} (hw : (∃ rv : Int32, r = nI 0 ∧ P1 rv ∧ (∃ b, b ≤ 100 ∧ x = nI b ∧ (∃ c2, zCm f1 r1 n c2) ∧ zDy n τ fi fr τ' f1 r1 ∧ P9 rv b)) ∨ (r = nI 1 ∧ τ' = τ ∧ f1 = fi ∧ r1 = fr ∧ P3)) : ∀ i k, zSw i k → f1 i k = fi i k := fun i k q => by
  unfold zSw at q
  rcases hw with ⟨rv, -, -, b, -, -, -, w, -⟩ | ⟨-, -, rfl, -⟩
  · exact w.2.1 i k (by omega)
  · rfl
theorem cz_feed {L : Nat} {r : Int32} {R : Prop} (hw : (L + 20 ≤ 400 ∧ r = nI (L + 20) ∧ f1 1 1 = nI (L + 20) ∧ (∀ i, i ≠ 1 → i ≠ 2 → f1 i = fi i) ∧ R) ∨ (400 < L + 20 ∧ r = -1 ∧ f1 = fi)) : ∀ i k, zSw i k → f1 i k = fi i k := fun i k q => by
  unfold zSw at q
  rcases hw with ⟨-, -, -, a4, -⟩ | ⟨-, -, rfl⟩
  · rw [a4 i (by omega) (by omega)]
  · rfl
theorem cz_end {L : Nat} {r x : Int32} (hw : (r = 1 ∧ 0 ≤ x.toInt ∧ x.toInt ≤ L ∧ f1 = zu fi 1 1 x) ∨ (r = 0 ∧ ¬ (0 ≤ x.toInt ∧ x.toInt ≤ L) ∧ f1 = fi)) : ∀ i k, zSw i k → f1 i k = fi i k := fun i k q => by
  unfold zSw at q
  rcases hw with ⟨-, -, -, e⟩ | ⟨-, -, rfl⟩
  · rw [e, zu_n (by omega)]
  · rfl
theorem cz_rules {r : Int32} {P1 : Int32 → Prop} {P3 P4 : Prop} (hw : (∃ rv : Int32, r = nI 0 ∧ P1 rv ∧ (f1 1 1 = nI 0 ∧ ∀ i k, ¬ (i = 1 ∨ i = 10 ∨ i = 11 ∨ i = 13 ∨ i = 14 ∨ (i = 0 ∧ k = 14)) → f1 i k = fi i k)) ∨ (r = nI 1 ∧ P3 ∧ (P4 ∧ f1 1 1 = nI 0 ∧ ∀ i k, ¬ (i = 1 ∨ i = 10 ∨ i = 11 ∨ i = 13 ∨ i = 14 ∨ (i = 0 ∧ k = 14)) → f1 i k = fi i k))) : ∀ i k, zSw i k → f1 i k = fi i k := fun i k q => by
  unfold zSw at q
  rcases hw with ⟨rv, -, -, -, F⟩ | ⟨-, -, -, -, F⟩ <;> exact F i k (by omega)
theorem cz_letter {n o d : Nat} {r : Int32} {P1 : Int32 → Prop} {P3 P4 P5 P6 : Prop} (ho : o ≤ 60) (hd : d ≤ 512) (hw : (∃ rv : Int32, r = nI 0 ∧ P1 rv ∧ ((o < 60 ∧ rv = nI o ∧ zLo τ fi fr n o d τ' f1 r1) ∨ (d < 512 ∧ zLd τ fi fr d τ' f1 r1))) ∨ (r = nI 1 ∧ P3 ∧ (P4 ∧ zLg τ fi fr d τ' f1 r1)) ∨ (r = nI 2 ∧ P5 ∧ (P6 ∧ zLg τ fi fr d τ' f1 r1))) : ∀ i k, zSw i k → f1 i k = fi i k := fun i k q => by
  unfold zSw at q
  rcases hw with ⟨rv, -, -, ⟨-, -, e⟩ | ⟨-, e⟩⟩ | ⟨-, -, -, e⟩ | ⟨-, -, -, e⟩
  · exact e.2.2.2.2.2.1 i k (by omega)
  · exact e.2.2.2.2.1 i k (by omega)
  · exact e.2.2.2.2.1 i k (by omega)
  · exact e.2.2.2.2.1 i k (by omega)
theorem cz_settle {n o d : Nat} {r x : Int32} {P1 : Int32 → Prop} {P3 P4 P5 : Prop} (ho : o ≤ 60) (hw : (∃ rv : Int32, r = nI 0 ∧ P1 rv ∧ ((τ' = τ ∧ r1 = fr ∧ ((∃ b, b < d ∧ x = nI b ∧ f1 = zu fi (3000 + b) 9 (nI 0)) ∨ f1 = fi)) ∨ (∃ b, b < d ∧ x = nI b ∧ rv = nI o ∧ zNO τ (zu fi (3000 + b) 9 (nI 0)) fr n o τ' f1 r1))) ∨ (r = nI 1 ∧ τ' = τ ∧ f1 = fi ∧ r1 = fr ∧ P3) ∨ (r = nI 2 ∧ τ' = τ ∧ f1 = fi ∧ r1 = fr ∧ P4) ∨ (r = nI 3 ∧ τ' = τ ∧ f1 = fi ∧ r1 = fr ∧ P5)) : ∀ i k, zSw i k → f1 i k = fi i k := fun i k q => by
  unfold zSw at q
  rcases hw with ⟨rv, -, -, ⟨-, -, ⟨b, -, -, e⟩ | rfl⟩ | ⟨b, -, -, -, e⟩⟩ | ⟨-, -, rfl, -, -⟩ | ⟨-, -, rfl, -, -⟩ | ⟨-, -, rfl, -, -⟩
  · rw [e, zu_n (by omega)]
  · rfl
  · rw [e.2.2.2.1 i k (by omega), zu_n (by omega)]
  all_goals rfl
theorem rs_thing {n nM : Nat} {k b x1 x2 x3 x4 : Int32} {ol' : Int64} {P3 P4 : Prop} (hS : zRs fi) (h : zRl fi fr) (hn : fi 3 1 = nI n) (hn3 : n ≤ 30) (hnM : f1 30 2 = nI nM) (hnM3 : nM ≤ 30)
    (hc : (∃ rv : Int32, k = nI 0 ∧ ol' = rv.toInt64 ∧ (n < 30 ∧ (0 ≤ x1.toInt ∧ x1.toInt ≤ 9999 ∧ 1 ≤ x2.toInt ∧ x2.toInt ≤ 2000 ∧ 0 ≤ x3.toInt ∧ x3.toInt ≤ 7 ∧ 1 ≤ x4.toInt ∧ x4.toInt ≤ 20 ∧ ∀ j, j < n → ¬ fi (300 + j) 1 = x1) ∧ rv = nI n ∧ zAdd τ fi fr n x1 x2 x3 x4 τ' f1 r1)) ∨ (k = nI 1 ∧ τ' = τ ∧ f1 = fi ∧ r1 = fr ∧ P3) ∨ (k = nI 2 ∧ τ' = τ ∧ f1 = fi ∧ r1 = fr ∧ P4)) (h3 : P3 → ¬ (0 ≤ x1.toInt ∧ x1.toInt ≤ 9999 ∧ 1 ≤ x2.toInt ∧ x2.toInt ≤ 2000 ∧ 0 ≤ x3.toInt ∧ x3.toInt ≤ 7 ∧ 1 ≤ x4.toInt ∧ x4.toInt ≤ 20 ∧ ∀ j, j < n → ¬ fi (300 + j) 1 = x1)) (h4 : P4 → (0 ≤ x1.toInt ∧ x1.toInt ≤ 9999 ∧ 1 ≤ x2.toInt ∧ x2.toInt ≤ 2000 ∧ 0 ≤ x3.toInt ∧ x3.toInt ≤ 7 ∧ 1 ≤ x4.toInt ∧ x4.toInt ≤ 20 ∧ ∀ j, j < n → ¬ fi (300 + j) 1 = x1) ∧ n = 30)
    (hm : ((0 ≤ x1.toInt ∧ x1.toInt ≤ 9999 ∧ 1 ≤ x2.toInt ∧ x2.toInt ≤ 2000 ∧ 0 ≤ x3.toInt ∧ x3.toInt ≤ 7 ∧ 1 ≤ x4.toInt ∧ x4.toInt ≤ 20 ∧ ∀ j, j < nM → ¬ f1 31 j = x1) ∧ nM < 30 ∧ b = nI nM ∧ f2 = zu (zu (zu (zu (zu (zu (zu (zu f1 30 0 (nI 0)) 31 nM x1) 32 nM x2) 33 nM x3) 34 nM x4) 35 nM (nI 0)) 36 nM (nI 0)) 30 2 (nI (nM + 1))) ∨ (¬ (0 ≤ x1.toInt ∧ x1.toInt ≤ 9999 ∧ 1 ≤ x2.toInt ∧ x2.toInt ≤ 2000 ∧ 0 ≤ x3.toInt ∧ x3.toInt ≤ 7 ∧ 1 ≤ x4.toInt ∧ x4.toInt ≤ 20 ∧ ∀ j, j < nM → ¬ f1 31 j = x1) ∧ b = nI 0 ∧ f2 = zu f1 30 0 (nI 1)) ∨ ((0 ≤ x1.toInt ∧ x1.toInt ≤ 9999 ∧ 1 ≤ x2.toInt ∧ x2.toInt ≤ 2000 ∧ 0 ≤ x3.toInt ∧ x3.toInt ≤ 7 ∧ 1 ≤ x4.toInt ∧ x4.toInt ≤ 20 ∧ ∀ j, j < nM → ¬ f1 31 j = x1) ∧ nM = 30 ∧ b = nI 0 ∧ f2 = zu f1 30 0 (nI 2))) : zRs f2 := by
  obtain ⟨⟨n', a1, a2, a3, a4, p, a5, a6, a7, a8⟩, ad⟩ := h
  have en : n' = n := zNi (by omega) (by omega) (a2.symm.trans hn)
  subst en
  obtain ⟨n2, s1, s2, s3⟩ := hS
  have en2 : n2 = n' := zNi (by omega) (by omega) (s2.symm.trans hn)
  subst en2
  have hM : ∀ i k, 30 ≤ i → i ≤ 72 → f1 i k = fi i k := by
    rcases hc with ⟨rv, -, -, -, -, -, e⟩ | ⟨-, -, rfl, -⟩ | ⟨-, -, rfl, -⟩
    · exact fun i k q1 q2 => e.2.2.2.1 i k (by omega)
    · exact fun _ _ _ _ => rfl
    · exact fun _ _ _ _ => rfl
  have enM : nM = n2 := zNi (by omega) (by omega) (hnM.symm.trans (by rw [hM 30 2 (by omega) (by omega)]; exact a3))
  subst enM
  have hG : (∀ j, j < nM → ¬ f1 31 j = x1) ↔ ∀ j, j < nM → ¬ fi (300 + j) 1 = x1 := by
    constructor
    · intro q j hj e; exact q j hj (by rw [hM 31 j (by omega) (by omega), ← (a4 j hj).1]; exact e)
    · intro q j hj e; exact q j hj (by rw [(a4 j hj).1, ← hM 31 j (by omega) (by omega)]; exact e)
  rw [hG] at hm
  have h0 : zRs fi := ⟨nM, s1, s2, s3⟩
  rcases hc with ⟨rv, e1, e2, c1, c2, c3, e⟩ | ⟨e1, -, rfl, rfl, p3⟩ | ⟨e1, -, rfl, rfl, p4⟩
  · rcases hm with ⟨-, -, m1, m2⟩ | ⟨m1, -⟩ | ⟨-, m1, -⟩
    · obtain ⟨t1, -, -, F1, G1, x1', -, x3', x4', x6⟩ := e
      have F2 : ∀ a b, ¬ ((a = 30 ∧ (b = 0 ∨ b = 2)) ∨ (31 ≤ a ∧ a ≤ 36 ∧ b = nM)) → f2 a b = f1 a b := fun a b q => by rw [m2, zu_n (by omega), zu_n (by omega), zu_n (by omega), zu_n (by omega), zu_n (by omega), zu_n (by omega), zu_n (by omega), zu_n (by omega)]
      have F : ∀ a b, ¬ ((a = 30 ∧ (b = 0 ∨ b = 2)) ∨ (31 ≤ a ∧ a ≤ 36 ∧ b = nM) ∨ a = 300 + nM ∨ a = 340 + nM ∨ a = 380 + nM ∨ a = 420 + nM ∨ (a = 3 ∧ b = 1)) → f2 a b = fi a b := fun a b q => by rw [F2 a b (by omega)]; exact F1 a b (by omega)
      refine ⟨nM + 1, by omega, by rw [F2 _ _ (by omega)]; exact t1.2.1, fun t ht => ?_⟩
      by_cases q : t = nM
      · subst q
        obtain ⟨-, -, -, -, y1, y2, y3, y4, -⟩ := c2
        obtain ⟨sa, q1, q2⟩ := zNatB (x := x3) (n := 8) (by omega) (by omega)
        obtain ⟨sb, q3, q4⟩ := zNatB (x := x4) (n := 21) (by omega) (by omega)
        have y5 : 1 ≤ sb := by rw [q4, nI_toInt (by omega)] at y3; omega
        exact ⟨sa, sb, by omega, y5, by omega, by rw [F2 _ _ (by omega), x3', q2], by rw [F2 _ _ (by omega), x4', q4], by rw [m2, zu_n (by omega), zu_n (by omega), zu_n (by omega), zu_n (by omega), zu_s, q2], by rw [m2, zu_n (by omega), zu_n (by omega), zu_n (by omega), zu_s, q4]⟩
      · obtain ⟨a, b, b1, b2, b3, b4, b5, b6, b7⟩ := s3 t (by omega)
        exact ⟨a, b, b1, b2, b3, by rw [F _ _ (by omega)]; exact b4, by rw [F _ _ (by omega)]; exact b5, by rw [F _ _ (by omega)]; exact b6, by rw [F _ _ (by omega)]; exact b7⟩
    · exact absurd c2 m1
    · omega
  · rcases hm with ⟨m1, -⟩ | ⟨-, -, m1⟩ | ⟨m1, -⟩
    · exact absurd m1 (h3 p3)
    · exact h0.cg (fun i k q => by unfold zSw at q; rw [m1, zu_n (by omega)])
    · exact absurd m1 (h3 p3)
  · rcases hm with ⟨-, m1, -⟩ | ⟨m1, -⟩ | ⟨-, -, -, m1⟩
    · have := (h4 p4).2; omega
    · exact absurd (h4 p4).1 m1
    · exact h0.cg (fun i k q => by unfold zSw at q; rw [m1, zu_n (by omega)])
/-- the picks' points, the class's and the reference's -/
theorem zRl.pt {n p : Nat} (h : zRl fi fr) (hS : zRs fi) (hn : fi 3 1 = nI n) (hn3 : n ≤ 30) (hp : fi 22 1 = nI p) (hp1 : p ≤ 10) : ∃ Pp : Nat → wP, (∀ j, j < p → (∃ t, t < n ∧ fr 23 j = some (300 + t) ∧ fi (300 + t) 3 = nI (Pp j).1 ∧ fi (300 + t) 4 = nI (Pp j).2) ∧ (Pp j).1 ≤ 7 ∧ 1 ≤ (Pp j).2 ∧ (Pp j).2 ≤ 20) ∧ ∀ nM pM, fi 30 2 = nI nM → nM ≤ 30 → fi 30 68 = nI pM → pM ≤ 10 → p = pM ∧ ∀ j, j < pM → (∃ t, t < nM ∧ fi 71 j = nI t ∧ fi 33 t = nI (Pp j).1 ∧ fi 34 t = nI (Pp j).2) ∧ (Pp j).1 ≤ 7 ∧ 1 ≤ (Pp j).2 ∧ (Pp j).2 ≤ 20 := by
  obtain ⟨⟨n', a1, a2, a3, a4, p', a5, a6, a7, a8⟩, ad⟩ := h
  have en : n' = n := zNi (by omega) (by omega) (a2.symm.trans hn)
  subst en
  have ep : p' = p := zNi (by omega) (by omega) (a6.symm.trans hp)
  subst ep
  obtain ⟨n2, s1, s2, s3⟩ := hS
  have en2 : n2 = n' := zNi (by omega) (by omega) (s2.symm.trans hn)
  subst en2
  have nn : ∀ v : Nat, v < 2147483648 → (nI v).toInt.toNat = v := fun v hv => by rw [nI_toInt hv]; rfl
  have key : ∀ j, j < p' → ∃ t, t < n2 ∧ fr 23 j = some (300 + t) ∧ fi 71 j = nI t ∧ ∃ a b, a ≤ 7 ∧ 1 ≤ b ∧ b ≤ 20 ∧ fi (300 + t) 3 = nI a ∧ fi (300 + t) 4 = nI b ∧ fi 33 t = nI a ∧ fi 34 t = nI b ∧ (fi 33 (fi 71 j).toInt.toNat).toInt.toNat = a ∧ (fi 34 (fi 71 j).toInt.toNat).toInt.toNat = b := fun j hj => by
    obtain ⟨t, b1, b2, b3⟩ := a8 j hj
    obtain ⟨a, b, c1, c2, c3, c4, c5, c6, c7⟩ := s3 t b1
    exact ⟨t, b1, b2, b3, a, b, c1, c2, c3, c4, c5, c6, c7, by rw [b3, nn t (by omega), c6, nn a (by omega)], by rw [b3, nn t (by omega), c7, nn b (by omega)]⟩
  refine ⟨fun j => ((fi 33 (fi 71 j).toInt.toNat).toInt.toNat, (fi 34 (fi 71 j).toInt.toNat).toInt.toNat), fun j hj => ?_, fun nM pM m1 m2 m3 m4 => ?_⟩
  · obtain ⟨t, b1, b2, b3, a, b, c1, c2, c3, c4, c5, c6, c7, c8, c9⟩ := key j hj
    simp only [c8, c9]
    exact ⟨⟨t, b1, b2, c4, c5⟩, c1, c2, c3⟩
  · have e1 : nM = n2 := zNi (by omega) (by omega) (m1.symm.trans a3)
    have e2 : pM = p' := zNi (by omega) (by omega) (m3.symm.trans a7)
    subst e1
    subst e2
    refine ⟨rfl, fun j hj => ?_⟩
    obtain ⟨t, b1, b2, b3, a, b, c1, c2, c3, c4, c5, c6, c7, c8, c9⟩ := key j hj
    simp only [c8, c9]
    exact ⟨⟨t, b1, b3, c6, c7⟩, c1, c2, c3⟩
theorem rs_qm {p : Nat} {Pp : Nat → wP} {R : Nat → Prop} (hQ : ∀ nM pM, fi 30 2 = nI nM → nM ≤ 30 → fi 30 68 = nI pM → pM ≤ 10 → p = pM ∧ ∀ j, j < pM → (∃ t, t < nM ∧ fi 71 j = nI t ∧ fi 33 t = nI (Pp j).1 ∧ fi 34 t = nI (Pp j).2) ∧ R j) (F : ∀ a b, ¬ (a = 24 ∨ a = 25 ∨ a = 26 ∨ a = 27 ∨ (a = 22 ∧ b = 1)) → f1 a b = fi a b) : ∀ nM pM, f1 30 2 = nI nM → nM ≤ 30 → f1 30 68 = nI pM → pM ≤ 10 → p = pM ∧ ∀ j, j < pM → (∃ t, t < nM ∧ f1 71 j = nI t ∧ f1 33 t = nI (Pp j).1 ∧ f1 34 t = nI (Pp j).2) ∧ R j := fun nM pM a b c d => by
  obtain ⟨e, q⟩ := hQ nM pM (by rw [← F 30 2 (by omega)]; exact a) b (by rw [← F 30 68 (by omega)]; exact c) d
  refine ⟨e, fun j hj => ?_⟩
  obtain ⟨⟨t, q1, q2, q3, q4⟩, q5⟩ := q j hj
  exact ⟨⟨t, q1, by rw [F _ _ (by omega)]; exact q2, by rw [F _ _ (by omega)]; exact q3, by rw [F _ _ (by omega)]; exact q4⟩, q5⟩
theorem rs_walk {p : Nat} {Pp : Nat → wP} {r b : Int32} (hP : ∀ j, j < p → 1 ≤ (Pp j).2 ∧ (Pp j).2 ≤ 20) (hc : (p = 0 ∧ r = nI 0) ∨ (0 < p ∧ ∃ v, r = nI v ∧ wRR Pp p v)) (hm : (p = 0 ∧ b = nI 0) ∨ (0 < p ∧ ∃ q, b = nI q ∧ wTour Pp (fun k => k < p) q ∧ q < 1000000)) : r.toInt = b.toInt := by
  rcases hc with ⟨c1, c2⟩ | ⟨c1, v, c2, c3⟩ <;> rcases hm with ⟨m1, m2⟩ | ⟨m1, q, m2, m3, m4⟩
  · rw [c2, m2]
  · omega
  · omega
  · rw [c2, m2, c3.eq hP m3 m4]
end RS
