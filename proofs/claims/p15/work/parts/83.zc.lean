theorem zA.cls {τ τ' : zTy} {fi fi' : zFi} {fr fr' : zFr} {Lc Lc' Lm K : Nat} (h : zA τ fi fr Lc Lm K) (hF : zFix τ' fr') (h4 : ∀ i, 100 ≤ i → τ'.2.2.1 i ≠ 4) (hC : zCC τ' fi' fr') (hL : Lc' ≤ 400 ∧ fi' 1 1 = nI Lc') (hi : ∀ i k, (30 ≤ i ∧ i ≤ 72) ∨ (200 ≤ i ∧ i < 240) → fi' i k = fi i k) (hr : ∀ k, fr' 30 k = fr 30 k) (ht : ∀ i, 200 ≤ i → i < 240 → τ'.2.2.1 i = τ.2.2.1 i ∧ τ'.2.2.2 i = τ.2.2.2 i) : zA τ' fi' fr' Lc' Lm K :=
  ⟨hF, h4, hC, hL, ⟨h.2.2.2.2.1.1, by rw [hi _ _ (by omega)]; exact h.2.2.2.2.1.2⟩, h.2.2.2.2.2.cg (fun i k q => hi i k (by omega)) (fun k _ _ => hr k) ht⟩
theorem zA.clsF {τ : zTy} {fi fi' : zFi} {fr : zFr} {Lc Lc' Lm K : Nat} (h : zA τ fi fr Lc Lm K) (hi : ∀ i k, zSI i k → fi' i k = fi i k) (h15 : fi' 0 15 = fi 0 15) (hm : ∀ i k, (30 ≤ i ∧ i ≤ 72) ∨ (200 ≤ i ∧ i < 240) → fi' i k = fi i k) (hL : Lc' ≤ 400 ∧ fi' 1 1 = nI Lc') : zA τ fi' fr Lc' Lm K := by
  obtain ⟨⟨n, c, o, d, s, p, hc⟩, td, t1, t2⟩ := h.2.2.1
  exact h.cls h.1 h.2.1 ⟨⟨n, c, o, d, s, p, hc.cg hi⟩, td, t1, by rw [h15]; exact t2⟩ hL hm (fun _ => rfl) (fun _ _ _ => ⟨rfl, rfl⟩)
theorem ca_feed {τ : zTy} {fi fi' : zFi} {fr : zFr} {L Lm K : Nat} {r : Int32} {R : Prop} (h : zA τ fi fr L Lm K) (hw : (L + 20 ≤ 400 ∧ r = nI (L + 20) ∧ fi' 1 1 = nI (L + 20) ∧ (∀ i, i ≠ 1 → i ≠ 2 → fi' i = fi i) ∧ R) ∨ (400 < L + 20 ∧ r = -1 ∧ fi' = fi)) : ∃ L1, zA τ fi' fr L1 Lm K ∧ ((L + 20 ≤ 400 ∧ r = nI (L + 20) ∧ L1 = L + 20) ∨ (400 < L + 20 ∧ r = -1 ∧ L1 = L)) := by
  rcases hw with ⟨a1, a2, a3, a4, -⟩ | ⟨a1, a2, rfl⟩
  · exact ⟨L + 20, h.clsF (fun i k q => by unfold zSI at q; rw [a4 i (by omega) (by omega)]) (by rw [a4 0 (by omega) (by omega)]) (fun i k q => by rw [a4 i (by omega) (by omega)]) ⟨a1, a3⟩, Or.inl ⟨a1, a2, rfl⟩⟩
  · exact ⟨L, h, Or.inr ⟨a1, a2, rfl⟩⟩
theorem ca_end {τ : zTy} {fi fi' : zFi} {fr : zFr} {L Lm K : Nat} {r x : Int32} (h : zA τ fi fr L Lm K) (hw : (r = 1 ∧ 0 ≤ x.toInt ∧ x.toInt ≤ L ∧ fi' = zu fi 1 1 x) ∨ (r = 0 ∧ ¬ (0 ≤ x.toInt ∧ x.toInt ≤ L) ∧ fi' = fi)) : ∃ L1, zA τ fi' fr L1 Lm K ∧ ((0 ≤ x.toInt ∧ x.toInt ≤ L ∧ x = nI L1) ∨ (¬ (0 ≤ x.toInt ∧ x.toInt ≤ L) ∧ L1 = L)) := by
  have h400 := h.2.2.2.1.1
  rcases hw with ⟨-, a1, a2, e⟩ | ⟨-, a1, rfl⟩
  · obtain ⟨L1, b1, b2⟩ := zNatB (x := x) (n := 401) a1 (by omega)
    exact ⟨L1, h.clsF (fun i k q => by unfold zSI at q; rw [e, zu_n (by omega)]) (by rw [e, zu_n (by omega)]) (fun i k q => by rw [e, zu_n (by omega)]) ⟨by omega, by rw [e, zu_s]; exact b2⟩, Or.inl ⟨a1, a2, b2⟩⟩
  · exact ⟨L, h, Or.inr ⟨a1, rfl⟩⟩
section CA
variable {τ τ' : zTy} {fi fi' : zFi} {fr fr' : zFr} {Lc Lm K n c o d s p : Nat} {r : Int32}
theorem ca_add {x1 x2 x3 x4 : Int32} (h : zA τ fi fr Lc Lm K) (hc : zCI τ fi fr n c o d s p) (ht : ∃ td, td ≤ 999 ∧ fi 0 15 = nI td) (hn : n < 30) (e : zAdd τ fi fr n x1 x2 x3 x4 τ' fi' fr') : zA τ' fi' fr' Lc Lm K := by
  have h4 := n4_add h.2.1 e
  obtain ⟨td, t1, t2⟩ := ht
  obtain ⟨a1, a2, a3, a4, a5, -⟩ := e
  obtain ⟨c1, c2, c3, c4, c5, c6, k, c7, c8⟩ := hc
  refine h.cls a2 h4 ⟨⟨n + 1, c, o, d, s, p, a1, c2.cg (by omega) (a4 _ _ (by omega)) (fun k => a5 _ _ (by omega)), c3.cg (by omega) (fun i k q => a4 i k (by omega)) (fun i k q => a5 i k (by omega)) (fun i a b => (a3 i (by omega)).2), c4.cg (fun i k q => a4 i k (by omega)) (fun i k q => a5 i k (by omega)) (fun i a b => (a3 i (by omega)).2), c5.cg (a4 _ _ (by omega)) (fun k => a5 _ _ (by omega)) (fun i a b => (a3 i (by omega)).2.1), c6.cg (by omega) (a4 _ _ (by omega)) (fun k => a5 _ _ (by omega)), k, c7, by rw [a4 _ _ (by omega)]; exact c8⟩, td, t1, by rw [a4 _ _ (by omega)]; exact t2⟩ ⟨h.2.2.2.1.1, by rw [a4 _ _ (by omega)]; exact h.2.2.2.1.2⟩ (fun i k q => a4 i k (by omega)) (fun k => a5 _ _ (by omega)) (fun i q1 q2 => (a3 i (by omega)).2)
theorem ca_thing {x1 x2 x3 x4 : Int32} {P1 : Int32 → Prop} {P2 P3 P4 : Prop} (h : zA τ fi fr Lc Lm K) (hc : zCI τ fi fr n c o d s p) (ht : ∃ td, td ≤ 999 ∧ fi 0 15 = nI td) (hw : (∃ rv : Int32, r = nI 0 ∧ P1 rv ∧ (n < 30 ∧ P2 ∧ rv = nI n ∧ zAdd τ fi fr n x1 x2 x3 x4 τ' fi' fr')) ∨ (r = nI 1 ∧ τ' = τ ∧ fi' = fi ∧ fr' = fr ∧ P3) ∨ (r = nI 2 ∧ τ' = τ ∧ fi' = fi ∧ fr' = fr ∧ P4)) : zA τ' fi' fr' Lc Lm K := by
  rcases hw with ⟨rv, -, -, hn, -, -, e⟩ | ⟨-, rfl, rfl, rfl, -⟩ | ⟨-, rfl, rfl, rfl, -⟩
  · exact ca_add h hc ht hn e
  · exact h
  · exact h
theorem ca_price {x y z w : Int32} {P1 : Int32 → Prop} {P2 P3 P4 P5 : Prop} (h : zA τ fi fr Lc Lm K) (hc : zCI τ fi fr n c o d s p) (ht : ∃ td, td ≤ 999 ∧ fi 0 15 = nI td) (hw : (∃ rv : Int32, r = nI 0 ∧ P1 rv ∧ (∃ t k, t < n ∧ x = nI t ∧ P2 ∧ fi (300 + t) 6 = nI k ∧ k < 4 ∧ rv = nI (k + 1) ∧ fi' = zu (zu (zu (zu fi (340 + t) k y) (380 + t) k z) (420 + t) k w) (300 + t) 6 (nI (k + 1)))) ∨ (r = nI 1 ∧ fi' = fi ∧ P3) ∨ (r = nI 2 ∧ fi' = fi ∧ P4) ∨ (r = nI 3 ∧ fi' = fi ∧ P5)) : zA τ fi' fr Lc Lm K := by
  rcases hw with ⟨rv, -, -, t, k, a1, -, -, a2, a3, -, e⟩ | ⟨-, rfl, -⟩ | ⟨-, rfl, -⟩ | ⟨-, rfl, -⟩
  · obtain ⟨td, t1, t2⟩ := ht
    obtain ⟨c1, c2, c3, c4, c5, c6, k0, c7, c8⟩ := hc
    have hn := c1.1
    have F : ∀ i j, ¬ ((i = 340 + t ∨ i = 380 + t ∨ i = 420 + t) ∨ (i = 300 + t ∧ j = 6)) → fi' i j = fi i j := fun i j q => by rw [e, zu_n (by omega), zu_n (by omega), zu_n (by omega), zu_n (by omega)]
    refine h.cls h.1 h.2.1 ⟨⟨n, c, o, d, s, p, ⟨c1.1, by rw [F _ _ (by omega)]; exact c1.2.1, fun t' ht' => ?_, c1.2.2.2⟩, c2.cg (Nat.le_refl _) (F _ _ (by omega)) (fun _ => rfl), c3.cg (Nat.le_refl _) (fun i k q => F i k (by omega)) (fun _ _ _ => rfl) (fun _ _ _ => ⟨rfl, rfl⟩), c4.cg (fun i k q => F i k (by omega)) (fun _ _ _ => rfl) (fun _ _ _ => ⟨rfl, rfl⟩), c5.cg (F _ _ (by omega)) (fun _ => rfl) (fun _ _ _ => rfl), c6.cg (Nat.le_refl _) (F _ _ (by omega)) (fun _ => rfl), k0, c7, by rw [F _ _ (by omega)]; exact c8⟩, td, t1, by rw [F _ _ (by omega)]; exact t2⟩ ⟨h.2.2.2.1.1, by rw [F _ _ (by omega)]; exact h.2.2.2.1.2⟩ (fun i k q => F i k (by omega)) (fun _ => rfl) (fun _ _ _ => ⟨rfl, rfl⟩)
    obtain ⟨b1, b2, b3, b4, b5⟩ := c1.2.2.1 t' ht'
    refine ⟨b1, b2, b3, by rw [F _ _ (by omega)]; exact b4, ?_⟩
    by_cases q : t' = t
    · subst q; exact ⟨k + 1, by omega, by rw [e, zu_s]⟩
    · rw [F _ _ (by omega)]; exact b5
  · exact h
  · exact h
  · exact h
theorem ca_coming {x y z : Int32} {P1 : Int32 → Prop} {P2 P3 P4 P5 : Prop} (h : zA τ fi fr Lc Lm K) (hc : zCI τ fi fr n c o d s p) (ht : ∃ td, td ≤ 999 ∧ fi 0 15 = nI td) (hw : (∃ rv : Int32, r = nI 0 ∧ P1 rv ∧ (∃ b, b < n ∧ x = nI b ∧ P2 ∧ c < 60 ∧ rv = nI (c + 1) ∧ fi' = zu (zu (zu fi 7 c y) 8 c z) 5 3 (nI (c + 1)) ∧ fr' = zur fr 6 c (some (300 + b)))) ∨ (r = nI 1 ∧ fi' = fi ∧ fr' = fr ∧ P3) ∨ (r = nI 2 ∧ fi' = fi ∧ fr' = fr ∧ P4) ∨ (r = nI 3 ∧ fi' = fi ∧ fr' = fr ∧ P5)) : zA τ fi' fr' Lc Lm K := by
  rcases hw with ⟨rv, -, -, b, a1, -, -, a2, -, e, e2⟩ | ⟨-, rfl, rfl, -⟩ | ⟨-, rfl, rfl, -⟩ | ⟨-, rfl, rfl, -⟩
  · obtain ⟨td, t1, t2⟩ := ht
    obtain ⟨c1, c2, c3, c4, c5, c6, k0, c7, c8⟩ := hc
    have F : ∀ i j, ¬ (i = 7 ∨ i = 8 ∨ (i = 5 ∧ j = 3)) → fi' i j = fi i j := fun i j q => by rw [e, zu_n (by omega), zu_n (by omega), zu_n (by omega)]
    have G : ∀ i j, ¬ (i = 6 ∧ j = c) → fr' i j = fr i j := fun i j q => by rw [e2, zur_n (by omega)]
    refine h.cls (by rw [e2]; exact h.1.ur (by omega)) h.2.1 ⟨⟨n, c + 1, o, d, s, p, c1.cg (fun i k q => F i k (by omega)) (fun i k q => G i k (by omega)) (fun _ _ _ => ⟨rfl, rfl⟩), ⟨by omega, by rw [e]; exact zu_s, fun j hj => ?_⟩, c3.cg (Nat.le_refl _) (fun i k q => F i k (by omega)) (fun i k q => G i k (by omega)) (fun _ _ _ => ⟨rfl, rfl⟩), c4.cg (fun i k q => F i k (by omega)) (fun i k q => G i k (by omega)) (fun _ _ _ => ⟨rfl, rfl⟩), c5.cg (F _ _ (by omega)) (fun k => G _ _ (by omega)) (fun _ _ _ => rfl), c6.cg (Nat.le_refl _) (F _ _ (by omega)) (fun k => G _ _ (by omega)), k0, c7, by rw [F _ _ (by omega)]; exact c8⟩, td, t1, by rw [F _ _ (by omega)]; exact t2⟩ ⟨h.2.2.2.1.1, by rw [F _ _ (by omega)]; exact h.2.2.2.1.2⟩ (fun i k q => F i k (by omega)) (fun k => G _ _ (by omega)) (fun _ _ _ => ⟨rfl, rfl⟩)
    by_cases q : j = c
    · subst q; exact ⟨b, a1, by rw [e2]; exact zur_s⟩
    · rw [G _ _ (by omega)]; exact c2.2.2 j (by omega)
  · exact h
  · exact h
  · exact h
theorem ca_rules {P1 : Int32 → Prop} {P3 P4 : Prop} (h : zA τ fi fr Lc Lm K) (hw : (∃ rv : Int32, r = nI 0 ∧ P1 rv ∧ (fi' 1 1 = nI 0 ∧ ∀ i k, ¬ (i = 1 ∨ i = 10 ∨ i = 11 ∨ i = 13 ∨ i = 14 ∨ (i = 0 ∧ k = 14)) → fi' i k = fi i k)) ∨ (r = nI 1 ∧ P3 ∧ (P4 ∧ fi' 1 1 = nI 0 ∧ ∀ i k, ¬ (i = 1 ∨ i = 10 ∨ i = 11 ∨ i = 13 ∨ i = 14 ∨ (i = 0 ∧ k = 14)) → fi' i k = fi i k))) : zA τ fi' fr 0 Lm K := by
  obtain ⟨a1, F⟩ : fi' 1 1 = nI 0 ∧ ∀ i k, ¬ (i = 1 ∨ i = 10 ∨ i = 11 ∨ i = 13 ∨ i = 14 ∨ (i = 0 ∧ k = 14)) → fi' i k = fi i k := by
    rcases hw with ⟨rv, -, -, q⟩ | ⟨-, -, -, q⟩ <;> exact q
  exact h.clsF (fun i k q => F i k (by unfold zSI at q; omega)) (F _ _ (by omega)) (fun i k q => F i k (by omega)) ⟨by omega, a1⟩
theorem ca_letter {P1 : Int32 → Prop} {P3 P4 P5 P6 : Prop} (h : zA τ fi fr Lc Lm K) (hc : zCI τ fi fr n c o d s p) (ht : ∃ td, td ≤ 999 ∧ fi 0 15 = nI td) (hw : (∃ rv : Int32, r = nI 0 ∧ P1 rv ∧ ((o < 60 ∧ rv = nI o ∧ zLo τ fi fr n o d τ' fi' fr') ∨ (d < 512 ∧ zLd τ fi fr d τ' fi' fr'))) ∨ (r = nI 1 ∧ P3 ∧ (P4 ∧ zLg τ fi fr d τ' fi' fr')) ∨ (r = nI 2 ∧ P5 ∧ (P6 ∧ zLg τ fi fr d τ' fi' fr'))) : zA τ' fi' fr' 0 Lm K := by
  obtain ⟨td, t1, t2⟩ := ht
  obtain ⟨c1, c2, c3, c4, c5, c6, k0, c7, c8⟩ := hc
  have hG : zLg τ fi fr d τ' fi' fr' → zA τ' fi' fr' 0 Lm K := fun e => by
    obtain ⟨a1, a2, a3, a4, a5, a6⟩ := e
    have hd := c4.1
    refine h.cls a1 (fun i q => by rw [a3]; exact h.2.1 i q) ⟨⟨n, c, o, d, s, p, c1.cg (fun i k q => a5 i k (by omega)) (fun i k q => a6 i k (by omega)) (fun i a b => ⟨a3 i, (a4 i (by omega)).2⟩), c2.cg (Nat.le_refl _) (a5 _ _ (by omega)) (fun k => a6 _ _ (by omega)), c3.cg (Nat.le_refl _) (fun i k q => a5 i k (by omega)) (fun i k q => a6 i k (by omega)) (fun i a b => ⟨a3 i, (a4 i (by omega)).2⟩), ?_, c5.cg (a5 _ _ (by omega)) (fun k => a6 _ _ (by omega)) (fun i a b => a3 i), c6.cg (Nat.le_refl _) (a5 _ _ (by omega)) (fun k => a6 _ _ (by omega)), k0, c7, by rw [a5 _ _ (by omega)]; exact c8⟩, td, t1, by rw [a5 _ _ (by omega)]; exact t2⟩ ⟨by omega, a2⟩ (fun i k q => a5 i k (by omega)) (fun k => a6 _ _ (by omega)) (fun i q1 q2 => ⟨a3 i, (a4 i (by omega)).2⟩)
    obtain ⟨d1, d2, d3, d4⟩ := c4
    refine ⟨d1, by rw [a5 _ _ (by omega)]; exact d2, fun k hk => ?_, fun k q1 q2 => ?_⟩
    · obtain ⟨⟨b1, b2, b3, b4, b5⟩, ⟨e1, e2, e3⟩, ⟨l, f1, f2⟩, f3⟩ := d3 k hk
      exact ⟨⟨by rw [a3]; exact b1, by rw [a3]; exact b2, by rw [a3]; exact b3, by rw [(a4 _ (by omega)).2]; exact b4, by rw [(a4 _ (by omega)).2]; exact b5⟩, ⟨by rw [a6 _ _ (by omega)]; exact e1, by rw [a6 _ _ (by omega)]; exact e2, by rw [a6 _ _ (by omega)]; exact e3⟩, ⟨l, f1, by rw [a5 _ _ (by omega)]; exact f2⟩, by rw [a5 _ _ (by omega)]; exact f3⟩
    · rw [a3, a3, a3]; exact d4 k q1 q2
  rcases hw with ⟨rv, -, -, ⟨ho, -, e⟩ | ⟨hq, e⟩⟩ | ⟨-, -, -, e⟩ | ⟨-, -, -, e⟩
  · have h4 := n4_Lo h.2.1 e
    obtain ⟨a0, a1, a2, a3, a4, a5, a6, -⟩ := e
    have hd := c4.1
    refine h.cls a1 h4 ⟨⟨n, c, o + 1, d, s, p, c1.cg (fun i k q => a5 i k (by omega)) (fun i k q => a6 i k (by omega)) (fun i a b => ⟨a3 i (by omega), (a4 i (by omega)).2⟩), c2.cg (Nat.le_refl _) (a5 _ _ (by omega)) (fun k => a6 _ _ (by omega)), a0, ?_, c5.cg (a5 _ _ (by omega)) (fun k => a6 _ _ (by omega)) (fun i a b => a3 i (by omega)), c6.cg (Nat.le_refl _) (a5 _ _ (by omega)) (fun k => a6 _ _ (by omega)), k0, c7, by rw [a5 _ _ (by omega)]; exact c8⟩, td, t1, by rw [a5 _ _ (by omega)]; exact t2⟩ ⟨by omega, a2⟩ (fun i k q => a5 i k (by omega)) (fun k => a6 _ _ (by omega)) (fun i q1 q2 => ⟨a3 i (by omega), (a4 i (by omega)).2⟩)
    obtain ⟨d1, d2, d3, d4⟩ := c4
    refine ⟨d1, by rw [a5 _ _ (by omega)]; exact d2, fun k hk => ?_, fun k q1 q2 => ?_⟩
    · obtain ⟨⟨b1, b2, b3, b4, b5⟩, ⟨e1, e2, e3⟩, ⟨l, f1, f2⟩, f3⟩ := d3 k hk
      exact ⟨⟨by rw [a3 _ (by omega)]; exact b1, by rw [a3 _ (by omega)]; exact b2, by rw [a3 _ (by omega)]; exact b3, by rw [(a4 _ (by omega)).2]; exact b4, by rw [(a4 _ (by omega)).2]; exact b5⟩, ⟨by rw [a6 _ _ (by omega)]; exact e1, by rw [a6 _ _ (by omega)]; exact e2, by rw [a6 _ _ (by omega)]; exact e3⟩, ⟨l, f1, by rw [a5 _ _ (by omega)]; exact f2⟩, by rw [a5 _ _ (by omega)]; exact f3⟩
    · rw [a3 _ (by omega), a3 _ (by omega), a3 _ (by omega)]; exact d4 k q1 q2
  · have h4 := n4_Ld h.2.1 e
    obtain ⟨a0, a1, a2, a3, a4, a5⟩ := e
    exact h.cls a1 h4 ⟨⟨n, c, o, d + 1, s, p, c1.cg (fun i k q => a4 i k (by omega)) (fun i k q => a5 i k (by omega)) (fun i a b => (a3 i (by omega)).2), c2.cg (Nat.le_refl _) (a4 _ _ (by omega)) (fun k => a5 _ _ (by omega)), c3.cg (Nat.le_refl _) (fun i k q => a4 i k (by omega)) (fun i k q => a5 i k (by omega)) (fun i a b => (a3 i (by omega)).2), a0, c5.cg (a4 _ _ (by omega)) (fun k => a5 _ _ (by omega)) (fun i a b => (a3 i (by omega)).2.1), c6.cg (Nat.le_refl _) (a4 _ _ (by omega)) (fun k => a5 _ _ (by omega)), k0, c7, by rw [a4 _ _ (by omega)]; exact c8⟩, td, t1, by rw [a4 _ _ (by omega)]; exact t2⟩ ⟨by omega, a2⟩ (fun i k q => a4 i k (by omega)) (fun k => a5 _ _ (by omega)) (fun i q1 q2 => (a3 i (by omega)).2)
  · exact hG e
  · exact hG e
theorem ca_waits {b : Nat} (h : zA τ fi fr Lc Lm K) (hc : zCI τ fi fr n c o d s p) (ht : ∃ td, td ≤ 999 ∧ fi 0 15 = nI td) (hb : b < d) : zCI τ (zu fi (3000 + b) 9 (nI 0)) fr n c o d s p ∧ zA τ (zu fi (3000 + b) 9 (nI 0)) fr Lc Lm K := by
  obtain ⟨td, t1, t2⟩ := ht
  obtain ⟨c1, c2, c3, c4, c5, c6, k0, c7, c8⟩ := hc
  have hd := c4.1
  have F : ∀ i j, ¬ (i = 3000 + b ∧ j = 9) → zu fi (3000 + b) 9 (nI 0) i j = fi i j := fun i j q => zu_n (by omega)
  have hc' : zCI τ (zu fi (3000 + b) 9 (nI 0)) fr n c o d s p := by
    refine ⟨c1.ci (fun i k q => F i k (by omega)), c2.ci (fun i k q => F i k (by omega)), c3.ci (fun i k q => F i k (by omega)), ?_, c5.ci (fun i k q => F i k (by omega)), c6.ci (fun i k q => F i k (by omega)), k0, c7, by rw [F _ _ (by omega)]; exact c8⟩
    obtain ⟨d1, d2, d3, d4⟩ := c4
    refine ⟨d1, by rw [F _ _ (by omega)]; exact d2, fun k hk => ?_, d4⟩
    obtain ⟨b1, b2, ⟨l, f1, f2⟩, f3⟩ := d3 k hk
    refine ⟨b1, b2, ⟨l, f1, by rw [F _ _ (by omega)]; exact f2⟩, ?_⟩
    by_cases q : k = b
    · subst q; exact Or.inl (by rw [zu_s]; decide)
    · rw [F _ _ (by omega)]; exact f3
  exact ⟨hc', h.cls h.1 h.2.1 ⟨⟨n, c, o, d, s, p, hc'⟩, td, t1, by rw [F _ _ (by omega)]; exact t2⟩ ⟨h.2.2.2.1.1, by rw [F _ _ (by omega)]; exact h.2.2.2.1.2⟩ (fun i k q => F i k (by omega)) (fun _ => rfl) (fun _ _ _ => ⟨rfl, rfl⟩)⟩
theorem ca_NO (h : zA τ fi fr Lc Lm K) (hc : zCI τ fi fr n c o d s p) (ht : ∃ td, td ≤ 999 ∧ fi 0 15 = nI td) (e : zNO τ fi fr n o τ' fi' fr') : zA τ' fi' fr' Lc Lm K := by
  have h4 := n4_NO h.2.1 e
  obtain ⟨td, t1, t2⟩ := ht
  obtain ⟨c1, c2, c3, c4, c5, c6, k0, c7, c8⟩ := hc
  obtain ⟨a0, a1, a3, a4, a5, -, -⟩ := e
  have ho := a0.1
  exact h.cls a1 h4 ⟨⟨n, c, o + 1, d, s, p, c1.cg (fun i k q => a4 i k (by omega)) (fun i k q => a5 i k (by omega)) (fun i a b => (a3 i (by omega)).2), c2.cg (Nat.le_refl _) (a4 _ _ (by omega)) (fun k => a5 _ _ (by omega)), a0, c4.cg (fun i k q => a4 i k (by omega)) (fun i k q => a5 i k (by omega)) (fun i a b => (a3 i (by omega)).2), c5.cg (a4 _ _ (by omega)) (fun k => a5 _ _ (by omega)) (fun i a b => (a3 i (by omega)).2.1), c6.cg (Nat.le_refl _) (a4 _ _ (by omega)) (fun k => a5 _ _ (by omega)), k0, c7, by rw [a4 _ _ (by omega)]; exact c8⟩, td, t1, by rw [a4 _ _ (by omega)]; exact t2⟩ ⟨h.2.2.2.1.1, by rw [a4 _ _ (by omega)]; exact h.2.2.2.1.2⟩ (fun i k q => a4 i k (by omega)) (fun k => a5 _ _ (by omega)) (fun i q1 q2 => (a3 i (by omega)).2)
theorem ca_settle {x : Int32} {P1 : Int32 → Prop} {P3 P4 P5 : Prop} (h : zA τ fi fr Lc Lm K) (hc : zCI τ fi fr n c o d s p) (ht : ∃ td, td ≤ 999 ∧ fi 0 15 = nI td) (hw : (∃ rv : Int32, r = nI 0 ∧ P1 rv ∧ ((τ' = τ ∧ fr' = fr ∧ ((∃ b, b < d ∧ x = nI b ∧ fi' = zu fi (3000 + b) 9 (nI 0)) ∨ fi' = fi)) ∨ (∃ b, b < d ∧ x = nI b ∧ rv = nI o ∧ zNO τ (zu fi (3000 + b) 9 (nI 0)) fr n o τ' fi' fr'))) ∨ (r = nI 1 ∧ τ' = τ ∧ fi' = fi ∧ fr' = fr ∧ P3) ∨ (r = nI 2 ∧ τ' = τ ∧ fi' = fi ∧ fr' = fr ∧ P4) ∨ (r = nI 3 ∧ τ' = τ ∧ fi' = fi ∧ fr' = fr ∧ P5)) : zA τ' fi' fr' Lc Lm K := by
  rcases hw with ⟨rv, -, -, ⟨rfl, rfl, ⟨b, hb, -, rfl⟩ | rfl⟩ | ⟨b, hb, -, -, e⟩⟩ | ⟨-, rfl, rfl, rfl, -⟩ | ⟨-, rfl, rfl, rfl, -⟩ | ⟨-, rfl, rfl, rfl, -⟩
  · exact (ca_waits h hc ht hb).2
  · exact h
  · obtain ⟨q1, q2⟩ := ca_waits h hc ht hb
    obtain ⟨td, t1, t2⟩ := ht
    exact ca_NO q2 q1 ⟨td, t1, by rw [zu_n (by omega)]; exact t2⟩ e
  · exact h
  · exact h
  · exact h
theorem ca_days {x : Int32} {td : Nat} {P1 : Int32 → Prop} {P3 : Prop} {P9 : Nat → Prop} (h : zA τ fi fr Lc Lm K) (hc : zCI τ fi fr n c o d s p) (hw : (∃ rv : Int32, r = nI 0 ∧ P1 rv ∧ (∃ b, b ≤ 100 ∧ x = nI b ∧ (∃ c2, zCm fi' fr' n c2) ∧ zDy n τ fi fr τ' fi' fr' ∧ zFix τ' fr' ∧ (∃ k, k ≤ 16 ∧ fi' 18 3 = nI k) ∧ (∃ s2, zSn τ' fi' fr' s2) ∧ rv = nI (min (td + b) 999) ∧ fi' 0 15 = nI (min (td + b) 999) ∧ P9 b)) ∨ (r = nI 1 ∧ τ' = τ ∧ fi' = fi ∧ fr' = fr ∧ P3)) : zA τ' fi' fr' Lc Lm K := by
  rcases hw with ⟨rv, -, -, b, -, -, ⟨c2, w1⟩, w2, w3, w4, ⟨s2, w5⟩, -, w6, -⟩ | ⟨-, rfl, rfl, rfl, -⟩
  · have h4 := n4_Dy h.2.1 w2 ⟨s2, w5⟩
    obtain ⟨c1, c2', c3, c4, c5, c6, -⟩ := hc
    have hT := c1.dy w2
    have hO := c3.dy w2
    obtain ⟨a1, a2, a3, a4⟩ := w2
    exact h.cls w3 h4 ⟨⟨n, c2, o, d, s2, p, hT, w1, hO, c4.cg (fun i k q => a2 i k (by omega)) (fun i k q => a3 i k (by omega)) (fun i a b => (a1 i (by omega)).2), w5, c6.cg (Nat.le_refl _) (a2 _ _ (by omega)) (fun k => a3 _ _ (by omega)), w4⟩, min (td + b) 999, by omega, w6⟩ ⟨h.2.2.2.1.1, by rw [a2 _ _ (by omega)]; exact h.2.2.2.1.2⟩ (fun i k q => a2 i k (by omega)) (fun k => a3 _ _ (by omega)) (fun i q1 q2 => (a1 i (by omega)).2)
  · exact h
theorem ca_back {P1 : Int32 → Prop} {P3 P4 : Prop} (h : zA τ fi fr Lc Lm K) (hw : (∃ rv : Int32, r = nI 0 ∧ (∀ i k, ¬ ((1000 ≤ i ∧ i < 1480 ∧ 3 ≤ k) ∨ (300 ≤ i ∧ i < 330 ∧ k = 5) ∨ (500 ≤ i ∧ i < 560 ∧ k = 4)) → fi' i k = fi i k)) ∨ (r = nI 1 ∧ fi' = fi ∧ P3) ∨ (r = nI 2 ∧ fi' = fi ∧ P4)) : zA τ fi' fr Lc Lm K := by
  rcases hw with ⟨rv, -, F⟩ | ⟨-, rfl, -⟩ | ⟨-, rfl, -⟩
  · exact h.clsF (fun i k q => F i k (by unfold zSI at q; omega)) (F _ _ (by omega)) (fun i k q => F i k (by omega)) ⟨h.2.2.2.1.1, by rw [F _ _ (by omega)]; exact h.2.2.2.1.2⟩
  · exact h
  · exact h
theorem ca_pick {x : Int32} {P1 : Int32 → Prop} {P2 P3 P4 : Nat → Prop} {P5 : Prop} (h : zA τ fi fr Lc Lm K) (hc : zCI τ fi fr n c o d s p) (ht : ∃ td, td ≤ 999 ∧ fi 0 15 = nI td) (hw : (∃ rv : Int32, r = nI 0 ∧ P1 rv ∧ (∃ b, b < n ∧ x = nI b ∧ ((rv = -1 ∧ fi' = fi ∧ fr' = fr ∧ P2 b) ∨ (p < 10 ∧ P3 b ∧ rv = nI (p + 1) ∧ fi' = zu fi 22 1 (nI (p + 1)) ∧ fr' = zur fr 23 p (some (300 + b)))))) ∨ (r = nI 1 ∧ fi' = fi ∧ fr' = fr ∧ P5)) : zA τ fi' fr' Lc Lm K := by
  rcases hw with ⟨rv, -, -, b, a1, -, ⟨-, rfl, rfl, -⟩ | ⟨a2, -, -, e, e2⟩⟩ | ⟨-, rfl, rfl, -⟩
  · exact h
  · obtain ⟨td, t1, t2⟩ := ht
    obtain ⟨c1, c2, c3, c4, c5, c6, k0, c7, c8⟩ := hc
    have F : ∀ i j, ¬ (i = 22 ∧ j = 1) → fi' i j = fi i j := fun i j q => by rw [e, zu_n (by omega)]
    have G : ∀ i j, ¬ (i = 23 ∧ j = p) → fr' i j = fr i j := fun i j q => by rw [e2, zur_n (by omega)]
    refine h.cls (by rw [e2]; exact h.1.ur (by omega)) h.2.1 ⟨⟨n, c, o, d, s, p + 1, c1.cg (fun i k q => F i k (by omega)) (fun i k q => G i k (by omega)) (fun _ _ _ => ⟨rfl, rfl⟩), c2.cg (Nat.le_refl _) (F _ _ (by omega)) (fun k => G _ _ (by omega)), c3.cg (Nat.le_refl _) (fun i k q => F i k (by omega)) (fun i k q => G i k (by omega)) (fun _ _ _ => ⟨rfl, rfl⟩), c4.cg (fun i k q => F i k (by omega)) (fun i k q => G i k (by omega)) (fun _ _ _ => ⟨rfl, rfl⟩), c5.cg (F _ _ (by omega)) (fun k => G _ _ (by omega)) (fun _ _ _ => rfl), ⟨by omega, by rw [e]; exact zu_s, fun j hj => ?_⟩, k0, c7, by rw [F _ _ (by omega)]; exact c8⟩, td, t1, by rw [F _ _ (by omega)]; exact t2⟩ ⟨h.2.2.2.1.1, by rw [F _ _ (by omega)]; exact h.2.2.2.1.2⟩ (fun i k q => F i k (by omega)) (fun k => G _ _ (by omega)) (fun _ _ _ => ⟨rfl, rfl⟩)
    by_cases q : j = p
    · subst q; exact ⟨b, a1, by rw [e2]; exact zur_s⟩
    · rw [G _ _ (by omega)]; exact c6.2.2 j (by omega)
  · exact h
theorem ca_walk (h : zA τ fi fr Lc Lm K) (hc : zCI τ fi fr n c o d s p) (ht : ∃ td, td ≤ 999 ∧ fi 0 15 = nI td) (hw : fi' 22 1 = nI 0 ∧ ∀ a b, ¬ (a = 24 ∨ a = 25 ∨ a = 26 ∨ a = 27 ∨ (a = 22 ∧ b = 1)) → fi' a b = fi a b) : zA τ fi' fr Lc Lm K := by
  obtain ⟨td, t1, t2⟩ := ht
  obtain ⟨c1, c2, c3, c4, c5, c6, k0, c7, c8⟩ := hc
  obtain ⟨w1, F⟩ := hw
  exact h.cls h.1 h.2.1 ⟨⟨n, c, o, d, s, 0, c1.ci (fun i k q => F i k (by omega)), c2.ci (fun i k q => F i k (by omega)), c3.ci (fun i k q => F i k (by omega)), c4.ci (fun i k q => F i k (by omega)), c5.ci (fun i k q => F i k (by omega)), ⟨by omega, w1, fun j hj => absurd hj (by omega)⟩, k0, c7, by rw [F _ _ (by omega)]; exact c8⟩, td, t1, by rw [F _ _ (by omega)]; exact t2⟩ ⟨h.2.2.2.1.1, by rw [F _ _ (by omega)]; exact h.2.2.2.1.2⟩ (fun i k q => F i k (by omega)) (fun _ => rfl) (fun _ _ _ => ⟨rfl, rfl⟩)
end CA
