/-! ===== WHAT STAYS TRUE FROM CALL TO CALL ===== -/
def zCC (τ : zTy) (fi : zFi) (fr : zFr) : Prop := (∃ n c o d s p, zCI τ fi fr n c o d s p) ∧ ∃ td, td ≤ 999 ∧ fi 0 15 = nI td
def zMI (τ : zTy) (fi : zFi) (fr : zFr) (K : Nat) : Prop := ∃ n c o g Ln d p sn td Bd, zMt fi n ∧ zMc fi n c ∧ zMx fi n ∧ zMo fi n o ∧ zMq τ fi fr g Ln d ∧ d ≤ K ∧ zMp fi n p ∧ (sn ≤ 300 ∧ fi 30 61 = nI sn) ∧ (td ≤ 999 ∧ fi 30 1 = nI td) ∧ zMs fi Bd ∧ Bd ≤ 600000 * td + 100 * K
def zA (τ : zTy) (fi : zFi) (fr : zFr) (Lc Lm K : Nat) : Prop := zFix τ fr ∧ (∀ i, 100 ≤ i → τ.2.2.1 i ≠ 4) ∧ zCC τ fi fr ∧ (Lc ≤ 400 ∧ fi 1 1 = nI Lc) ∧ (Lm ≤ 400 ∧ fi 30 21 = nI Lm) ∧ zMI τ fi fr K
theorem zMq.cg {τ τ' : zTy} {fi fi' : zFi} {fr fr' : zFr} {g Ln d : Nat} (h : zMq τ fi fr g Ln d) (hi : ∀ i k, (i = 30 ∧ k = 35) ∨ (200 ≤ i ∧ i < 240) → fi' i k = fi i k) (hr : ∀ k, 37 ≤ k → k ≤ 44 → fr' 30 k = fr 30 k) (ht : ∀ i, 200 ≤ i → i < 240 → τ'.2.2.1 i = τ.2.2.1 i ∧ τ'.2.2.2 i = τ.2.2.2 i) : zMq τ' fi' fr' g Ln d := by
  obtain ⟨h1, h2, h3, ⟨⟨a0, b0⟩, ⟨a1, b1⟩, ⟨a2, b2⟩, ⟨a3, b3⟩, ⟨a4, b4⟩, ⟨a5, b5⟩, ⟨a6, b6⟩, ⟨a7, b7⟩⟩, ⟨r0, r1, r2, r3, r4, r5, r6, r7⟩, h6, h7⟩ := h
  have hg : g ≤ 3 := by omega
  refine ⟨h1, h2, by rw [hi 30 35 (by omega)]; exact h3, ⟨⟨by rw [(ht _ (by omega) (by omega)).1]; exact a0, by rw [(ht _ (by omega) (by omega)).2]; exact b0⟩, ⟨by rw [(ht _ (by omega) (by omega)).1]; exact a1, by rw [(ht _ (by omega) (by omega)).2]; exact b1⟩, ⟨by rw [(ht _ (by omega) (by omega)).1]; exact a2, by rw [(ht _ (by omega) (by omega)).2]; exact b2⟩, ⟨by rw [(ht _ (by omega) (by omega)).1]; exact a3, by rw [(ht _ (by omega) (by omega)).2]; exact b3⟩, ⟨by rw [(ht _ (by omega) (by omega)).1]; exact a4, by rw [(ht _ (by omega) (by omega)).2]; exact b4⟩, ⟨by rw [(ht _ (by omega) (by omega)).1]; exact a5, by rw [(ht _ (by omega) (by omega)).2]; exact b5⟩, ⟨by rw [(ht _ (by omega) (by omega)).1]; exact a6, by rw [(ht _ (by omega) (by omega)).2]; exact b6⟩, ⟨by rw [(ht _ (by omega) (by omega)).1]; exact a7, by rw [(ht _ (by omega) (by omega)).2]; exact b7⟩⟩, ⟨by rw [hr _ (by omega) (by omega)]; exact r0, by rw [hr _ (by omega) (by omega)]; exact r1, by rw [hr _ (by omega) (by omega)]; exact r2, by rw [hr _ (by omega) (by omega)]; exact r3, by rw [hr _ (by omega) (by omega)]; exact r4, by rw [hr _ (by omega) (by omega)]; exact r5, by rw [hr _ (by omega) (by omega)]; exact r6, by rw [hr _ (by omega) (by omega)]; exact r7⟩, fun k hk => ?_, fun k k1 k2 j hj => by rw [(ht _ (by omega) (by omega)).1]; exact h7 k k1 k2 j hj⟩
  obtain ⟨c, e1, e2, e3⟩ := h6 k hk
  exact ⟨c, e1, by rw [hi _ _ (by omega)]; exact e2, fun j hj => by rw [hi _ _ (by omega)]; exact e3 j hj⟩
theorem zMI.cg {τ τ' : zTy} {fi fi' : zFi} {fr fr' : zFr} {K : Nat} (h : zMI τ fi fr K) (hi : ∀ i k, (i = 30 ∧ (k = 1 ∨ k = 2 ∨ k = 13 ∨ k = 35 ∨ k = 45 ∨ k = 61 ∨ k = 68)) ∨ i = 35 ∨ i = 36 ∨ i = 40 ∨ i = 41 ∨ i = 43 ∨ (54 ≤ i ∧ i ≤ 64) ∨ i = 71 ∨ (200 ≤ i ∧ i < 240) → fi' i k = fi i k) (hr : ∀ k, 37 ≤ k → k ≤ 44 → fr' 30 k = fr 30 k) (ht : ∀ i, 200 ≤ i → i < 240 → τ'.2.2.1 i = τ.2.2.1 i ∧ τ'.2.2.2 i = τ.2.2.2 i) : zMI τ' fi' fr' K := by
  obtain ⟨n, c, o, g, Ln, d, p, sn, td, Bd, h1, h2, h3, h4, h5, h6, h7, ⟨h8, h9⟩, ⟨h10, h11⟩, h12, h13⟩ := h
  exact ⟨n, c, o, g, Ln, d, p, sn, td, Bd, h1.ci (fun i k q => hi i k (by omega)), h2.ci (fun i k q => hi i k (by omega)), h3.ci (fun i k q => hi i k (by omega)), h4.ci (fun i k q => hi i k (by omega)), h5.cg (fun i k q => hi i k (by omega)) hr ht, h6, h7.ci (fun i k q => hi i k (by omega)), ⟨h8, by rw [hi _ _ (by omega)]; exact h9⟩, ⟨h10, by rw [hi _ _ (by omega)]; exact h11⟩, h12.ci (fun i k q => hi i k (by omega)), h13⟩
theorem zMI.ci {τ : zTy} {fi fi' : zFi} {fr : zFr} {K : Nat} (h : zMI τ fi fr K) (hi : ∀ i k, (i = 30 ∧ (k = 1 ∨ k = 2 ∨ k = 13 ∨ k = 35 ∨ k = 45 ∨ k = 61 ∨ k = 68)) ∨ i = 35 ∨ i = 36 ∨ i = 40 ∨ i = 41 ∨ i = 43 ∨ (54 ≤ i ∧ i ≤ 64) ∨ i = 71 ∨ (200 ≤ i ∧ i < 240) → fi' i k = fi i k) : zMI τ fi' fr K := h.cg hi (fun _ _ _ => rfl) (fun _ _ _ => ⟨rfl, rfl⟩)
theorem zMI.mono {τ : zTy} {fi : zFi} {fr : zFr} {K K' : Nat} (h : zMI τ fi fr K) (hk : K ≤ K') : zMI τ fi fr K' := by
  obtain ⟨n, c, o, g, Ln, d, p, sn, td, Bd, h1, h2, h3, h4, h5, h6, h7, h8, h9, h12, h13⟩ := h
  exact ⟨n, c, o, g, Ln, d, p, sn, td, Bd, h1, h2, h3, h4, h5, by omega, h7, h8, h9, h12, by omega⟩
theorem zCI.fr {τ τ' : zTy} {fi fi' : zFi} {fr fr' : zFr} {n c o d s p : Nat} (h : zCI τ fi fr n c o d s p) (hi : ∀ i k, ¬ ((30 ≤ i ∧ i ≤ 72) ∨ (200 ≤ i ∧ i < 240)) → fi' i k = fi i k) (hr : ∀ i k, ¬ (i = 30 ∨ (200 ≤ i ∧ i < 240)) → fr' i k = fr i k) (ht : ∀ i, ¬ (200 ≤ i ∧ i < 240) → τ'.2.2.1 i = τ.2.2.1 i ∧ τ'.2.2.2 i = τ.2.2.2 i) : zCI τ' fi' fr' n c o d s p := by
  obtain ⟨h1, h2, h3, h4, h5, h6, k, h7, h8⟩ := h
  exact ⟨h1.cg (fun i k q => hi i k (by omega)) (fun i k q => hr i k (by omega)) (fun i a b => ht i (by omega)), h2.cg (Nat.le_refl _) (hi _ _ (by omega)) (fun k => hr _ _ (by omega)), h3.cg (Nat.le_refl _) (fun i k q => hi i k (by omega)) (fun i k q => hr i k (by omega)) (fun i a b => ht i (by omega)), h4.cg (fun i k q => hi i k (by omega)) (fun i k q => hr i k (by omega)) (fun i a b => ht i (by omega)), h5.cg (hi _ _ (by omega)) (fun k => hr _ _ (by omega)) (fun i a b => (ht i (by omega)).1), h6.cg (Nat.le_refl _) (hi _ _ (by omega)) (fun k => hr _ _ (by omega)), k, h7, by rw [hi _ _ (by omega)]; exact h8⟩
theorem zA.mono {τ : zTy} {fi : zFi} {fr : zFr} {Lc Lm K K' : Nat} (h : zA τ fi fr Lc Lm K) (hk : K ≤ K') : zA τ fi fr Lc Lm K' := ⟨h.1, h.2.1, h.2.2.1, h.2.2.2.1, h.2.2.2.2.1, h.2.2.2.2.2.mono hk⟩
/-- a step of the reference -/
theorem zA.modA {τ τ' : zTy} {fi fi' : zFi} {fr fr' : zFr} {Lc Lm Lm' K K' : Nat} (h : zA τ fi fr Lc Lm K) (hF : zFix τ' fr') (ht : ∀ i, ¬ (200 ≤ i ∧ i < 240) → τ'.2.2.1 i = τ.2.2.1 i ∧ τ'.2.2.2 i = τ.2.2.2 i) (h4 : ∀ i, 100 ≤ i → τ'.2.2.1 i ≠ 4) (hi : ∀ i k, ¬ ((30 ≤ i ∧ i ≤ 72) ∨ (200 ≤ i ∧ i < 240)) → fi' i k = fi i k) (hr : ∀ i k, ¬ (i = 30 ∨ (200 ≤ i ∧ i < 240)) → fr' i k = fr i k) (hL : Lm' ≤ 400 ∧ fi' 30 21 = nI Lm') (hM : zMI τ' fi' fr' K') : zA τ' fi' fr' Lc Lm' K' := by
  obtain ⟨-, -, ⟨⟨n, c, o, d, s, p, hc⟩, td, t1, t2⟩, ⟨l1, l2⟩, -, -⟩ := h
  exact ⟨hF, h4, ⟨⟨n, c, o, d, s, p, hc.fr hi hr ht⟩, td, t1, by rw [hi _ _ (by omega)]; exact t2⟩, ⟨l1, by rw [hi _ _ (by omega)]; exact l2⟩, hL, hM⟩
theorem zA.mod {τ : zTy} {fi fi' : zFi} {fr : zFr} {Lc Lm Lm' K K' : Nat} (h : zA τ fi fr Lc Lm K) (hi : ∀ i k, ¬ ((30 ≤ i ∧ i ≤ 72) ∨ (200 ≤ i ∧ i < 240)) → fi' i k = fi i k) (hL : Lm' ≤ 400 ∧ fi' 30 21 = nI Lm') (hM : zMI τ fi' fr K') : zA τ fi' fr Lc Lm' K' := h.modA h.1 (fun _ _ => ⟨rfl, rfl⟩) h.2.1 hi (fun _ _ _ => rfl) hL hM
theorem ma_q {τ : zTy} {fi fi' : zFi} {fr : zFr} {Lc Lm K : Nat} (h : zA τ fi fr Lc Lm K) (hf : ∀ a b, ¬ (a = 30 ∧ b = 0) → fi' a b = fi a b) : zA τ fi' fr Lc Lm K := h.mod (fun i k q => hf i k (by omega)) ⟨h.2.2.2.2.1.1, by rw [hf _ _ (by omega)]; exact h.2.2.2.2.1.2⟩ (h.2.2.2.2.2.ci (fun i k q => hf i k (by omega)))
theorem ma_feed {τ : zTy} {fi fi' : zFi} {fr : zFr} {L L1 K : Nat} {r1 r : Int32} (h : zA τ fi fr L1 L K) (hq : (L + 20 ≤ 400 ∧ r1 = nI (L + 20) ∧ L1 = L + 20) ∨ (400 < L + 20 ∧ r1 = -1 ∧ L1 = L)) (hw : ((L + 20 ≤ 400 ∧ r = nI (L + 20) ∧ fi' 30 21 = nI (L + 20)) ∨ (400 < L + 20 ∧ r = -1 ∧ fi' 30 21 = nI L)) ∧ ∀ a b, ¬ (a = 47 ∨ (a = 30 ∧ (b = 0 ∨ b = 21))) → fi' a b = fi a b) : zA τ fi' fr L1 L1 K ∧ r1.toInt = r.toInt := by
  obtain ⟨h1, hf⟩ := hw
  have hM := h.2.2.2.2.2.ci (fi' := fi') (fun i k q => hf i k (by omega))
  rcases hq with ⟨a1, a2, rfl⟩ | ⟨a1, a2, rfl⟩ <;> rcases h1 with ⟨b1, b2, b3⟩ | ⟨b1, b2, b3⟩
  · exact ⟨h.mod (fun i k q => hf i k (by omega)) ⟨a1, b3⟩ hM, by rw [a2, b2]⟩
  · exact absurd a1 (by omega)
  · exact absurd a1 (by omega)
  · exact ⟨h.mod (fun i k q => hf i k (by omega)) ⟨h.2.2.2.2.1.1, b3⟩ hM, by rw [a2, b2]⟩
theorem ma_end {τ : zTy} {fi fi' : zFi} {fr : zFr} {L L1 K : Nat} {r x : Int32} (h : zA τ fi fr L1 L K) (hq : (0 ≤ x.toInt ∧ x.toInt ≤ L ∧ x = nI L1) ∨ (¬ (0 ≤ x.toInt ∧ x.toInt ≤ L) ∧ L1 = L)) (hw : ((r = 1 ∧ 0 ≤ x.toInt ∧ x.toInt ≤ L ∧ fi' 30 21 = x) ∨ (r = 0 ∧ ¬ (0 ≤ x.toInt ∧ x.toInt ≤ L) ∧ fi' 30 21 = nI L)) ∧ ∀ a b, ¬ (a = 30 ∧ (b = 0 ∨ b = 21)) → fi' a b = fi a b) : zA τ fi' fr L1 L1 K := by
  obtain ⟨h1, hf⟩ := hw
  have hM := h.2.2.2.2.2.ci (fi' := fi') (fun i k q => hf i k (by omega))
  rcases hq with ⟨a1, a2, a3⟩ | ⟨a1, rfl⟩ <;> rcases h1 with ⟨-, b1, b2, b3⟩ | ⟨-, b1, b3⟩
  · exact h.mod (fun i k q => hf i k (by omega)) ⟨h.2.2.2.1.1, by rw [b3, a3]⟩ hM
  · exact absurd ⟨a1, a2⟩ b1
  · exact absurd ⟨b1, b2⟩ a1
  · exact h.mod (fun i k q => hf i k (by omega)) ⟨h.2.2.2.2.1.1, b3⟩ hM
section MA
variable {τ : zTy} {fi fi' : zFi} {fr : zFr} {Lc Lm K n c o g Ln d p sn td Bd : Nat}
theorem ma_thing {x1 x2 x3 x4 : Int32} {r : Int32} {P : Prop} (h : zA τ fi fr Lc Lm K) (hM : zMt fi n ∧ zMc fi n c ∧ zMx fi n ∧ zMo fi n o ∧ zMq τ fi fr g Ln d ∧ d ≤ K ∧ zMp fi n p ∧ (sn ≤ 300 ∧ fi 30 61 = nI sn) ∧ (td ≤ 999 ∧ fi 30 1 = nI td) ∧ zMs fi Bd ∧ Bd ≤ 600000 * td + 100 * K)
    (hw : (P ∧ n < 30 ∧ r = nI n ∧ fi' = zu (zu (zu (zu (zu (zu (zu (zu fi 30 0 (nI 0)) 31 n x1) 32 n x2) 33 n x3) 34 n x4) 35 n (nI 0)) 36 n (nI 0)) 30 2 (nI (n + 1))) ∨ (¬ P ∧ r = nI 0 ∧ fi' = zu fi 30 0 (nI 1)) ∨ (P ∧ n = 30 ∧ r = nI 0 ∧ fi' = zu fi 30 0 (nI 2))) : zA τ fi' fr Lc Lm K := by
  rcases hw with ⟨-, hn, -, e⟩ | ⟨-, -, e⟩ | ⟨-, -, -, e⟩
  · obtain ⟨h1, h2, h3, h4, h5, h6, h7, ⟨h8, h9⟩, ⟨h10, h11⟩, h12, h13⟩ := hM
    have F : ∀ a b, ¬ ((a = 30 ∧ (b = 0 ∨ b = 2)) ∨ (31 ≤ a ∧ a ≤ 36 ∧ b = n)) → fi' a b = fi a b := fun a b q => by rw [e, zu_n (by omega), zu_n (by omega), zu_n (by omega), zu_n (by omega), zu_n (by omega), zu_n (by omega), zu_n (by omega), zu_n (by omega)]
    have e36 : fi' 36 n = nI 0 := by rw [e, zu_n (by omega), zu_s]
    have e35 : fi' 35 n = nI 0 := by rw [e, zu_n (by omega), zu_n (by omega), zu_s]
    refine h.mod (fun i k q => F i k (by omega)) ⟨h.2.2.2.2.1.1, by rw [F _ _ (by omega)]; exact h.2.2.2.2.1.2⟩ ⟨n + 1, c, o, g, Ln, d, p, sn, td, Bd, ⟨by omega, by rw [e]; exact zu_s, fun t ht => ?_⟩, ⟨h2.1, by rw [F _ _ (by omega)]; exact h2.2.1, fun j hj => ?_⟩, fun t ht => ?_, h4.cg (by omega) (fun i k q => F i k (by omega)), h5.cg (fun i k q => F i k (by omega)) (fun _ _ _ => rfl) (fun _ _ _ => ⟨rfl, rfl⟩), h6, ⟨h7.1, by rw [F _ _ (by omega)]; exact h7.2.1, fun j hj => ?_⟩, ⟨h8, by rw [F _ _ (by omega)]; exact h9⟩, ⟨h10, by rw [F _ _ (by omega)]; exact h11⟩, fun t ht => ?_, h13⟩
    · by_cases q : t = n
      · subst q; exact ⟨0, by omega, e36⟩
      · rw [F _ _ (by omega)]; exact h1.2.2 t (by omega)
    · obtain ⟨⟨t, a1, a2⟩, a3⟩ := h2.2.2 j hj
      rw [F 41 j (by omega), F 43 j (by omega)]
      exact ⟨⟨t, by omega, a2⟩, a3⟩
    · rw [F 40 t (by omega)]
      rcases h3 t ht with q | ⟨t2, q1, q2⟩
      · exact Or.inl q
      · exact Or.inr ⟨t2, by omega, q2⟩
    · obtain ⟨t, a1, a2⟩ := h7.2.2 j hj
      exact ⟨t, by omega, by rw [F _ _ (by omega)]; exact a2⟩
    · by_cases q : t = n
      · subst q; exact ⟨0, by omega, e35⟩
      · rw [F _ _ (by omega)]; exact h12 t ht
  · exact ma_q h (fun a b q => by rw [e, zu_n (by omega)])
  · exact ma_q h (fun a b q => by rw [e, zu_n (by omega)])
theorem ma_price (h : zA τ fi fr Lc Lm K) (hM : zMt fi n ∧ zMc fi n c ∧ zMx fi n ∧ zMo fi n o ∧ zMq τ fi fr g Ln d ∧ d ≤ K ∧ zMp fi n p ∧ (sn ≤ 300 ∧ fi 30 61 = nI sn) ∧ (td ≤ 999 ∧ fi 30 1 = nI td) ∧ zMs fi Bd ∧ Bd ≤ 600000 * td + 100 * K)
    (hw : zMt fi' n ∧ ∀ a b, ¬ (a = 36 ∨ a = 37 ∨ a = 38 ∨ a = 39 ∨ (a = 30 ∧ b = 0)) → fi' a b = fi a b) : zA τ fi' fr Lc Lm K := by
  obtain ⟨w1, F⟩ := hw
  obtain ⟨h1, h2, h3, h4, h5, h6, h7, ⟨h8, h9⟩, ⟨h10, h11⟩, h12, h13⟩ := hM
  exact h.mod (fun i k q => F i k (by omega)) ⟨h.2.2.2.2.1.1, by rw [F _ _ (by omega)]; exact h.2.2.2.2.1.2⟩ ⟨n, c, o, g, Ln, d, p, sn, td, Bd, w1, h2.ci (fun i k q => F i k (by omega)), h3.ci (fun i k q => F i k (by omega)), h4.ci (fun i k q => F i k (by omega)), h5.cg (fun i k q => F i k (by omega)) (fun _ _ _ => rfl) (fun _ _ _ => ⟨rfl, rfl⟩), h6, h7.ci (fun i k q => F i k (by omega)), ⟨h8, by rw [F _ _ (by omega)]; exact h9⟩, ⟨h10, by rw [F _ _ (by omega)]; exact h11⟩, h12.ci (fun i k q => F i k (by omega)), h13⟩
theorem ma_coming (h : zA τ fi fr Lc Lm K) (hM : zMt fi n ∧ zMc fi n c ∧ zMx fi n ∧ zMo fi n o ∧ zMq τ fi fr g Ln d ∧ d ≤ K ∧ zMp fi n p ∧ (sn ≤ 300 ∧ fi 30 61 = nI sn) ∧ (td ≤ 999 ∧ fi 30 1 = nI td) ∧ zMs fi Bd ∧ Bd ≤ 600000 * td + 100 * K)
    (hw : (∃ k, k ≤ c + 1 ∧ zMc fi' n k) ∧ ∀ a b, ¬ (a = 41 ∨ a = 42 ∨ a = 43 ∨ (a = 30 ∧ (b = 0 ∨ b = 13))) → fi' a b = fi a b) : zA τ fi' fr Lc Lm K := by
  obtain ⟨⟨c2, -, w1⟩, F⟩ := hw
  obtain ⟨h1, h2, h3, h4, h5, h6, h7, ⟨h8, h9⟩, ⟨h10, h11⟩, h12, h13⟩ := hM
  exact h.mod (fun i k q => F i k (by omega)) ⟨h.2.2.2.2.1.1, by rw [F _ _ (by omega)]; exact h.2.2.2.2.1.2⟩ ⟨n, c2, o, g, Ln, d, p, sn, td, Bd, h1.ci (fun i k q => F i k (by omega)), w1, h3.ci (fun i k q => F i k (by omega)), h4.ci (fun i k q => F i k (by omega)), h5.cg (fun i k q => F i k (by omega)) (fun _ _ _ => rfl) (fun _ _ _ => ⟨rfl, rfl⟩), h6, h7.ci (fun i k q => F i k (by omega)), ⟨h8, by rw [F _ _ (by omega)]; exact h9⟩, ⟨h10, by rw [F _ _ (by omega)]; exact h11⟩, h12.ci (fun i k q => F i k (by omega)), h13⟩
theorem ma_rules (h : zA τ fi fr Lc Lm K) (hM : zMt fi n ∧ zMc fi n c ∧ zMx fi n ∧ zMo fi n o ∧ zMq τ fi fr g Ln d ∧ d ≤ K ∧ zMp fi n p ∧ (sn ≤ 300 ∧ fi 30 61 = nI sn) ∧ (td ≤ 999 ∧ fi 30 1 = nI td) ∧ zMs fi Bd ∧ Bd ≤ 600000 * td + 100 * K)
    (hw : fi' 30 21 = nI 0 ∧ zMx fi' n ∧ ∀ a b, ¬ (a = 40 ∨ a = 44 ∨ a = 45 ∨ a = 46 ∨ (a = 30 ∧ (b = 0 ∨ (21 ≤ b ∧ b ≤ 25)))) → fi' a b = fi a b) : zA τ fi' fr Lc 0 K := by
  obtain ⟨w0, w1, F⟩ := hw
  obtain ⟨h1, h2, h3, h4, h5, h6, h7, ⟨h8, h9⟩, ⟨h10, h11⟩, h12, h13⟩ := hM
  exact h.mod (fun i k q => F i k (by omega)) ⟨by omega, w0⟩ ⟨n, c, o, g, Ln, d, p, sn, td, Bd, h1.ci (fun i k q => F i k (by omega)), h2.ci (fun i k q => F i k (by omega)), w1, h4.ci (fun i k q => F i k (by omega)), h5.cg (fun i k q => F i k (by omega)) (fun _ _ _ => rfl) (fun _ _ _ => ⟨rfl, rfl⟩), h6, h7.ci (fun i k q => F i k (by omega)), ⟨h8, by rw [F _ _ (by omega)]; exact h9⟩, ⟨h10, by rw [F _ _ (by omega)]; exact h11⟩, h12.ci (fun i k q => F i k (by omega)), h13⟩
theorem ma_letter {τ' : zTy} {fr' : zFr} (h : zA τ fi fr Lc Lm K) (hM : zMt fi n ∧ zMc fi n c ∧ zMx fi n ∧ zMo fi n o ∧ zMq τ fi fr g Ln d ∧ d ≤ K ∧ zMp fi n p ∧ (sn ≤ 300 ∧ fi 30 61 = nI sn) ∧ (td ≤ 999 ∧ fi 30 1 = nI td) ∧ zMs fi Bd ∧ Bd ≤ 600000 * td + 100 * K)
    (hw : (∃ o2, o ≤ o2 ∧ o2 ≤ o + 1 ∧ zMo fi' n o2) ∧ (∃ g2 L2 d2, d2 ≤ d + 1 ∧ zMq τ' fi' fr' g2 L2 d2) ∧ fi' 30 21 = nI 0 ∧ zGz τ fr τ' fr' ∧ ∀ a b, ¬ (a = 48 ∨ a = 49 ∨ (50 ≤ a ∧ a ≤ 64) ∨ (200 ≤ a ∧ a < 240) ∨ (a = 30 ∧ (b = 0 ∨ (21 ≤ b ∧ b ≤ 36) ∨ b = 45))) → fi' a b = fi a b) : zA τ' fi' fr' Lc 0 (K + 1) := by
  obtain ⟨⟨o2, -, -, w1⟩, ⟨g2, L2, d2, w2, w3⟩, w4, ⟨z1, ⟨z2, z3⟩, z4⟩, F⟩ := hw
  obtain ⟨h1, h2, h3, h4, h5, h6, h7, ⟨h8, h9⟩, ⟨h10, h11⟩, h12, h13⟩ := hM
  refine h.modA z4 (fun i q => (z1 i q).2) (fun i q => ?_) (fun i k q => F i k (by omega)) (fun i k q => z2 i k (by omega) (by omega)) ⟨by omega, w4⟩ ⟨n, c, o2, g2, L2, d2, p, sn, td, Bd, h1.ci (fun i k q => F i k (by omega)), h2.ci (fun i k q => F i k (by omega)), h3.ci (fun i k q => F i k (by omega)), w1, w3, by omega, h7.ci (fun i k q => F i k (by omega)), ⟨h8, by rw [F _ _ (by omega)]; exact h9⟩, ⟨h10, by rw [F _ _ (by omega)]; exact h11⟩, h12.ci (fun i k q => F i k (by omega)), by omega⟩
  have := h.2.1 i q
  have := z3 i
  omega
theorem ma_settle (h : zA τ fi fr Lc Lm K) (hM : zMt fi n ∧ zMc fi n c ∧ zMx fi n ∧ zMo fi n o ∧ zMq τ fi fr g Ln d ∧ d ≤ K ∧ zMp fi n p ∧ (sn ≤ 300 ∧ fi 30 61 = nI sn) ∧ (td ≤ 999 ∧ fi 30 1 = nI td) ∧ zMs fi Bd ∧ Bd ≤ 600000 * td + 100 * K)
    (hw : (∃ o2, o ≤ o2 ∧ o2 ≤ o + 1 ∧ zMo fi' n o2) ∧ zMq τ fi' fr g Ln d ∧ ∀ a b, ¬ (a = 48 ∨ a = 49 ∨ (50 ≤ a ∧ a ≤ 64) ∨ (200 ≤ a ∧ a < 240) ∨ (a = 30 ∧ (b = 0 ∨ b = 26 ∨ b = 30 ∨ b = 36 ∨ b = 45))) → fi' a b = fi a b) : zA τ fi' fr Lc Lm K := by
  obtain ⟨⟨o2, -, -, w1⟩, w2, F⟩ := hw
  obtain ⟨h1, h2, h3, h4, h5, h6, h7, ⟨h8, h9⟩, ⟨h10, h11⟩, h12, h13⟩ := hM
  exact h.mod (fun i k q => F i k (by omega)) ⟨h.2.2.2.2.1.1, by rw [F _ _ (by omega)]; exact h.2.2.2.2.1.2⟩ ⟨n, c, o2, g, Ln, d, p, sn, td, Bd, h1.ci (fun i k q => F i k (by omega)), h2.ci (fun i k q => F i k (by omega)), h3.ci (fun i k q => F i k (by omega)), w1, w2, h6, h7.ci (fun i k q => F i k (by omega)), ⟨h8, by rw [F _ _ (by omega)]; exact h9⟩, ⟨h10, by rw [F _ _ (by omega)]; exact h11⟩, h12.ci (fun i k q => F i k (by omega)), h13⟩
theorem ma_days {P Q : Nat → Prop} (h : zA τ fi fr Lc Lm K) (hM : zMt fi n ∧ zMc fi n c ∧ zMx fi n ∧ zMo fi n o ∧ zMq τ fi fr g Ln d ∧ d ≤ K ∧ zMp fi n p ∧ (sn ≤ 300 ∧ fi 30 61 = nI sn) ∧ (td ≤ 999 ∧ fi 30 1 = nI td) ∧ zMs fi Bd ∧ Bd ≤ 600000 * td + 100 * K)
    (hw : ∃ t2, td ≤ t2 ∧ t2 ≤ 999 ∧ fi' 30 1 = nI t2 ∧ P t2 ∧ zMo fi' n o ∧ (∃ c2, c2 ≤ c ∧ zMc fi' n c2) ∧ zMs fi' (Bd + 600000 * (t2 - td)) ∧ (∃ s2, s2 ≤ 300 ∧ fi' 30 61 = nI s2) ∧ Q t2 ∧ ∀ a b, ¬ (a = 35 ∨ a = 52 ∨ (58 ≤ a ∧ a ≤ 60) ∨ a = 63 ∨ a = 64 ∨ (65 ≤ a ∧ a ≤ 70) ∨ (41 ≤ a ∧ a ≤ 43) ∨ (a = 30 ∧ (b = 61 ∨ b = 1 ∨ b = 13 ∨ b = 0))) → fi' a b = fi a b) : zA τ fi' fr Lc Lm K := by
  obtain ⟨t2, w1, w2, w3, -, w4, ⟨c2, -, w5⟩, w6, ⟨s2, w7, w8⟩, -, F⟩ := hw
  obtain ⟨h1, h2, h3, h4, h5, h6, h7, ⟨h8, h9⟩, ⟨h10, h11⟩, h12, h13⟩ := hM
  exact h.mod (fun i k q => F i k (by omega)) ⟨h.2.2.2.2.1.1, by rw [F _ _ (by omega)]; exact h.2.2.2.2.1.2⟩ ⟨n, c2, o, g, Ln, d, p, s2, t2, Bd + 600000 * (t2 - td), h1.ci (fun i k q => F i k (by omega)), w5, h3.ci (fun i k q => F i k (by omega)), w4, h5.cg (fun i k q => F i k (by omega)) (fun _ _ _ => rfl) (fun _ _ _ => ⟨rfl, rfl⟩), h6, h7.ci (fun i k q => F i k (by omega)), ⟨w7, w8⟩, ⟨w2, w3⟩, w6, by omega⟩
theorem ma_back (h : zA τ fi fr Lc Lm K) (hM : zMt fi n ∧ zMc fi n c ∧ zMx fi n ∧ zMo fi n o ∧ zMq τ fi fr g Ln d ∧ d ≤ K ∧ zMp fi n p ∧ (sn ≤ 300 ∧ fi 30 61 = nI sn) ∧ (td ≤ 999 ∧ fi 30 1 = nI td) ∧ zMs fi Bd ∧ Bd ≤ 600000 * td + 100 * K)
    (hw : zMo fi' n o ∧ zMs fi' (Bd + 99) ∧ ∀ a b, ¬ (a = 35 ∨ a = 52 ∨ a = 61 ∨ a = 62 ∨ (a = 30 ∧ b = 0)) → fi' a b = fi a b) : zA τ fi' fr Lc Lm (K + 1) := by
  obtain ⟨w1, w2, F⟩ := hw
  obtain ⟨h1, h2, h3, h4, h5, h6, h7, ⟨h8, h9⟩, ⟨h10, h11⟩, h12, h13⟩ := hM
  exact h.mod (fun i k q => F i k (by omega)) ⟨h.2.2.2.2.1.1, by rw [F _ _ (by omega)]; exact h.2.2.2.2.1.2⟩ ⟨n, c, o, g, Ln, d, p, sn, td, Bd + 99, h1.ci (fun i k q => F i k (by omega)), h2.ci (fun i k q => F i k (by omega)), h3.ci (fun i k q => F i k (by omega)), w1, h5.cg (fun i k q => F i k (by omega)) (fun _ _ _ => rfl) (fun _ _ _ => ⟨rfl, rfl⟩), by omega, h7.ci (fun i k q => F i k (by omega)), ⟨h8, by rw [F _ _ (by omega)]; exact h9⟩, ⟨h10, by rw [F _ _ (by omega)]; exact h11⟩, w2, by omega⟩
theorem ma_pick (h : zA τ fi fr Lc Lm K) (hM : zMt fi n ∧ zMc fi n c ∧ zMx fi n ∧ zMo fi n o ∧ zMq τ fi fr g Ln d ∧ d ≤ K ∧ zMp fi n p ∧ (sn ≤ 300 ∧ fi 30 61 = nI sn) ∧ (td ≤ 999 ∧ fi 30 1 = nI td) ∧ zMs fi Bd ∧ Bd ≤ 600000 * td + 100 * K)
    (hw : (∃ k, zMp fi' n k) ∧ ∀ a b, ¬ (a = 71 ∨ (a = 30 ∧ (b = 0 ∨ b = 68))) → fi' a b = fi a b) : zA τ fi' fr Lc Lm K := by
  obtain ⟨⟨p2, w1⟩, F⟩ := hw
  obtain ⟨h1, h2, h3, h4, h5, h6, h7, ⟨h8, h9⟩, ⟨h10, h11⟩, h12, h13⟩ := hM
  exact h.mod (fun i k q => F i k (by omega)) ⟨h.2.2.2.2.1.1, by rw [F _ _ (by omega)]; exact h.2.2.2.2.1.2⟩ ⟨n, c, o, g, Ln, d, p2, sn, td, Bd, h1.ci (fun i k q => F i k (by omega)), h2.ci (fun i k q => F i k (by omega)), h3.ci (fun i k q => F i k (by omega)), h4.ci (fun i k q => F i k (by omega)), h5.cg (fun i k q => F i k (by omega)) (fun _ _ _ => rfl) (fun _ _ _ => ⟨rfl, rfl⟩), h6, w1, ⟨h8, by rw [F _ _ (by omega)]; exact h9⟩, ⟨h10, by rw [F _ _ (by omega)]; exact h11⟩, h12.ci (fun i k q => F i k (by omega)), h13⟩
theorem ma_walk (h : zA τ fi fr Lc Lm K) (hM : zMt fi n ∧ zMc fi n c ∧ zMx fi n ∧ zMo fi n o ∧ zMq τ fi fr g Ln d ∧ d ≤ K ∧ zMp fi n p ∧ (sn ≤ 300 ∧ fi 30 61 = nI sn) ∧ (td ≤ 999 ∧ fi 30 1 = nI td) ∧ zMs fi Bd ∧ Bd ≤ 600000 * td + 100 * K)
    (hw : fi' 30 68 = nI 0 ∧ ∀ a b, ¬ (a = 72 ∨ (a = 30 ∧ (b = 0 ∨ b = 68))) → fi' a b = fi a b) : zA τ fi' fr Lc Lm K := by
  obtain ⟨w1, F⟩ := hw
  obtain ⟨h1, h2, h3, h4, h5, h6, h7, ⟨h8, h9⟩, ⟨h10, h11⟩, h12, h13⟩ := hM
  exact h.mod (fun i k q => F i k (by omega)) ⟨h.2.2.2.2.1.1, by rw [F _ _ (by omega)]; exact h.2.2.2.2.1.2⟩ ⟨n, c, o, g, Ln, d, 0, sn, td, Bd, h1.ci (fun i k q => F i k (by omega)), h2.ci (fun i k q => F i k (by omega)), h3.ci (fun i k q => F i k (by omega)), h4.ci (fun i k q => F i k (by omega)), h5.cg (fun i k q => F i k (by omega)) (fun _ _ _ => rfl) (fun _ _ _ => ⟨rfl, rfl⟩), h6, ⟨by omega, w1, fun j hj => absurd hj (by omega)⟩, ⟨h8, by rw [F _ _ (by omega)]; exact h9⟩, ⟨h10, by rw [F _ _ (by omega)]; exact h11⟩, h12.ci (fun i k q => F i k (by omega)), h13⟩
end MA
