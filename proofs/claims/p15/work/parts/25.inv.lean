/-! ===== WHAT STAYS TRUE OF THE CLASS'S CELLS ===== -/
/-- the things: n of them -/
def zTh (τ : zTy) (fi : zFi) (fr : zFr) (n : Nat) : Prop := n ≤ 30 ∧ fi 3 1 = nI n ∧
  (∀ t, t < n → (τ.2.2.1 (300 + t) = 24 ∧ τ.2.2.1 (340 + t) = 1 ∧ τ.2.2.1 (380 + t) = 1 ∧ τ.2.2.1 (420 + t) = 1) ∧ (τ.2.2.2 (340 + t) = 4 ∧ τ.2.2.2 (380 + t) = 4 ∧ τ.2.2.2 (420 + t) = 4) ∧ (fr (300 + t) 7 = some (340 + t) ∧ fr (300 + t) 8 = some (380 + t) ∧ fr (300 + t) 9 = some (420 + t) ∧ fr 4 t = some (300 + t)) ∧ fi (300 + t) 0 = nI t ∧ ∃ k, k ≤ 4 ∧ fi (300 + t) 6 = nI k) ∧
  ∀ t, n ≤ t → t < 30 → τ.2.2.1 (300 + t) = 0 ∧ τ.2.2.1 (340 + t) = 0 ∧ τ.2.2.1 (380 + t) = 0 ∧ τ.2.2.1 (420 + t) = 0
/-- what is coming -/
def zCm (fi : zFi) (fr : zFr) (n c : Nat) : Prop := c ≤ 60 ∧ fi 5 3 = nI c ∧ ∀ j, j < c → ∃ t, t < n ∧ fr 6 j = some (300 + t)
/-- the orders -/
def zOr (τ : zTy) (fi : zFi) (fr : zFr) (n o : Nat) : Prop := o ≤ 60 ∧ fi 0 11 = nI o ∧
  (∀ k, k < o → (τ.2.2.1 (500 + k) = 19 ∧ τ.2.2.1 (600 + k) = 9 ∧ τ.2.2.2 (600 + k) = 8) ∧ (fr 16 k = some (500 + k) ∧ fr (500 + k) 3 = some (600 + k)) ∧ ∃ w, w ≤ 8 ∧ fi (500 + k) 5 = nI w ∧
    (∀ j, j < w → τ.2.2.1 (1000 + 8 * k + j) = 26 ∧ fr (600 + k) j = some (1000 + 8 * k + j) ∧ (∃ t, t < n ∧ fr (1000 + 8 * k + j) 0 = some (300 + t)) ∧ (fr (1000 + 8 * k + j) 9 = none ∨ ∃ t, t < n ∧ fr (1000 + 8 * k + j) 9 = some (300 + t)))) ∧
  ∀ k, o ≤ k → k < 60 → τ.2.2.1 (500 + k) = 0 ∧ τ.2.2.1 (600 + k) = 0 ∧ ∀ j, j < 8 → τ.2.2.1 (1000 + 8 * k + j) = 0
/-- the doubts -/
def zDo (τ : zTy) (fi : zFi) (fr : zFr) (d : Nat) : Prop := d ≤ 512 ∧ fi 0 10 = nI d ∧
  (∀ k, k < d → (τ.2.2.1 (3000 + k) = 18 ∧ τ.2.2.1 (4000 + k) = 1 ∧ τ.2.2.1 (5000 + k) = 1 ∧ τ.2.2.2 (4000 + k) = 8 ∧ τ.2.2.2 (5000 + k) = 8) ∧ (fr 15 k = some (3000 + k) ∧ fr (3000 + k) 0 = some (4000 + k) ∧ fr (3000 + k) 1 = some (5000 + k)) ∧ (∃ l, l ≤ 8 ∧ fi (3000 + k) 2 = nI l) ∧ (fi (3000 + k) 9 = 0 ∨ fi (3000 + k) 9 = 1)) ∧
  ∀ k, d ≤ k → k < 513 → τ.2.2.1 (3000 + k) = 0 ∧ τ.2.2.1 (4000 + k) = 0 ∧ τ.2.2.1 (5000 + k) = 0
/-- the sendings -/
def zSn (τ : zTy) (fi : zFi) (fr : zFr) (s : Nat) : Prop := s ≤ 300 ∧ fi 0 12 = nI s ∧ (∀ k, k < s → τ.2.2.1 (2000 + k) = 22 ∧ fr 17 k = some (2000 + k)) ∧ ∀ k, s ≤ k → k < 300 → τ.2.2.1 (2000 + k) = 0
/-- the picks -/
def zPk (fi : zFi) (fr : zFr) (n p : Nat) : Prop := p ≤ 10 ∧ fi 22 1 = nI p ∧ ∀ j, j < p → ∃ t, t < n ∧ fr 23 j = some (300 + t)
theorem zTh.cg {τ τ' : zTy} {fi fi' : zFi} {fr fr' : zFr} {n : Nat} (h : zTh τ fi fr n) (hi : ∀ i k, (i = 3 ∧ k = 1) ∨ (300 ≤ i ∧ i < 330 ∧ (k = 0 ∨ k = 6)) → fi' i k = fi i k) (hr : ∀ i k, i = 4 ∨ (300 ≤ i ∧ i < 330 ∧ 7 ≤ k) → fr' i k = fr i k) (ht : ∀ i, 300 ≤ i → i < 460 → τ'.2.2.1 i = τ.2.2.1 i ∧ τ'.2.2.2 i = τ.2.2.2 i) : zTh τ' fi' fr' n := by
  obtain ⟨h1, h2, h3, h4⟩ := h
  refine ⟨h1, by rw [hi 3 1 (by omega)]; exact h2, fun t q => ?_, fun t a b => ?_⟩
  · obtain ⟨⟨a1, a2, a3, a4⟩, ⟨b1, b2, b3⟩, ⟨c1, c2, c3, c4⟩, d1, k, d2, d3⟩ := h3 t q
    exact ⟨⟨by rw [(ht _ (by omega) (by omega)).1]; exact a1, by rw [(ht _ (by omega) (by omega)).1]; exact a2, by rw [(ht _ (by omega) (by omega)).1]; exact a3, by rw [(ht _ (by omega) (by omega)).1]; exact a4⟩, ⟨by rw [(ht _ (by omega) (by omega)).2]; exact b1, by rw [(ht _ (by omega) (by omega)).2]; exact b2, by rw [(ht _ (by omega) (by omega)).2]; exact b3⟩, ⟨by rw [hr _ _ (by omega)]; exact c1, by rw [hr _ _ (by omega)]; exact c2, by rw [hr _ _ (by omega)]; exact c3, by rw [hr _ _ (by omega)]; exact c4⟩, by rw [hi _ _ (by omega)]; exact d1, k, d2, by rw [hi _ _ (by omega)]; exact d3⟩
  · obtain ⟨a1, a2, a3, a4⟩ := h4 t a b
    exact ⟨by rw [(ht _ (by omega) (by omega)).1]; exact a1, by rw [(ht _ (by omega) (by omega)).1]; exact a2, by rw [(ht _ (by omega) (by omega)).1]; exact a3, by rw [(ht _ (by omega) (by omega)).1]; exact a4⟩
theorem zCm.cg {fi fi' : zFi} {fr fr' : zFr} {n n' c : Nat} (h : zCm fi fr n c) (hn : n ≤ n') (hi : fi' 5 3 = fi 5 3) (hr : ∀ k, fr' 6 k = fr 6 k) : zCm fi' fr' n' c := by
  obtain ⟨h1, h2, h3⟩ := h
  exact ⟨h1, by rw [hi]; exact h2, fun j q => by obtain ⟨t, a, b⟩ := h3 j q; exact ⟨t, by omega, by rw [hr]; exact b⟩⟩
theorem zOr.cg {τ τ' : zTy} {fi fi' : zFi} {fr fr' : zFr} {n n' o : Nat} (h : zOr τ fi fr n o) (hn : n ≤ n') (hi : ∀ i k, (i = 0 ∧ k = 11) ∨ (500 ≤ i ∧ i < 560 ∧ k = 5) → fi' i k = fi i k) (hr : ∀ i k, i = 16 ∨ (500 ≤ i ∧ i < 560 ∧ k = 3) ∨ (600 ≤ i ∧ i < 660) ∨ (1000 ≤ i ∧ i < 1480 ∧ (k = 0 ∨ k = 9)) → fr' i k = fr i k) (ht : ∀ i, 500 ≤ i → i < 1480 → τ'.2.2.1 i = τ.2.2.1 i ∧ τ'.2.2.2 i = τ.2.2.2 i) : zOr τ' fi' fr' n' o := by
  obtain ⟨h1, h2, h3, h4⟩ := h
  refine ⟨h1, by rw [hi 0 11 (by omega)]; exact h2, fun k q => ?_, fun k a b => ?_⟩
  · obtain ⟨⟨a1, a2, a3⟩, ⟨b1, b2⟩, w, c1, c2, c3⟩ := h3 k q
    refine ⟨⟨by rw [(ht _ (by omega) (by omega)).1]; exact a1, by rw [(ht _ (by omega) (by omega)).1]; exact a2, by rw [(ht _ (by omega) (by omega)).2]; exact a3⟩, ⟨by rw [hr _ _ (by omega)]; exact b1, by rw [hr _ _ (by omega)]; exact b2⟩, w, c1, by rw [hi _ _ (by omega)]; exact c2, fun j q2 => ?_⟩
    obtain ⟨d1, d2, ⟨t, d3, d4⟩, d5⟩ := c3 j q2
    refine ⟨by rw [(ht _ (by omega) (by omega)).1]; exact d1, by rw [hr _ _ (by omega)]; exact d2, ⟨t, by omega, by rw [hr _ _ (by omega)]; exact d4⟩, ?_⟩
    rcases d5 with d5 | ⟨t2, d5, d6⟩
    · exact Or.inl (by rw [hr _ _ (by omega)]; exact d5)
    · exact Or.inr ⟨t2, by omega, by rw [hr _ _ (by omega)]; exact d6⟩
  · obtain ⟨a1, a2, a3⟩ := h4 k a b
    exact ⟨by rw [(ht _ (by omega) (by omega)).1]; exact a1, by rw [(ht _ (by omega) (by omega)).1]; exact a2, fun j q => by rw [(ht _ (by omega) (by omega)).1]; exact a3 j q⟩
theorem zDo.cg {τ τ' : zTy} {fi fi' : zFi} {fr fr' : zFr} {d : Nat} (h : zDo τ fi fr d) (hi : ∀ i k, (i = 0 ∧ k = 10) ∨ (3000 ≤ i ∧ i < 3512 ∧ (k = 2 ∨ k = 9)) → fi' i k = fi i k) (hr : ∀ i k, i = 15 ∨ (3000 ≤ i ∧ i < 3512 ∧ (k = 0 ∨ k = 1)) → fr' i k = fr i k) (ht : ∀ i, 3000 ≤ i → i < 5513 → τ'.2.2.1 i = τ.2.2.1 i ∧ τ'.2.2.2 i = τ.2.2.2 i) : zDo τ' fi' fr' d := by
  obtain ⟨h1, h2, h3, h4⟩ := h
  refine ⟨h1, by rw [hi 0 10 (by omega)]; exact h2, fun k q => ?_, fun k a b => ?_⟩
  · obtain ⟨⟨a1, a2, a3, a4, a5⟩, ⟨b1, b2, b3⟩, ⟨l, c1, c2⟩, c3⟩ := h3 k q
    exact ⟨⟨by rw [(ht _ (by omega) (by omega)).1]; exact a1, by rw [(ht _ (by omega) (by omega)).1]; exact a2, by rw [(ht _ (by omega) (by omega)).1]; exact a3, by rw [(ht _ (by omega) (by omega)).2]; exact a4, by rw [(ht _ (by omega) (by omega)).2]; exact a5⟩, ⟨by rw [hr _ _ (by omega)]; exact b1, by rw [hr _ _ (by omega)]; exact b2, by rw [hr _ _ (by omega)]; exact b3⟩, ⟨l, c1, by rw [hi _ _ (by omega)]; exact c2⟩, by rw [hi _ _ (by omega)]; exact c3⟩
  · obtain ⟨a1, a2, a3⟩ := h4 k a b
    exact ⟨by rw [(ht _ (by omega) (by omega)).1]; exact a1, by rw [(ht _ (by omega) (by omega)).1]; exact a2, by rw [(ht _ (by omega) (by omega)).1]; exact a3⟩
theorem zSn.cg {τ τ' : zTy} {fi fi' : zFi} {fr fr' : zFr} {s : Nat} (h : zSn τ fi fr s) (hi : fi' 0 12 = fi 0 12) (hr : ∀ k, fr' 17 k = fr 17 k) (ht : ∀ i, 2000 ≤ i → i < 2300 → τ'.2.2.1 i = τ.2.2.1 i) : zSn τ' fi' fr' s := by
  obtain ⟨h1, h2, h3, h4⟩ := h
  exact ⟨h1, by rw [hi]; exact h2, fun k q => ⟨by rw [ht _ (by omega) (by omega)]; exact (h3 k q).1, by rw [hr]; exact (h3 k q).2⟩, fun k a b => by rw [ht _ (by omega) (by omega)]; exact h4 k a b⟩
theorem zPk.cg {fi fi' : zFi} {fr fr' : zFr} {n n' p : Nat} (h : zPk fi fr n p) (hn : n ≤ n') (hi : fi' 22 1 = fi 22 1) (hr : ∀ k, fr' 23 k = fr 23 k) : zPk fi' fr' n' p := by
  obtain ⟨h1, h2, h3⟩ := h
  exact ⟨h1, by rw [hi]; exact h2, fun j q => by obtain ⟨t, a, b⟩ := h3 j q; exact ⟨t, by omega, by rw [hr]; exact b⟩⟩
/-- all of it -/
def zCI (τ : zTy) (fi : zFi) (fr : zFr) (n c o d s p : Nat) : Prop := zTh τ fi fr n ∧ zCm fi fr n c ∧ zOr τ fi fr n o ∧ zDo τ fi fr d ∧ zSn τ fi fr s ∧ zPk fi fr n p ∧ ∃ k, k ≤ 16 ∧ fi 18 3 = nI k
/-- the places of the class's numbers on which it rests -/
def zSI (i k : Nat) : Prop := (i = 3 ∧ k = 1) ∨ (300 ≤ i ∧ i < 330 ∧ (k = 0 ∨ k = 6)) ∨ (i = 5 ∧ k = 3) ∨ (i = 0 ∧ 10 ≤ k ∧ k ≤ 12) ∨ (500 ≤ i ∧ i < 560 ∧ k = 5) ∨ (3000 ≤ i ∧ i < 3512 ∧ (k = 2 ∨ k = 9)) ∨ (i = 22 ∧ k = 1) ∨ (i = 18 ∧ k = 3)
theorem zCI.cg {τ : zTy} {fi fi' : zFi} {fr : zFr} {n c o d s p : Nat} (h : zCI τ fi fr n c o d s p) (hi : ∀ i k, (i = 3 ∧ k = 1) ∨ (300 ≤ i ∧ i < 330 ∧ (k = 0 ∨ k = 6)) ∨ (i = 5 ∧ k = 3) ∨ (i = 0 ∧ 10 ≤ k ∧ k ≤ 12) ∨ (500 ≤ i ∧ i < 560 ∧ k = 5) ∨ (3000 ≤ i ∧ i < 3512 ∧ (k = 2 ∨ k = 9)) ∨ (i = 22 ∧ k = 1) ∨ (i = 18 ∧ k = 3) → fi' i k = fi i k) : zCI τ fi' fr n c o d s p := by
  obtain ⟨h1, h2, h3, h4, h5, h6, k, h7, h8⟩ := h
  exact ⟨h1.cg (fun i k q => hi i k (q.elim Or.inl (fun a => Or.inr (Or.inl a)))) (fun _ _ _ => rfl) (fun _ _ _ => ⟨rfl, rfl⟩), h2.cg (Nat.le_refl _) (hi _ _ (by omega)) (fun _ => rfl), h3.cg (Nat.le_refl _) (fun i k q => hi i k (q.elim (fun a => Or.inr (Or.inr (Or.inr (Or.inl ⟨a.1, by have := a.2; omega, by have := a.2; omega⟩)))) (fun a => Or.inr (Or.inr (Or.inr (Or.inr (Or.inl a))))))) (fun _ _ _ => rfl) (fun _ _ _ => ⟨rfl, rfl⟩), h4.cg (fun i k q => hi i k (q.elim (fun a => Or.inr (Or.inr (Or.inr (Or.inl ⟨a.1, by have := a.2; omega, by have := a.2; omega⟩)))) (fun a => Or.inr (Or.inr (Or.inr (Or.inr (Or.inr (Or.inl a)))))))) (fun _ _ _ => rfl) (fun _ _ _ => ⟨rfl, rfl⟩), h5.cg (hi _ _ (by omega)) (fun _ => rfl) (fun _ _ _ => rfl), h6.cg (Nat.le_refl _) (hi _ _ (by omega)) (fun _ => rfl), k, h7, by rw [hi _ _ (by omega)]; exact h8⟩
theorem zTh.ci {τ : zTy} {fi fi' : zFi} {fr : zFr} {n : Nat} (h : zTh τ fi fr n) (hi : ∀ i k, (i = 3 ∧ k = 1) ∨ (300 ≤ i ∧ i < 330 ∧ (k = 0 ∨ k = 6)) → fi' i k = fi i k) : zTh τ fi' fr n := h.cg hi (fun _ _ _ => rfl) (fun _ _ _ => ⟨rfl, rfl⟩)
theorem zCm.ci {fi fi' : zFi} {fr : zFr} {n c : Nat} (h : zCm fi fr n c) (hi : ∀ i k, (i = 5 ∧ k = 3) → fi' i k = fi i k) : zCm fi' fr n c := h.cg (Nat.le_refl _) (hi 5 3 ⟨rfl, rfl⟩) (fun _ => rfl)
theorem zOr.ci {τ : zTy} {fi fi' : zFi} {fr : zFr} {n o : Nat} (h : zOr τ fi fr n o) (hi : ∀ i k, (i = 0 ∧ k = 11) ∨ (500 ≤ i ∧ i < 560 ∧ k = 5) → fi' i k = fi i k) : zOr τ fi' fr n o := h.cg (Nat.le_refl _) hi (fun _ _ _ => rfl) (fun _ _ _ => ⟨rfl, rfl⟩)
theorem zDo.ci {τ : zTy} {fi fi' : zFi} {fr : zFr} {d : Nat} (h : zDo τ fi fr d) (hi : ∀ i k, (i = 0 ∧ k = 10) ∨ (3000 ≤ i ∧ i < 3512 ∧ (k = 2 ∨ k = 9)) → fi' i k = fi i k) : zDo τ fi' fr d := h.cg hi (fun _ _ _ => rfl) (fun _ _ _ => ⟨rfl, rfl⟩)
theorem zSn.ci {τ : zTy} {fi fi' : zFi} {fr : zFr} {s : Nat} (h : zSn τ fi fr s) (hi : ∀ i k, (i = 0 ∧ k = 12) → fi' i k = fi i k) : zSn τ fi' fr s := h.cg (hi 0 12 ⟨rfl, rfl⟩) (fun _ => rfl) (fun _ _ _ => rfl)
theorem zPk.ci {fi fi' : zFi} {fr : zFr} {n p : Nat} (h : zPk fi fr n p) (hi : ∀ i k, (i = 22 ∧ k = 1) → fi' i k = fi i k) : zPk fi' fr n p := h.cg (Nat.le_refl _) (hi 22 1 ⟨rfl, rfl⟩) (fun _ => rfl)
