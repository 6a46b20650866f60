/-! ===== LETTERS BY NUMBERS ===== -/
theorem zI_div {a b : Nat} (ha : a < 2147483648) (hb : 0 < b) (hb2 : b < 2147483648) : nI a / nI b = nI (a / b) := by
  apply Int32.toInt_inj.mp
  have h1 : a / b < 2147483648 := Nat.lt_of_le_of_lt (Nat.div_le_self _ _) ha
  have h2 : Int.tdiv (a : Int) (b : Int) = ((a / b : Nat) : Int) := rfl
  rw [Int32.toInt_div, nI_toInt ha, nI_toInt hb2, nI_toInt h1, h2]
  generalize a / b = e at h1
  exact Int.bmod_eq_of_le (by omega) (by omega)
theorem zI_rem {a b : Nat} (ha : a < 2147483648) (hb : 0 < b) (hb2 : b < 2147483648) : nI a - nI a / nI b * nI b = nI (a % b) := by
  rw [zI_div ha hb hb2, pk_mul, pk_sub (Nat.div_mul_le_self a b)]
  congr 1
  have h := Nat.div_add_mod a b
  rw [Nat.mul_comm] at h
  omega
/-! ===== THE LEAST WAY: points, distances, walks ===== -/
def wD (a b : Nat × Nat) : Nat := if a.1 = b.1 then (a.2 - b.2) + (b.2 - a.2) else 6 * ((a.1 - b.1) + (b.1 - a.1)) + (if a.2 + b.2 < 42 - a.2 - b.2 then a.2 + b.2 else 42 - a.2 - b.2)
theorem wD_tri {a b c : Nat × Nat} (ha : a.2 ≤ 21) (hb : b.2 ≤ 21) (hc : c.2 ≤ 21) : wD a c ≤ wD a b + wD b c := by
  unfold wD
  split <;> split <;> split <;> (repeat' split) <;> omega
theorem wD_comm (a b : Nat × Nat) : wD a b = wD b a := by
  unfold wD
  split <;> split <;> (repeat' split) <;> omega
theorem wD_self (a : Nat × Nat) : wD a a = 0 := by
  unfold wD
  rw [if_pos rfl]; omega
/-- how long a walk over points is -/
def wC : List (Nat × Nat) → Nat
  | [] => 0
  | [_] => 0
  | a :: b :: l => wD a b + wC (b :: l)
def wV (l : List (Nat × Nat)) : Prop := ∀ x, x ∈ l → x.2 ≤ 21
theorem wC_app {b : Nat × Nat} : ∀ (l m : List (Nat × Nat)), wC (l ++ b :: m) = wC (l ++ [b]) + wC (b :: m)
  | [], m => by simp [wC]
  | [a], m => by simp [wC]
  | a :: a2 :: l, m => by
    have ih := wC_app (b := b) (a2 :: l) m
    simp only [List.cons_append, wC] at ih ⊢
    omega
theorem wC_le {a b : Nat × Nat} : ∀ (l : List (Nat × Nat)), wV (a :: l ++ [b]) → wD a b ≤ wC (a :: l ++ [b])
  | [], h => by simp [wC]
  | x :: l, h => by
    have ih := wC_le (a := x) (b := b) l (fun y hy => h y (by simp at hy ⊢; rcases hy with q | q | q <;> simp [q]))
    have t := wD_tri (a := a) (b := x) (c := b) (h a (by simp)) (h x (by simp)) (h b (by simp))
    simp only [List.cons_append, wC] at ih ⊢
    omega
/-- the first part of a walk that has met all of a set ends at one of it -/
theorem wSpl {K : Nat → Prop} {P : Nat → Nat × Nat} (hne : ∃ k, K k) : ∀ (n : Nat) (l : List (Nat × Nat)), l.length = n → (∀ k, K k → P k ∈ l) → ∃ l1 l2 k, l = l1 ++ P k :: l2 ∧ K k ∧ ∀ j, K j → P j ∈ l1 ++ [P k] := by
  intro n
  induction n with
  | zero =>
    intro l hl h
    obtain ⟨k, hk⟩ := hne
    have := h k hk
    rw [List.length_eq_zero_iff.mp hl] at this
    exact absurd this List.not_mem_nil
  | succ n ih =>
    intro l hl h
    obtain ⟨m, x, e⟩ : ∃ m x, l = m ++ [x] := by
      rcases List.eq_nil_or_concat l with q | ⟨m, x, q⟩
      · rw [q] at hl; simp at hl
      · exact ⟨m, x, by rw [q]; simp⟩
    by_cases c : ∀ k, K k → P k ∈ m
    · obtain ⟨l1, l2, k, e1, e2, e3⟩ := ih m (by rw [e] at hl; simp at hl; exact hl) c
      exact ⟨l1, l2 ++ [x], k, by rw [e, e1]; simp, e2, e3⟩
    · have c : ∃ k, K k ∧ P k ∉ m := Classical.byContradiction (fun w => c (fun k hk => Classical.byContradiction (fun w2 => w ⟨k, hk, w2⟩)))
      obtain ⟨k, hk, hm⟩ := c
      have hx : P k = x := by
        have := h k hk
        rw [e] at this
        rcases List.mem_append.mp this with q | q
        · exact absurd q hm
        · exact List.mem_singleton.mp q
      exact ⟨m, [], k, by rw [e, hx], hk, fun j hj => by rw [hx, ← e]; exact h j hj⟩
/-! ===== the reference's table: the least way to have met a set ===== -/
def wOpt (P : Nat → Nat × Nat) (K : Nat → Prop) (z v : Nat) : Prop := (∃ l : List Nat, (∀ k, k ∈ l → K k) ∧ (∀ k, K k → k ∈ l ∨ k = z) ∧ v = wC ((0, 0) :: l.map P ++ [P z])) ∧ ∀ l : List (Nat × Nat), wV l → (∀ k, K k → P k ∈ l ++ [P z]) → v ≤ wC ((0, 0) :: l ++ [P z])
def wTour (P : Nat → Nat × Nat) (K : Nat → Prop) (v : Nat) : Prop := (∃ l : List Nat, (∀ k, k ∈ l → K k) ∧ (∀ k, K k → k ∈ l) ∧ v = wC ((0, 0) :: l.map P ++ [(0, 0)])) ∧ ∀ l : List (Nat × Nat), wV l → (∀ k, K k → P k ∈ l) → v ≤ wC ((0, 0) :: l ++ [(0, 0)])
theorem wV_cons {a : Nat × Nat} {l : List (Nat × Nat)} (ha : a.2 ≤ 21) (h : wV l) : wV (a :: l) := fun x hx => by
  rcases List.mem_cons.mp hx with q | q
  · rw [q]; exact ha
  · exact h x q
theorem wV_app {l m : List (Nat × Nat)} (h : wV l) (h2 : wV m) : wV (l ++ m) := fun x hx => (List.mem_append.mp hx).elim (h x) (h2 x)
theorem wV_one {a : Nat × Nat} (ha : a.2 ≤ 21) : wV [a] := fun x hx => by rw [List.mem_singleton.mp hx]; exact ha
theorem wOpt.one {P : Nat → Nat × Nat} {K : Nat → Prop} {z : Nat} (hP : ∀ k, K k → (P k).2 ≤ 21) (hz : K z) (h : ∀ k, K k → k = z) : wOpt P K z (wD (0, 0) (P z)) :=
  ⟨⟨[], fun k q => absurd q List.not_mem_nil, fun k q => Or.inr (h k q), by simp [wC]⟩, fun l hl _ => wC_le l (wV_app (wV_cons (by simp) hl) (wV_one (hP z hz)))⟩
/-- a walk that goes on from a point to another is no shorter than the straight way -/
theorem wC_end {a b : Nat × Nat} (l m : List (Nat × Nat)) (ha : a.2 ≤ 21) (hb : b.2 ≤ 21) (hm : wV m) : wC (l ++ [a]) + wD a b ≤ wC (l ++ a :: m ++ [b]) := by
  have h1 := wC_le (a := a) (b := b) m (wV_app (wV_cons ha hm) (wV_one hb))
  have h2 := wC_app (b := a) l (m ++ [b])
  simp only [List.append_assoc, List.cons_append] at h1 h2 ⊢
  omega
theorem wOpt.step {P : Nat → Nat × Nat} {K K' : Nat → Prop} {z v : Nat} {f : Nat → Nat} (hP : ∀ k, K k → (P k).2 ≤ 21) (hz : K z) (hK : ∀ k, K k ↔ K' k ∨ k = z) (hne : ∃ k, K' k) (hf : ∀ k, K' k → wOpt P K' k (f k)) (h1 : ∃ k, K' k ∧ v = f k + wD (P k) (P z)) (h2 : ∀ k, K' k → v ≤ f k + wD (P k) (P z)) : wOpt P K z v := by
  constructor
  · obtain ⟨k, hk, e⟩ := h1
    obtain ⟨⟨l, a1, a2, a3⟩, -⟩ := hf k hk
    refine ⟨l ++ [k], fun j hj => ?_, fun j hj => ?_, ?_⟩
    · rcases List.mem_append.mp hj with q | q
      · exact (hK j).mpr (Or.inl (a1 j q))
      · rw [List.mem_singleton.mp q]; exact (hK k).mpr (Or.inl hk)
    · rcases (hK j).mp hj with q | q
      · rcases a2 j q with w | w
        · exact Or.inl (List.mem_append_left _ w)
        · exact Or.inl (List.mem_append_right _ (by rw [w]; exact List.mem_singleton.mpr rfl))
      · exact Or.inr q
    · have h3 := wC_app (b := P k) ((0, 0) :: l.map P) [P z]
      rw [e, a3]
      simp only [List.map_append, List.map_cons, List.map_nil, List.append_assoc, List.cons_append, List.nil_append, wC] at h3 ⊢
      omega
  · intro l hl hc
    obtain ⟨l1, l2, k, e1, e2, e3⟩ := wSpl (K := K') (P := P) hne _ (l ++ [P z]) rfl (fun k hk => hc k ((hK k).mpr (Or.inl hk)))
    have hPk := hP k ((hK k).mpr (Or.inl e2))
    have hPz := hP z hz
    have hall : wV (l ++ [P z]) := wV_app hl (wV_one hPz)
    have v1 : wV l1 := fun x hx => hall x (by rw [e1]; exact List.mem_append_left _ hx)
    have v2 : wV l2 := fun x hx => hall x (by rw [e1]; exact List.mem_append_right _ (List.mem_cons_of_mem _ hx))
    have h5 := (hf k e2).2 l1 v1 e3
    have hv := h2 k e2
    rw [List.cons_append, e1]
    rcases List.eq_nil_or_concat l2 with q | ⟨m, y, q⟩
    · rw [q] at e1
      have e4 := List.append_inj' e1 rfl
      have e5 : P z = P k := by have := e4.2; simp only [List.cons.injEq, and_true] at this; exact this
      rw [e5, wD_self] at hv
      rw [q]
      simp only [List.cons_append] at h5
      omega
    · have q : l2 = m ++ [y] := by rw [q]; simp
      rw [q] at e1
      have e6 : l ++ [P z] = (l1 ++ P k :: m) ++ [y] := by rw [e1]; simp
      have e4 := List.append_inj' e6 rfl
      have e5 : P z = y := by have := e4.2; simp only [List.cons.injEq, and_true] at this; exact this
      have h6 := wC_end (a := P k) (b := P z) ((0, 0) :: l1) m hPk hPz (fun x hx => v2 x (by rw [q]; exact List.mem_append_left _ hx))
      rw [q, ← e5]
      simp only [List.cons_append, List.append_assoc] at h5 h6 ⊢
      omega
/-- the whole way: out and home -/
theorem wTour.of {P : Nat → Nat × Nat} {K : Nat → Prop} {v : Nat} {f : Nat → Nat} (hP : ∀ k, K k → (P k).2 ≤ 21) (hne : ∃ k, K k) (hf : ∀ k, K k → wOpt P K k (f k)) (h1 : ∃ k, K k ∧ v = f k + wD (0, 0) (P k)) (h2 : ∀ k, K k → v ≤ f k + wD (0, 0) (P k)) : wTour P K v := by
  constructor
  · obtain ⟨k, hk, e⟩ := h1
    obtain ⟨⟨l, a1, a2, a3⟩, -⟩ := hf k hk
    refine ⟨l ++ [k], fun j hj => ?_, fun j hj => ?_, ?_⟩
    · rcases List.mem_append.mp hj with q | q
      · exact a1 j q
      · rw [List.mem_singleton.mp q]; exact hk
    · rcases a2 j hj with w | w
      · exact List.mem_append_left _ w
      · exact List.mem_append_right _ (by rw [w]; exact List.mem_singleton.mpr rfl)
    · have h3 := wC_app (b := P k) ((0, 0) :: l.map P) [(0, 0)]
      rw [e, a3, wD_comm]
      simp only [List.map_append, List.map_cons, List.map_nil, List.append_assoc, List.cons_append, List.nil_append, wC] at h3 ⊢
      omega
  · intro l hl hc
    obtain ⟨l1, l2, k, e1, e2, e3⟩ := wSpl (K := K) (P := P) hne _ l rfl hc
    have v1 : wV l1 := fun x hx => hl x (by rw [e1]; exact List.mem_append_left _ hx)
    have v2 : wV l2 := fun x hx => hl x (by rw [e1]; exact List.mem_append_right _ (List.mem_cons_of_mem _ hx))
    have h5 := (hf k e2).2 l1 v1 e3
    have hv := h2 k e2
    have h6 := wC_end (a := P k) (b := (0, 0)) ((0, 0) :: l1) l2 (hP k e2) (by simp) v2
    rw [wD_comm] at hv
    rw [e1]
    simp only [List.cons_append, List.append_assoc] at h5 h6 ⊢
    omega
/-! ===== walks that meet a set ===== -/
abbrev wP : Type := Nat × Nat
def wW (a b : wP) (S : wP → Prop) (c : Nat) : Prop := ∃ l : List wP, wV l ∧ (∀ x, S x → x ∈ a :: l ++ [b]) ∧ wC (a :: l ++ [b]) ≤ c
theorem wW.mono {a b : wP} {S T : wP → Prop} {c d : Nat} (h : wW a b S c) (hS : ∀ x, T x → S x) (hc : c ≤ d) : wW a b T d := by
  obtain ⟨l, h1, h2, h3⟩ := h
  exact ⟨l, h1, fun x q => h2 x (hS x q), by omega⟩
theorem wW.endp {a b : wP} {S : wP → Prop} {c : Nat} (h : wW a b S c) : wW a b (fun x => S x ∨ x = a ∨ x = b) c := by
  obtain ⟨l, h1, h2, h3⟩ := h
  refine ⟨l, h1, fun x q => ?_, h3⟩
  rcases q with q | q | q
  · exact h2 x q
  · rw [q]; simp
  · rw [q]; simp
theorem wW.cat {a b d : wP} {S T : wP → Prop} {c e : Nat} (h : wW a b S c) (k : wW b d T e) (hb : b.2 ≤ 21) : wW a d (fun x => S x ∨ T x) (c + e) := by
  obtain ⟨l, h1, h2, h3⟩ := h
  obtain ⟨m, k1, k2, k3⟩ := k
  refine ⟨l ++ b :: m, wV_app h1 (wV_cons hb k1), fun x q => ?_, ?_⟩
  · rcases q with q | q
    · have := h2 x q
      simp only [List.cons_append, List.mem_cons, List.mem_append, List.append_assoc, List.mem_singleton] at this ⊢
      rcases this with w | w | w
      · exact Or.inl w
      · exact Or.inr (Or.inl w)
      · exact Or.inr (Or.inr (Or.inl (w.resolve_right List.not_mem_nil)))
    · have := k2 x q
      simp only [List.cons_append, List.mem_cons, List.mem_append, List.append_assoc, List.mem_singleton] at this ⊢
      exact Or.inr (Or.inr this)
  · have e1 := wC_app (b := b) (a :: l) (m ++ [d])
    simp only [List.cons_append, List.append_assoc] at h3 k3 e1 ⊢
    omega
theorem wC_rev : ∀ l : List wP, wC l.reverse = wC l
  | [] => rfl
  | [a] => rfl
  | a :: b :: l => by
    have ih := wC_rev (b :: l)
    have e := wC_app (b := b) l.reverse [a]
    simp only [List.reverse_cons, List.append_assoc, List.cons_append, List.nil_append] at ih e ⊢
    rw [e, ih]
    simp only [wC]
    rw [wD_comm]
    omega
theorem wW.rev {a b : wP} {S : wP → Prop} {c : Nat} (h : wW a b S c) : wW b a S c := by
  obtain ⟨l, h1, h2, h3⟩ := h
  have e : b :: l.reverse ++ [a] = (a :: l ++ [b]).reverse := by simp
  refine ⟨l.reverse, fun x q => h1 x (List.mem_reverse.mp q), fun x q => ?_, ?_⟩
  · rw [e]; exact List.mem_reverse.mpr (h2 x q)
  · rw [e, wC_rev]; exact h3
theorem wW.step (a b : wP) : wW a b (fun x => x = a ∨ x = b) (wD a b) := ⟨[], fun x q => absurd q List.not_mem_nil, fun x q => by rcases q with q | q <;> simp [q], by simp [wC]⟩
theorem wW.nil (a : wP) : wW a a (fun x => x = a) 0 := ⟨[], fun x q => absurd q List.not_mem_nil, fun x q => by simp [q], by simp [wC, wD_self]⟩
/-- a closed walk may begin at any of its points -/
theorem wW.rot {a b : wP} {S : wP → Prop} {c : Nat} (h : wW a a S c) (hb : S b) (ha : a.2 ≤ 21) : wW b b S c := by
  obtain ⟨l, h1, h2, h3⟩ := h
  by_cases e : b = a
  · subst e; exact ⟨l, h1, h2, h3⟩
  · have hm : b ∈ l := by
      have := h2 b hb
      simp only [List.cons_append, List.mem_cons, List.mem_append, List.mem_singleton] at this
      rcases this with w | w | w
      · exact absurd w e
      · exact w
      · rcases w with w | w
        · exact absurd w e
        · exact absurd w List.not_mem_nil
    obtain ⟨l1, l2, e2⟩ := List.append_of_mem hm
    refine ⟨l2 ++ a :: l1, ?_, fun x q => ?_, ?_⟩
    · intro x q
      rcases List.mem_append.mp q with w | w
      · exact h1 x (by rw [e2]; exact List.mem_append_right _ (List.mem_cons_of_mem _ w))
      · rcases List.mem_cons.mp w with w | w
        · rw [w]; exact ha
        · exact h1 x (by rw [e2]; exact List.mem_append_left _ w)
    · have := h2 x q
      rw [e2] at this
      simp only [List.cons_append, List.mem_cons, List.mem_append, List.append_assoc, List.not_mem_nil, or_false] at this ⊢
      rcases this with w | w | w | w | w
      · exact Or.inr (Or.inr (Or.inl w))
      · exact Or.inr (Or.inr (Or.inr (Or.inl w)))
      · exact Or.inl w
      · exact Or.inr (Or.inl w)
      · exact Or.inr (Or.inr (Or.inl w))
    · have e3 := wC_app (b := b) (a :: l1) (l2 ++ [a])
      have e4 := wC_app (b := a) (b :: l2) (l1 ++ [b])
      rw [e2] at h3
      simp only [List.cons_append, List.append_assoc] at h3 e3 e4 ⊢
      omega
/-- a closed walk with another hung on -/
theorem wW.ins {a b : wP} {S T : wP → Prop} {c e : Nat} (h : wW a a S c) (k : wW b b T e) (hb : S b) (ha : a.2 ≤ 21) (hb2 : b.2 ≤ 21) : wW a a (fun x => S x ∨ T x) (c + e) := by
  have h1 := (h.endp).rot (b := b) (Or.inl hb) ha
  have h2 := h1.cat k hb2
  exact (h2.rot (b := a) (Or.inl (Or.inr (Or.inl rfl))) hb2).mono (fun x q => q.elim (fun w => Or.inl (Or.inl w)) Or.inr) (Nat.le_refl _)
/-- up a street -/
theorem wUp {t a : Nat} : ∀ {n : Nat}, a + n ≤ 21 → wW (t, a) (t, a + n) (fun x => x.1 = t ∧ a ≤ x.2 ∧ x.2 ≤ a + n) n
  | 0, h => (wW.nil (t, a)).mono (fun x q => by obtain ⟨q1, q2, q3⟩ := q; exact Prod.ext q1 (by show x.2 = a; omega)) (Nat.le_refl _)
  | n + 1, h => by
    have ih := wUp (t := t) (a := a) (n := n) (by omega)
    have s := wW.step (t, a + n) (t, a + (n + 1))
    have d : wD (t, a + n) (t, a + (n + 1)) = 1 := by simp only [wD, if_true]; omega
    rw [d] at s
    exact (ih.cat s (by show a + n ≤ 21; omega)).mono (fun x q => by
      obtain ⟨q1, q2, q3⟩ := q
      by_cases w : x.2 ≤ a + n
      · exact Or.inl ⟨q1, q2, w⟩
      · exact Or.inr (Or.inr (Prod.ext q1 (by show x.2 = a + (n + 1); omega)))) (Nat.le_refl _)
theorem wUpDn {t a n : Nat} (h : a + n ≤ 21) : wW (t, a) (t, a) (fun x => x.1 = t ∧ a ≤ x.2 ∧ x.2 ≤ a + n) (2 * n) := ((wUp h).cat (wUp h).rev (by show a + n ≤ 21; omega)).mono (fun x q => Or.inl q) (by omega)
theorem wDnUp {t a n : Nat} (h : a + n ≤ 21) : wW (t, a + n) (t, a + n) (fun x => x.1 = t ∧ a ≤ x.2 ∧ x.2 ≤ a + n) (2 * n) := ((wUp h).rev.cat (wUp h) (by show a ≤ 21; omega)).mono (fun x q => Or.inl q) (by omega)
/-! ===== what a street's ends may have of a round: path, closed walks ===== -/
def wKd (k : Nat) (F B : wP) (S : wP → Prop) (c : Nat) : Prop := match k with
  | 0 => wW F B S c
  | 1 => wW F F S c
  | 2 => wW B B S c
  | 3 => wW F F (fun x => S x ∨ x = B) c
  | 4 => ∃ S1 S2 c1 c2, wW F F S1 c1 ∧ wW B B S2 c2 ∧ (∀ x, S x → S1 x ∨ S2 x) ∧ c1 + c2 ≤ c
  | _ => ∀ x, ¬ S x
def wTab (i j : Nat) : Nat := if i = 5 then j else if j = 5 then i else if i = 0 ∧ j = 0 then 3 else if i = 0 ∨ j = 0 then 0 else if i = 3 ∨ j = 3 then 3 else if i = j then i else 4
theorem wSix {k : Nat} (h : k < 6) : k = 0 ∨ k = 1 ∨ k = 2 ∨ k = 3 ∨ k = 4 ∨ k = 5 := by omega
section WK4
variable {F B : wP} {S T : wP → Prop} {c e : Nat}
theorem wKd.no {i : Nat} (hi : i < 6) (h : wKd i F B S c) (k : ∀ x, ¬ T x) : wKd i F B (fun x => S x ∨ T x) (c + e) := by
  have f : ∀ x, S x ∨ T x → S x := fun x q => q.resolve_right (k x)
  rcases wSix hi with rfl | rfl | rfl | rfl | rfl | rfl
  · exact wW.mono h f (by omega)
  · exact wW.mono h f (by omega)
  · exact wW.mono h f (by omega)
  · exact wW.mono h (fun x q => q.elim (fun w => Or.inl (f x w)) Or.inr) (by omega)
  · obtain ⟨S1, S2, c1, c2, h1, h2, h3, h4⟩ := h
    exact ⟨S1, S2, c1, c2, h1, h2, fun x q => h3 x (f x q), by omega⟩
  · exact fun x q => h x (f x q)
theorem wKd.sym {i : Nat} (hi : i < 6) (h : wKd i F B (fun x => S x ∨ T x) c) : wKd i F B (fun x => T x ∨ S x) c := by
  have f : ∀ x, T x ∨ S x → S x ∨ T x := fun x q => q.symm
  rcases wSix hi with rfl | rfl | rfl | rfl | rfl | rfl
  · exact wW.mono h f (Nat.le_refl _)
  · exact wW.mono h f (Nat.le_refl _)
  · exact wW.mono h f (Nat.le_refl _)
  · exact wW.mono h (fun x q => q.elim (fun w => Or.inl (f x w)) Or.inr) (Nat.le_refl _)
  · obtain ⟨S1, S2, c1, c2, h1, h2, h3, h4⟩ := h
    exact ⟨S1, S2, c1, c2, h1, h2, fun x q => h3 x (f x q), h4⟩
  · exact fun x q => h x (f x q)
/-- a path and something closed at its ends -/
theorem wKd.path {j : Nat} (hj : j < 6) (hF : F.2 ≤ 21) (hB : B.2 ≤ 21) (h : wW F B S c) (k : wKd j F B T e) (h0 : j ≠ 0) : wW F B (fun x => S x ∨ T x) (c + e) := by
  rcases wSix hj with rfl | rfl | rfl | rfl | rfl | rfl
  · exact absurd rfl h0
  · exact (wW.cat (show wW F F T e from k) h hF).mono (fun x q => q.symm) (by omega)
  · exact (h.cat (show wW B B T e from k) hB).mono (fun x q => q) (Nat.le_refl _)
  · exact (wW.cat (show wW F F (fun x => T x ∨ x = B) e from k) h hF).mono (fun x q => q.elim Or.inr (fun w => Or.inl (Or.inl w))) (by omega)
  · obtain ⟨S1, S2, c1, c2, h1, h2, h3, h4⟩ := k
    exact ((h1.cat h hF).cat h2 hB).mono (fun x q => q.elim (fun w => Or.inl (Or.inr w)) (fun w => (h3 x w).elim (fun v => Or.inl (Or.inl v)) Or.inr)) (by omega)
  · exact h.mono (fun x q => q.resolve_right (k x)) (by omega)
/-- a closed walk through both ends and something closed there -/
theorem wKd.both {j : Nat} (hj : j < 6) (hF : F.2 ≤ 21) (hB : B.2 ≤ 21) (h : wW F F (fun x => S x ∨ x = B) c) (k : wKd j F B T e) (h0 : j ≠ 0) : wW F F (fun x => (S x ∨ T x) ∨ x = B) (c + e) := by
  rcases wSix hj with rfl | rfl | rfl | rfl | rfl | rfl
  · exact absurd rfl h0
  · exact (h.cat (show wW F F T e from k) hF).mono (fun x q => q.elim (fun w => w.elim (fun v => Or.inl (Or.inl v)) Or.inr) (fun w => Or.inl (Or.inr w))) (Nat.le_refl _)
  · exact (h.ins (show wW B B T e from k) (Or.inr rfl) hF hB).mono (fun x q => q.elim (fun w => w.elim (fun v => Or.inl (Or.inl v)) Or.inr) (fun w => Or.inl (Or.inr w))) (Nat.le_refl _)
  · exact (h.cat (show wW F F (fun x => T x ∨ x = B) e from k) hF).mono (fun x q => q.elim (fun w => w.elim (fun v => Or.inl (Or.inl v)) (fun v => Or.inr (Or.inl v))) (fun w => Or.inl (Or.inr w))) (Nat.le_refl _)
  · obtain ⟨S1, S2, c1, c2, h1, h2, h3, h4⟩ := k
    exact ((h.cat h1 hF).ins h2 (Or.inl (Or.inr rfl)) hF hB).mono (fun x q => q.elim (fun w => w.elim (fun v => Or.inl (Or.inl (Or.inl v))) (fun v => (h3 x v).elim (fun u => Or.inl (Or.inr u)) Or.inr)) (fun w => Or.inl (Or.inl (Or.inr w)))) (by omega)
  · exact h.mono (fun x q => q.elim (fun w => Or.inl (w.resolve_right (k x))) Or.inr) (by omega)
/-- closed at one end or at both apart, as two walks -/
theorem wKd.two {i : Nat} (h : wKd i F B S c) (hi : i = 1 ∨ i = 2 ∨ i = 4) : ∃ S1 S2 c1 c2, wW F F S1 c1 ∧ wW B B S2 c2 ∧ (∀ x, S x → S1 x ∨ S2 x) ∧ c1 + c2 ≤ c := by
  rcases hi with rfl | rfl | rfl
  · exact ⟨S, _, c, 0, h, wW.nil B, fun x q => Or.inl q, by omega⟩
  · exact ⟨_, S, 0, c, wW.nil F, h, fun x q => Or.inr q, by omega⟩
  · exact h
theorem wKd.add {i j : Nat} (hi : i < 6) (hj : j < 6) (hF : F.2 ≤ 21) (hB : B.2 ≤ 21) (h : wKd i F B S c) (k : wKd j F B T e) : wKd (wTab i j) F B (fun x => S x ∨ T x) (c + e) := by
  unfold wTab
  by_cases a5 : i = 5
  · subst a5
    rw [if_pos rfl]
    have := wKd.sym hj (wKd.no (e := c) hj k (show ∀ x, ¬ S x from h))
    rw [Nat.add_comm] at this
    exact this
  · rw [if_neg a5]
    by_cases b5 : j = 5
    · subst b5
      rw [if_pos rfl]
      exact wKd.no hi h k
    · rw [if_neg b5]
      by_cases c0 : i = 0 ∧ j = 0
      · rw [if_pos c0]
        obtain ⟨rfl, rfl⟩ := c0
        exact (((show wW F B S c from h).endp.cat (show wW F B T e from k).rev hB)).mono (fun x q => q.elim (fun w => w.elim (fun v => Or.inl (Or.inl v)) Or.inr) (fun w => Or.inl (Or.inr (Or.inr w)))) (Nat.le_refl _)
      · rw [if_neg c0]
        by_cases d0 : i = 0 ∨ j = 0
        · rw [if_pos d0]
          rcases d0 with rfl | rfl
          · exact wKd.path hj hF hB h k (by omega)
          · have := wKd.path hi hF hB (show wW F B T e from k) h (by omega)
            exact this.mono (fun x q => q.symm) (by omega)
        · rw [if_neg d0]
          by_cases e3 : i = 3 ∨ j = 3
          · rw [if_pos e3]
            rcases e3 with rfl | rfl
            · exact wKd.both hj hF hB h k (by omega)
            · have := wKd.both hi hF hB (show wW F F (fun x => T x ∨ x = B) e from k) h (by omega)
              exact this.mono (fun x q => q.elim (fun w => Or.inl w.symm) Or.inr) (by omega)
          · rw [if_neg e3]
            by_cases g : i = j
            · rw [if_pos g]
              subst g
              have : i = 1 ∨ i = 2 ∨ i = 4 := by omega
              rcases this with rfl | rfl | rfl
              · exact wW.cat (show wW F F S c from h) k hF
              · exact wW.cat (show wW B B S c from h) k hB
              · obtain ⟨S1, S2, c1, c2, h1, h2, h3, h4⟩ := h
                obtain ⟨T1, T2, e1, e2, k1, k2, k3, k4⟩ := k
                exact ⟨_, _, _, _, h1.cat k1 hF, h2.cat k2 hB, fun x q => q.elim (fun w => (h3 x w).elim (fun v => Or.inl (Or.inl v)) (fun v => Or.inr (Or.inl v))) (fun w => (k3 x w).elim (fun v => Or.inl (Or.inr v)) (fun v => Or.inr (Or.inr v))), by omega⟩
            · rw [if_neg g]
              obtain ⟨S1, S2, c1, c2, h1, h2, h3, h4⟩ := wKd.two h (by omega)
              obtain ⟨T1, T2, e1, e2, k1, k2, k3, k4⟩ := wKd.two k (by omega)
              exact ⟨_, _, _, _, h1.cat k1 hF, h2.cat k2 hB, fun x q => q.elim (fun w => (h3 x w).elim (fun v => Or.inl (Or.inl v)) (fun v => Or.inr (Or.inl v))) (fun w => (k3 x w).elim (fun v => Or.inl (Or.inr v)) (fun v => Or.inr (Or.inr v))), by omega⟩
end WK4
/-- the lanes to the next street -/
def wLF (k : Nat) : Nat := match k with | 0 => 1 | 1 => 2 | 2 => 0 | 3 => 2 | 4 => 2 | _ => 0
def wLB (k : Nat) : Nat := match k with | 0 => 1 | 1 => 0 | 2 => 2 | 3 => 2 | 4 => 2 | _ => 0
def wWF (k : Nat) : Nat := match k with | 0 => 1 | 1 => 2 | 2 => 2 | 3 => 0 | 4 => 2 | _ => 0
def wWB (k : Nat) : Nat := match k with | 0 => 1 | 1 => 2 | 2 => 0 | 3 => 2 | 4 => 2 | _ => 0
def wOkL (k l : Nat) : Bool := (k == 0 && l == 0) || (k == 1 && l == 1) || (k == 2 && l == 2) || (k == 3 && (l == 1 || l == 2 || l == 3)) || (k == 4 && l == 4) || (l == 5 && (k == 1 || k == 2 || k == 3))
theorem wLane {t : Nat} {a : Nat} (ha : a = 0 ∨ a = 21) : wD (t, a) (t + 1, a) = 6 := by
  unfold wD
  rcases ha with rfl | rfl
  · rw [if_neg (by simp)]; simp
  · rw [if_neg (by simp)]; simp
theorem wHang {t a c : Nat} {S : wP → Prop} (ha : a = 0 ∨ a = 21) (h : wW (t, a) (t, a) S c) : wW (t + 1, a) (t + 1, a) S (c + 12) := by
  have s := wW.step (t, a) (t + 1, a)
  rw [wLane ha] at s
  have v : a ≤ 21 := by omega
  exact ((s.rev.cat h v).cat s v).mono (fun x q => Or.inl (Or.inr q)) (by omega)
theorem wKd.lane {k l t c : Nat} {S : wP → Prop} (hk : k < 6) (hl : l < 5) (ok : wOkL k l = true) (h : wKd k (t, 0) (t, 21) S c) : wKd l (t + 1, 0) (t + 1, 21) S (c + 6 * (wLF l + wLB l)) := by
  have sF := wW.step (t, 0) (t + 1, 0)
  have sB := wW.step (t, 21) (t + 1, 21)
  rw [wLane (Or.inl rfl)] at sF
  rw [wLane (Or.inr rfl)] at sB
  rcases wSix hk with rfl | rfl | rfl | rfl | rfl | rfl
  · obtain rfl : l = 0 := by simp [wOkL] at ok; omega
    exact ((sF.rev.cat (show wW (t, 0) (t, 21) S c from h) (by simp)).cat sB (by simp)).mono (fun x q => Or.inl (Or.inr q)) (by simp only [wLF, wLB]; omega)
  · obtain rfl : l = 1 := by simp [wOkL] at ok; omega
    exact (wHang (Or.inl rfl) (show wW (t, 0) (t, 0) S c from h)).mono (fun x q => q) (by simp [wLF, wLB])
  · obtain rfl : l = 2 := by simp [wOkL] at ok; omega
    exact (wHang (Or.inr rfl) (show wW (t, 21) (t, 21) S c from h)).mono (fun x q => q) (by simp [wLF, wLB])
  · have h3 : wW (t, 0) (t, 0) (fun x => S x ∨ x = (t, 21)) c := h
    have : l = 1 ∨ l = 2 ∨ l = 3 := by simp [wOkL] at ok; omega
    rcases this with rfl | rfl | rfl
    · exact (wHang (Or.inl rfl) h3).mono (fun x q => Or.inl q) (by simp [wLF, wLB])
    · exact (wHang (Or.inr rfl) (h3.rot (b := (t, 21)) (Or.inr rfl) (by simp))).mono (fun x q => Or.inl q) (by simp [wLF, wLB])
    · have b2 : wW (t, 21) (t, 21) (fun x => x = (t + 1, 21)) 12 := (sB.cat sB.rev (by simp)).mono (fun x q => Or.inl (Or.inr q)) (by omega)
      exact (wHang (Or.inl rfl) (h3.ins b2 (Or.inr rfl) (by simp) (by simp))).mono (fun x q => q.elim (fun w => Or.inl (Or.inl w)) Or.inr) (by simp only [wLF, wLB]; omega)
  · obtain rfl : l = 4 := by simp [wOkL] at ok; omega
    obtain ⟨S1, S2, c1, c2, h1, h2, h3, h4⟩ := h
    exact ⟨S1, S2, c1 + 12, c2 + 12, wHang (Or.inl rfl) h1, wHang (Or.inr rfl) h2, h3, by simp only [wLF, wLB]; omega⟩
  · simp [wOkL] at ok
/-- at the end: a closed walk -/
theorem wKd.fin {k t c : Nat} {S : wP → Prop} {a : wP} (hk : k < 6) (ok : wOkL k 5 = true) (h : wKd k (t, 0) (t, 21) S c) (ha : S a) : wW a a S c := by
  have : k = 1 ∨ k = 2 ∨ k = 3 := by simp [wOkL] at ok; omega
  rcases this with rfl | rfl | rfl
  · exact wW.rot (show wW (t, 0) (t, 0) S c from h) ha (by simp)
  · exact wW.rot (show wW (t, 21) (t, 21) S c from h) ha (by simp)
  · exact (wW.rot (show wW (t, 0) (t, 0) (fun x => S x ∨ x = (t, 21)) c from h) (Or.inl ha) (by simp)).mono (fun x q => Or.inl q) (Nat.le_refl _)
def wFit (fm wy ln : Nat) : Bool :=
  !(decide ((wLF fm + wWF wy + wLF ln) % 2 ≠ 0) || decide ((wLB fm + wWB wy + wLB ln) % 2 ≠ 0)) &&
  (!((decide (0 < wLF ln) && !(decide (0 < wLF fm + wWF wy) || fm == 5)) || (decide (0 < wLB ln) && !(decide (0 < wLB fm + wWB wy)))) &&
  (((decide (0 < wLF fm + wWF wy) || fm == 5) && decide (0 < wLB fm + wWB wy) && !(fm == 0 || fm == 3 || wy == 0 || wy == 1)) == (ln == 4)))
def wKw (w : Nat) : Nat := match w with | 0 => 0 | 1 => 3 | 2 => 1 | 3 => 2 | 4 => 4 | _ => 5
theorem wFit_ok : ∀ fm : Fin 6, ∀ wy : Fin 6, ∀ ln : Fin 6, wFit fm.val wy.val ln.val = true → wOkL (wTab (if fm.val = 5 then 1 else fm.val) (wKw wy.val)) ln.val = true := by decide
theorem wTab_lt : ∀ i : Fin 6, ∀ j : Fin 6, wTab i.val j.val < 6 := by decide
theorem wKw_lt : ∀ i : Fin 6, wKw i.val < 6 := by decide
/-! ===== a street's measures; the class's table is met by walks ===== -/
def wNb (M : Nat → Prop) (a b : Nat) : Prop := M a ∧ M b ∧ a < b ∧ ∀ p, M p → p ≤ a ∨ b ≤ p
def wMs (M : Nat → Prop) (lo hi wd : Nat) : Prop := ((hi = 0 ∧ ∀ p, ¬ M p) ∨ (M hi ∧ ∀ p, M p → p ≤ hi)) ∧ ((lo = 21 ∧ ∀ p, ¬ M p) ∨ (M lo ∧ ∀ p, M p → lo ≤ p)) ∧ ((wd = 0 ∧ ∀ p q, M p → M q → p = q) ∨ ∃ a b, wNb M a b ∧ wd = b - a) ∧ ∀ a b, wNb M a b → b - a ≤ wd
def wWy (lo hi wd wy : Nat) : Nat := match wy with | 0 => 21 | 1 => 42 | 2 => 2 * hi | 3 => 2 * (21 - lo) | 4 => 2 * (21 - wd) | _ => if hi = 0 then 0 else 1000000
theorem wStreet {M : Nat → Prop} {t lo hi wd wy : Nat} (hM : ∀ p, M p → 1 ≤ p ∧ p ≤ 20) (h : wMs M lo hi wd) (hw : wy < 6) (hf : wWy lo hi wd wy < 1000000) : wKd (wKw wy) (t, 0) (t, 21) (fun x => x.1 = t ∧ M x.2) (wWy lo hi wd wy) := by
  obtain ⟨h1, h2, h3, -⟩ := h
  have hi20 : hi ≤ 21 := by
    rcases h1 with ⟨q, -⟩ | ⟨q, -⟩
    · omega
    · have := hM hi q; omega
  have lo21 : lo ≤ 21 := by
    rcases h2 with ⟨q, -⟩ | ⟨q, -⟩
    · omega
    · have := hM lo q; omega
  rcases wSix hw with rfl | rfl | rfl | rfl | rfl | rfl
  · exact (wUp (t := t) (a := 0) (n := 21) (by omega)).mono (fun x q => ⟨q.1, by omega, by have := hM _ q.2; omega⟩) (Nat.le_refl _)
  · exact (wUpDn (t := t) (a := 0) (n := 21) (by omega)).mono (fun x q => q.elim (fun w => ⟨w.1, by omega, by have := hM _ w.2; omega⟩) (fun w => by rw [w]; exact ⟨rfl, by omega, by simp⟩)) (Nat.le_refl _)
  · exact (wUpDn (t := t) (a := 0) (n := hi) (by omega)).mono (fun x q => ⟨q.1, by omega, by
      rcases h1 with ⟨-, w⟩ | ⟨-, w⟩
      · exact absurd q.2 (w _)
      · have := w _ q.2; omega⟩) (Nat.le_refl _)
  · have e : lo + (21 - lo) = 21 := by omega
    have := wDnUp (t := t) (a := lo) (n := 21 - lo) (by omega)
    rw [e] at this
    exact this.mono (fun x q => ⟨q.1, by
      rcases h2 with ⟨-, w⟩ | ⟨-, w⟩
      · exact absurd q.2 (w _)
      · exact w _ q.2, by have := hM _ q.2; omega⟩) (Nat.le_refl _)
  · rcases h3 with ⟨w0, -⟩ | ⟨a, b, ⟨n1, n2, n3, n4⟩, n5⟩
    · exact ⟨_, _, _, 0, wUpDn (t := t) (a := 0) (n := 21) (by omega), wW.nil (t, 21), fun x q => Or.inl ⟨q.1, by omega, by have := hM _ q.2; omega⟩, by simp only [wWy]; omega⟩
    · have b20 := hM b n2
      have e : b + (21 - b) = 21 := by omega
      have := wDnUp (t := t) (a := b) (n := 21 - b) (by omega)
      rw [e] at this
      refine ⟨_, _, _, _, wUpDn (t := t) (a := 0) (n := a) (by omega), this, fun x q => ?_, by simp only [wWy]; omega⟩
      rcases n4 _ q.2 with w | w
      · exact Or.inl ⟨q.1, by omega, by omega⟩
      · exact Or.inr ⟨q.1, w, by have := hM _ q.2; omega⟩
  · rcases h1 with ⟨-, w⟩ | ⟨w, -⟩
    · exact fun x q => absurd q.2 (w _)
    · have := hM _ w
      simp only [wWy] at hf
      rw [if_neg (by omega)] at hf
      omega
/-- the least into a lane -/
def wLst (b ws : Nat → Nat) (ln v : Nat) : Prop := v ≤ 1000000 ∧ (∀ fm wy, fm < 6 → wy < 6 → wFit fm wy ln = true → v ≤ b fm + ws wy) ∧ (v = 1000000 ∨ ∃ fm wy, fm < 6 ∧ wy < 6 ∧ wFit fm wy ln = true ∧ v = b fm + ws wy)
def wSt (Pk : wP → Prop) (t : Nat) (x : wP) : Prop := x = (0, 0) ∨ (Pk x ∧ x.1 < t)
def wInvB (Pk : wP → Prop) (t : Nat) (b : Nat → Nat) : Prop := ∀ fm, fm < 6 → b fm < 1000000 → wKd (if fm = 5 then 1 else fm) (t, 0) (t, 21) (wSt Pk t) (b fm)
theorem wInvB.start {Pk : wP → Prop} {b : Nat → Nat} (h : ∀ ln, ln < 6 → b ln = if ln = 5 then 0 else 1000000) : wInvB Pk 0 b := fun fm hf hl => by
  rw [h fm hf] at hl ⊢
  by_cases q : fm = 5
  · rw [if_pos q, if_pos q]
    exact (wW.nil (0, 0)).mono (fun x w => w.elim (fun v => v) (fun v => absurd v.2 (by omega))) (Nat.le_refl _)
  · rw [if_neg q] at hl; omega
theorem wInvB.mid {Pk : wP → Prop} {M : Nat → Prop} {t lo hi wd fm wy : Nat} {b : Nat → Nat} (h : wInvB Pk t b) (hM : ∀ p, M p ↔ Pk (t, p)) (hP : ∀ x, Pk x → 1 ≤ x.2 ∧ x.2 ≤ 20) (hm : wMs M lo hi wd) (hf : fm < 6) (hw : wy < 6) (hl : b fm + wWy lo hi wd wy < 1000000) : wKd (wTab (if fm = 5 then 1 else fm) (wKw wy)) (t, 0) (t, 21) (wSt Pk (t + 1)) (b fm + wWy lo hi wd wy) := by
  have a := h fm hf (by omega)
  have s := wStreet (t := t) (fun p q => hP (t, p) ((hM p).mp q)) hm hw (by omega)
  have i6 : (if fm = 5 then 1 else fm) < 6 := by split <;> omega
  have k6 : wKw wy < 6 := wKw_lt ⟨wy, hw⟩
  have r := wKd.add i6 k6 (by simp) (by simp) a s
  have t6 : wTab (if fm = 5 then 1 else fm) (wKw wy) < 6 := wTab_lt ⟨_, i6⟩ ⟨_, k6⟩
  generalize wTab (if fm = 5 then 1 else fm) (wKw wy) = kk at r t6 ⊢
  have f : ∀ x, wSt Pk (t + 1) x → wSt Pk t x ∨ (x.1 = t ∧ M x.2) := fun x q => by
    rcases q with q | ⟨q1, q2⟩
    · exact Or.inl (Or.inl q)
    · by_cases w : x.1 = t
      · exact Or.inr ⟨w, (hM _).mpr (by rw [← w]; exact q1)⟩
      · exact Or.inl (Or.inr ⟨q1, by omega⟩)
  rcases wSix t6 with rfl | rfl | rfl | rfl | rfl | rfl
  · exact wW.mono r f (Nat.le_refl _)
  · exact wW.mono r f (Nat.le_refl _)
  · exact wW.mono r f (Nat.le_refl _)
  · exact wW.mono r (fun x q => q.elim (fun w => Or.inl (f x w)) Or.inr) (Nat.le_refl _)
  · obtain ⟨S1, S2, c1, c2, h1, h2, h3, h4⟩ := r
    exact ⟨S1, S2, c1, c2, h1, h2, fun x q => h3 x (f x q), h4⟩
  · exact fun x q => r x (f x q)
theorem wInvB.next {Pk : wP → Prop} {M : Nat → Prop} {t lo hi wd : Nat} {b b' : Nat → Nat} (h : wInvB Pk t b) (hM : ∀ p, M p ↔ Pk (t, p)) (hP : ∀ x, Pk x → 1 ≤ x.2 ∧ x.2 ≤ 20) (hm : wMs M lo hi wd) (h5 : b' 5 = 1000000) (hb : ∀ ln, ln < 5 → ∃ v, wLst b (wWy lo hi wd) ln v ∧ b' ln = v + 6 * (wLF ln + wLB ln)) : wInvB Pk (t + 1) b' := fun ln hl hlt => by
  by_cases q : ln = 5
  · subst q; omega
  · rw [if_neg q]
    obtain ⟨v, ⟨v1, v2, v3⟩, e⟩ := hb ln (by omega)
    rw [e] at hlt ⊢
    rcases v3 with v3 | ⟨fm, wy, f1, f2, f3, f4⟩
    · omega
    · rw [f4] at hlt ⊢
      have r := h.mid hM hP hm f1 f2 (by omega)
      have i6 : (if fm = 5 then 1 else fm) < 6 := by split <;> omega
      exact wKd.lane (wTab_lt ⟨_, i6⟩ ⟨_, wKw_lt ⟨wy, f2⟩⟩) (by omega) (wFit_ok ⟨fm, f1⟩ ⟨wy, f2⟩ ⟨ln, hl⟩ f3) r
theorem wInvB.fin {Pk : wP → Prop} {M : Nat → Prop} {t lo hi wd v : Nat} {b : Nat → Nat} (h : wInvB Pk t b) (hM : ∀ p, M p ↔ Pk (t, p)) (hP : ∀ x, Pk x → 1 ≤ x.2 ∧ x.2 ≤ 20) (hlast : ∀ x, Pk x → x.1 ≤ t) (hm : wMs M lo hi wd) (hv : wLst b (wWy lo hi wd) 5 v) (hlt : v < 1000000) : wW (0, 0) (0, 0) Pk v := by
  obtain ⟨v1, v2, v3⟩ := hv
  rcases v3 with v3 | ⟨fm, wy, f1, f2, f3, f4⟩
  · omega
  · rw [f4] at hlt ⊢
    have r := h.mid hM hP hm f1 f2 (by omega)
    have i6 : (if fm = 5 then 1 else fm) < 6 := by split <;> omega
    exact (wKd.fin (wTab_lt ⟨_, i6⟩ ⟨_, wKw_lt ⟨wy, f2⟩⟩) (wFit_ok ⟨fm, f1⟩ ⟨wy, f2⟩ ⟨5, by omega⟩ f3) r (Or.inl rfl)).mono (fun x q => Or.inr ⟨q, by have := hlast x q; omega⟩) (Nat.le_refl _)
/-- the reference is no longer than the class -/
theorem wTour.le {P : Nat → wP} {K : Nat → Prop} {q v : Nat} (h : wTour P K q) (hP : ∀ k, K k → 1 ≤ (P k).2) (hw : wW (0, 0) (0, 0) (fun x => ∃ k, K k ∧ P k = x) v) : q ≤ v := by
  obtain ⟨l, h1, h2, h3⟩ := hw
  have := h.2 l h1 (fun k hk => by
    have w := h2 (P k) ⟨k, hk, rfl⟩
    have p1 := hP k hk
    simp only [List.cons_append, List.mem_cons, List.mem_append, List.not_mem_nil, or_false] at w
    rcases w with w | w | w
    · rw [w] at p1; simp at p1
    · exact w
    · rw [w] at p1; simp at p1)
  omega
/-! ===== how often a round uses each piece of the streets and lanes ===== -/
def wSu (g : Nat → Nat) : Nat → Nat
  | 0 => 0
  | n + 1 => wSu g n + g n
theorem wSu_add {g h : Nat → Nat} : ∀ {n : Nat}, wSu (fun i => g i + h i) n = wSu g n + wSu h n
  | 0 => rfl
  | n + 1 => by have := wSu_add (g := g) (h := h) (n := n); simp only [wSu]; omega
theorem wSu_cg {g h : Nat → Nat} : ∀ {n : Nat}, (∀ i, i < n → g i = h i) → wSu g n = wSu h n
  | 0, _ => rfl
  | n + 1, q => by simp only [wSu]; rw [wSu_cg (fun i w => q i (by omega)), q n (by omega)]
theorem wSu_le {g h : Nat → Nat} : ∀ {n : Nat}, (∀ i, i < n → g i ≤ h i) → wSu g n ≤ wSu h n
  | 0, _ => Nat.le_refl _
  | n + 1, q => by have := wSu_le (g := g) (h := h) (n := n) (fun i w => q i (by omega)); have := q n (by omega); simp only [wSu]; omega
theorem wSu_z {n : Nat} : wSu (fun _ => 0) n = 0 := by
  induction n with
  | zero => rfl
  | succ n ih => simp only [wSu]; omega
theorem wSu_iv {lo hi : Nat} : ∀ {n : Nat}, wSu (fun p => if lo ≤ p ∧ p < hi then 1 else 0) n = (if hi ≤ n then hi else n) - lo
  | 0 => by simp only [wSu]; split <;> omega
  | n + 1 => by
    have ih := wSu_iv (lo := lo) (hi := hi) (n := n)
    simp only [wSu]
    rw [ih]
    split <;> split <;> split <;> omega
theorem wSu_at {s x : Nat} : ∀ {n : Nat}, wSu (fun t => if s = t then x else 0) n = if s < n then x else 0
  | 0 => rfl
  | n + 1 => by
    have ih := wSu_at (s := s) (x := x) (n := n)
    simp only [wSu]
    rw [ih]
    split <;> split <;> split <;> omega
abbrev wFn (a b : wP) : Prop := a.2 + b.2 < 42 - a.2 - b.2
def wVe (a b : wP) (t p : Nat) : Nat := if a.1 = b.1 then (if a.1 = t ∧ ((a.2 ≤ p ∧ p < b.2) ∨ (b.2 ≤ p ∧ p < a.2)) then 1 else 0) else if wFn a b then (if a.1 = t ∧ p < a.2 then 1 else 0) + (if b.1 = t ∧ p < b.2 then 1 else 0) else (if a.1 = t ∧ a.2 ≤ p then 1 else 0) + (if b.1 = t ∧ b.2 ≤ p then 1 else 0)
abbrev wCr (a b : wP) (t : Nat) : Prop := (a.1 ≤ t ∧ t < b.1) ∨ (b.1 ≤ t ∧ t < a.1)
def wFe (a b : wP) (t : Nat) : Nat := if wFn a b ∧ wCr a b t then 1 else 0
def wBe (a b : wP) (t : Nat) : Nat := if ¬ wFn a b ∧ wCr a b t then 1 else 0
def wVs (a b : wP) (t : Nat) : Nat := if a.1 = b.1 then (if a.1 = t then (a.2 - b.2) + (b.2 - a.2) else 0) else if wFn a b then (if a.1 = t then a.2 else 0) + (if b.1 = t then b.2 else 0) else (if a.1 = t then 21 - a.2 else 0) + (if b.1 = t then 21 - b.2 else 0)
theorem wVs_eq {a b : wP} {t : Nat} (ha : a.2 ≤ 21) (hb : b.2 ≤ 21) : wSu (wVe a b t) 21 = wVs a b t := by
  have iv : ∀ lo hi, hi ≤ 21 → wSu (fun p => if lo ≤ p ∧ p < hi then 1 else 0) 21 = hi - lo := fun lo hi h => by rw [wSu_iv, if_pos h]
  have z : wSu (fun _ => 0) 21 = 0 := wSu_z
  unfold wVs
  by_cases e : a.1 = b.1
  · rw [if_pos e]
    by_cases q : a.1 = t
    · rw [if_pos q]
      have : wSu (wVe a b t) 21 = wSu (fun p => (if a.2 ≤ p ∧ p < b.2 then 1 else 0) + (if b.2 ≤ p ∧ p < a.2 then 1 else 0)) 21 := wSu_cg (fun p _ => by unfold wVe; rw [if_pos e]; split <;> split <;> (try split) <;> omega)
      rw [this, wSu_add, iv _ _ hb, iv _ _ ha]
      omega
    · rw [if_neg q]
      have : wSu (wVe a b t) 21 = wSu (fun _ => 0) 21 := wSu_cg (fun p _ => by unfold wVe; rw [if_pos e, if_neg (fun w => q w.1)])
      rw [this, z]
  · rw [if_neg e]
    by_cases f : wFn a b
    · rw [if_pos f]
      have g : ∀ x : wP, x.2 ≤ 21 → wSu (fun p => if x.1 = t ∧ p < x.2 then 1 else 0) 21 = if x.1 = t then x.2 else 0 := fun x hx => by
        by_cases q : x.1 = t
        · rw [if_pos q, wSu_cg (h := fun p => if 0 ≤ p ∧ p < x.2 then 1 else 0) (fun p _ => by split <;> split <;> omega), iv _ _ hx]; omega
        · rw [if_neg q, wSu_cg (h := fun _ => 0) (fun p _ => if_neg (fun w => q w.1)), z]
      have : wSu (wVe a b t) 21 = wSu (fun p => (if a.1 = t ∧ p < a.2 then 1 else 0) + (if b.1 = t ∧ p < b.2 then 1 else 0)) 21 := wSu_cg (fun p _ => by unfold wVe; rw [if_neg e, if_pos f])
      rw [this, wSu_add, g a ha, g b hb]
    · rw [if_neg f]
      have g : ∀ x : wP, x.2 ≤ 21 → wSu (fun p => if x.1 = t ∧ x.2 ≤ p then 1 else 0) 21 = if x.1 = t then 21 - x.2 else 0 := fun x hx => by
        by_cases q : x.1 = t
        · rw [if_pos q, wSu_cg (h := fun p => if x.2 ≤ p ∧ p < 21 then 1 else 0) (fun p hp => by split <;> split <;> omega), iv _ _ (Nat.le_refl _)]
        · rw [if_neg q, wSu_cg (h := fun _ => 0) (fun p _ => if_neg (fun w => q w.1)), z]
      have : wSu (wVe a b t) 21 = wSu (fun p => (if a.1 = t ∧ a.2 ≤ p then 1 else 0) + (if b.1 = t ∧ b.2 ≤ p then 1 else 0)) 21 := wSu_cg (fun p _ => by unfold wVe; rw [if_neg e, if_neg f])
      rw [this, wSu_add, g a ha, g b hb]
/-- a leg's pieces make up its length -/
theorem wLeg {a b : wP} {N : Nat} (ha : a.2 ≤ 21) (hb : b.2 ≤ 21) (sa : a.1 < N) (sb : b.1 < N) : wSu (fun t => wSu (wVe a b t) 21 + 6 * (wFe a b t + wBe a b t)) N = wD a b := by
  have e1 : wSu (fun t => wSu (wVe a b t) 21 + 6 * (wFe a b t + wBe a b t)) N = wSu (wVs a b) N + 6 * wSu (fun t => if wCr a b t then 1 else 0) N := by
    have s6 : ∀ (g : Nat → Nat) (n : Nat), wSu (fun i => 6 * g i) n = 6 * wSu g n := fun g n => by
      induction n with
      | zero => rfl
      | succ n ih => simp only [wSu]; omega
    rw [← s6, ← wSu_add]
    exact wSu_cg (fun t _ => by rw [wVs_eq ha hb]; unfold wFe wBe; split <;> split <;> split <;> simp_all)
  rw [e1]
  have e2 : wSu (fun t => if wCr a b t then 1 else 0) N = (a.1 - b.1) + (b.1 - a.1) := by
    have : wSu (fun t => if wCr a b t then 1 else 0) N = wSu (fun t => (if a.1 ≤ t ∧ t < b.1 then 1 else 0) + (if b.1 ≤ t ∧ t < a.1 then 1 else 0)) N := wSu_cg (fun t _ => by
      by_cases q1 : a.1 ≤ t ∧ t < b.1
      · rw [if_pos (Or.inl q1), if_pos q1, if_neg (by omega)]
      · by_cases q2 : b.1 ≤ t ∧ t < a.1
        · rw [if_pos (Or.inr q2), if_neg q1, if_pos q2]
        · rw [if_neg (fun w => w.elim q1 q2), if_neg q1, if_neg q2])
    rw [this, wSu_add, wSu_iv, wSu_iv, if_pos (by omega), if_pos (by omega)]
    omega
  rw [e2]
  unfold wD
  have sum : ∀ (x y s u : Nat), s < N → u < N → wSu (fun t => (if s = t then x else 0) + (if u = t then y else 0)) N = x + y := fun x y s u hs hu => by rw [wSu_add, wSu_at, wSu_at, if_pos hs, if_pos hu]
  by_cases e : a.1 = b.1
  · rw [if_pos e, wSu_cg (h := fun t => if a.1 = t then (a.2 - b.2) + (b.2 - a.2) else 0) (fun t _ => by unfold wVs; rw [if_pos e]), wSu_at, if_pos sa]
    omega
  · rw [if_neg e]
    by_cases f : wFn a b
    · rw [wSu_cg (h := fun t => (if a.1 = t then a.2 else 0) + (if b.1 = t then b.2 else 0)) (fun t _ => by unfold wVs; rw [if_neg e, if_pos f]), sum _ _ _ _ sa sb]
      have f2 : a.2 + b.2 < 42 - a.2 - b.2 := f
      rw [if_pos f2]
      omega
    · rw [wSu_cg (h := fun t => (if a.1 = t then 21 - a.2 else 0) + (if b.1 = t then 21 - b.2 else 0)) (fun t _ => by unfold wVs; rw [if_neg e, if_neg f]), sum _ _ _ _ sa sb]
      have f2 : ¬ (a.2 + b.2 < 42 - a.2 - b.2) := f
      rw [if_neg f2]
      omega
/-- sums over the legs of a list -/
def wSL (g : wP → wP → Nat) : List wP → Nat
  | a :: b :: l => g a b + wSL g (b :: l)
  | _ => 0
def wGd (N : Nat) (l : List wP) : Prop := ∀ x, x ∈ l → x.2 ≤ 21 ∧ x.1 < N
theorem wTot {N : Nat} : ∀ (l : List wP), wGd N l → wSu (fun t => wSu (fun p => wSL (fun a b => wVe a b t p) l) 21 + 6 * (wSL (fun a b => wFe a b t) l + wSL (fun a b => wBe a b t) l)) N = wC l
  | [], _ => by simp only [wSL, wC]; rw [wSu_cg (h := fun _ => 0) (fun t _ => by rw [wSu_z]), wSu_z]
  | [a], _ => by simp only [wSL, wC]; rw [wSu_cg (h := fun _ => 0) (fun t _ => by rw [wSu_z]), wSu_z]
  | a :: b :: l, h => by
    have ih := wTot (N := N) (b :: l) (fun x hx => h x (List.mem_cons_of_mem _ hx))
    have ha := h a (by simp)
    have hb := h b (by simp)
    have lg := wLeg ha.1 hb.1 ha.2 hb.2
    simp only [wC]
    rw [← ih, ← lg, ← wSu_add]
    exact wSu_cg (fun t _ => by simp only [wSL]; rw [wSu_add]; omega)
/-! ===== parity and reach along a round ===== -/
def wG (x : wP) : Prop := (x.1 = 0 ∧ x.2 = 0) ∨ (1 ≤ x.2 ∧ x.2 ≤ 20)
theorem wSL_add {g h : wP → wP → Nat} : ∀ (l : List wP), wSL (fun a b => g a b + h a b) l = wSL g l + wSL h l
  | [] => rfl
  | [_] => rfl
  | a :: b :: l => by have := wSL_add (g := g) (h := h) (b :: l); simp only [wSL]; omega
theorem wPar {g : wP → wP → Nat} {I : wP → Nat} (h : ∀ a b, wG a → wG b → (g a b + I a + I b) % 2 = 0) : ∀ (l : List wP) (a z : wP), (∀ x, x ∈ a :: l ++ [z] → wG x) → (wSL g (a :: l ++ [z]) + I a + I z) % 2 = 0
  | [], a, z, q => by have := h a z (q a (by simp)) (q z (by simp)); simp only [List.cons_append, List.nil_append, wSL]; omega
  | b :: l, a, z, q => by
    have ih := wPar h l b z (fun x hx => q x (by simp only [List.cons_append, List.mem_cons] at hx ⊢; exact Or.inr hx))
    have := h a b (q a (by simp)) (q b (by simp))
    simp only [List.cons_append, wSL] at ih ⊢
    omega
theorem wPar0 {g : wP → wP → Nat} {I : wP → Nat} (h : ∀ a b, wG a → wG b → (g a b + I a + I b) % 2 = 0) (l : List wP) (q : ∀ x, x ∈ (0, 0) :: l ++ [(0, 0)] → wG x) : wSL g ((0, 0) :: l ++ [(0, 0)]) % 2 = 0 := by
  have := wPar h l (0, 0) (0, 0) q
  omega
theorem wp1 {t p : Nat} (hp : p < 20) : ∀ a b, wG a → wG b → ((wVe a b t p + wVe a b t (p + 1)) + (if a.1 = t ∧ a.2 = p + 1 then 1 else 0) + (if b.1 = t ∧ b.2 = p + 1 then 1 else 0)) % 2 = 0 := fun a b ga gb => by
  unfold wVe
  unfold wG at ga gb
  by_cases e : a.1 = b.1
  · rw [if_pos e, if_pos e]
    repeat' split
    all_goals omega
  · rw [if_neg e, if_neg e]
    by_cases f : wFn a b
    · rw [if_pos f, if_pos f]
      clear f ga gb
      repeat' split
      all_goals omega
    · rw [if_neg f, if_neg f]
      clear f ga gb
      repeat' split
      all_goals omega
theorem wp2 : ∀ a b, wG a → wG b → ((wFe a b 0 + wVe a b 0 0) + (if a.1 = 0 ∧ a.2 = 0 then 1 else 0) + (if b.1 = 0 ∧ b.2 = 0 then 1 else 0)) % 2 = 0 := fun a b ga gb => by
  unfold wVe wFe
  unfold wG at ga gb
  by_cases e : a.1 = b.1
  · rw [if_pos e]
    repeat' split
    all_goals omega
  · rw [if_neg e]
    by_cases f : wFn a b
    · rw [if_pos f]
      repeat' split
      all_goals omega
    · rw [if_neg f]
      repeat' split
      all_goals omega
theorem wp2s {t : Nat} : ∀ a b, wG a → wG b → ((wFe a b t + wFe a b (t + 1) + wVe a b (t + 1) 0) + 0 + 0) % 2 = 0 := fun a b ga gb => by
  unfold wVe wFe
  unfold wG at ga gb
  by_cases e : a.1 = b.1
  · rw [if_pos e]
    repeat' split
    all_goals omega
  · rw [if_neg e]
    by_cases f : wFn a b
    · rw [if_pos f]
      repeat' split
      all_goals omega
    · rw [if_neg f]
      repeat' split
      all_goals omega
theorem wp3 : ∀ a b, wG a → wG b → ((wBe a b 0 + wVe a b 0 20) + 0 + 0) % 2 = 0 := fun a b ga gb => by
  unfold wVe wBe
  unfold wG at ga gb
  by_cases e : a.1 = b.1
  · rw [if_pos e]
    repeat' split
    all_goals omega
  · rw [if_neg e]
    by_cases f : wFn a b
    · rw [if_pos f]
      repeat' split
      all_goals omega
    · rw [if_neg f]
      repeat' split
      all_goals omega
theorem wp3s {t : Nat} : ∀ a b, wG a → wG b → ((wBe a b t + wBe a b (t + 1) + wVe a b (t + 1) 20) + 0 + 0) % 2 = 0 := fun a b ga gb => by
  unfold wVe wBe
  unfold wG at ga gb
  by_cases e : a.1 = b.1
  · rw [if_pos e]
    repeat' split
    all_goals omega
  · rw [if_neg e]
    by_cases f : wFn a b
    · rw [if_pos f]
      repeat' split
      all_goals omega
    · rw [if_neg f]
      repeat' split
      all_goals omega
theorem wp4 {t : Nat} : ∀ a b, wG a → wG b → ((wFe a b t + wBe a b t) + (if a.1 ≤ t then 1 else 0) + (if b.1 ≤ t then 1 else 0)) % 2 = 0 := fun a b _ _ => by
  unfold wFe wBe
  repeat' split
  all_goals omega
/-- legs of a list -/
def wIn (a b : wP) (l : List wP) : Prop := ∃ l1 l2, l = l1 ++ a :: b :: l2
theorem wSL_in {g : wP → wP → Nat} {a b : wP} {l : List wP} (h : wIn a b l) : g a b ≤ wSL g l := by
  obtain ⟨l1, l2, rfl⟩ := h
  induction l1 with
  | nil => simp only [List.nil_append, wSL]; omega
  | cons x l1 ih =>
    rcases l1 with _ | ⟨y, l1⟩
    · simp only [List.nil_append, List.cons_append, wSL] at ih ⊢; omega
    · simp only [List.cons_append, wSL] at ih ⊢; omega
theorem wSL_ex {g : wP → wP → Nat} : ∀ (l : List wP), 0 < wSL g l → ∃ a b, wIn a b l ∧ 0 < g a b
  | [], h => absurd h (by simp [wSL])
  | [_], h => absurd h (by simp [wSL])
  | a :: b :: l, h => by
    by_cases q : 0 < g a b
    · exact ⟨a, b, ⟨[], l, rfl⟩, q⟩
    · obtain ⟨x, y, ⟨l1, l2, e⟩, h2⟩ := wSL_ex (g := g) (b :: l) (by simp only [wSL] at h; omega)
      exact ⟨x, y, ⟨a :: l1, l2, by rw [e]; rfl⟩, h2⟩
theorem wIn.mem {a b : wP} {l : List wP} (h : wIn a b l) : a ∈ l ∧ b ∈ l := by
  obtain ⟨l1, l2, rfl⟩ := h
  simp
/-- what all legs keep, all points have -/
theorem wIn.all {C : wP → Prop} : ∀ (l : List wP) (a : wP), (∀ x y, wIn x y (a :: l) → (C x ↔ C y)) → ∀ z, z ∈ a :: l → (C a ↔ C z)
  | [], a, h, z, hz => by rw [List.mem_singleton.mp hz]
  | b :: l, a, h, z, hz => by
    have h1 := h a b ⟨[], l, rfl⟩
    rcases List.mem_cons.mp hz with q | q
    · rw [q]
    · exact h1.trans (wIn.all l b (fun x y w => h x y (by obtain ⟨l1, l2, e⟩ := w; exact ⟨a :: l1, l2, by rw [e]; rfl⟩)) z q)
def wRc (V : Nat → Nat → Nat) (x : wP) : Prop := (∀ q, q < x.2 → 0 < V x.1 q) ∨ ∀ q, x.2 ≤ q → q ≤ 20 → 0 < V x.1 q
theorem wRc.leg {V : Nat → Nat → Nat} {a b : wP} (h : wRc V a) (hv : ∀ t p, wVe a b t p ≤ V t p) : wRc V b := by
  by_cases e : a.1 = b.1
  · rcases h with h | h
    · refine Or.inl (fun q hq => ?_)
      by_cases w : q < a.2
      · rw [← e]; exact h q w
      · have h1 := hv b.1 q
        unfold wVe at h1
        rw [if_pos e, if_pos ⟨e, Or.inl ⟨by omega, hq⟩⟩] at h1
        omega
    · refine Or.inr (fun q hq h20 => ?_)
      by_cases w : a.2 ≤ q
      · rw [← e]; exact h q w h20
      · have h1 := hv b.1 q
        unfold wVe at h1
        rw [if_pos e, if_pos ⟨e, Or.inr ⟨hq, by omega⟩⟩] at h1
        omega
  · by_cases f : wFn a b
    · refine Or.inl (fun q hq => ?_)
      have h1 := hv b.1 q
      unfold wVe at h1
      rw [if_neg e, if_pos f, if_pos (show b.1 = b.1 ∧ q < b.2 from ⟨rfl, hq⟩)] at h1
      omega
    · refine Or.inr (fun q hq _ => ?_)
      have h1 := hv b.1 q
      unfold wVe at h1
      rw [if_neg e, if_neg f, if_pos (show b.1 = b.1 ∧ b.2 ≤ q from ⟨rfl, hq⟩)] at h1
      omega
theorem wRc.all {V : Nat → Nat → Nat} : ∀ (l : List wP) (a : wP), wRc V a → (∀ x y, wIn x y (a :: l) → ∀ t p, wVe x y t p ≤ V t p) → ∀ z, z ∈ a :: l → wRc V z
  | [], a, h, _, z, hz => by rw [List.mem_singleton.mp hz]; exact h
  | b :: l, a, h, hv, z, hz => by
    rcases List.mem_cons.mp hz with q | q
    · rw [q]; exact h
    · exact wRc.all l b (h.leg (hv a b ⟨[], l, rfl⟩)) (fun x y w => hv x y (by obtain ⟨l1, l2, e⟩ := w; exact ⟨a :: l1, l2, by rw [e]; rfl⟩)) z q
/-! ===== the way that a round takes in a street ===== -/
theorem wMax {M : Nat → Prop} : ∀ (z : Nat), (∃ p, M p ∧ p ≤ z) → ∃ a, M a ∧ a ≤ z ∧ ∀ p, M p → p ≤ z → p ≤ a
  | 0, ⟨p, h1, h2⟩ => ⟨p, h1, h2, fun q _ w => by omega⟩
  | z + 1, ⟨p, h1, h2⟩ => by
    by_cases c : M (z + 1)
    · exact ⟨z + 1, c, Nat.le_refl _, fun q _ w => w⟩
    · have hp : p ≠ z + 1 := fun e => c (by rw [← e]; exact h1)
      obtain ⟨a, a1, a2, a3⟩ := wMax z ⟨p, h1, by omega⟩
      exact ⟨a, a1, by omega, fun q w1 w2 => a3 q w1 (by
        have : q ≠ z + 1 := fun e => c (by rw [← e]; exact w1)
        omega)⟩
theorem wMin {M : Nat → Prop} {z : Nat} : ∀ (n p : Nat), p = n → M p → z < p → ∃ b, M b ∧ z < b ∧ ∀ q, M q → z < q → b ≤ q := by
  intro n
  induction n using Nat.strongRecOn with
  | ind n ih =>
    intro p e h1 h2
    by_cases c : ∃ q, M q ∧ z < q ∧ q < p
    · obtain ⟨q, q1, q2, q3⟩ := c
      exact ih q (by omega) q rfl q1 q2
    · exact ⟨p, h1, h2, fun q w1 w2 => by
        by_cases w : q < p
        · exact absurd ⟨q, w1, w2, w⟩ c
        · omega⟩
theorem wSu_two {v : Nat → Nat} {a b : Nat} (ha : a ≤ 21) (hb : b ≤ 21) (hab : a ≤ b) (h1 : ∀ q, q < a → 2 ≤ v q) (h2 : ∀ q, b ≤ q → q ≤ 20 → 2 ≤ v q) : 2 * a + 2 * (21 - b) ≤ wSu v 21 := by
  have iv : ∀ lo hi, hi ≤ 21 → wSu (fun p => if lo ≤ p ∧ p < hi then 1 else 0) 21 = hi - lo := fun lo hi h => by rw [wSu_iv, if_pos h]
  have e : wSu (fun q => ((if 0 ≤ q ∧ q < a then 1 else 0) + (if 0 ≤ q ∧ q < a then 1 else 0)) + ((if b ≤ q ∧ q < 21 then 1 else 0) + (if b ≤ q ∧ q < 21 then 1 else 0))) 21 ≤ wSu v 21 := wSu_le (fun q hq => by
    by_cases c : q < a
    · have := h1 q c
      rw [if_pos (show 0 ≤ q ∧ q < a from ⟨by omega, c⟩), if_neg (by omega)]
      omega
    · rw [if_neg (by omega)]
      by_cases d : b ≤ q
      · have := h2 q d (by omega)
        rw [if_pos (show b ≤ q ∧ q < 21 from ⟨d, hq⟩)]
        omega
      · rw [if_neg (by omega)]
        omega)
  rw [wSu_add, wSu_add, wSu_add, iv _ _ ha, iv _ _ (Nat.le_refl _)] at e
  omega
theorem wWay {M : Nat → Prop} {v : Nat → Nat} {lo hi wd : Nat} (hM : ∀ p, M p → 1 ≤ p ∧ p ≤ 20) (hm : wMs M lo hi wd) (hp : ∀ p, p < 20 → (v p + v (p + 1)) % 2 = 0) (hr : ∀ p, M p → (∀ q, q < p → 0 < v q) ∨ ∀ q, p ≤ q → q ≤ 20 → 0 < v q) (hf : 0 < v 0 → ∃ p, M p ∧ ∀ q, q < p → 0 < v q) (hb : 0 < v 20 → ∃ p, M p ∧ ∀ q, p ≤ q → q ≤ 20 → 0 < v q) :
    ∃ wy, wy < 6 ∧ wWy lo hi wd wy ≤ wSu v 21 ∧ (wWF wy + v 0) % 2 = 0 ∧ (wWB wy + v 20) % 2 = 0 ∧ (0 < wWF wy ↔ 0 < v 0) ∧ (0 < wWB wy ↔ 0 < v 20) ∧ (wy = 0 ∨ wy = 1 ∨ ∃ z, z ≤ 20 ∧ v z = 0) := by
  have pc : ∀ p, p ≤ 20 → v p % 2 = v 0 % 2 := by
    intro p
    induction p with
    | zero => intro _; rfl
    | succ p ih => intro h; have := ih (by omega); have := hp p (by omega); omega
  have p20 := pc 20 (by omega)
  by_cases o : v 0 % 2 = 1
  · refine ⟨0, by omega, ?_, ?_, ?_, ?_, ?_, Or.inl rfl⟩
    · have e : wSu (fun _ => 1) 21 ≤ wSu v 21 := wSu_le (fun i hi => by have := pc i (by omega); omega)
      have e2 : wSu (fun _ => 1) 21 = 21 := by decide
      simp only [wWy]
      omega
    · simp only [wWF]; omega
    · simp only [wWB]; omega
    · simp only [wWF]; omega
    · simp only [wWB]; omega
  · have ev : ∀ p, p ≤ 20 → 0 < v p → 2 ≤ v p := fun p h1 h2 => by have := pc p h1; omega
    by_cases al : ∀ p, p ≤ 20 → 0 < v p
    · refine ⟨1, by omega, ?_, ?_, ?_, ?_, ?_, Or.inr (Or.inl rfl)⟩
      · have := wSu_two (v := v) (a := 21) (b := 21) (Nat.le_refl _) (Nat.le_refl _) (Nat.le_refl _) (fun q hq => ev q (by omega) (al q (by omega))) (fun q h1 h2 => by omega)
        simp only [wWy]
        omega
      · simp only [wWF]; omega
      · simp only [wWB]; omega
      · have := al 0 (by omega); simp only [wWF]; omega
      · have := al 20 (by omega); simp only [wWB]; omega
    · obtain ⟨z, hz, vz⟩ : ∃ z, z ≤ 20 ∧ v z = 0 := Classical.byContradiction (fun w => al (fun p h => Nat.pos_of_ne_zero (fun e => w ⟨p, h, e⟩)))
      have low : ∀ p, M p → p ≤ z → ∀ q, q < p → 0 < v q := fun p h1 h2 => (hr p h1).resolve_right (fun w => by have := w z h2 hz; omega)
      have high : ∀ p, M p → z < p → ∀ q, p ≤ q → q ≤ 20 → 0 < v q := fun p h1 h2 => (hr p h1).resolve_left (fun w => by have := w z h2; omega)
      obtain ⟨m1, m2, m3, m4⟩ := hm
      by_cases fr : 0 < v 0
      · obtain ⟨p1, c1, c2⟩ := hf fr
        have c3 : p1 ≤ z := by
          by_cases w : z < p1
          · have := c2 z w; omega
          · omega
        by_cases bk : 0 < v 20
        · obtain ⟨p2, d1, d2⟩ := hb bk
          have d3 : z < p2 := by
            by_cases w : p2 ≤ z
            · have := d2 z w hz; omega
            · omega
          obtain ⟨a, a1, a2, a3⟩ := wMax z ⟨p1, c1, c3⟩
          obtain ⟨b, b1, b2, b3⟩ := wMin (M := M) (z := z) p2 p2 rfl d1 d3
          have nb : wNb M a b := ⟨a1, b1, by omega, fun p w => by
            by_cases q : p ≤ z
            · exact Or.inl (a3 p w q)
            · exact Or.inr (b3 p w (by omega))⟩
          have wd1 := m4 a b nb
          have a20 := hM a a1
          have b20 := hM b b1
          have s := wSu_two (v := v) (a := a) (b := b) (by omega) (by omega) (by omega) (fun q hq => ev q (by omega) (low a a1 a2 q hq)) (fun q h1 h2 => ev q h2 (high b b1 b2 q h1 h2))
          exact ⟨4, by omega, by simp only [wWy]; omega, by simp only [wWF]; omega, by simp only [wWB]; omega, by simp only [wWF]; omega, by simp only [wWB]; omega, Or.inr (Or.inr ⟨z, hz, vz⟩)⟩
        · have al2 : ∀ p, M p → p ≤ z := fun p h => by
            by_cases w : p ≤ z
            · exact w
            · have h20 := hM p h
              exact absurd (high p h (by omega) 20 (by omega) (Nat.le_refl _)) bk
          have hh : M hi := by
            rcases m1 with ⟨-, w⟩ | ⟨w, -⟩
            · exact absurd c1 (w p1)
            · exact w
          have h20 := hM hi hh
          have s := wSu_two (v := v) (a := hi) (b := 21) (by omega) (Nat.le_refl _) (by omega) (fun q hq => ev q (by omega) (low hi hh (al2 hi hh) q hq)) (fun q h1 h2 => by omega)
          exact ⟨2, by omega, by simp only [wWy]; omega, by simp only [wWF]; omega, by simp only [wWB]; omega, by simp only [wWF]; omega, by simp only [wWB]; omega, Or.inr (Or.inr ⟨z, hz, vz⟩)⟩
      · have al2 : ∀ p, M p → z < p := fun p h => by
          by_cases w : p ≤ z
          · have h20 := hM p h
            exact absurd (low p h w 0 (by omega)) fr
          · omega
        by_cases bk : 0 < v 20
        · obtain ⟨p2, d1, d2⟩ := hb bk
          have hh : M lo := by
            rcases m2 with ⟨-, w⟩ | ⟨w, -⟩
            · exact absurd d1 (w p2)
            · exact w
          have h20 := hM lo hh
          have s := wSu_two (v := v) (a := 0) (b := lo) (by omega) (by omega) (by omega) (fun q hq => by omega) (fun q h1 h2 => ev q h2 (high lo hh (al2 lo hh) q h1 h2))
          exact ⟨3, by omega, by simp only [wWy]; omega, by simp only [wWF]; omega, by simp only [wWB]; omega, by simp only [wWF]; omega, by simp only [wWB]; omega, Or.inr (Or.inr ⟨z, hz, vz⟩)⟩
        · have hh : hi = 0 := by
            rcases m1 with ⟨w, -⟩ | ⟨w, -⟩
            · exact w
            · have h20 := hM hi w
              exact absurd (high hi w (al2 hi w) 20 (by omega) (Nat.le_refl _)) bk
          exact ⟨5, by omega, by simp only [wWy]; rw [if_pos hh]; omega, by simp only [wWF]; omega, by simp only [wWB]; omega, by simp only [wWF]; omega, by simp only [wWB]; omega, Or.inr (Or.inr ⟨z, hz, vz⟩)⟩
/-- a leg that touches a street's end has a pick there -/
theorem wTf {a b : wP} {t : Nat} (ga : wG a) (gb : wG b) (h : 0 < wVe a b t 0) : ∃ x, (x = a ∨ x = b) ∧ x.1 = t ∧ 1 ≤ x.2 ∧ ∀ q, q < x.2 → 0 < wVe a b t q := by
  unfold wG at ga gb
  unfold wVe at h ⊢
  by_cases e : a.1 = b.1
  · simp only [if_pos e] at h ⊢
    by_cases w : a.2 ≤ b.2
    · exact ⟨b, Or.inr rfl, by split at h <;> omega, by split at h <;> omega, fun q hq => by split at h; (rw [if_pos (by omega)]; omega); omega⟩
    · exact ⟨a, Or.inl rfl, by split at h <;> omega, by split at h <;> omega, fun q hq => by split at h; (rw [if_pos (by omega)]; omega); omega⟩
  · simp only [if_neg e] at h ⊢
    by_cases f : wFn a b
    · simp only [if_pos f] at h ⊢
      by_cases w : a.1 = t ∧ 0 < a.2
      · exact ⟨a, Or.inl rfl, w.1, w.2, fun q hq => by rw [if_pos ⟨w.1, hq⟩]; omega⟩
      · rw [if_neg w] at h
        have w2 : b.1 = t ∧ 0 < b.2 := by
          by_cases w2 : b.1 = t ∧ 0 < b.2
          · exact w2
          · rw [if_neg w2] at h; omega
        exact ⟨b, Or.inr rfl, w2.1, w2.2, fun q hq => by rw [if_pos (show b.1 = t ∧ q < b.2 from ⟨w2.1, hq⟩)]; omega⟩
    · simp only [if_neg f] at h
      exfalso
      have f2 : ¬ (a.2 + b.2 < 42 - a.2 - b.2) := f
      split at h <;> split at h <;> omega
theorem wTb {a b : wP} {t : Nat} (ga : wG a) (gb : wG b) (h : 0 < wVe a b t 20) : ∃ x, (x = a ∨ x = b) ∧ x.1 = t ∧ 1 ≤ x.2 ∧ ∀ q, x.2 ≤ q → q ≤ 20 → 0 < wVe a b t q := by
  unfold wG at ga gb
  unfold wVe at h ⊢
  by_cases e : a.1 = b.1
  · simp only [if_pos e] at h
    exfalso
    split at h <;> omega
  · simp only [if_neg e] at h ⊢
    by_cases f : wFn a b
    · simp only [if_pos f] at h
      exfalso
      split at h <;> split at h <;> omega
    · simp only [if_neg f] at h ⊢
      have f2 : ¬ (a.2 + b.2 < 42 - a.2 - b.2) := f
      by_cases w : a.1 = t ∧ a.2 ≤ 20
      · exact ⟨a, Or.inl rfl, w.1, by omega, fun q h1 h2 => by rw [if_pos ⟨w.1, h1⟩]; omega⟩
      · rw [if_neg w] at h
        have w2 : b.1 = t ∧ b.2 ≤ 20 := by
          by_cases w2 : b.1 = t ∧ b.2 ≤ 20
          · exact w2
          · rw [if_neg w2] at h; omega
        exact ⟨b, Or.inr rfl, w2.1, by omega, fun q h1 h2 => by rw [if_pos (show b.1 = t ∧ b.2 ≤ q from ⟨w2.1, h1⟩)]; omega⟩
/-! ===== lanes, colours, and the class's table below every round ===== -/
def wVv (T : List wP) (t p : Nat) : Nat := wSL (fun a b => wVe a b t p) T
def wFf (T : List wP) (t : Nat) : Nat := wSL (fun a b => wFe a b t) T
def wBb (T : List wP) (t : Nat) : Nat := wSL (fun a b => wBe a b t) T
def wCl (c f b : Nat) : Prop := (c = 0 ∧ f % 2 = 1 ∧ b % 2 = 1) ∨ (f % 2 = 0 ∧ b % 2 = 0 ∧ ((c = 1 ∧ 0 < f ∧ b = 0) ∨ (c = 2 ∧ f = 0 ∧ 0 < b) ∨ ((c = 3 ∨ c = 4) ∧ 0 < f ∧ 0 < b)))
theorem wCl.n {c f b : Nat} (h : wCl c f b) : (wLF c ≤ f ∧ wLB c ≤ b) ∧ ((wLF c + f) % 2 = 0 ∧ (wLB c + b) % 2 = 0) ∧ (0 < wLF c ↔ 0 < f) ∧ (0 < wLB c ↔ 0 < b) ∧ c < 5 := by
  rcases h with ⟨rfl, h1, h2⟩ | ⟨h1, h2, ⟨rfl, h3, h4⟩ | ⟨rfl, h3, h4⟩ | ⟨rfl | rfl, h3, h4⟩⟩ <;> simp only [wLF, wLB] <;> omega
theorem wFit_of : ∀ fm : Fin 6, ∀ wy : Fin 6, ∀ ln : Fin 6, (wLF fm.val + wWF wy.val + wLF ln.val) % 2 = 0 → (wLB fm.val + wWB wy.val + wLB ln.val) % 2 = 0 → (0 < wLF ln.val → 0 < wLF fm.val + wWF wy.val ∨ fm.val = 5) → (0 < wLB ln.val → 0 < wLB fm.val + wWB wy.val) → (((0 < wLF fm.val + wWF wy.val ∨ fm.val = 5) ∧ 0 < wLB fm.val + wWB wy.val ∧ ¬ (fm.val = 0 ∨ fm.val = 3 ∨ wy.val = 0 ∨ wy.val = 1)) ↔ ln.val = 4) → wFit fm.val wy.val ln.val = true := by decide
/-- colours of the points before a street: legs keep them, front legs lead on from front ones -/
def wCh (T : List wP) (t : Nat) (X : wP → Prop) : Prop := (∀ a b, wIn a b T → a.1 < t → b.1 < t → (X a ↔ X b)) ∧ ∀ a b, wIn a b T → ∀ c e, ((c = a ∧ e = b) ∨ (c = b ∧ e = a)) → c.1 < t → t ≤ e.1 → (wFn a b → ¬ X c) ∧ (¬ wFn a b → X c)
section WK9
variable {T : List wP} {t z : Nat} {X : wP → Prop}
theorem wVe_in {a b : wP} (h : wIn a b T) (p : Nat) : wVe a b t p ≤ wVv T t p := wSL_in (g := fun a b => wVe a b t p) h
theorem wCh.zero : wCh T 0 X := ⟨fun a b _ h => absurd h (by omega), fun a b _ c e _ h => absurd h (by omega)⟩
/-- what a leg with an end in the street covers there -/
theorem wCov {a b c e : wP} (h : wIn a b T) (hc : (c = a ∧ e = b) ∨ (c = b ∧ e = a)) (ht : c.1 = t) (he : e.1 ≠ t) (hz : wVv T t z = 0) : (wFn a b → ¬ z < c.2) ∧ (¬ wFn a b → z < c.2) := by
  have q := wVe_in (t := t) h z
  rw [hz] at q
  have n : ¬ a.1 = b.1 := by rcases hc with ⟨rfl, rfl⟩ | ⟨rfl, rfl⟩ <;> omega
  unfold wVe at q
  rw [if_neg n] at q
  constructor
  · intro f w
    rw [if_pos f] at q
    rcases hc with ⟨rfl, rfl⟩ | ⟨rfl, rfl⟩
    · rw [if_pos ⟨ht, w⟩] at q; omega
    · rw [if_pos (show c.1 = t ∧ z < c.2 from ⟨ht, w⟩)] at q; omega
  · intro f
    rw [if_neg f] at q
    by_cases w : z < c.2
    · exact w
    · exfalso
      rcases hc with ⟨rfl, rfl⟩ | ⟨rfl, rfl⟩
      · rw [if_pos ⟨ht, by omega⟩] at q; omega
      · rw [if_pos (show c.1 = t ∧ c.2 ≤ z from ⟨ht, by omega⟩)] at q; omega
theorem wCh.next (h : wCh T t X) (hz : wVv T t z = 0) : wCh T (t + 1) (fun x => (x.1 < t ∧ X x) ∨ (x.1 = t ∧ z < x.2)) := by
  have L : ∀ x : wP, x.1 < t → (((x.1 < t ∧ X x) ∨ (x.1 = t ∧ z < x.2)) ↔ X x) := fun x hx => ⟨fun w => w.elim (fun v => v.2) (fun v => absurd v.1 (by omega)), fun w => Or.inl ⟨hx, w⟩⟩
  have E : ∀ x : wP, x.1 = t → (((x.1 < t ∧ X x) ∨ (x.1 = t ∧ z < x.2)) ↔ z < x.2) := fun x hx => ⟨fun w => w.elim (fun v => absurd v.1 (by omega)) (fun v => v.2), fun w => Or.inr ⟨hx, w⟩⟩
  constructor
  · intro a b hin ha hb
    show ((a.1 < t ∧ X a) ∨ (a.1 = t ∧ z < a.2)) ↔ ((b.1 < t ∧ X b) ∨ (b.1 = t ∧ z < b.2))
    by_cases a1 : a.1 < t
    · by_cases b1 : b.1 < t
      · rw [L a a1, L b b1]; exact h.1 a b hin a1 b1
      · have b2 : b.1 = t := by omega
        rw [L a a1, E b b2]
        have k := h.2 a b hin a b (Or.inl ⟨rfl, rfl⟩) a1 (by omega)
        have m := wCov hin (Or.inr ⟨rfl, rfl⟩) b2 (by omega) hz
        by_cases f : wFn a b
        · exact ⟨fun w => absurd w (k.1 f), fun w => absurd w (m.1 f)⟩
        · exact ⟨fun _ => m.2 f, fun _ => k.2 f⟩
    · have a2 : a.1 = t := by omega
      by_cases b1 : b.1 < t
      · rw [E a a2, L b b1]
        have k := h.2 a b hin b a (Or.inr ⟨rfl, rfl⟩) b1 (by omega)
        have m := wCov hin (Or.inl ⟨rfl, rfl⟩) a2 (by omega) hz
        by_cases f : wFn a b
        · exact ⟨fun w => absurd w (m.1 f), fun w => absurd w (k.1 f)⟩
        · exact ⟨fun _ => k.2 f, fun _ => m.2 f⟩
      · have b2 : b.1 = t := by omega
        rw [E a a2, E b b2]
        have q := wVe_in (t := t) hin z
        rw [hz] at q
        unfold wVe at q
        rw [if_pos (by omega)] at q
        by_cases w : a.1 = t ∧ ((a.2 ≤ z ∧ z < b.2) ∨ (b.2 ≤ z ∧ z < a.2))
        · rw [if_pos w] at q; omega
        · constructor <;> intro v <;> (by_cases u : z < a.2 <;> by_cases y : z < b.2 <;> first | assumption | (exfalso; exact w ⟨a2, by omega⟩) | omega)
  · intro a b hin c e hc hc1 he
    show (wFn a b → ¬ ((c.1 < t ∧ X c) ∨ (c.1 = t ∧ z < c.2))) ∧ (¬ wFn a b → ((c.1 < t ∧ X c) ∨ (c.1 = t ∧ z < c.2)))
    by_cases c1 : c.1 < t
    · rw [L c c1]; exact h.2 a b hin c e hc c1 (by omega)
    · have c2 : c.1 = t := by omega
      rw [E c c2]
      exact wCov hin hc c2 (by omega) hz
/-- both colours before a street: then front lanes and back lanes lead on -/
theorem wCh.con {l : List wP} {h0 : wP} (hT : T = h0 :: l) (h : wCh T (t + 1) X) (h1 : ∃ x, x ∈ T ∧ x.1 ≤ t ∧ ¬ X x) (h2 : ∃ x, x ∈ T ∧ x.1 ≤ t ∧ X x) : 0 < wFf T t ∧ 0 < wBb T t := by
  obtain ⟨x1, m1, s1, c1⟩ := h1
  obtain ⟨x2, m2, s2, c2⟩ := h2
  have crs : ∀ a b, wIn a b T → a.1 ≤ t → ¬ b.1 ≤ t → (wFn a b → 0 < wFf T t) ∧ (¬ wFn a b → 0 < wBb T t) := fun a b hin q1 q2 => by
    have f1 := wSL_in (g := fun a b => wFe a b t) hin
    have f2 := wSL_in (g := fun a b => wBe a b t) hin
    unfold wFf wBb
    constructor
    · intro f
      have : wFe a b t = 1 := if_pos ⟨f, Or.inl ⟨q1, by omega⟩⟩
      omega
    · intro f
      have : wBe a b t = 1 := if_pos ⟨f, Or.inl ⟨q1, by omega⟩⟩
      omega
  have crs2 : ∀ a b, wIn a b T → b.1 ≤ t → ¬ a.1 ≤ t → (wFn a b → 0 < wFf T t) ∧ (¬ wFn a b → 0 < wBb T t) := fun a b hin q1 q2 => by
    have f1 := wSL_in (g := fun a b => wFe a b t) hin
    have f2 := wSL_in (g := fun a b => wBe a b t) hin
    unfold wFf wBb
    constructor
    · intro f
      have : wFe a b t = 1 := if_pos ⟨f, Or.inr ⟨q1, by omega⟩⟩
      omega
    · intro f
      have : wBe a b t = 1 := if_pos ⟨f, Or.inr ⟨q1, by omega⟩⟩
      omega
  constructor
  · -- no front lane: all beyond is back
    refine Classical.byContradiction (fun nf => ?_)
    have key : ∀ x y, wIn x y (h0 :: l) → (((x.1 ≤ t ∧ X x) ∨ t < x.1) ↔ ((y.1 ≤ t ∧ X y) ∨ t < y.1)) := fun x y w => by
      rw [← hT] at w
      by_cases a1 : x.1 ≤ t
      · by_cases b1 : y.1 ≤ t
        · have := h.1 x y w (by omega) (by omega)
          constructor
          · rintro (v | v)
            · exact Or.inl ⟨b1, this.mp v.2⟩
            · omega
          · rintro (v | v)
            · exact Or.inl ⟨a1, this.mpr v.2⟩
            · omega
        · have nn : ¬ wFn x y := fun f => nf ((crs x y w a1 b1).1 f)
          have := (h.2 x y w x y (Or.inl ⟨rfl, rfl⟩) (by omega) (by omega)).2 nn
          exact ⟨fun _ => Or.inr (by omega), fun _ => Or.inl ⟨a1, this⟩⟩
      · by_cases b1 : y.1 ≤ t
        · have nn : ¬ wFn x y := fun f => nf ((crs2 x y w b1 a1).1 f)
          have := (h.2 x y w y x (Or.inr ⟨rfl, rfl⟩) (by omega) (by omega)).2 nn
          exact ⟨fun _ => Or.inl ⟨b1, this⟩, fun _ => Or.inr (by omega)⟩
        · exact ⟨fun _ => Or.inr (by omega), fun _ => Or.inr (by omega)⟩
    have k1 := wIn.all l h0 key x1 (by rw [← hT]; exact m1)
    have k2 := wIn.all l h0 key x2 (by rw [← hT]; exact m2)
    have := k1.mp (k2.mpr (Or.inl ⟨s2, c2⟩))
    rcases this with v | v
    · exact c1 v.2
    · omega
  · refine Classical.byContradiction (fun nb => ?_)
    have key : ∀ x y, wIn x y (h0 :: l) → ((x.1 ≤ t ∧ X x) ↔ (y.1 ≤ t ∧ X y)) := fun x y w => by
      rw [← hT] at w
      by_cases a1 : x.1 ≤ t
      · by_cases b1 : y.1 ≤ t
        · have := h.1 x y w (by omega) (by omega)
          exact ⟨fun v => ⟨b1, this.mp v.2⟩, fun v => ⟨a1, this.mpr v.2⟩⟩
        · have nn : wFn x y := Classical.byContradiction (fun f => nb ((crs x y w a1 b1).2 f))
          have := (h.2 x y w x y (Or.inl ⟨rfl, rfl⟩) (by omega) (by omega)).1 nn
          exact ⟨fun v => absurd v.2 this, fun v => absurd v.1 b1⟩
      · by_cases b1 : y.1 ≤ t
        · have nn : wFn x y := Classical.byContradiction (fun f => nb ((crs2 x y w b1 a1).2 f))
          have := (h.2 x y w y x (Or.inr ⟨rfl, rfl⟩) (by omega) (by omega)).1 nn
          exact ⟨fun v => absurd v.1 a1, fun v => absurd v.2 this⟩
        · exact ⟨fun v => absurd v.1 a1, fun v => absurd v.1 b1⟩
    have k1 := wIn.all l h0 key x1 (by rw [← hT]; exact m1)
    have k2 := wIn.all l h0 key x2 (by rw [← hT]; exact m2)
    exact c1 (k1.mp (k2.mpr ⟨s2, c2⟩)).2
end WK9
/-! ===== the class's table lies below every round ===== -/
section WK10
variable {l : List wP} {t : Nat}
abbrev wTT (l : List wP) : List wP := (0, 0) :: l ++ [(0, 0)]
def wFp (T : List wP) (t : Nat) : Nat := if t = 0 then 0 else wFf T (t - 1)
def wBp (T : List wP) (t : Nat) : Nat := if t = 0 then 0 else wBb T (t - 1)
theorem wPf (hG : ∀ x, x ∈ wTT l → wG x) : (wFp (wTT l) t + wFf (wTT l) t + wVv (wTT l) t 0) % 2 = 0 := by
  unfold wFp wFf wVv
  rcases t with _ | t
  · have this : wSL (fun a b => wFe a b 0 + wVe a b 0 0) (wTT l) % 2 = 0 := wPar0 wp2 l hG
    rw [wSL_add] at this
    rw [if_pos rfl]
    omega
  · have := wPar0 (wp2s (t := t)) l hG
    rw [wSL_add, wSL_add] at this
    rw [if_neg (by omega)]
    simp only [Nat.add_sub_cancel]
    omega
theorem wPb (hG : ∀ x, x ∈ wTT l → wG x) : (wBp (wTT l) t + wBb (wTT l) t + wVv (wTT l) t 20) % 2 = 0 := by
  unfold wBp wBb wVv
  rcases t with _ | t
  · have this : wSL (fun a b => wBe a b 0 + wVe a b 0 20) (wTT l) % 2 = 0 := wPar0 wp3 l hG
    rw [wSL_add] at this
    rw [if_pos rfl]
    omega
  · have := wPar0 (wp3s (t := t)) l hG
    rw [wSL_add, wSL_add] at this
    rw [if_neg (by omega)]
    simp only [Nat.add_sub_cancel]
    omega
theorem wPc (hG : ∀ x, x ∈ wTT l → wG x) : (wFf (wTT l) t + wBb (wTT l) t) % 2 = 0 := by
  have := wPar0 (wp4 (t := t)) l hG
  rw [wSL_add] at this
  exact this
theorem wUf (hG : ∀ x, x ∈ wTT l → wG x) (h : 0 < wFf (wTT l) t) : t = 0 ∨ 0 < wFp (wTT l) t ∨ 0 < wVv (wTT l) t 0 := by
  obtain ⟨a, b, hin, h1⟩ := wSL_ex _ h
  have ga := hG a hin.mem.1
  have gb := hG b hin.mem.2
  rcases t with _ | t
  · exact Or.inl rfl
  · refine Or.inr ?_
    unfold wFp
    rw [if_neg (by omega)]
    simp only [Nat.add_sub_cancel]
    have f1 : wFe a b t ≤ wFf (wTT l) t := wSL_in (g := fun a b => wFe a b t) hin
    have f2 := wVe_in (t := t + 1) hin 0
    have k : 0 < wFe a b t ∨ 0 < wVe a b (t + 1) 0 := by
      unfold wG at ga gb
      unfold wFe at h1 ⊢
      unfold wVe
      have w : wFn a b ∧ wCr a b (t + 1) := by
        by_cases w : wFn a b ∧ wCr a b (t + 1)
        · exact w
        · rw [if_neg w] at h1; omega
      obtain ⟨f, w⟩ := w
      by_cases c : wCr a b t
      · rw [if_pos ⟨f, c⟩]; omega
      · rw [if_neg (show ¬ a.1 = b.1 by omega), if_pos f]
        right
        by_cases q : a.1 = t + 1 ∧ 0 < a.2
        · rw [if_pos q]; omega
        · rw [if_pos (show b.1 = t + 1 ∧ 0 < b.2 by omega)]; omega
    omega
theorem wUb (hG : ∀ x, x ∈ wTT l → wG x) (h : 0 < wBb (wTT l) t) : 0 < wBp (wTT l) t ∨ 0 < wVv (wTT l) t 20 := by
  obtain ⟨a, b, hin, h1⟩ := wSL_ex _ h
  have ga := hG a hin.mem.1
  have gb := hG b hin.mem.2
  have w : ¬ wFn a b ∧ wCr a b t := by
    unfold wBe at h1
    by_cases w : ¬ wFn a b ∧ wCr a b t
    · exact w
    · rw [if_neg w] at h1; omega
  obtain ⟨f, w⟩ := w
  have f3 : ¬ (a.2 + b.2 < 42 - a.2 - b.2) := f
  have f2 := wVe_in (t := t) hin 20
  unfold wG at ga gb
  by_cases c : t = 0 ∨ ¬ wCr a b (t - 1)
  · right
    have : 0 < wVe a b t 20 := by
      unfold wVe
      rw [if_neg (show ¬ a.1 = b.1 by omega), if_neg f]
      by_cases q : a.1 = t ∧ a.2 ≤ 20
      · rw [if_pos q]; omega
      · rw [if_pos (show b.1 = t ∧ b.2 ≤ 20 by omega)]; omega
    omega
  · left
    have c0 : ¬ t = 0 := fun e => c (Or.inl e)
    have c1 : wCr a b (t - 1) := Classical.byContradiction (fun e => c (Or.inr e))
    unfold wBp
    rw [if_neg c0]
    have f1 : wBe a b (t - 1) ≤ wBb (wTT l) (t - 1) := wSL_in (g := fun a b => wBe a b (t - 1)) hin
    have : wBe a b (t - 1) = 1 := if_pos ⟨f, c1⟩
    omega
theorem wPicks {x : wP} (hx : x ∈ wTT l) (h1 : 1 ≤ x.2) : x ∈ l := by
  simp only [wTT, List.cons_append, List.mem_cons, List.mem_append, List.not_mem_nil, or_false] at hx
  rcases hx with e | e | e
  · rw [e] at h1; simp at h1
  · exact e
  · rw [e] at h1; simp at h1
/-- the way in a street -/
theorem wWayT {lo hi wd : Nat} (hG : ∀ x, x ∈ wTT l → wG x) (hl : ∀ x, x ∈ l → 1 ≤ x.2 ∧ x.2 ≤ 20) (hm : wMs (fun p => (t, p) ∈ l) lo hi wd) :
    ∃ wy, wy < 6 ∧ wWy lo hi wd wy ≤ wSu (wVv (wTT l) t) 21 ∧ (wWF wy + wVv (wTT l) t 0) % 2 = 0 ∧ (wWB wy + wVv (wTT l) t 20) % 2 = 0 ∧ (0 < wWF wy ↔ 0 < wVv (wTT l) t 0) ∧ (0 < wWB wy ↔ 0 < wVv (wTT l) t 20) ∧ (wy = 0 ∨ wy = 1 ∨ ∃ z, z ≤ 20 ∧ wVv (wTT l) t z = 0) := by
  refine wWay (M := fun p => (t, p) ∈ l) (fun p h => hl _ h) hm (fun p hp => ?_) (fun p hp => ?_) (fun h => ?_) (fun h => ?_)
  · have := wPar0 (wp1 (t := t) hp) l hG
    rw [wSL_add] at this
    exact this
  · have := wRc.all (V := wVv (wTT l)) (l ++ [(0, 0)]) (0, 0) (Or.inl (fun q hq => absurd hq (by simp))) (fun x y w t p => wVe_in (T := wTT l) w p) (t, p) (by simp [hp])
    exact this
  · obtain ⟨a, b, hin, h1⟩ := wSL_ex _ h
    obtain ⟨x, x1, x2, x3, x4⟩ := wTf (hG a hin.mem.1) (hG b hin.mem.2) h1
    have hx : x ∈ wTT l := by rcases x1 with rfl | rfl; exact hin.mem.1; exact hin.mem.2
    refine ⟨x.2, ?_, fun q hq => ?_⟩
    · show (t, x.2) ∈ l
      rw [← x2]; exact wPicks hx x3
    · have := wVe_in (t := t) hin q
      have := x4 q hq
      omega
  · obtain ⟨a, b, hin, h1⟩ := wSL_ex _ h
    obtain ⟨x, x1, x2, x3, x4⟩ := wTb (hG a hin.mem.1) (hG b hin.mem.2) h1
    have hx : x ∈ wTT l := by rcases x1 with rfl | rfl; exact hin.mem.1; exact hin.mem.2
    refine ⟨x.2, ?_, fun q hq h20 => ?_⟩
    · show (t, x.2) ∈ l
      rw [← x2]; exact wPicks hx x3
    · have := wVe_in (t := t) hin q
      have := x4 q hq h20
      omega
def wSta (T : List wP) (t c : Nat) : Prop := (t = 0 ∧ c = 5) ∨ (0 < t ∧ wCl c (wFp T t) (wBp T t) ∧ (c = 4 → ∃ X, wCh T t X))
theorem wSta.n {T : List wP} {c : Nat} (h : wSta T t c) : ((wLF c + wFp T t) % 2 = 0 ∧ (wLB c + wBp T t) % 2 = 0) ∧ (0 < wLF c ↔ 0 < wFp T t) ∧ (0 < wLB c ↔ 0 < wBp T t) ∧ (c = 5 ↔ t = 0) ∧ c < 6 := by
  rcases h with ⟨rfl, rfl⟩ | ⟨h1, h2, -⟩
  · simp [wLF, wLB, wFp, wBp]
  · obtain ⟨-, n2, n3, n4, n5⟩ := h2.n
    omega
/-- colours before a street that is not joined -/
theorem wSta.col {T : List wP} {c : Nat} (h : wSta T t c) (h0 : c ≠ 0) (h3 : c ≠ 3) : ∃ X, wCh T t X := by
  rcases h with ⟨rfl, rfl⟩ | ⟨h1, h2, h4⟩
  · exact ⟨fun _ => False, wCh.zero⟩
  · have ft : wFp T t = wFf T (t - 1) := if_neg (by omega)
    have bt : wBp T t = wBb T (t - 1) := if_neg (by omega)
    rw [ft, bt] at h2
    rcases h2 with ⟨e, -⟩ | ⟨-, -, ⟨rfl, -, e⟩ | ⟨rfl, e, -⟩ | ⟨e, -⟩⟩
    · exact absurd e h0
    · refine ⟨fun _ => False, fun a b _ _ _ => Iff.rfl, fun a b hin c e2 hc c1 c2 => ⟨fun _ w => w, fun f => ?_⟩⟩
      have f1 : wBe a b (t - 1) ≤ wBb T (t - 1) := wSL_in (g := fun a b => wBe a b (t - 1)) hin
      have : wBe a b (t - 1) = 1 := if_pos ⟨f, by rcases hc with ⟨rfl, rfl⟩ | ⟨rfl, rfl⟩; exact Or.inl ⟨by omega, by omega⟩; exact Or.inr ⟨by omega, by omega⟩⟩
      omega
    · refine ⟨fun _ => True, fun a b _ _ _ => Iff.rfl, fun a b hin c e2 hc c1 c2 => ⟨fun f => ?_, fun _ => trivial⟩⟩
      have f1 : wFe a b (t - 1) ≤ wFf T (t - 1) := wSL_in (g := fun a b => wFe a b (t - 1)) hin
      have : wFe a b (t - 1) = 1 := if_pos ⟨f, by rcases hc with ⟨rfl, rfl⟩ | ⟨rfl, rfl⟩; exact Or.inl ⟨by omega, by omega⟩; exact Or.inr ⟨by omega, by omega⟩⟩
      omega
    · rcases e with e | e
      · exact absurd e h3
      · exact h4 e
/-- apart: then both lanes lead on -/
theorem wApart {z c : Nat} (hG : ∀ x, x ∈ wTT l → wG x) (h : wSta (wTT l) t c) (h0 : c ≠ 0) (h3 : c ≠ 3) (hz : wVv (wTT l) t z = 0) (hz2 : z ≤ 20) (uf : t = 0 ∨ 0 < wFp (wTT l) t ∨ 0 < wVv (wTT l) t 0) (ub : 0 < wBp (wTT l) t ∨ 0 < wVv (wTT l) t 20) : (0 < wFf (wTT l) t ∧ 0 < wBb (wTT l) t) ∧ ∃ X, wCh (wTT l) (t + 1) X := by
  obtain ⟨X, hX⟩ := h.col h0 h3
  have hN := hX.next hz
  refine ⟨wCh.con (h0 := (0, 0)) (l := l ++ [(0, 0)]) rfl hN ?_ ?_, _, hN⟩
  · rcases uf with e | e | e
    · exact ⟨(0, 0), by simp, by simp, fun w => by rcases w with ⟨w, -⟩ | ⟨-, w⟩; (exact absurd (show 0 < t from w) (by omega)); (exact absurd (show z < 0 from w) (by omega))⟩
    · unfold wFp at e
      by_cases t0 : t = 0
      · rw [if_pos t0] at e; omega
      · rw [if_neg t0] at e
        obtain ⟨a, b, hin, h1⟩ := wSL_ex _ e
        have w : wFn a b ∧ wCr a b (t - 1) := by
          unfold wFe at h1
          by_cases w : wFn a b ∧ wCr a b (t - 1)
          · exact w
          · rw [if_neg w] at h1; omega
        obtain ⟨f, w⟩ := w
        rcases w with ⟨w1, w2⟩ | ⟨w1, w2⟩
        · have k := (hX.2 a b hin a b (Or.inl ⟨rfl, rfl⟩) (by omega) (by omega)).1 f
          exact ⟨a, hin.mem.1, by omega, fun v => by rcases v with v | v; exact k v.2; omega⟩
        · have k := (hX.2 a b hin b a (Or.inr ⟨rfl, rfl⟩) (by omega) (by omega)).1 f
          exact ⟨b, hin.mem.2, by omega, fun v => by rcases v with v | v; exact k v.2; omega⟩
    · obtain ⟨a, b, hin, h1⟩ := wSL_ex _ e
      obtain ⟨x, x1, x2, x3, x4⟩ := wTf (hG a hin.mem.1) (hG b hin.mem.2) h1
      have hx : x ∈ wTT l := by rcases x1 with rfl | rfl; exact hin.mem.1; exact hin.mem.2
      refine ⟨x, hx, by omega, fun v => ?_⟩
      rcases v with v | v
      · omega
      · have := x4 z v.2
        have := wVe_in (t := t) hin z
        omega
  · rcases ub with e | e
    · unfold wBp at e
      by_cases t0 : t = 0
      · rw [if_pos t0] at e; omega
      · rw [if_neg t0] at e
        obtain ⟨a, b, hin, h1⟩ := wSL_ex _ e
        have w : ¬ wFn a b ∧ wCr a b (t - 1) := by
          unfold wBe at h1
          by_cases w : ¬ wFn a b ∧ wCr a b (t - 1)
          · exact w
          · rw [if_neg w] at h1; omega
        obtain ⟨f, w⟩ := w
        rcases w with ⟨w1, w2⟩ | ⟨w1, w2⟩
        · have k := (hX.2 a b hin a b (Or.inl ⟨rfl, rfl⟩) (by omega) (by omega)).2 f
          exact ⟨a, hin.mem.1, by omega, Or.inl ⟨by omega, k⟩⟩
        · have k := (hX.2 a b hin b a (Or.inr ⟨rfl, rfl⟩) (by omega) (by omega)).2 f
          exact ⟨b, hin.mem.2, by omega, Or.inl ⟨by omega, k⟩⟩
    · obtain ⟨a, b, hin, h1⟩ := wSL_ex _ e
      obtain ⟨x, x1, x2, x3, x4⟩ := wTb (hG a hin.mem.1) (hG b hin.mem.2) h1
      have hx : x ∈ wTT l := by rcases x1 with rfl | rfl; exact hin.mem.1; exact hin.mem.2
      refine ⟨x, hx, by omega, Or.inr ⟨x2, ?_⟩⟩
      by_cases v : z < x.2
      · exact v
      · have := x4 z (by omega) hz2
        have := wVe_in (t := t) hin z
        omega
end WK10
/-! ===== class and reference tell the same ===== -/
section WK11
variable {l : List wP}
def wLC (T : List wP) (t : Nat) : Nat := wSu (fun u => wSu (wVv T u) 21 + 6 * (wFf T u + wBb T u)) t
/-- beyond a street that is not the last some lane leads on -/
theorem wConn {t : Nat} (hx : ∃ x, x ∈ wTT l ∧ t < x.1) : 0 < wFf (wTT l) t + wBb (wTT l) t := by
  refine Classical.byContradiction (fun n => ?_)
  obtain ⟨x, m, s⟩ := hx
  have key : ∀ a b, wIn a b ((0, 0) :: (l ++ [(0, 0)])) → (a.1 ≤ t ↔ b.1 ≤ t) := fun a b w => by
    have f1 := wSL_in (g := fun a b => wFe a b t) w
    have f2 := wSL_in (g := fun a b => wBe a b t) w
    have e1 : wFf (wTT l) t = 0 := by omega
    have e2 : wBb (wTT l) t = 0 := by omega
    have g1 : wFe a b t = 0 := Nat.le_zero.mp (Nat.le_trans f1 (Nat.le_of_eq e1))
    have g2 : wBe a b t = 0 := Nat.le_zero.mp (Nat.le_trans f2 (Nat.le_of_eq e2))
    have nc : ¬ wCr a b t := fun c => by
      by_cases f : wFn a b
      · have : wFe a b t = 1 := if_pos ⟨f, c⟩
        omega
      · have : wBe a b t = 1 := if_pos ⟨f, c⟩
        omega
    constructor <;> intro q <;> (refine Classical.byContradiction (fun w2 => nc ?_))
    · exact Or.inl ⟨q, by omega⟩
    · exact Or.inr ⟨q, by omega⟩
  have := (wIn.all (l ++ [(0, 0)]) (0, 0) key x m).mp (by simp)
  omega
theorem wE3 {a b c x y z : Nat} (h1 : (a + x) % 2 = 0) (h2 : (b + y) % 2 = 0) (h3 : (c + z) % 2 = 0) (h : (x + z + y) % 2 = 0) : (a + b + c) % 2 = 0 := by omega
theorem wE4 {a b x y z : Nat} (h1 : (a + x) % 2 = 0) (h2 : (b + y) % 2 = 0) (h : (x + z + y) % 2 = 0) (o : z % 2 = 1) : a % 2 = 1 ∨ b % 2 = 1 := by omega
theorem wE5 {x y : Nat} (h : (x + y) % 2 = 0) (o : ¬ x % 2 = 1) : x % 2 = 0 ∧ y % 2 = 0 := by omega
theorem wE6 {x y : Nat} (h : (x + y) % 2 = 0) (o : x % 2 = 1) : y % 2 = 1 := by omega
theorem wOrp {a b : Nat} (h : 0 < a + b) : 0 < a ∨ 0 < b := by omega
theorem wy0 {wy : Nat} (h : wy < 6) (o : wWF wy % 2 = 1) : wy = 0 := by rcases wSix h with rfl | rfl | rfl | rfl | rfl | rfl <;> simp [wWF] at o ⊢
theorem wc0 {c : Nat} (h : c < 6) (o : wLF c % 2 = 1) : c = 0 := by rcases wSix h with rfl | rfl | rfl | rfl | rfl | rfl <;> simp [wLF] at o ⊢
/-- the class of the lanes behind a street -/
theorem wNew {t c wy F B fp bp V0 V2 : Nat} (n1 : (wLF c + fp) % 2 = 0) (n6 : c < 6) (y1 : wy < 6) (y3 : (wWF wy + V0) % 2 = 0) (pf : (fp + F + V0) % 2 = 0) (pc : (F + B) % 2 = 0) (cn : 0 < F + B) (ap : (0 < wLF c + wWF wy ∨ c = 5) ∧ 0 < wLB c + wWB wy ∧ ¬ (c = 0 ∨ c = 3 ∨ wy = 0 ∨ wy = 1) → 0 < F ∧ 0 < B) : ∃ c', wCl c' F B ∧ (((0 < wLF c + wWF wy ∨ c = 5) ∧ 0 < wLB c + wWB wy ∧ ¬ (c = 0 ∨ c = 3 ∨ wy = 0 ∨ wy = 1)) ↔ c' = 4) := by
  by_cases o : F % 2 = 1
  · refine ⟨0, Or.inl ⟨rfl, o, wE6 pc o⟩, fun w => ?_, fun w => absurd w (by decide)⟩
    rcases wE4 n1 y3 pf o with q | q
    · exact absurd (Or.inl (wc0 n6 q)) w.2.2
    · exact absurd (Or.inr (Or.inr (Or.inl (wy0 y1 q)))) w.2.2
  · obtain ⟨e1, e2⟩ := wE5 pc o
    by_cases A : (0 < wLF c + wWF wy ∨ c = 5) ∧ 0 < wLB c + wWB wy ∧ ¬ (c = 0 ∨ c = 3 ∨ wy = 0 ∨ wy = 1)
    · obtain ⟨a1, a2⟩ := ap A
      exact ⟨4, Or.inr ⟨e1, e2, Or.inr (Or.inr ⟨Or.inr rfl, a1, a2⟩)⟩, fun _ => rfl, fun _ => A⟩
    · clear ap n1 y3 pf pc
      by_cases f0 : F = 0
      · exact ⟨2, Or.inr ⟨e1, e2, Or.inr (Or.inl ⟨rfl, f0, by omega⟩)⟩, fun w => absurd w A, fun w => absurd w (by decide)⟩
      · by_cases g0 : B = 0
        · exact ⟨1, Or.inr ⟨e1, e2, Or.inl ⟨rfl, by omega, g0⟩⟩, fun w => absurd w A, fun w => absurd w (by decide)⟩
        · exact ⟨3, Or.inr ⟨e1, e2, Or.inr (Or.inr ⟨Or.inl rfl, by omega, by omega⟩)⟩, fun w => absurd w A, fun w => absurd w (by decide)⟩
/-- apart, told of class and way -/
theorem wAp {t c wy : Nat} (hG : ∀ x, x ∈ wTT l → wG x) (hs : wSta (wTT l) t c) (y5 : 0 < wWF wy ↔ 0 < wVv (wTT l) t 0) (y6 : 0 < wWB wy ↔ 0 < wVv (wTT l) t 20) (y7 : wy = 0 ∨ wy = 1 ∨ ∃ z, z ≤ 20 ∧ wVv (wTT l) t z = 0) (A : (0 < wLF c + wWF wy ∨ c = 5) ∧ 0 < wLB c + wWB wy ∧ ¬ (c = 0 ∨ c = 3 ∨ wy = 0 ∨ wy = 1)) : (0 < wFf (wTT l) t ∧ 0 < wBb (wTT l) t) ∧ ∃ X, wCh (wTT l) (t + 1) X := by
  obtain ⟨q1, q2, q3⟩ := A
  obtain ⟨-, n3, n4, n5, n6⟩ := hs.n
  obtain ⟨z, z1, z2⟩ : ∃ z, z ≤ 20 ∧ wVv (wTT l) t z = 0 := by
    rcases y7 with w | w | w
    · exact absurd (Or.inr (Or.inr (Or.inl w))) q3
    · exact absurd (Or.inr (Or.inr (Or.inr w))) q3
    · exact w
  refine wApart hG hs (fun w => q3 (Or.inl w)) (fun w => q3 (Or.inr (Or.inl w))) z2 z1 ?_ ?_
  · rcases q1 with q1 | q1
    · rcases wOrp q1 with w | w
      · exact Or.inr (Or.inl (n3.mp w))
      · exact Or.inr (Or.inr (y5.mp w))
    · exact Or.inl (n5.mp q1)
  · rcases wOrp q2 with w | w
    · exact Or.inl (n4.mp w)
    · exact Or.inr (y6.mp w)
theorem wNext {t c lo hi wd : Nat} {b b' : Nat → Nat} (hG : ∀ x, x ∈ wTT l → wG x) (hl : ∀ x, x ∈ l → 1 ≤ x.2 ∧ x.2 ≤ 20) (hm : wMs (fun p => (t, p) ∈ l) lo hi wd) (hs : wSta (wTT l) t c) (hb : b c ≤ wLC (wTT l) t) (hx : ∃ x, x ∈ wTT l ∧ t < x.1) (hn : ∀ ln, ln < 5 → ∃ v, wLst b (wWy lo hi wd) ln v ∧ b' ln = v + 6 * (wLF ln + wLB ln)) : ∃ c', wSta (wTT l) (t + 1) c' ∧ b' c' ≤ wLC (wTT l) (t + 1) := by
  obtain ⟨wy, y1, y2, y3, y4, y5, y6, y7⟩ := wWayT hG hl hm
  obtain ⟨⟨n1, n2⟩, n3, n4, n5, n6⟩ := hs.n
  have pf := wPf (t := t) hG
  have pb := wPb (t := t) hG
  have uf := wUf (t := t) hG
  have ub := wUb (t := t) hG
  have ap := wAp hG hs y5 y6 y7
  obtain ⟨c', k1, k2⟩ := wNew (t := t) (bp := 0) (V2 := 0) n1 n6 y1 y3 pf (wPc hG) (wConn hx) (fun A => (ap A).1)
  obtain ⟨⟨l1, l2⟩, ⟨l3, l4⟩, l5, l6, l7⟩ := k1.n
  have c6 : c' < 6 := by omega
  have fit := wFit_of ⟨c, n6⟩ ⟨wy, y1⟩ ⟨c', c6⟩ (wE3 n1 y3 l3 pf) (wE3 n2 y4 l4 pb) (fun w => by
    rcases uf (l5.mp w) with q | q | q
    · exact Or.inr (n5.mpr q)
    · exact Or.inl (Nat.add_pos_left (n3.mpr q) _)
    · exact Or.inl (Nat.add_pos_right _ (y5.mpr q))) (fun w => by
    rcases ub (l6.mp w) with q | q
    · exact Nat.add_pos_left (n4.mpr q) _
    · exact Nat.add_pos_right _ (y6.mpr q)) k2
  obtain ⟨v, ⟨v1, v2, v3⟩, e⟩ := hn c' l7
  have v4 := v2 c wy n6 y1 fit
  refine ⟨c', Or.inr ⟨Nat.succ_pos t, ?_, fun w => (ap (k2.mpr w)).2⟩, ?_⟩
  · have e1 : wFp (wTT l) (t + 1) = wFf (wTT l) t := if_neg (Nat.succ_ne_zero t)
    have e2 : wBp (wTT l) (t + 1) = wBb (wTT l) t := if_neg (Nat.succ_ne_zero t)
    rw [e1, e2]; exact k1
  · rw [e]
    rw [show wLC (wTT l) (t + 1) = wLC (wTT l) t + (wSu (wVv (wTT l) t) 21 + 6 * (wFf (wTT l) t + wBb (wTT l) t)) from rfl]
    clear pf pb uf ub ap k2 l3 l4 l5 l6 n1 n2 n3 n4 n5 y3 y4 y5 y6 y7 v3 hx hn hm v2 fit k1
    omega
theorem wEnd {t c lo hi wd v : Nat} {b : Nat → Nat} (hG : ∀ x, x ∈ wTT l → wG x) (hl : ∀ x, x ∈ l → 1 ≤ x.2 ∧ x.2 ≤ 20) (hm : wMs (fun p => (t, p) ∈ l) lo hi wd) (hs : wSta (wTT l) t c) (hb : b c ≤ wLC (wTT l) t) (hx : ∀ x, x ∈ wTT l → x.1 ≤ t) (hv : wLst b (wWy lo hi wd) 5 v) : v ≤ wC (wTT l) := by
  obtain ⟨wy, y1, y2, y3, y4, y5, y6, y7⟩ := wWayT hG hl hm
  obtain ⟨⟨n1, n2⟩, n3, n4, n5, n6⟩ := hs.n
  have pf := wPf (t := t) hG
  have pb := wPb (t := t) hG
  have f0 : wFf (wTT l) t = 0 := by
    by_cases q : 0 < wFf (wTT l) t
    · obtain ⟨a, b, hin, h1⟩ := wSL_ex _ q
      have a1 := hx a hin.mem.1
      have b1 := hx b hin.mem.2
      unfold wFe at h1
      rw [if_neg (by omega)] at h1
      omega
    · omega
  have g0 : wBb (wTT l) t = 0 := by
    by_cases q : 0 < wBb (wTT l) t
    · obtain ⟨a, b, hin, h1⟩ := wSL_ex _ q
      have a1 := hx a hin.mem.1
      have b1 := hx b hin.mem.2
      unfold wBe at h1
      rw [if_neg (by omega)] at h1
      omega
    · omega
  have nA : ¬ ((0 < wLF c + wWF wy ∨ c = 5) ∧ 0 < wLB c + wWB wy ∧ ¬ (c = 0 ∨ c = 3 ∨ wy = 0 ∨ wy = 1)) := fun A => by
    have := (wAp hG hs y5 y6 y7 A).1.1
    rw [f0] at this
    exact absurd this (by decide)
  clear y7
  have fit := wFit_of ⟨c, n6⟩ ⟨wy, y1⟩ ⟨5, by decide⟩ (wE3 n1 y3 (show (wLF 5 + wFf (wTT l) t) % 2 = 0 by rw [f0]; rfl) pf) (wE3 n2 y4 (show (wLB 5 + wBb (wTT l) t) % 2 = 0 by rw [g0]; rfl) pb) (fun w => absurd w (by decide)) (fun w => absurd w (by decide)) ⟨fun w => absurd w nA, fun w => absurd w (by decide)⟩
  have v4 := hv.2.1 c wy n6 y1 fit
  have tot := wTot (N := t + 1) (wTT l) (fun x w => ⟨by have := hG x w; unfold wG at this; omega, by have := hx x w; omega⟩)
  have tot : wLC (wTT l) (t + 1) = wC (wTT l) := tot
  rw [← tot]
  rw [show wLC (wTT l) (t + 1) = wLC (wTT l) t + (wSu (wVv (wTT l) t) 21 + 6 * (wFf (wTT l) t + wBb (wTT l) t)) from rfl]
  clear pf pb nA n1 n2 n3 n4 n5 y3 y4 y5 y6 hm hx hv fit
  omega
/-- the class's least is below every round that meets the picks and nothing else -/
theorem wLow {last v : Nat} {lo hi wd : Nat → Nat} {b : Nat → Nat → Nat} (hl : ∀ x, x ∈ l → 1 ≤ x.2 ∧ x.2 ≤ 20) (hx : ∀ x, x ∈ l → x.1 ≤ last) (hx2 : last = 0 ∨ ∃ x, x ∈ l ∧ x.1 = last) (hm : ∀ t, t ≤ last → wMs (fun p => (t, p) ∈ l) (lo t) (hi t) (wd t)) (h0 : b 0 5 = 0) (hn : ∀ t, t < last → ∀ ln, ln < 5 → ∃ v, wLst (b t) (wWy (lo t) (hi t) (wd t)) ln v ∧ b (t + 1) ln = v + 6 * (wLF ln + wLB ln)) (hv : wLst (b last) (wWy (lo last) (hi last) (wd last)) 5 v) : v ≤ wC (wTT l) := by
  have hG : ∀ x, x ∈ wTT l → wG x := fun x w => by
    simp only [wTT, List.cons_append, List.mem_cons, List.mem_append, List.not_mem_nil, or_false] at w
    rcases w with e | e | e
    · rw [e]; exact Or.inl ⟨rfl, rfl⟩
    · exact Or.inr (hl x e)
    · rw [e]; exact Or.inl ⟨rfl, rfl⟩
  have hT : ∀ x, x ∈ wTT l → x.1 ≤ last := fun x w => by
    simp only [wTT, List.cons_append, List.mem_cons, List.mem_append, List.not_mem_nil, or_false] at w
    rcases w with e | e | e
    · rw [e]; simp
    · exact hx x e
    · rw [e]; simp
  have st : ∀ t, t ≤ last → ∃ c, wSta (wTT l) t c ∧ b t c ≤ wLC (wTT l) t := by
    intro t
    induction t with
    | zero => exact fun _ => ⟨5, Or.inl ⟨rfl, rfl⟩, by rw [h0]; omega⟩
    | succ t ih =>
      intro ht
      obtain ⟨c, s1, s2⟩ := ih (by omega)
      obtain ⟨x, m, e⟩ : ∃ x, x ∈ l ∧ x.1 = last := hx2.resolve_left (by omega)
      exact wNext hG hl (hm t (by omega)) s1 s2 ⟨x, by simp [m], by omega⟩ (hn t (by omega))
  obtain ⟨c, s1, s2⟩ := st last (Nat.le_refl _)
  exact wEnd hG hl (hm last (Nat.le_refl _)) s1 s2 hT hv
end WK11
/-! ===== the least way: class and reference tell one number ===== -/
theorem wMs.cg {M M' : Nat → Prop} {lo hi wd : Nat} (h : wMs M lo hi wd) (e : ∀ p, M p ↔ M' p) : wMs M' lo hi wd := by
  have : M = M' := funext (fun p => propext (e p))
  rw [← this]; exact h
theorem wEq {P : Nat → wP} {n last v q : Nat} {lo hi wd : Nat → Nat} {b : Nat → Nat → Nat} (hP : ∀ k, k < n → 1 ≤ (P k).2 ∧ (P k).2 ≤ 20) (hx : ∀ k, k < n → (P k).1 ≤ last) (hx2 : last = 0 ∨ ∃ k, k < n ∧ (P k).1 = last) (hm : ∀ t, t ≤ last → wMs (fun p => ∃ k, k < n ∧ P k = (t, p)) (lo t) (hi t) (wd t)) (h0 : ∀ ln, ln < 6 → b 0 ln = if ln = 5 then 0 else 1000000) (h5 : ∀ t, t < last → b (t + 1) 5 = 1000000) (hn : ∀ t, t < last → ∀ ln, ln < 5 → ∃ v, wLst (b t) (wWy (lo t) (hi t) (wd t)) ln v ∧ b (t + 1) ln = v + 6 * (wLF ln + wLB ln)) (hv : wLst (b last) (wWy (lo last) (hi last) (wd last)) 5 v) (hq : wTour P (fun k => k < n) q) (hq9 : q < 1000000) : v = q := by
  have le : v ≤ q := by
    obtain ⟨⟨l, a1, a2, a3⟩, -⟩ := hq
    have mem : ∀ x : wP, x ∈ l.map P ↔ ∃ k, k < n ∧ P k = x := fun x => by
      rw [List.mem_map]
      exact ⟨fun ⟨k, k1, k2⟩ => ⟨k, a1 k k1, k2⟩, fun ⟨k, k1, k2⟩ => ⟨k, a2 k k1, k2⟩⟩
    rw [a3]
    refine wLow (l := l.map P) (last := last) (lo := lo) (hi := hi) (wd := wd) (b := b) (fun x w => ?_) (fun x w => ?_) ?_ (fun t ht => (hm t ht).cg (fun p => (mem (t, p)).symm)) (by rw [h0 5 (by omega)]; rfl) hn hv
    · obtain ⟨k, k1, rfl⟩ := (mem x).mp w; exact hP k k1
    · obtain ⟨k, k1, rfl⟩ := (mem x).mp w; exact hx k k1
    · rcases hx2 with w | ⟨k, k1, k2⟩
      · exact Or.inl w
      · exact Or.inr ⟨P k, (mem _).mpr ⟨k, k1, rfl⟩, k2⟩
  have hP2 : ∀ x : wP, (∃ k, k < n ∧ P k = x) → 1 ≤ x.2 ∧ x.2 ≤ 20 := fun x w => by obtain ⟨k, k1, rfl⟩ := w; exact hP k k1
  have inv : ∀ t, t ≤ last → wInvB (fun x => ∃ k, k < n ∧ P k = x) t (b t) := by
    intro t
    induction t with
    | zero => exact fun _ => wInvB.start h0
    | succ t ih => exact fun ht => (ih (by omega)).next (fun p => Iff.rfl) hP2 (hm t (by omega)) (h5 t (by omega)) (hn t (by omega))
  have w := (inv last (Nat.le_refl _)).fin (fun p => Iff.rfl) hP2 (fun x w => by obtain ⟨k, k1, rfl⟩ := w; exact hx k k1) (hm last (Nat.le_refl _)) hv (by omega)
  have ge := hq.le (fun k hk => (hP k hk).1) w
  omega
