/-! ===== READING: what a text says, by its bytes ===== -/
def zsk (b : Nat → Int32) (n : Nat) : Nat → Nat → Nat
  | 0, a => a
  | f + 1, a => if a < n ∧ (b a).toInt = 32 then zsk b n f (a + 1) else a
def zrn (b : Nat → Int32) (lo hi : Int32) (n : Nat) : Nat → Nat → Nat
  | 0, _ => 0
  | f + 1, a => if a < n ∧ lo.toInt ≤ (b a).toInt ∧ (b a).toInt ≤ hi.toInt then zrn b lo hi n f (a + 1) + 1 else 0
/-- the first byte from a on that is no blank -/
def zS (b : Nat → Int32) (n a : Nat) : Nat := zsk b n n a
/-- how many bytes from a on lie between lo and hi -/
def zR (b : Nat → Int32) (lo hi : Int32) (n a : Nat) : Nat := zrn b lo hi n n a
theorem zsk_eq {b : Nat → Int32} {n k : Nat} : ∀ f a, zSkip b a n k → n - a ≤ f → zsk b n f a = k := by
  intro f
  induction f with
  | zero =>
    intro a h hf
    have h1 := h.1
    have h2 := h.2.1
    show a = k
    omega
  | succ f ih =>
    intro a h hf
    obtain ⟨h1, h2, h3, h4⟩ := h
    simp only [zsk]
    by_cases q : a < k
    · rw [if_pos ⟨by omega, h3 a (Nat.le_refl _) q⟩]
      exact ih (a + 1) ⟨by omega, h2, fun j p r => h3 j (by omega) r, h4⟩ (by omega)
    · have e : a = k := by omega
      subst e
      rw [if_neg (fun q => h4 q.1 q.2)]
theorem zSkip.eq {b : Nat → Int32} {n a k : Nat} (h : zSkip b a n k) : k = zS b n a := (zsk_eq n a h (by omega)).symm
theorem zsk_skip {b : Nat → Int32} {n : Nat} : ∀ f a, a ≤ n → n - a ≤ f → zSkip b a n (zsk b n f a) := by
  intro f
  induction f with
  | zero => intro a h hf; exact ⟨Nat.le_refl _, h, fun j p r => absurd r (by show ¬ j < a; omega), fun p => absurd p (by show ¬ a < n; omega)⟩
  | succ f ih =>
    intro a h hf
    simp only [zsk]
    by_cases q : a < n ∧ (b a).toInt = 32
    · rw [if_pos q]
      obtain ⟨h1, h2, h3, h4⟩ := ih (a + 1) (by omega) (by omega)
      refine ⟨by omega, h2, fun j p r => ?_, h4⟩
      by_cases e : j = a
      · subst e; exact q.2
      · exact h3 j (by omega) r
    · rw [if_neg q]
      exact ⟨Nat.le_refl _, h, fun j p r => absurd r (by omega), fun p e => q ⟨p, e⟩⟩
theorem zS_skip {b : Nat → Int32} {n a : Nat} (h : a ≤ n) : zSkip b a n (zS b n a) := zsk_skip n a h (by omega)
theorem zS_le {b : Nat → Int32} {n a : Nat} (h : a ≤ n) : zS b n a ≤ n := (zS_skip h).2.1
theorem zS_ge {b : Nat → Int32} {n a : Nat} (h : a ≤ n) : a ≤ zS b n a := (zS_skip h).1
theorem zS_idem {b : Nat → Int32} {n a : Nat} (h : a ≤ n) : zS b n (zS b n a) = zS b n a := (zSkip.eq ⟨Nat.le_refl _, zS_le h, fun j p r => absurd r (by omega), (zS_skip h).2.2.2⟩).symm
theorem zrn_run {b : Nat → Int32} {lo hi : Int32} {n : Nat} : ∀ f a, a ≤ n → n - a ≤ f → zRun b lo hi a n (zrn b lo hi n f a) := by
  intro f
  induction f with
  | zero => intro a h hf; exact ⟨by show a + 0 ≤ n; omega, fun j p r => absurd r (by show ¬ j < a + 0; omega), fun p => absurd p (by show ¬ a + 0 < n; omega)⟩
  | succ f ih =>
    intro a h hf
    simp only [zrn]
    by_cases q : a < n ∧ lo.toInt ≤ (b a).toInt ∧ (b a).toInt ≤ hi.toInt
    · rw [if_pos q]
      obtain ⟨h1, h2, h3⟩ := ih (a + 1) (by omega) (by omega)
      refine ⟨by omega, fun j p r => ?_, fun p => ?_⟩
      · by_cases e : j = a
        · subst e; exact q.2
        · exact h2 j (by omega) (by omega)
      · have e : a + 1 + zrn b lo hi n f (a + 1) = a + (zrn b lo hi n f (a + 1) + 1) := by omega
        rw [e] at h3
        exact h3 p
    · rw [if_neg q]
      exact ⟨by omega, fun j p r => absurd r (by omega), fun p e => q ⟨p, e⟩⟩
theorem zR_run {b : Nat → Int32} {lo hi : Int32} {n a : Nat} (h : a ≤ n) : zRun b lo hi a n (zR b lo hi n a) := zrn_run n a h (by omega)
theorem zRun.eq {b : Nat → Int32} {lo hi : Int32} {n a k : Nat} (h : zRun b lo hi a n k) : k = zR b lo hi n a := zRun_one h (zR_run (by have := h.1; omega))
theorem zR_le {b : Nat → Int32} {lo hi : Int32} {n a : Nat} (h : a ≤ n) : a + zR b lo hi n a ≤ n := (zR_run h).1
/-- a number, and where the text goes on -/
def zNum (b : Nat → Int32) (n p q : Nat) (lo hi : Int32) (a : Nat) : Option (Int32 × Nat) := if p ≤ zR b 48 57 n a ∧ zR b 48 57 n a ≤ q ∧ lo.toInt ≤ (zDig b a (zR b 48 57 n a)).toInt ∧ (zDig b a (zR b 48 57 n a)).toInt ≤ hi.toInt then some (zDig b a (zR b 48 57 n a), zS b n (a + zR b 48 57 n a)) else none
/-- a word -/
def zWrd (b : Nat → Int32) (n : Nat) (ws : List Int32) (a : Nat) : Option Nat := if zR b 97 122 n a = ws.length ∧ ∀ j, j < ws.length → b (a + j) = ws.getD j 0 then some (zS b n (a + ws.length)) else none
/-- the thing of a code -/
def zFnd (cd : Nat → Int32) (v : Int32) : Nat → Option Nat
  | 0 => none
  | m + 1 => match zFnd cd v m with
    | some t => some t
    | none => if cd m = v then some m else none
theorem zFnd_no {cd : Nat → Int32} {v : Int32} : ∀ {m : Nat}, (∀ j, j < m → ¬ cd j = v) → zFnd cd v m = none := by
  intro m
  induction m with
  | zero => intro _; rfl
  | succ m ih => intro h; simp only [zFnd, ih (fun j q => h j (by omega)), if_neg (h m (by omega))]
theorem zFnd_yes {cd : Nat → Int32} {v : Int32} {t : Nat} (e : cd t = v) (hl : ∀ j, j < t → ¬ cd j = v) : ∀ {m : Nat}, t < m → zFnd cd v m = some t := by
  intro m
  induction m with
  | zero => intro h; exact absurd h (by omega)
  | succ m ih =>
    intro h
    by_cases q : t = m
    · subst q; simp only [zFnd, zFnd_no hl, if_pos e]
    · simp only [zFnd, ih (by omega)]
theorem zFnd_lt {cd : Nat → Int32} {v : Int32} {t : Nat} : ∀ {m : Nat}, zFnd cd v m = some t → t < m := by
  intro m
  induction m with
  | zero => intro h; exact absurd h (by simp [zFnd])
  | succ m ih =>
    intro h
    cases e : zFnd cd v m with
    | some t' => simp only [zFnd, e] at h; have e2 : t' = t := Option.some.inj h; subst e2; have := ih e; omega
    | none =>
      simp only [zFnd, e] at h
      by_cases q : cd m = v
      · rw [if_pos q] at h; have := Option.some.inj h; omega
      · rw [if_neg q] at h; exact absurd h (by simp)
theorem zFnd_cg {cd cd' : Nat → Int32} {v : Int32} : ∀ {m : Nat}, (∀ j, j < m → cd j = cd' j) → zFnd cd v m = zFnd cd' v m := by
  intro m
  induction m with
  | zero => intro _; rfl
  | succ m ih => intro h; simp only [zFnd, ih (fun j q => h j (by omega)), h m (by omega)]
/-- a thing, told by its code: the thing, and where the text goes on -/
def zThg (b : Nat → Int32) (n : Nat) (cd : Nat → Int32) (m : Nat) (un : Option Nat) (a : Nat) : Option (Nat × Nat) := match zNum b n 4 4 (nI 0) (nI 9999) a with
  | none => none
  | some x => match zFnd cd x.1 m with
    | none => none
    | some t => if un = some t then none else some (t, x.2)
def zKnd (b : Nat → Int32) (n a : Nat) : Option (Nat × Nat) := match zWrd b n [98, 101, 104, 105, 110, 100] a with
  | some x => some (0, x)
  | none => match zWrd b n [112, 111, 115, 116] a with
    | some x => some (1, x)
    | none => match zWrd b n [102, 114, 101, 101] a with
      | some x => some (2, x)
      | none => match zWrd b n [98, 97, 99, 107] a with
        | some x => some (3, x)
        | none => none
def zMost (k : Nat) : Int32 := ([99, 9999, 999999, 99] : List Int32).getD k 0
def zPlc (b : Nat → Int32) (n : Nat) (cd : Nat → Int32) (m a : Nat) : Except Nat (Nat × Nat × Int32) := match zThg b n cd m none a with
  | none => .error a
  | some x => match zWrd b n [98, 121] x.2 with
    | none => .error x.2
    | some a2 => match zThg b n cd m (some x.1) a2 with
      | none => .error a2
      | some y => .ok (y.2, 4 + x.1, nI y.1)
/-- a rule: where the text goes on, which number (4 and more: what takes a thing's place), and the number -/
def zRul (b : Nat → Int32) (n : Nat) (cd : Nat → Int32) (m a : Nat) : Except Nat (Nat × Nat × Int32) := match zWrd b n [112, 108, 97, 99, 101] a with
  | some a1 => zPlc b n cd m a1
  | none => match zKnd b n a with
    | none => .error a
    | some x => match zNum b n 1 6 (nI 0) (zMost x.1) x.2 with
      | none => .error x.2
      | some y => .ok (y.2, x.1, y.1)
def zup (D : Nat → Int32) (k : Nat) (v : Int32) : Nat → Int32 := fun j => if j = k then v else D j
/-- rules, one behind the other -/
def zRls (b : Nat → Int32) (n : Nat) (cd : Nat → Int32) (m : Nat) : Nat → Nat → (Nat → Int32) → Nat → Except Nat (Nat × (Nat → Int32))
  | 0, _, _, _ => .error 0
  | f + 1, a, D, k => match zRul b n cd m a with
    | .error p => .error p
    | .ok x => if x.1 < n ∧ (b x.1).toInt = 59 then zRls b n cd m f (zS b n (x.1 + 1)) (zup D x.2.1 x.2.2) (k + 1) else if x.1 < n then .error x.1 else .ok (k + 1, zup D x.2.1 x.2.2)
/-! where it goes on -/
theorem zNum_le {b : Nat → Int32} {n p q a : Nat} {lo hi : Int32} {x : Int32 × Nat} (ha : a ≤ n) (h : zNum b n p q lo hi a = some x) : a + p ≤ x.2 ∧ x.2 ≤ n := by
  unfold zNum at h
  split at h
  · rename_i c
    have e := Option.some.inj h
    subst e
    have h1 := zR_le (b := b) (lo := 48) (hi := 57) ha
    have h2 := zS_ge (b := b) h1
    have h3 := zS_le (b := b) h1
    have h4 := c.1
    exact ⟨by show a + p ≤ zS b n _; omega, h3⟩
  · exact absurd h (by simp)
theorem zWrd_le {b : Nat → Int32} {n a x : Nat} {ws : List Int32} (ha : a ≤ n) (h : zWrd b n ws a = some x) : a + ws.length ≤ x ∧ x ≤ n := by
  unfold zWrd at h
  split at h
  · rename_i c
    have e := Option.some.inj h
    subst e
    have h1 := zR_le (b := b) (lo := 97) (hi := 122) ha
    rw [c.1] at h1
    exact ⟨zS_ge h1, zS_le h1⟩
  · exact absurd h (by simp)
theorem zThg_le {b : Nat → Int32} {n m a : Nat} {cd : Nat → Int32} {un : Option Nat} {x : Nat × Nat} (ha : a ≤ n) (h : zThg b n cd m un a = some x) : (a + 4 ≤ x.2 ∧ x.2 ≤ n) ∧ x.1 < m := by
  unfold zThg at h
  cases e : zNum b n 4 4 (nI 0) (nI 9999) a with
  | none => rw [e] at h; exact absurd h (by simp)
  | some y =>
    rw [e] at h
    cases e2 : zFnd cd y.1 m with
    | none => simp [e2] at h
    | some t =>
      simp only [e2] at h
      split at h
      · exact absurd h (by simp)
      · have e3 := Option.some.inj h
        subst e3
        exact ⟨zNum_le ha e, zFnd_lt e2⟩
theorem zKnd_le {b : Nat → Int32} {n a : Nat} {x : Nat × Nat} (ha : a ≤ n) (h : zKnd b n a = some x) : (a + 4 ≤ x.2 ∧ x.2 ≤ n) ∧ x.1 < 4 := by
  unfold zKnd at h
  split at h
  · rename_i y e
    have e3 := Option.some.inj h
    subst e3
    have h1 := zWrd_le ha e
    exact ⟨⟨by have := h1.1; simp at this; show a + 4 ≤ y; omega, h1.2⟩, by show 0 < 4; omega⟩
  · split at h
    · rename_i y e
      have e3 := Option.some.inj h
      subst e3
      have h1 := zWrd_le ha e
      exact ⟨⟨by have := h1.1; simp at this; show a + 4 ≤ y; omega, h1.2⟩, by show 1 < 4; omega⟩
    · split at h
      · rename_i y e
        have e3 := Option.some.inj h
        subst e3
        have h1 := zWrd_le ha e
        exact ⟨⟨by have := h1.1; simp at this; show a + 4 ≤ y; omega, h1.2⟩, by show 2 < 4; omega⟩
      · split at h
        · rename_i y e
          have e3 := Option.some.inj h
          subst e3
          have h1 := zWrd_le ha e
          exact ⟨⟨by have := h1.1; simp at this; show a + 4 ≤ y; omega, h1.2⟩, by show 3 < 4; omega⟩
        · exact absurd h (by simp)
/-- what a rule tells: where the text goes on, or what stands wrong -/
theorem zRul_le {b : Nat → Int32} {n m a : Nat} {cd : Nat → Int32} (ha : a ≤ n) : (∀ p, zRul b n cd m a = .error p → p ≤ n) ∧ ∀ x, zRul b n cd m a = .ok x → (a + 1 ≤ x.1 ∧ x.1 ≤ n) ∧ x.2.1 < 4 + m := by
  unfold zRul
  cases e : zWrd b n [112, 108, 97, 99, 101] a with
  | some a1 =>
    have h1 := zWrd_le ha e
    simp only
    unfold zPlc
    cases e2 : zThg b n cd m none a1 with
    | none => exact ⟨fun p q => by cases q; exact h1.2, fun x q => (by cases q)⟩
    | some x =>
      have h2 := zThg_le h1.2 e2
      simp only
      cases e3 : zWrd b n [98, 121] x.2 with
      | none => exact ⟨fun p q => by cases q; exact h2.1.2, fun x q => (by cases q)⟩
      | some a2 =>
        have h3 := zWrd_le h2.1.2 e3
        simp only
        cases e4 : zThg b n cd m (some x.1) a2 with
        | none => exact ⟨fun p q => by cases q; exact h3.2, fun x q => (by cases q)⟩
        | some y =>
          have h4 := zThg_le h3.2 e4
          exact ⟨fun p q => (by cases q), fun z q => by cases q; exact ⟨⟨by show a + 1 ≤ y.2; simp at h1 h3; omega, h4.1.2⟩, by show 4 + x.1 < 4 + m; omega⟩⟩
  | none =>
    simp only
    cases e2 : zKnd b n a with
    | none => exact ⟨fun p q => by cases q; exact ha, fun x q => (by cases q)⟩
    | some x =>
      have h2 := zKnd_le ha e2
      simp only
      cases e3 : zNum b n 1 6 (nI 0) (zMost x.1) x.2 with
      | none => exact ⟨fun p q => by cases q; exact h2.1.2, fun x q => (by cases q)⟩
      | some y =>
        have h3 := zNum_le h2.1.2 e3
        exact ⟨fun p q => (by cases q), fun z q => by cases q; exact ⟨⟨by show a + 1 ≤ y.2; omega, h3.2⟩, by show x.1 < 4 + m; omega⟩⟩
/-! the bytes of class and reference -/
def zTb (b b' : Nat → Int32) (n : Nat) : Prop := ∀ j, j < n → (b j).toInt = (b' j).toInt ∨ ((b j).toInt < 0 ∧ 128 ≤ (b' j).toInt)
theorem zsk_tb {b b' : Nat → Int32} {n : Nat} (h : zTb b b' n) : ∀ f a, zsk b n f a = zsk b' n f a := by
  intro f
  induction f with
  | zero => intro a; rfl
  | succ f ih =>
    intro a
    simp only [zsk]
    by_cases q : a < n ∧ (b a).toInt = 32
    · rw [if_pos q, if_pos ⟨q.1, by have := h a q.1; omega⟩, ih]
    · rw [if_neg q, if_neg (fun r => q ⟨r.1, by have := h a r.1; have := r.2; omega⟩)]
theorem zS_tb {b b' : Nat → Int32} {n a : Nat} (h : zTb b b' n) : zS b n a = zS b' n a := zsk_tb h n a
theorem zrn_tb {b b' : Nat → Int32} {lo hi : Int32} {n : Nat} (h : zTb b b' n) (hlo : 0 ≤ lo.toInt) (hhi : hi.toInt < 128) : ∀ f a, zrn b lo hi n f a = zrn b' lo hi n f a := by
  intro f
  induction f with
  | zero => intro a; rfl
  | succ f ih =>
    intro a
    simp only [zrn]
    by_cases q : a < n ∧ lo.toInt ≤ (b a).toInt ∧ (b a).toInt ≤ hi.toInt
    · rw [if_pos q, if_pos ⟨q.1, by have := h a q.1; have := q.2; omega⟩, ih]
    · rw [if_neg q, if_neg (fun r => q ⟨r.1, by have := h a r.1; have := r.2; omega⟩)]
theorem zR_tb {b b' : Nat → Int32} {lo hi : Int32} {n a : Nat} (h : zTb b b' n) (hlo : 0 ≤ lo.toInt) (hhi : hi.toInt < 128) : zR b lo hi n a = zR b' lo hi n a := zrn_tb h hlo hhi n a
theorem zDig_tb {b b' : Nat → Int32} {a : Nat} : ∀ k, (∀ j, j < k → b (a + j) = b' (a + j)) → zDig b a k = zDig b' a k := by
  intro k
  induction k with
  | zero => intro _; rfl
  | succ k ih => intro h; simp only [zDig, ih (fun j q => h j (by omega)), h k (by omega)]
theorem zNum_tb {b b' : Nat → Int32} {n p q a : Nat} {lo hi : Int32} (h : zTb b b' n) (ha : a ≤ n) : zNum b n p q lo hi a = zNum b' n p q lo hi a := by
  have e1 : zR b 48 57 n a = zR b' 48 57 n a := zR_tb h (by decide) (by decide)
  have e2 : zDig b a (zR b' 48 57 n a) = zDig b' a (zR b' 48 57 n a) := zDig_tb _ (fun j hj => by
    have r := (zR_run (b := b') (lo := 48) (hi := 57) ha)
    have r1 := r.1
    have r2 := r.2.1 (a + j) (by omega) (by omega)
    have r3 := h (a + j) (by omega)
    apply Int32.toInt_inj.mp
    have : (48 : Int32).toInt = 48 := by decide
    have : (57 : Int32).toInt = 57 := by decide
    omega)
  unfold zNum
  rw [e1, e2, zS_tb h]
theorem zWrd_tb {b b' : Nat → Int32} {n a : Nat} {ws : List Int32} (h : zTb b b' n) (ha : a ≤ n) (hws : ∀ j, j < ws.length → 0 ≤ (ws.getD j 0).toInt ∧ (ws.getD j 0).toInt < 128) : zWrd b n ws a = zWrd b' n ws a := by
  have e1 : zR b 97 122 n a = zR b' 97 122 n a := zR_tb h (by decide) (by decide)
  unfold zWrd
  rw [e1, zS_tb h]
  have r1 := zR_le (b := b') (lo := 97) (hi := 122) ha
  by_cases q : zR b' 97 122 n a = ws.length ∧ ∀ j, j < ws.length → b (a + j) = ws.getD j 0
  · rw [if_pos q, if_pos ⟨q.1, fun j hj => by
      have r3 := h (a + j) (by omega)
      have r4 := hws j hj
      have r5 := q.2 j hj
      rw [r5] at r3
      apply Int32.toInt_inj.mp
      omega⟩]
  · rw [if_neg q, if_neg (fun r => q ⟨r.1, fun j hj => by
      have r3 := h (a + j) (by have := r.1; omega)
      have r4 := hws j hj
      have r5 := r.2 j hj
      rw [r5] at r3
      apply Int32.toInt_inj.mp
      omega⟩)]
theorem zThg_tb {b b' : Nat → Int32} {cd cd' : Nat → Int32} {n m a : Nat} {un : Option Nat} (h : zTb b b' n) (ha : a ≤ n) (hc : ∀ j, j < m → cd j = cd' j) : zThg b n cd m un a = zThg b' n cd' m un a := by
  unfold zThg
  rw [zNum_tb h ha]
  cases zNum b' n 4 4 (nI 0) (nI 9999) a with
  | none => rfl
  | some x => simp only [zFnd_cg hc]
theorem zKnd_tb {b b' : Nat → Int32} {n a : Nat} (h : zTb b b' n) (ha : a ≤ n) : zKnd b n a = zKnd b' n a := by
  unfold zKnd
  rw [zWrd_tb h ha (by decide), zWrd_tb h ha (by decide), zWrd_tb h ha (by decide), zWrd_tb h ha (by decide)]
theorem zRul_tb {b b' : Nat → Int32} {cd cd' : Nat → Int32} {n m a : Nat} (h : zTb b b' n) (ha : a ≤ n) (hc : ∀ j, j < m → cd j = cd' j) : zRul b n cd m a = zRul b' n cd' m a := by
  unfold zRul
  rw [zWrd_tb h ha (by decide), zKnd_tb h ha]
  cases e : zWrd b' n [112, 108, 97, 99, 101] a with
  | some a1 =>
    have h1 := zWrd_le ha e
    simp only
    unfold zPlc
    rw [zThg_tb h h1.2 hc]
    cases e2 : zThg b' n cd' m none a1 with
    | none => rfl
    | some x =>
      have h2 := zThg_le h1.2 e2
      simp only
      rw [zWrd_tb h h2.1.2 (by decide)]
      cases e3 : zWrd b' n [98, 121] x.2 with
      | none => rfl
      | some a2 =>
        have h3 := zWrd_le h2.1.2 e3
        simp only
        rw [zThg_tb h h3.2 hc]
  | none =>
    simp only
    cases e2 : zKnd b' n a with
    | none => rfl
    | some x =>
      have h2 := zKnd_le ha e2
      simp only
      rw [zNum_tb h h2.1.2]
theorem zRls_tb {b b' : Nat → Int32} {cd cd' : Nat → Int32} {n m : Nat} (h : zTb b b' n) (hc : ∀ j, j < m → cd j = cd' j) : ∀ f a D k, a ≤ n → zRls b n cd m f a D k = zRls b' n cd' m f a D k := by
  intro f
  induction f with
  | zero => intro a D k _; rfl
  | succ f ih =>
    intro a D k ha
    simp only [zRls, zRul_tb h ha hc]
    cases e : zRul b' n cd' m a with
    | error p => rfl
    | ok x =>
      have h1 := (zRul_le ha).2 x e
      simp only
      by_cases q : x.1 < n
      · have e2 : ((b x.1).toInt = 59) ↔ ((b' x.1).toInt = 59) := by have := h x.1 q; omega
        have h3 := zS_le (b := b) (n := n) (a := x.1 + 1) (by omega)
        have e3 := ih (zS b n (x.1 + 1)) (zup D x.2.1 x.2.2) (k + 1) h3
        rw [zS_tb h] at e3
        simp only [e2, zS_tb h, e3]
      · simp only [q, false_and, if_false]
/-! letters -/
def zLn1 (b : Nat → Int32) (n a : Nat) : Except Nat (Nat × Int32 × Int32) := match zNum b n 4 4 (nI 0) (nI 9999) a with
  | none => .error a
  | some x => match zWrd b n [120] x.2 with
    | none => .error x.2
    | some a2 => match zNum b n 1 6 (nI 1) (nI 99) a2 with
      | none => .error a2
      | some y => .ok (y.2, x.1, y.1)
def zLin (b : Nat → Int32) (n : Nat) : Nat → Nat → Nat → (Nat → Int32) → (Nat → Int32) → Except Nat (Nat × Nat × (Nat → Int32) × (Nat → Int32))
  | 0, a, l, C, P => .ok (a, l, C, P)
  | f + 1, a, l, C, P => match zLn1 b n a with
    | .error p => .error p
    | .ok x => if f ≠ 0 ∧ x.1 < n ∧ (b x.1).toInt = 44 then zLin b n f (zS b n (x.1 + 1)) (l + 1) (zup C l x.2.1) (zup P l x.2.2) else .ok (x.1, l + 1, zup C l x.2.1, zup P l x.2.2)
/-- a letter but for its end: where it goes on, how many lines, their codes, how many of each, the sum, the money -/
def zLe0 (b : Nat → Int32) (n a : Nat) : Except Nat (Nat × Nat × (Nat → Int32) × (Nat → Int32) × Int32 × Int32) := match zLin b n 8 a 0 (fun _ => 0) (fun _ => 0) with
  | .error p => .error p
  | .ok x => match zWrd b n [115, 117, 109] x.1 with
    | none => .error x.1
    | some a2 => match zNum b n 1 6 (nI 0) (nI 999999) a2 with
      | none => .error a2
      | some s => match zWrd b n [109, 111, 110, 101, 121] s.2 with
        | none => .ok (s.2, x.2.1, x.2.2.1, x.2.2.2, s.1, s.1)
        | some a3 => match zNum b n 1 6 (nI 0) (nI 999999) a3 with
          | none => .error a3
          | some m => .ok (m.2, x.2.1, x.2.2.1, x.2.2.2, s.1, m.1)
def zLet (b : Nat → Int32) (n a : Nat) : Except Nat (Nat × (Nat → Int32) × (Nat → Int32) × Int32 × Int32) := match zLe0 b n a with
  | .error p => .error p
  | .ok x => if x.1 < n then .error x.1 else .ok x.2
theorem zLn1_le {b : Nat → Int32} {n a : Nat} (ha : a ≤ n) : (∀ p, zLn1 b n a = .error p → p ≤ n) ∧ ∀ x, zLn1 b n a = .ok x → a + 1 ≤ x.1 ∧ x.1 ≤ n := by
  unfold zLn1
  cases e : zNum b n 4 4 (nI 0) (nI 9999) a with
  | none => exact ⟨fun p q => by cases q; exact ha, fun x q => by cases q⟩
  | some x =>
    have h1 := zNum_le ha e
    simp only
    cases e2 : zWrd b n [120] x.2 with
    | none => exact ⟨fun p q => by cases q; exact h1.2, fun x q => by cases q⟩
    | some a2 =>
      have h2 := zWrd_le h1.2 e2
      simp only
      cases e3 : zNum b n 1 6 (nI 1) (nI 99) a2 with
      | none => exact ⟨fun p q => by cases q; exact h2.2, fun x q => by cases q⟩
      | some y =>
        have h3 := zNum_le h2.2 e3
        exact ⟨fun p q => (by cases q), fun z q => by cases q; exact ⟨by show a + 1 ≤ y.2; simp at h2; omega, h3.2⟩⟩
theorem zLin_le {b : Nat → Int32} {n : Nat} : ∀ f a l C P, a ≤ n → (∀ p, zLin b n f a l C P = .error p → p ≤ n) ∧ ∀ x, zLin b n f a l C P = .ok x → x.1 ≤ n ∧ x.2.1 ≤ l + f := by
  intro f
  induction f with
  | zero => intro a l C P ha; exact ⟨fun p q => (by cases q), fun x q => by cases q; exact ⟨ha, by show l ≤ l + 0; omega⟩⟩
  | succ f ih =>
    intro a l C P ha
    simp only [zLin]
    cases e : zLn1 b n a with
    | error p => exact ⟨fun p' q => by cases q; exact (zLn1_le ha).1 p e, fun x q => by cases q⟩
    | ok x =>
      have h1 := (zLn1_le ha).2 x e
      simp only
      by_cases q : f ≠ 0 ∧ x.1 < n ∧ (b x.1).toInt = 44
      · rw [if_pos q]
        have h2 := ih (zS b n (x.1 + 1)) (l + 1) (zup C l x.2.1) (zup P l x.2.2) (zS_le (by omega))
        exact ⟨h2.1, fun y hy => by have := h2.2 y hy; omega⟩
      · rw [if_neg q]
        exact ⟨fun p q => (by cases q), fun y hy => by cases hy; exact ⟨h1.2, by show l + 1 ≤ l + (f + 1); omega⟩⟩
theorem zLn1_tb {b b' : Nat → Int32} {n a : Nat} (h : zTb b b' n) (ha : a ≤ n) : zLn1 b n a = zLn1 b' n a := by
  unfold zLn1
  rw [zNum_tb h ha]
  cases e : zNum b' n 4 4 (nI 0) (nI 9999) a with
  | none => rfl
  | some x =>
    have h1 := zNum_le ha e
    simp only
    rw [zWrd_tb h h1.2 (by decide)]
    cases e2 : zWrd b' n [120] x.2 with
    | none => rfl
    | some a2 =>
      have h2 := zWrd_le h1.2 e2
      simp only
      rw [zNum_tb h h2.2]
theorem zLin_tb {b b' : Nat → Int32} {n : Nat} (h : zTb b b' n) : ∀ f a l C P, a ≤ n → zLin b n f a l C P = zLin b' n f a l C P := by
  intro f
  induction f with
  | zero => intro a l C P _; rfl
  | succ f ih =>
    intro a l C P ha
    simp only [zLin, zLn1_tb h ha]
    cases e : zLn1 b' n a with
    | error p => rfl
    | ok x =>
      have h1 := (zLn1_le ha).2 x e
      simp only
      by_cases q : x.1 < n
      · have e2 : ((b x.1).toInt = 44) ↔ ((b' x.1).toInt = 44) := by have := h x.1 q; omega
        have h3 := zS_le (b := b) (n := n) (a := x.1 + 1) (by omega)
        have e3 := ih (zS b n (x.1 + 1)) (l + 1) (zup C l x.2.1) (zup P l x.2.2) h3
        rw [zS_tb h] at e3
        simp only [e2, zS_tb h, e3]
      · simp only [q, false_and, and_false, if_false]
theorem zLe0_tb {b b' : Nat → Int32} {n a : Nat} (h : zTb b b' n) (ha : a ≤ n) : zLe0 b n a = zLe0 b' n a := by
  unfold zLe0
  rw [zLin_tb h 8 a 0 _ _ ha]
  cases e : zLin b' n 8 a 0 (fun _ => 0) (fun _ => 0) with
  | error p => rfl
  | ok x =>
    have h1 := (zLin_le 8 a 0 _ _ ha).2 x e
    simp only
    rw [zWrd_tb h h1.1 (by decide)]
    cases e2 : zWrd b' n [115, 117, 109] x.1 with
    | none => rfl
    | some a2 =>
      have h2 := zWrd_le h1.1 e2
      simp only
      rw [zNum_tb h h2.2]
      cases e3 : zNum b' n 1 6 (nI 0) (nI 999999) a2 with
      | none => rfl
      | some s =>
        have h3 := zNum_le h2.2 e3
        simp only
        rw [zWrd_tb h h3.2 (by decide)]
        cases e4 : zWrd b' n [109, 111, 110, 101, 121] s.2 with
        | none => rfl
        | some a3 =>
          have h4 := zWrd_le h3.2 e4
          simp only
          rw [zNum_tb h h4.2]
theorem zLet_tb {b b' : Nat → Int32} {n a : Nat} (h : zTb b b' n) (ha : a ≤ n) : zLet b n a = zLet b' n a := by
  unfold zLet
  rw [zLe0_tb h ha]
/-! ===== THE CLASS READS ===== -/
def zExc {α : Type} (o : Option α) (a : Nat) : Except Nat α := match o with
  | none => .error a
  | some x => .ok x
/-- a step of the class's reading: what was wrong stays; else the step tells R -/
def zStp (fi u : zFi) {α : Type} (R : Except Nat α) (G : α → Prop) : Prop := (fi 1 3 ≠ -1 → u 1 3 = fi 1 3) ∧ (fi 1 3 = -1 → (∀ p, R = .error p → p ≤ 400 ∧ u 1 3 = nI p) ∧ ∀ x, R = .ok x → u 1 3 = -1 ∧ G x)
theorem zNj {a b : Nat} (ha : a ≤ 400) (hb : b ≤ 400) (h : nI a = nI b) : a = b := by
  have h9 := congrArg Int32.toInt h
  rw [nI_toInt (by omega), nI_toInt (by omega)] at h9
  omega
theorem nI_ne1 {p : Nat} (h : p ≤ 400) : nI p ≠ -1 := fun e => by
  have h9 := congrArg Int32.toInt e
  rw [nI_toInt (by omega)] at h9
  have : (-1 : Int32).toInt = -1 := by decide
  omega
section CX
variable {fi f1 f2 f3 u : zFi} {L a n : Nat}
theorem zRef.keep {x : Int32} (h : zRef fi x u) (q : fi 1 3 ≠ -1) : u 1 3 = fi 1 3 := by
  rcases h with ⟨e, _⟩ | ⟨_, rfl⟩
  · exact absurd e q
  · rfl
theorem zRef.set {x : Int32} (h : zRef fi x u) (q : fi 1 3 = -1) : u 1 3 = x := by
  rcases h with ⟨_, rfl⟩ | ⟨e, _⟩
  · exact zu_s
  · exact absurd q e
theorem zRef.st {α : Type} {G : α → Prop} (h : zRef fi (nI a) u) (ha : a ≤ 400) : zStp fi u (.error a : Except Nat α) G := ⟨h.keep, fun q => ⟨fun p e => by cases e; exact ⟨ha, h.set q⟩, fun x e => (by cases e)⟩⟩
theorem zWrd_yes {b : Nat → Int32} {x : Nat} {ws : List Int32} (h : zWordAt b a L ws) (s : zSkip b (a + ws.length) L x) : zWrd b L ws a = some x := by
  unfold zWrd
  rw [if_pos ⟨h.1.eq.symm, h.2⟩, s.eq]
theorem zWrd_no {b : Nat → Int32} {ws : List Int32} (h : ¬ zWordAt b a L ws) (ha : a ≤ L) : zWrd b L ws a = none := by
  unfold zWrd
  by_cases q : zR b 97 122 L a = ws.length ∧ ∀ j, j < ws.length → b (a + j) = ws.getD j 0
  · exact absurd ⟨q.1 ▸ zR_run ha, q.2⟩ h
  · rw [if_neg q]
theorem zStp.num {p q : Nat} {lo hi r : Int32} (hL : L ≤ 400) (ha : a ≤ L) (h : ∃ k, zRun (fi 2) 48 57 a L k ∧ (((p ≤ k ∧ k ≤ q ∧ lo.toInt ≤ (zDig (fi 2) a k).toInt ∧ (zDig (fi 2) a k).toInt ≤ hi.toInt) ∧ r = zDig (fi 2) a k ∧ ∃ b, u = zu fi 1 2 (nI b) ∧ zSkip (fi 2) (a + k) L b) ∨ (¬ (p ≤ k ∧ k ≤ q ∧ lo.toInt ≤ (zDig (fi 2) a k).toInt ∧ (zDig (fi 2) a k).toInt ≤ hi.toInt) ∧ r = -1 ∧ zRef fi (nI a) u))) : zStp fi u (zExc (zNum (fi 2) L p q lo hi a) a) (fun x => u 1 2 = nI x.2 ∧ r = x.1) := by
  obtain ⟨k, hr, h⟩ := h
  have hk := hr.eq
  subst hk
  rcases h with ⟨c, rfl, b, e, s⟩ | ⟨c, rfl, e⟩
  · have e1 : zNum (fi 2) L p q lo hi a = some (zDig (fi 2) a (zR (fi 2) 48 57 L a), b) := by
      unfold zNum
      rw [if_pos c, ← s.eq]
    rw [e1]
    exact ⟨fun q => by rw [e, zu_n (by omega)], fun q => ⟨fun p e' => (by cases e'), fun x e' => by cases e'; exact ⟨by rw [e, zu_n (by omega)]; exact q, by rw [e]; exact zu_s, rfl⟩⟩⟩
  · have e1 : zNum (fi 2) L p q lo hi a = none := by
      unfold zNum
      rw [if_neg c]
    rw [e1]
    exact e.st (by omega)
theorem zStp.need {ws : List Int32} (hL : L ≤ 400) (ha : a ≤ L) (h : (zWordAt (fi 2) a L ws ∧ ∃ b, u = zu fi 1 2 (nI b) ∧ zSkip (fi 2) (a + ws.length) L b) ∨ (¬ zWordAt (fi 2) a L ws ∧ zRef fi (nI a) u)) : zStp fi u (zExc (zWrd (fi 2) L ws a) a) (fun x => u 1 2 = nI x) := by
  rcases h with ⟨c, b, e, s⟩ | ⟨c, e⟩
  · rw [zWrd_yes c s]
    exact ⟨fun q => by rw [e, zu_n (by omega)], fun q => ⟨fun p e' => (by cases e'), fun x e' => by cases e'; exact ⟨by rw [e, zu_n (by omega)]; exact q, by rw [e]; exact zu_s⟩⟩⟩
  · rw [zWrd_no c ha]
    exact e.st (by omega)
theorem zStp.thgY {t : Nat} {un : Option Nat} {c : Int32} (h : zStp fi f1 (zExc (zNum (fi 2) L 4 4 (nI 0) (nI 9999) a) a) (fun x => f1 1 2 = nI x.2 ∧ c = x.1)) (ht : t < n) (h1 : f1 (300 + t) 1 = c) (h2 : ∀ j, j < t → ¬ f1 (300 + j) 1 = c) (hf : ∀ j, f1 (300 + j) 1 = fi (300 + j) 1) (hu : un ≠ some t) : zStp fi f1 (zExc (zThg (fi 2) L (fun t9 => fi (300 + t9) 1) n un a) a) (fun x => f1 1 2 = nI x.2 ∧ x.1 = t) := by
  refine ⟨h.1, fun q => ?_⟩
  obtain ⟨a1, a2⟩ := h.2 q
  cases e : zNum (fi 2) L 4 4 (nI 0) (nI 9999) a with
  | none =>
    have e1 : zThg (fi 2) L (fun t9 => fi (300 + t9) 1) n un a = none := by unfold zThg; rw [e]
    rw [e] at a1
    rw [e1]
    exact ⟨fun p hp => a1 p (by cases hp; rfl), fun x hx => (by cases hx)⟩
  | some y =>
    rw [e] at a2
    obtain ⟨b1, b2, b3⟩ := a2 y rfl
    have e1 : zThg (fi 2) L (fun t9 => fi (300 + t9) 1) n un a = some (t, y.2) := by
      unfold zThg
      rw [e]
      simp only
      rw [zFnd_yes (cd := fun t9 => fi (300 + t9) 1) (v := y.1) (t := t) (by rw [← hf, h1, b3]) (fun j hj q => h2 j hj (by rw [hf, b3]; exact q)) ht]
      simp only [if_neg hu]
    rw [e1]
    exact ⟨fun p hp => (by cases hp), fun x hx => by cases hx; exact ⟨b1, b2, rfl⟩⟩
theorem zStp.thgN {un : Option Nat} {c : Int32} (hL : L ≤ 400) (ha : a ≤ L) (h : zStp fi f1 (zExc (zNum (fi 2) L 4 4 (nI 0) (nI 9999) a) a) (fun x => f1 1 2 = nI x.2 ∧ c = x.1)) (hno : (∀ j, j < n → ¬ f1 (300 + j) 1 = c) ∨ ∃ t, t < n ∧ f1 (300 + t) 1 = c ∧ (∀ j, j < t → ¬ f1 (300 + j) 1 = c) ∧ un = some t) (hf : ∀ j, f1 (300 + j) 1 = fi (300 + j) 1) (hr : zRef f1 (nI a) u) : zStp fi u (zExc (zThg (fi 2) L (fun t9 => fi (300 + t9) 1) n un a) a) (fun _ => False) := by
  refine ⟨fun q => by rw [hr.keep (by rw [h.1 q]; exact q), h.1 q], fun q => ?_⟩
  obtain ⟨a1, a2⟩ := h.2 q
  have e1 : zThg (fi 2) L (fun t9 => fi (300 + t9) 1) n un a = none ∧ (f1 1 3 = -1 ∨ f1 1 3 = nI a) := by
    cases e : zNum (fi 2) L 4 4 (nI 0) (nI 9999) a with
    | none =>
      rw [e] at a1
      exact ⟨by unfold zThg; rw [e], Or.inr (a1 a rfl).2⟩
    | some y =>
      rw [e] at a2
      obtain ⟨b1, b2, b3⟩ := a2 y rfl
      refine ⟨?_, Or.inl b1⟩
      unfold zThg
      rw [e]
      simp only
      rcases hno with hno | ⟨t, c1, c2, c3, c4⟩
      · rw [zFnd_no (cd := fun t9 => fi (300 + t9) 1) (fun j hj q => hno j hj (by rw [hf, b3]; exact q))]
      · rw [zFnd_yes (cd := fun t9 => fi (300 + t9) 1) (v := y.1) (t := t) (by rw [← hf, c2, b3]) (fun j hj q => c3 j hj (by rw [hf, b3]; exact q)) c1]
        simp only [if_pos c4]
  obtain ⟨e1, e2⟩ := e1
  rw [e1]
  refine ⟨fun p hp => ?_, fun x hx => (by cases hx)⟩
  cases hp
  refine ⟨by omega, ?_⟩
  rcases e2 with e2 | e2
  · exact hr.set e2
  · rw [hr.keep (by rw [e2]; exact nI_ne1 (by omega)), e2]
/-- the draft of the rules: its numbers, and behind them what takes a thing's place -/
def zDft (fi : zFi) : Nat → Int32 := fun k => if k < 4 then fi 13 k else if k < 34 then fi 14 (k - 4) else 0
def zDru (fi : zFi) : Nat → Int32 := fun k => if k < 4 then fi 10 k else if k < 34 then fi 11 (k - 4) else 0
theorem zDft_cg {f g : zFi} (h : ∀ i k, i = 13 ∨ i = 14 → f i k = g i k) : zDft f = zDft g := by
  funext k
  simp only [zDft, h 13 k (by omega), h 14 (k - 4) (by omega)]
theorem zDru_cg {f g : zFi} (h : ∀ i k, i = 10 ∨ i = 11 → f i k = g i k) : zDru f = zDru g := by
  funext k
  simp only [zDru, h 10 k (by omega), h 11 (k - 4) (by omega)]
theorem zDft_num {f g : zFi} {k : Nat} {v : Int32} (hk : k < 4) (e : g = zu f 13 k v) : zDft g = zup (zDft f) k v := by
  funext j
  simp only [zDft, zup, e, zu]
  repeat' split
  all_goals first | rfl | omega | (simp_all; done) | (exfalso; simp_all; omega)
theorem zDft_plc {f g : zFi} {t : Nat} {v : Int32} (hk : t < 30) (e : g = zu f 14 t v) : zDft g = zup (zDft f) (4 + t) v := by
  funext j
  simp only [zDft, zup, e, zu]
  repeat' split
  all_goals first | rfl | omega | (simp_all; done) | (exfalso; simp_all; omega)
theorem zStp.plcY {a1 a2 t1 : Nat} {G3 : Nat × Nat → Prop} (hL : L ≤ 400) (ha : a ≤ L) (h1 : zStp fi f1 (zExc (zThg (fi 2) L (fun t9 => fi (300 + t9) 1) n none a) a) (fun x => f1 1 2 = nI x.2 ∧ x.1 = t1)) (p1 : f1 1 2 = nI a1) (q1 : a1 ≤ L) (e1 : f1 2 = fi 2) (h2 : zStp f1 f2 (zExc (zWrd (f1 2) L [98, 121] a1) a1) (fun x => f2 1 2 = nI x)) (p2 : f2 1 2 = nI a2) (q2 : a2 ≤ L) (e2 : f2 2 = fi 2) (e3 : (fun t9 => f2 (300 + t9) 1) = fun t9 => fi (300 + t9) 1) (h3 : zStp f2 f3 (zExc (zThg (f2 2) L (fun t9 => f2 (300 + t9) 1) n (some t1) a2) a2) G3) (k3 : u 1 3 = f3 1 3) (hG : ∀ y, G3 y → u 1 2 = nI y.2 ∧ zDft u = zup (zDft fi) (4 + t1) (nI y.1)) : zStp fi u (zPlc (fi 2) L (fun t9 => fi (300 + t9) 1) n a) (fun xx => u 1 2 = nI xx.1 ∧ zDft u = zup (zDft fi) xx.2.1 xx.2.2) := by
  rw [e1] at h2
  rw [e2, e3] at h3
  refine ⟨fun q => ?_, fun q => ?_⟩
  · have k1 := h1.1 q
    have k2 := h2.1 (by rw [k1]; exact q)
    rw [k3, h3.1 (by rw [k2, k1]; exact q), k2, k1]
  · obtain ⟨b1, b2⟩ := h1.2 q
    unfold zPlc
    cases e : zThg (fi 2) L (fun t9 => fi (300 + t9) 1) n none a with
    | none =>
      rw [e] at b1
      obtain ⟨c1, c2⟩ := b1 a rfl
      have n1 : f1 1 3 ≠ -1 := by rw [c2]; exact nI_ne1 c1
      have k2 := h2.1 n1
      have k4 := h3.1 (by rw [k2]; exact n1)
      exact ⟨fun p hp => by cases hp; exact ⟨c1, by rw [k3, k4, k2, c2]⟩, fun x hx => (by cases hx)⟩
    | some x =>
      rw [e] at b2
      obtain ⟨c1, c2, c3⟩ := b2 x rfl
      have l1 := (zThg_le ha e).1.2
      have ex : a1 = x.2 := zNj (by omega) (by omega) (p1.symm.trans c2)
      subst ex
      simp only
      obtain ⟨d1, d2⟩ := h2.2 c1
      cases e4 : zWrd (fi 2) L [98, 121] x.2 with
      | none =>
        rw [e4] at d1
        obtain ⟨g1, g2⟩ := d1 x.2 rfl
        have n1 : f2 1 3 ≠ -1 := by rw [g2]; exact nI_ne1 g1
        exact ⟨fun p hp => by cases hp; exact ⟨g1, by rw [k3, h3.1 n1, g2]⟩, fun x hx => (by cases hx)⟩
      | some y =>
        rw [e4] at d2
        obtain ⟨g1, g2⟩ := d2 y rfl
        have l2 := (zWrd_le l1 e4).2
        have ey : a2 = y := zNj (by omega) (by omega) (p2.symm.trans g2)
        subst ey
        simp only
        obtain ⟨m1, m2⟩ := h3.2 g1
        rw [c3]
        cases e5 : zThg (fi 2) L (fun t9 => fi (300 + t9) 1) n (some t1) a2 with
        | none =>
          rw [e5] at m1
          obtain ⟨o1, o2⟩ := m1 a2 rfl
          exact ⟨fun p hp => by cases hp; exact ⟨o1, by rw [k3, o2]⟩, fun x hx => (by cases hx)⟩
        | some z =>
          rw [e5] at m2
          obtain ⟨o1, o2⟩ := m2 z rfl
          obtain ⟨o3, o4⟩ := hG z o2
          exact ⟨fun p hp => (by cases hp), fun x hx => by cases hx; exact ⟨by rw [k3, o1], o3, o4⟩⟩
theorem zStp.plcN {G : Nat × Nat × Int32 → Prop} (h1 : zStp fi f1 (zExc (zThg (fi 2) L (fun t9 => fi (300 + t9) 1) n none a) a) (fun _ => False)) (k2 : f1 1 3 ≠ -1 → f2 1 3 = f1 1 3) (k3 : f2 1 3 ≠ -1 → f3 1 3 = f2 1 3) (k4 : u 1 3 = f3 1 3) : zStp fi u (zPlc (fi 2) L (fun t9 => fi (300 + t9) 1) n a) G := by
  refine ⟨fun q => ?_, fun q => ?_⟩
  · have k1 := h1.1 q
    have k5 := k2 (by rw [k1]; exact q)
    rw [k4, k3 (by rw [k5, k1]; exact q), k5, k1]
  · obtain ⟨b1, b2⟩ := h1.2 q
    unfold zPlc
    cases e : zThg (fi 2) L (fun t9 => fi (300 + t9) 1) n none a with
    | none =>
      rw [e] at b1
      obtain ⟨c1, c2⟩ := b1 a rfl
      have n1 : f1 1 3 ≠ -1 := by rw [c2]; exact nI_ne1 c1
      have k5 := k2 n1
      exact ⟨fun p hp => by cases hp; exact ⟨c1, by rw [k4, k3 (by rw [k5]; exact n1), k5, c2]⟩, fun x hx => (by cases hx)⟩
    | some x =>
      rw [e] at b2
      exact absurd (b2 x rfl).2 id
theorem zStp.rulP {b : Nat} (hw : zWrd (fi 2) L [112, 108, 97, 99, 101] a = some b) (e : f1 = zu fi 1 2 (nI b)) (h : zStp f1 u (zPlc (f1 2) L (fun t9 => f1 (300 + t9) 1) n b) (fun xx => u 1 2 = nI xx.1 ∧ zDft u = zup (zDft f1) xx.2.1 xx.2.2)) : zStp fi u (zRul (fi 2) L (fun t9 => fi (300 + t9) 1) n a) (fun xx => u 1 2 = nI xx.1 ∧ zDft u = zup (zDft fi) xx.2.1 xx.2.2) := by
  have e1 : f1 2 = fi 2 := by funext k; rw [e, zu_n (by omega)]
  have e2 : (fun t9 => f1 (300 + t9) 1) = fun t9 => fi (300 + t9) 1 := by funext k; rw [e, zu_n (by omega)]
  have e3 : zDft f1 = zDft fi := zDft_cg (fun i k q => by rw [e, zu_n (by omega)])
  have e4 : f1 1 3 = fi 1 3 := by rw [e, zu_n (by omega)]
  unfold zRul
  rw [hw]
  unfold zStp at h
  rw [e1, e2, e3, e4] at h
  exact h
theorem zStp.rulX {G : Nat × Nat × Int32 → Prop} (hL : L ≤ 400) (ha : a ≤ L) (hw : zWrd (fi 2) L [112, 108, 97, 99, 101] a = none) (hk : zKnd (fi 2) L a = none) (h : zRef fi (nI a) u) : zStp fi u (zRul (fi 2) L (fun t9 => fi (300 + t9) 1) n a) G := by
  unfold zRul
  rw [hw]
  simp only [hk]
  exact h.st (by omega)
theorem zStp.rulK {k x : Nat} {r hi : Int32} (hL : L ≤ 400) (ha : a ≤ L) (hw : zWrd (fi 2) L [112, 108, 97, 99, 101] a = none) (hk : zKnd (fi 2) L a = some (k, x)) (hk4 : k < 4) (e : f1 = zu fi 1 2 (nI x)) (hhi : hi = zMost k) (h : zStp f1 f2 (zExc (zNum (f1 2) L 1 6 (nI 0) hi x) x) (fun y => f2 1 2 = nI y.2 ∧ r = y.1)) (hd : zDft f2 = zDft f1) (eu : u = zu f2 13 k r) : zStp fi u (zRul (fi 2) L (fun t9 => fi (300 + t9) 1) n a) (fun xx => u 1 2 = nI xx.1 ∧ zDft u = zup (zDft fi) xx.2.1 xx.2.2) := by
  have e1 : f1 2 = fi 2 := by funext k; rw [e, zu_n (by omega)]
  have e3 : zDft f1 = zDft fi := zDft_cg (fun i k q => by rw [e, zu_n (by omega)])
  have e4 : f1 1 3 = fi 1 3 := by rw [e, zu_n (by omega)]
  have e5 : u 1 3 = f2 1 3 := by rw [eu, zu_n (by omega)]
  rw [e1, hhi] at h
  refine ⟨fun q => by rw [e5, h.1 (by rw [e4]; exact q), e4], fun q => ?_⟩
  obtain ⟨b1, b2⟩ := h.2 (by rw [e4]; exact q)
  unfold zRul
  rw [hw]
  simp only [hk]
  cases e6 : zNum (fi 2) L 1 6 (nI 0) (zMost k) x with
  | none =>
    rw [e6] at b1
    obtain ⟨c1, c2⟩ := b1 x rfl
    exact ⟨fun p hp => by cases hp; exact ⟨c1, by rw [e5, c2]⟩, fun x hx => (by cases hx)⟩
  | some y =>
    rw [e6] at b2
    obtain ⟨c1, c2, c3⟩ := b2 y rfl
    refine ⟨fun p hp => (by cases hp), fun z hz => ?_⟩
    cases hz
    refine ⟨by rw [e5, c1], by rw [eu, zu_n (by omega)]; exact c2, ?_⟩
    rw [zDft_num hk4 eu, hd, e3, c3]
/-- the class in its loop over the rules; T: what the whole text tells -/
def zLi (T : Except Nat (Nat × (Nat → Int32))) (bs cd : Nat → Int32) (L n i : Nat) (y : Int32) (b : Nat) (f : zFi) : Prop := (∃ p, p ≤ 400 ∧ f 1 3 = nI p ∧ T = .error p) ∨ (f 1 3 = -1 ∧ ((y = nI 1 ∧ 2 * i ≤ b ∧ T = zRls bs L cd n (401 - i) b (zDft f) i) ∨ (y = nI 0 ∧ ((b < L ∧ T = .error b) ∨ (b = L ∧ T = .ok (i, zDft f))))))
theorem zLi.step {T : Except Nat (Nat × (Nat → Int32))} {bs cd : Nat → Int32} {i b b1 b2 : Nat} {y r x : Int32} {f : zFi} (hL : L ≤ 400) (hb : b ≤ L) (hi : i < 400) (h : zLi T bs cd L n i y b f) (hy : ¬ y.toInt = 0) (eb : f 2 = bs) (ec : (fun t9 => f (300 + t9) 1) = cd) (hs : zStp f f1 (zRul (f 2) L (fun t9 => f (300 + t9) 1) n b) (fun xx => f1 1 2 = nI xx.1 ∧ zDft f1 = zup (zDft f) xx.2.1 xx.2.2)) (p1 : f1 1 2 = nI b1) (q1 : b1 ≤ L) (eb1 : f1 2 = bs) (hx : x.toInt = 59) (hg : (r = 1 ∧ b1 < L ∧ f1 2 b1 = x ∧ ∃ b, f2 = zu f1 1 2 (nI b) ∧ zSkip (f1 2) (b1 + 1) L b) ∨ (r = 0 ∧ f2 = f1 ∧ (b1 < L → ¬ f1 2 b1 = x))) (p2 : f2 1 2 = nI b2) (q2 : b2 ≤ L) : zLi T bs cd L n (i + 1) r b2 f2 := by
  have e3 : f2 1 3 = f1 1 3 := by
    rcases hg with ⟨-, -, -, b, e, -⟩ | ⟨-, e, -⟩
    · rw [e, zu_n (by omega)]
    · rw [e]
  rw [eb, ec] at hs
  rcases h with ⟨p, c1, c2, c3⟩ | ⟨c1, h⟩
  · exact Or.inl ⟨p, c1, by rw [e3, hs.1 (by rw [c2]; exact nI_ne1 c1), c2], c3⟩
  · rcases h with ⟨-, c2, c3⟩ | ⟨c2, -⟩
    · obtain ⟨d1, d2⟩ := hs.2 c1
      rw [show 401 - i = (401 - (i + 1)) + 1 by omega] at c3
      simp only [zRls] at c3
      cases e : zRul bs L cd n b with
      | error p =>
        rw [e] at c3
        obtain ⟨g1, g2⟩ := d1 p e
        exact Or.inl ⟨p, g1, by rw [e3, g2], c3⟩
      | ok z =>
        rw [e] at c3
        simp only at c3
        obtain ⟨g1, g2, g3⟩ := d2 z e
        have l1 := ((zRul_le hb).2 z e).1
        have ez : b1 = z.1 := zNj (by omega) (by omega) (p1.symm.trans g2)
        subst ez
        rw [eb1] at hg
        refine Or.inr ⟨by rw [e3, g1], ?_⟩
        rcases hg with ⟨r1, r2, r3, bb, r4, r5⟩ | ⟨r1, r2, r3⟩
        · have e4 : zDft f2 = zDft f1 := zDft_cg (fun i k q => by rw [r4, zu_n (by omega)])
          rw [if_pos ⟨r2, by rw [r3]; exact hx⟩] at c3
          have l2 := r5.1
          have l3 := r5.2.1
          have eb2 : b2 = bb := zNj (by omega) (by omega) (p2.symm.trans (by rw [r4, zu_s]))
          subst eb2
          exact Or.inl ⟨by rw [r1]; rfl, by omega, by rw [c3, ← r5.eq, e4, g3]⟩
        · have hne : ¬ (z.1 < L ∧ (bs z.1).toInt = 59) := fun q => r3 q.1 (by apply Int32.toInt_inj.mp; rw [hx]; exact q.2)
          rw [if_neg hne] at c3
          have eb2 : b2 = z.1 := zNj (by omega) (by omega) (p2.symm.trans (by rw [r2]; exact p1))
          subst eb2
          refine Or.inr ⟨by rw [r1]; rfl, ?_⟩
          by_cases q : z.1 < L
          · rw [if_pos q] at c3
            exact Or.inl ⟨q, c3⟩
          · rw [if_neg q] at c3
            exact Or.inr ⟨by omega, by rw [c3, r2, g3]⟩
    · exact absurd (by rw [c2]; decide) hy
theorem zDru_of {g : zFi} (h : u = fun i j => if i = 11 ∧ j < 30 then g 14 j else if i = 10 ∧ j < 4 then g 13 j else g i j) : zDru u = zDft g := by
  funext k
  simp only [zDru, zDft, h]
  repeat' split
  all_goals first | rfl | omega | (simp_all; done) | (exfalso; simp_all; omega)
theorem zDft_of {g : zFi} (h : g = fun i j => if i = 14 ∧ j < 30 then fi 11 j else if i = 13 ∧ j < 4 then fi 10 j else fi i j) : zDft g = zDru fi := by
  funext k
  simp only [zDru, zDft, h]
  repeat' split
  all_goals first | rfl | omega | (simp_all; done) | (exfalso; simp_all; omega)
theorem zLi.init {cd : Nat → Int32} {g f : zFi} {b : Nat} (h : g = fun i j => if i = 14 ∧ j < 30 then fi 11 j else if i = 13 ∧ j < 4 then fi 10 j else fi i j) (e7 : f = zu (zu g 1 3 (-1)) 1 2 (nI b)) (h7 : zSkip (g 2) 0 L b) : zRls (fi 2) L cd n 401 (zS (fi 2) L 0) (zDru fi) 0 = zRls (fi 2) L cd n (401 - 0) b (zDft f) 0 := by
  have e1 : g 2 = fi 2 := by funext k; rw [h]; show (if _ then _ else if _ then _ else _) = _; rw [if_neg (by omega), if_neg (by omega)]
  have e2 : zDft f = zDru fi := by rw [← zDft_of h]; exact zDft_cg (fun i k q => by rw [e7, zu_n (by omega), zu_n (by omega)])
  rw [e1] at h7
  rw [e2, h7.eq]
theorem zLi.exit {T : Except Nat (Nat × (Nat → Int32))} {bs cd : Nat → Int32} {i b : Nat} {y w : Int32} {f : zFi} (hL : L ≤ 400) (hb : b ≤ L) (h : zLi T bs cd L n i y b f) (hy : 400 ≤ i ∨ y.toInt = 0) (hc : (¬ f 1 3 = -1 ∧ w = f 1 3) ∨ (f 1 3 = -1 ∧ b < L ∧ w = nI b) ∨ (f 1 3 = -1 ∧ b = L ∧ w = -1)) : (∃ p, p ≤ 400 ∧ w = nI p ∧ T = .error p) ∨ (w = -1 ∧ T = .ok (i, zDft f)) := by
  rcases h with ⟨p, c1, c2, c3⟩ | ⟨c1, h⟩
  · rcases hc with ⟨-, d2⟩ | ⟨d1, -⟩ | ⟨d1, -⟩
    · exact Or.inl ⟨p, c1, by rw [d2, c2], c3⟩
    · exact absurd (c2.symm.trans d1) (nI_ne1 c1)
    · exact absurd (c2.symm.trans d1) (nI_ne1 c1)
  · rcases h with ⟨c2, c3, c4⟩ | ⟨c2, c3⟩
    · exfalso
      rw [c2] at hy
      rcases hy with hy | hy
      · omega
      · exact absurd hy (by decide)
    · rcases hc with ⟨d1, -⟩ | ⟨-, d1, d2⟩ | ⟨-, d1, d2⟩
      · exact absurd c1 d1
      · rcases c3 with ⟨c3, c4⟩ | ⟨c3, -⟩
        · exact Or.inl ⟨b, by omega, d2, c4⟩
        · omega
      · rcases c3 with ⟨c3, -⟩ | ⟨c3, c4⟩
        · omega
        · exact Or.inr ⟨d2, c4⟩
end CX
def zNn (d : Nat → Nat) : Nat → Nat
  | 0 => 0
  | k + 1 => zNn d k * 256 + d k
theorem zNn_lt {d : Nat → Nat} : ∀ k, (∀ j, j < k → d j < 256) → zNn d k < 256 ^ k := by
  intro k
  induction k with
  | zero => intro _; show 0 < 1; omega
  | succ k ih =>
    intro h
    have h1 := ih (fun j q => h j (by omega))
    have h2 := h k (by omega)
    show zNn d k * 256 + d k < 256 ^ (k + 1)
    rw [Nat.pow_succ]
    omega
theorem zNn_inj {d e : Nat → Nat} : ∀ k k', (∀ j, j < k → 0 < d j ∧ d j < 256) → (∀ j, j < k' → 0 < e j ∧ e j < 256) → zNn d k = zNn e k' → k = k' ∧ ∀ j, j < k → d j = e j := by
  intro k
  induction k with
  | zero =>
    intro k' _ h2 h
    cases k' with
    | zero => exact ⟨rfl, fun j q => absurd q (by omega)⟩
    | succ k' =>
      have := h2 k' (by omega)
      have : (0 : Nat) = zNn e k' * 256 + e k' := h
      omega
  | succ k ih =>
    intro k' h1 h2 h
    cases k' with
    | zero =>
      have := h1 k (by omega)
      have : zNn d k * 256 + d k = 0 := h
      omega
    | succ k' =>
      have a1 := h1 k (by omega)
      have a2 := h2 k' (by omega)
      have a3 : zNn d k * 256 + d k = zNn e k' * 256 + e k' := h
      obtain ⟨b1, b2⟩ := ih k' (fun j q => h1 j (by omega)) (fun j q => h2 j (by omega)) (by omega)
      subst b1
      refine ⟨rfl, fun j q => ?_⟩
      by_cases c : j = k
      · subst c; omega
      · exact b2 j (by omega)
/-- a word's bytes in one number -/
def zLv (b : Nat → Int32) (a : Nat) : Nat → Int64
  | 0 => 0
  | k + 1 => zLv b a k <<< ((nI 8).toInt64 &&& 63) ||| (b (a + k)).toInt64
theorem zShl {N y : Nat} (hN : N < 2 ^ 48) (hy : y < 256) : Int64.ofNat N <<< ((nI 8).toInt64 &&& 63) ||| Int64.ofNat y = Int64.ofNat (N * 256 + y) := by
  have e8 : (nI 8).toInt64 &&& 63 = 8 := by decide
  rw [e8]
  apply Int64.toBitVec_inj.mp
  rw [Int64.toBitVec_or, Int64.toBitVec_shiftLeft]
  have e9 : BitVec.smod (8 : Int64).toBitVec 64 = 8#64 := by decide
  rw [e9]
  apply BitVec.eq_of_toNat_eq
  simp only [BitVec.toNat_or, BitVec.shiftLeft_eq', BitVec.toNat_shiftLeft, BitVec.toNat_ofNat, Int64.toBitVec_ofNat']
  rw [Nat.mod_eq_of_lt (show N < 2 ^ 64 by omega), Nat.mod_eq_of_lt (show y < 2 ^ 64 by omega), Nat.mod_eq_of_lt (show 8 < 2 ^ 64 by omega), Nat.mod_eq_of_lt (show N * 256 + y < 2 ^ 64 by omega), Nat.mod_eq_of_lt (show N <<< 8 < 2 ^ 64 by rw [Nat.shiftLeft_eq]; omega)]
  rw [← Nat.shiftLeft_add_eq_or_of_lt (show y < 2 ^ 8 by omega), Nat.shiftLeft_eq]
theorem zI64 {x : Int32} {y : Nat} (h : x.toInt = (y : Int)) : x.toInt64 = Int64.ofNat y := by
  apply Int64.toInt_inj.mp
  rw [Int32.toInt_toInt64, h]
  have := x.toInt_lt
  rw [Int64.toInt_ofNat_of_lt (by omega)]
theorem zOfN {N M : Nat} (hN : N < 2 ^ 56) (hM : M < 2 ^ 56) (h : Int64.ofNat N = Int64.ofNat M) : N = M := by
  have h9 := congrArg Int64.toInt h
  rw [Int64.toInt_ofNat_of_lt (by omega), Int64.toInt_ofNat_of_lt (by omega)] at h9
  omega
theorem zLv_nat {b : Nat → Int32} {a : Nat} : ∀ k, k ≤ 7 → (∀ j, j < k → 97 ≤ (b (a + j)).toInt ∧ (b (a + j)).toInt ≤ 122) → zLv b a k = Int64.ofNat (zNn (fun j => (b (a + j)).toInt.toNat) k) := by
  intro k
  induction k with
  | zero => intro _ _; rfl
  | succ k ih =>
    intro hk h
    have h1 := zNn_lt (d := fun j => (b (a + j)).toInt.toNat) k (fun j q => by have := h j (by omega); show (b (a + j)).toInt.toNat < 256; omega)
    have h2 := h k (by omega)
    have h3 : 256 ^ k ≤ 256 ^ 6 := Nat.pow_le_pow_right (by omega) (by omega)
    show zLv b a k <<< ((nI 8).toInt64 &&& 63) ||| (b (a + k)).toInt64 = Int64.ofNat (zNn (fun j => (b (a + j)).toInt.toNat) k * 256 + (b (a + k)).toInt.toNat)
    rw [ih (by omega) (fun j q => h j (by omega)), zI64 (x := b (a + k)) (y := (b (a + k)).toInt.toNat) (by omega)]
    have h4 : (256 : Nat) ^ 6 = 2 ^ 48 := by rw [show (256 : Nat) = 2 ^ 8 from rfl, ← Nat.pow_mul]
    exact zShl (by omega) (by omega)
/-- the word that stands at c, as the reference tells it -/
def zOKw (b : Nat → Int32) (c L : Nat) (wd : Int64) : Prop := ∃ k, zRun b 97 122 c L k ∧ 1 ≤ k ∧ k ≤ 7 ∧ zLv b c k = wd
def zWs (ws : List Int32) (wd : Int64) : Prop := (∀ j, j < ws.length → 97 ≤ (ws.getD j 0).toInt ∧ (ws.getD j 0).toInt ≤ 122) ∧ (1 ≤ ws.length ∧ ws.length ≤ 7) ∧ wd = Int64.ofNat (zNn (fun j => (ws.getD j 0).toInt.toNat) ws.length)
theorem zP56 {k N : Nat} (hk : k ≤ 7) (h : N < 256 ^ k) : N < 2 ^ 56 := by
  have l3 : 256 ^ k ≤ 256 ^ 7 := Nat.pow_le_pow_right (by omega) (by omega)
  have p7 : (256 : Nat) ^ 7 = 2 ^ 56 := by rw [show (256 : Nat) = 2 ^ 8 from rfl, ← Nat.pow_mul]
  rw [p7] at l3
  exact Nat.lt_of_lt_of_le h l3
theorem zOKw.yes {b : Nat → Int32} {c L : Nat} {wd : Int64} {ws : List Int32} (hw : zWs ws wd) (h : zOKw b c L wd) : zRun b 97 122 c L ws.length ∧ zWrd b L ws c = some (zS b L (c + ws.length)) := by
  obtain ⟨k, h1, h2, h3, h4⟩ := h
  obtain ⟨w1, ⟨w2, w3⟩, w4⟩ := hw
  have hr : ∀ j, j < k → 97 ≤ (b (c + j)).toInt ∧ (b (c + j)).toInt ≤ 122 := fun j q => h1.2.1 (c + j) (by omega) (by omega)
  rw [zLv_nat k h3 hr, w4] at h4
  have l1 := zNn_lt (d := fun j => (b (c + j)).toInt.toNat) k (fun j q => by have := hr j q; show (b (c + j)).toInt.toNat < 256; omega)
  have l2 := zNn_lt (d := fun j => (ws.getD j 0).toInt.toNat) ws.length (fun j q => by have := w1 j q; show (ws.getD j 0).toInt.toNat < 256; omega)
  have h5 := zOfN (zP56 h3 l1) (zP56 w3 l2) h4
  clear l1 l2 h4
  obtain ⟨a1, a2⟩ := zNn_inj k ws.length (fun j q => by have := hr j q; show 0 < (b (c + j)).toInt.toNat ∧ (b (c + j)).toInt.toNat < 256; omega) (fun j q => by have := w1 j q; show 0 < (ws.getD j 0).toInt.toNat ∧ (ws.getD j 0).toInt.toNat < 256; omega) h5
  subst a1
  refine ⟨h1, ?_⟩
  unfold zWrd
  rw [if_pos ⟨h1.eq.symm, fun j q => by
    have q1 : (b (c + j)).toInt.toNat = (ws.getD j 0).toInt.toNat := a2 j q
    have q2 := hr j q
    have q3 := w1 j q
    apply Int32.toInt_inj.mp
    omega⟩]
theorem zNn_cg {d e : Nat → Nat} : ∀ k, (∀ j, j < k → d j = e j) → zNn d k = zNn e k := by
  intro k
  induction k with
  | zero => intro _; rfl
  | succ k ih =>
    intro h
    show zNn d k * 256 + d k = zNn e k * 256 + e k
    rw [ih (fun j q => h j (by omega)), h k (by omega)]
theorem zOKw.no {b : Nat → Int32} {c L : Nat} {wd : Int64} {ws : List Int32} (hc : c ≤ L) (hw : zWs ws wd) (h : ¬ zOKw b c L wd) : zWrd b L ws c = none := by
  unfold zWrd
  by_cases q : zR b 97 122 L c = ws.length ∧ ∀ j, j < ws.length → b (c + j) = ws.getD j 0
  · exfalso
    obtain ⟨w1, ⟨w2, w3⟩, w4⟩ := hw
    have hr : zRun b 97 122 c L ws.length := q.1 ▸ zR_run hc
    have e0 := zLv_nat (b := b) (a := c) ws.length w3 (fun j q => hr.2.1 (c + j) (by omega) (by omega))
    have e1 : zNn (fun j => (b (c + j)).toInt.toNat) ws.length = zNn (fun j => (ws.getD j 0).toInt.toNat) ws.length := zNn_cg ws.length (fun j hj => by show (b (c + j)).toInt.toNat = (ws.getD j 0).toInt.toNat; rw [q.2 j hj])
    exact h ⟨ws.length, hr, w2, w3, e0.trans ((congrArg Int64.ofNat e1).trans w4.symm)⟩
  · rw [if_neg q]
theorem zDig_m {b : Nat → Int32} {c k : Nat} {v w1 w2 w3 : Int32} (h : v = zDig b c k) (e1 : w1 = nI 10 * v) (e2 : w2 = w1 + b (c + k)) (e3 : w3 = w2 - nI 48) : w3 = zDig b c (k + 1) := by
  rw [e3, e2, e1, h, Int32.mul_comm]
  rfl
/-- a number that the reference has read -/
theorem zNumM {b : Nat → Int32} {L c k p q : Nat} {lo hi v : Int32} (hc : c + k ≤ L) (hk : k ≤ q + 1) (hd : ∀ j, c ≤ j → j < c + k → 48 ≤ (b j).toInt ∧ (b j).toInt ≤ 57) (hv : v = zDig b c k) (hx : k ≤ q → c + k < L → ¬ (48 ≤ (b (c + k)).toInt ∧ (b (c + k)).toInt ≤ 57)) : ((p ≤ k ∧ k ≤ q ∧ lo.toInt ≤ v.toInt ∧ v.toInt ≤ hi.toInt) → zNum b L p q lo hi c = some (v, zS b L (c + k))) ∧ (¬ (p ≤ k ∧ k ≤ q ∧ lo.toInt ≤ v.toInt ∧ v.toInt ≤ hi.toInt) → zNum b L p q lo hi c = none) := by
  have e1 : (48 : Int32).toInt = 48 := by decide
  have e2 : (57 : Int32).toInt = 57 := by decide
  by_cases h : k ≤ q
  · have hr : zRun b 48 57 c L k := ⟨hc, fun j a1 a2 => by have := hd j a1 a2; omega, fun a1 => by have := hx h a1; omega⟩
    have e := hr.eq
    unfold zNum
    rw [← e, ← hv]
    exact ⟨fun c1 => by rw [if_pos c1], fun c1 => by rw [if_neg c1]⟩
  · have hr := zR_run (b := b) (lo := 48) (hi := 57) (n := L) (a := c) (by omega)
    have : k ≤ zR b 48 57 L c := by
      rcases Nat.lt_or_ge (zR b 48 57 L c) k with g | g
      · exfalso
        have := hd (c + zR b 48 57 L c) (by omega) (by omega)
        exact hr.2.2 (by omega) (by omega)
      · exact g
    unfold zNum
    exact ⟨fun c1 => absurd c1.2.1 h, fun _ => by rw [if_neg (fun c1 => by have := c1.2.1; omega)]⟩
theorem zRun.wd {b : Nat → Int32} {a n c : Nat} (h1 : a ≤ c) (h2 : c ≤ n) (hj : ∀ j, a ≤ j → j < c → 97 ≤ (b j).toInt ∧ (b j).toInt ≤ 122) (hx : c < n → ¬ (97 ≤ (b c).toInt ∧ (b c).toInt ≤ 122)) : zRun b 97 122 a n (c - a) := by
  have e1 : (97 : Int32).toInt = 97 := by decide
  have e2 : (122 : Int32).toInt = 122 := by decide
  refine ⟨by omega, fun j p q => by have := hj j p (by omega); omega, fun p => ?_⟩
  rw [show a + (c - a) = c by omega] at p ⊢
  have := hx p
  omega
theorem zLv_s {b : Nat → Int32} {c i : Nat} {ww v1 v2 v3 : Int64} (hc : c ≤ i) (h : ww = zLv b c (i - c)) (e1 : v1 = ww <<< ((nI 8).toInt64 &&& 63)) (e2 : v2 = (b i).toInt64) (e3 : v3 = v1 ||| v2) : v3 = zLv b c (i + 1 - c) := by
  rw [show i + 1 - c = (i - c) + 1 by omega, e3, e2, e1, h]
  show _ = zLv b c (i - c) <<< _ ||| (b (c + (i - c))).toInt64
  rw [show c + (i - c) = i by omega]
theorem zLc {x y : Int64} (h : (lg_cmp x y).toInt = 0) : x = y := by
  unfold lg_cmp at h
  split at h
  · exact absurd h (by decide)
  · split at h
    · assumption
    · exact absurd h (by decide)
section RX
variable {b cd : Nat → Int32} {L n a t x : Nat} {un : Option Nat} {v : Int32}
theorem zThg_0 (h : zNum b L 4 4 (nI 0) (nI 9999) a = none) : zThg b L cd n un a = none := by unfold zThg; rw [h]
theorem zThg_1 (h : zNum b L 4 4 (nI 0) (nI 9999) a = some (v, x)) (hno : ∀ j, j < n → ¬ cd j = v) : zThg b L cd n un a = none := by unfold zThg; rw [h]; simp only [zFnd_no hno]
theorem zThg_2 (h : zNum b L 4 4 (nI 0) (nI 9999) a = some (v, x)) (ht : t < n) (e : cd t = v) (hl : ∀ j, j < t → ¬ cd j = v) (hu : un = some t) : zThg b L cd n un a = none := by unfold zThg; rw [h]; simp only [zFnd_yes e hl ht, if_pos hu]
theorem zThg_3 (h : zNum b L 4 4 (nI 0) (nI 9999) a = some (v, x)) (ht : t < n) (e : cd t = v) (hl : ∀ j, j < t → ¬ cd j = v) (hu : un ≠ some t) : zThg b L cd n un a = some (t, x) := by unfold zThg; rw [h]; simp only [zFnd_yes e hl ht, if_neg hu]
theorem zOKw.yesE {c e p : Nat} {wd : Int64} {ws : List Int32} (hw : zWs ws wd) (h : zOKw b c L wd) (hr : zRun b 97 122 c L (e - c)) (hc : c ≤ e) (hk : c = p) : zWrd b L ws p = some (zS b L e) := by
  obtain ⟨h1, h2⟩ := h.yes hw
  have h3 := zRun_one hr h1
  rw [← hk, h2, show c + ws.length = e by omega]
/-- the reference's draft of the rules -/
def zDmo (fi : zFi) : Nat → Int32 := fun k => if k < 4 then fi 45 k else if k < 34 then fi 46 (k - 4) else 0
def zDot (fi : zFi) : Nat → Int32 := fun k => if k < 4 then fi 44 k else if k < 34 then fi 40 (k - 4) else 0
theorem zDmo_cg {f g : zFi} (h : ∀ i k, i = 45 ∨ i = 46 → f i k = g i k) : zDmo f = zDmo g := by
  funext k
  simp only [zDmo, h 45 k (by omega), h 46 (k - 4) (by omega)]
theorem zDot_cg {f g : zFi} (h : ∀ i k, i = 44 ∨ i = 40 → f i k = g i k) : zDot f = zDot g := by
  funext k
  simp only [zDot, h 44 k (by omega), h 40 (k - 4) (by omega)]
theorem zDmo_num {f g : zFi} {k : Nat} {v : Int32} (hk : k < 4) (e : g = zu f 45 k v) : zDmo g = zup (zDmo f) k v := by
  funext j
  simp only [zDmo, zup, e, zu]
  repeat' split
  all_goals first | rfl | omega | (simp_all; done) | (exfalso; simp_all; omega)
theorem zDmo_plc {f g : zFi} {t : Nat} {v : Int32} (hk : t < 30) (e : g = zu f 46 t v) : zDmo g = zup (zDmo f) (4 + t) v := by
  funext j
  simp only [zDmo, zup, e, zu]
  repeat' split
  all_goals first | rfl | omega | (simp_all; done) | (exfalso; simp_all; omega)
end RX
theorem zWs_place : zWs [112, 108, 97, 99, 101] 482854658917 := ⟨by decide, by decide, by decide⟩
theorem zWs_by : zWs [98, 121] 25209 := ⟨by decide, by decide, by decide⟩
theorem zWs_behind : zWs [98, 101, 104, 105, 110, 100] 108187682958948 := ⟨by decide, by decide, by decide⟩
theorem zWs_post : zWs [112, 111, 115, 116] 1886352244 := ⟨by decide, by decide, by decide⟩
theorem zWs_free : zWs [102, 114, 101, 101] 1718773093 := ⟨by decide, by decide, by decide⟩
theorem zWs_back : zWs [98, 97, 99, 107] 1650549611 := ⟨by decide, by decide, by decide⟩
theorem zWs_x : zWs [120] 120 := ⟨by decide, by decide, by decide⟩
theorem zWs_sum : zWs [115, 117, 109] 7566701 := ⟨by decide, by decide, by decide⟩
theorem zWs_money : zWs [109, 111, 110, 101, 121] 470020941177 := ⟨by decide, by decide, by decide⟩
/-- the reference in its loop over the rules -/
def zLm (T : Except Nat (Nat × (Nat → Int32))) (bs cd : Nat → Int32) (L n mm m2 : Nat) (y3 : Int32) (c : Nat) (D9 : Nat → Int32) (f : zFi) : Prop := (y3 = nI 0 ∧ m2 = 0 ∧ ∃ p, p ≤ 400 ∧ T = .error p ∧ f 30 24 = nI p) ∨ (y3 = nI 1 ∧ f 30 24 = -1 ∧ (∀ k, k < 4 + n → zDmo f k = D9 k) ∧ ((m2 = 1 ∧ mm ≤ c ∧ T = zRls bs L cd n (401 - mm) (zS bs L c) D9 mm) ∨ (m2 = 0 ∧ ((zS bs L c < L ∧ T = .error (zS bs L c)) ∨ (zS bs L c = L ∧ T = .ok (mm, D9))))))
section LM
variable {T : Except Nat (Nat × (Nat → Int32))} {bs cd D9 : Nat → Int32} {L n mm c c2 : Nat}
theorem zLm_s (hm : mm ≤ c) (hc : c ≤ L) (hL : L ≤ 400) (hT : T = zRls bs L cd n (401 - mm) (zS bs L c) D9 mm) : T = zRls bs L cd n ((401 - (mm + 1)) + 1) (zS bs L c) D9 mm := by rw [hT, show 401 - mm = (401 - (mm + 1)) + 1 by omega]
theorem zLm_e {p : Nat} (hm : mm ≤ c) (hc : c ≤ L) (hL : L ≤ 400) (hT : T = zRls bs L cd n (401 - mm) (zS bs L c) D9 mm) (h : zRul bs L cd n (zS bs L c) = .error p) : T = .error p := by
  rw [zLm_s hm hc hL hT]
  simp only [zRls, h]
theorem zLm_y {x : Nat × Nat × Int32} (hm : mm ≤ c) (hc : c ≤ L) (hL : L ≤ 400) (hT : T = zRls bs L cd n (401 - mm) (zS bs L c) D9 mm) (h : zRul bs L cd n (zS bs L c) = .ok x) (e : c2 = x.1) (h2 : c2 < L) (h3 : (bs c2).toInt = 59) : T = zRls bs L cd n (401 - (mm + 1)) (zS bs L (c2 + 1)) (zup D9 x.2.1 x.2.2) (mm + 1) := by
  rw [zLm_s hm hc hL hT]
  subst e
  simp only [zRls, h, h2, h3, and_self, if_true]
theorem zLm_n {x : Nat × Nat × Int32} (hm : mm ≤ c) (hc : c ≤ L) (hL : L ≤ 400) (hT : T = zRls bs L cd n (401 - mm) (zS bs L c) D9 mm) (h : zRul bs L cd n (zS bs L c) = .ok x) (e : c2 = x.1) (h2 : c2 ≤ L) (h3 : c2 < L → ¬ (bs c2).toInt = 59) : (c2 < L ∧ T = .error c2) ∨ (c2 = L ∧ T = .ok (mm + 1, zup D9 x.2.1 x.2.2)) := by
  have hT := zLm_s hm hc hL hT
  subst e
  simp only [zRls, h] at hT
  rw [if_neg (fun q => h3 q.1 q.2)] at hT
  by_cases q : x.1 < L
  · rw [if_pos q] at hT
    exact Or.inl ⟨q, hT⟩
  · rw [if_neg q] at hT
    exact Or.inr ⟨by omega, hT⟩
theorem zup_ag {A B : Nat → Int32} {N kd : Nat} {v : Int32} (h : ∀ k, k < N → A k = B k) : ∀ k, k < N → zup A kd v k = zup B kd v k := fun k hk => by
  simp only [zup, h k hk]
theorem zDmo_init {f fi : zFi} (h0 : f 45 0 = fi 44 0) (h1 : f 45 1 = fi 44 1) (h2 : f 45 2 = fi 44 2) (h3 : f 45 3 = fi 44 3) (hn : n ≤ 30) (ht : ∀ t, t < n → f 46 t = fi 40 t) : ∀ k, k < 4 + n → zDmo f k = zDot fi k := fun k hk => by
  simp only [zDmo, zDot]
  by_cases q : k < 4
  · rw [if_pos q, if_pos q]
    have : k = 0 ∨ k = 1 ∨ k = 2 ∨ k = 3 := by omega
    rcases this with rfl | rfl | rfl | rfl
    · exact h0
    · exact h1
    · exact h2
    · exact h3
  · rw [if_neg q, if_neg q, if_pos (by omega), if_pos (by omega)]
    exact ht _ (by omega)
theorem zDmo_n {f : zFi} {D : Nat → Int32} (h : ∀ k, k < 4 + n → zDmo f k = D k) : ∀ k, k < 4 → f 45 k = D k := fun k q => by
  have := h k (by omega)
  simp only [zDmo, if_pos q] at this
  exact this
theorem zDmo_t {f : zFi} {D : Nat → Int32} (hn : n ≤ 30) (h : ∀ k, k < 4 + n → zDmo f k = D k) : ∀ t, t < n → f 46 t = D (4 + t) := fun t q => by
  have := h (4 + t) (by omega)
  simp only [zDmo] at this
  rw [if_neg (by omega), if_pos (by omega), show 4 + t - 4 = t by omega] at this
  exact this
theorem zDot_end {u : zFi} {fi : zFi} {D : Nat → Int32} (h : u 44 0 = D 0 ∧ u 44 1 = D 1 ∧ u 44 2 = D 2 ∧ u 44 3 = D 3) (hn : n ≤ 30) (h1 : ∀ t, t < n → u 40 t = D (4 + t)) (h2 : ∀ t, n ≤ t → u 40 t = fi 40 t) : (∀ k, k < 4 + n → zDot u k = D k) ∧ ∀ k, 4 + n ≤ k → zDot u k = zDot fi k := by
  refine ⟨fun k hk => ?_, fun k hk => ?_⟩
  · simp only [zDot]
    by_cases q : k < 4
    · rw [if_pos q]
      have : k = 0 ∨ k = 1 ∨ k = 2 ∨ k = 3 := by omega
      rcases this with rfl | rfl | rfl | rfl
      · exact h.1
      · exact h.2.1
      · exact h.2.2.1
      · exact h.2.2.2
    · rw [if_neg q, if_pos (by omega), h1 _ (by omega), show 4 + (k - 4) = k by omega]
  · simp only [zDot]
    by_cases q : k < 34
    · rw [if_neg (by omega), if_pos q, if_neg (by omega), if_pos q, h2 _ (by omega)]
    · rw [if_neg (by omega), if_neg q, if_neg (by omega), if_neg q]
end LM
def zB9 (x k : Int32) : Int32 := (x >>> (k &&& 31)) &&& 255
theorem zB89' (y : Int32) : ((y.toInt8.toInt32).toInt = (y &&& 255).toInt ∨ ((y.toInt8.toInt32).toInt < 0 ∧ 128 ≤ (y &&& 255).toInt)) ∧ 0 ≤ (y &&& 255).toInt := by
  have h1 : (y &&& 255).toBitVec.toNat = y.toBitVec.toNat % 256 := by
    rw [Int32.toBitVec_and, BitVec.toNat_and]
    show y.toBitVec.toNat &&& (2 ^ 8 - 1) = _
    rw [Nat.and_two_pow_sub_one_eq_mod]
  have h2 : (y &&& 255).toInt = ((y.toBitVec.toNat % 256 : Nat) : Int) := by
    rw [← Int32.toInt_toBitVec, BitVec.toInt_eq_toNat_of_lt (by omega), h1]
  have h3 : (y.toInt8.toInt32).toInt = y.toInt.bmod 256 := by
    rw [Int8.toInt_toInt32, Int32.toInt_toInt8]
  have h4 : y.toInt % 256 = ((y.toBitVec.toNat % 256 : Nat) : Int) := by
    rw [← Int32.toInt_toBitVec, BitVec.toInt_eq_toNat_cond]
    split <;> omega
  rw [h3, h2]
  unfold Int.bmod
  simp only []
  rw [show ((256 : Nat) : Int) = 256 from rfl, h4]
  split <;> omega
theorem zB89 (x k : Int32) : ((zB8 x k).toInt = (zB9 x k).toInt ∨ ((zB8 x k).toInt < 0 ∧ 128 ≤ (zB9 x k).toInt)) ∧ 0 ≤ (zB9 x k).toInt := zB89' _
/-! ===== THE CLASS READS A LETTER ===== -/
section CLX
variable {f f1 f2 f3 f4 f5 : zFi} {L b b1 b2 : Nat}
theorem zStp.ln1 {c v : Int32} (hL : L ≤ 400) (hb : b ≤ L) (h1 : zStp f f1 (zExc (zNum (f 2) L 4 4 (nI 0) (nI 9999) b) b) (fun x => f1 1 2 = nI x.2 ∧ c = x.1)) (p1 : f1 1 2 = nI b1) (q1 : b1 ≤ L) (e1 : f1 2 = f 2) (h2 : zStp f1 f2 (zExc (zWrd (f1 2) L [120] b1) b1) (fun x => f2 1 2 = nI x)) (p2 : f2 1 2 = nI b2) (q2 : b2 ≤ L) (e2 : f2 2 = f 2) (h3 : zStp f2 f3 (zExc (zNum (f2 2) L 1 6 (nI 1) (nI 99) b2) b2) (fun y => f3 1 2 = nI y.2 ∧ v = y.1)) : zStp f f3 (zLn1 (f 2) L b) (fun z => f3 1 2 = nI z.1 ∧ c = z.2.1 ∧ v = z.2.2) := by
  rw [e1] at h2
  rw [e2] at h3
  refine ⟨fun q => ?_, fun q => ?_⟩
  · have k1 := h1.1 q
    have k2 := h2.1 (by rw [k1]; exact q)
    rw [h3.1 (by rw [k2, k1]; exact q), k2, k1]
  · obtain ⟨a1, a2⟩ := h1.2 q
    unfold zLn1
    cases e : zNum (f 2) L 4 4 (nI 0) (nI 9999) b with
    | none =>
      rw [e] at a1
      obtain ⟨c1, c2⟩ := a1 b rfl
      have n1 : f1 1 3 ≠ -1 := by rw [c2]; exact nI_ne1 c1
      have k2 := h2.1 n1
      have k4 := h3.1 (by rw [k2]; exact n1)
      exact ⟨fun p hp => by cases hp; exact ⟨c1, by rw [k4, k2, c2]⟩, fun x hx => by cases hx⟩
    | some x =>
      rw [e] at a2
      obtain ⟨c1, c2, c3⟩ := a2 x rfl
      have l1 := (zNum_le hb e).2
      have ex : b1 = x.2 := zNj (by omega) (by omega) (p1.symm.trans c2)
      subst ex
      simp only
      obtain ⟨d1, d2⟩ := h2.2 c1
      cases e4 : zWrd (f 2) L [120] x.2 with
      | none =>
        rw [e4] at d1
        obtain ⟨g1, g2⟩ := d1 x.2 rfl
        have n1 : f2 1 3 ≠ -1 := by rw [g2]; exact nI_ne1 g1
        exact ⟨fun p hp => by cases hp; exact ⟨g1, by rw [h3.1 n1, g2]⟩, fun x hx => by cases hx⟩
      | some y =>
        rw [e4] at d2
        obtain ⟨g1, g2⟩ := d2 y rfl
        have l2 := (zWrd_le l1 e4).2
        have ey : b2 = y := zNj (by omega) (by omega) (p2.symm.trans g2)
        subst ey
        simp only
        obtain ⟨m1, m2⟩ := h3.2 g1
        cases e5 : zNum (f 2) L 1 6 (nI 1) (nI 99) b2 with
        | none =>
          rw [e5] at m1
          exact ⟨fun p hp => by cases hp; exact m1 b2 rfl, fun x hx => by cases hx⟩
        | some z =>
          rw [e5] at m2
          obtain ⟨o1, o2, o3⟩ := m2 z rfl
          exact ⟨fun p hp => (by cases hp), fun x hx => by cases hx; exact ⟨o1, o2, c3, o3⟩⟩
/-- the class in its loop over a letter's lines; T: what the lines tell -/
def zLl (T : Except Nat (Nat × Nat × (Nat → Int32) × (Nat → Int32))) (bs : Nat → Int32) (L i : Nat) (y : Int32) (b q : Nat) (f : zFi) : Prop := (∃ p, p ≤ 400 ∧ f 1 3 = nI p ∧ T = .error p) ∨ (f 1 3 = -1 ∧ ∃ C P, (∀ k, k < i → f (4000 + q) k = C k ∧ f (5000 + q) k = P k) ∧ ((y = nI 1 ∧ i < 8 ∧ T = zLin bs L (8 - i) b i C P) ∨ (y = nI 0 ∧ T = .ok (b, i, C, P))))
theorem zLl.step {T : Except Nat (Nat × Nat × (Nat → Int32) × (Nat → Int32))} {bs : Nat → Int32} {i b3 b5 q : Nat} {y y' c v x : Int32} (hL : L ≤ 400) (hb : b ≤ L) (hi : i < 8) (hq : q ≤ 512) (h : zLl T bs L i y b q f) (hy : ¬ y.toInt = 0) (hs : zStp f f3 (zLn1 bs L b) (fun z => f3 1 2 = nI z.1 ∧ c = z.2.1 ∧ v = z.2.2)) (hold : ∀ k, f3 (4000 + q) k = f (4000 + q) k ∧ f3 (5000 + q) k = f (5000 + q) k) (e4 : f4 = zu (zu (zu f3 (4000 + q) i c) (5000 + q) i v) (3000 + q) 2 (nI (i + 1))) (p4 : f4 1 2 = nI b3) (q4 : b3 ≤ L) (eb : f4 2 = bs) (hx : x.toInt = 44) (hg : (y' = nI 1 ∧ i + 1 < 8 ∧ b3 < L ∧ f4 2 b3 = x ∧ ∃ b, f5 = zu f4 1 2 (nI b) ∧ zSkip (f4 2) (b3 + 1) L b) ∨ (y' = nI 0 ∧ f5 = f4 ∧ (i + 1 < 8 → b3 < L → ¬ f4 2 b3 = x))) (p5 : f5 1 2 = nI b5) (q5 : b5 ≤ L) : zLl T bs L (i + 1) y' b5 q f5 := by
  have e43 : f4 1 3 = f3 1 3 := by rw [e4, zu_n (by omega), zu_n (by omega), zu_n (by omega)]
  have e42 : f4 1 2 = f3 1 2 := by rw [e4, zu_n (by omega), zu_n (by omega), zu_n (by omega)]
  have e5 : ∀ i k, ¬ (i = 1 ∧ k = 2) → f5 i k = f4 i k := fun i k n => by
    rcases hg with ⟨-, -, -, -, b, e, -⟩ | ⟨-, e, -⟩
    · rw [e, zu_n n]
    · rw [e]
  have e53 : f5 1 3 = f3 1 3 := by rw [e5 1 3 (by omega), e43]
  rcases h with ⟨p, c1, c2, c3⟩ | ⟨c1, C, P, hCP, h⟩
  · exact Or.inl ⟨p, c1, by rw [e53, hs.1 (by rw [c2]; exact nI_ne1 c1), c2], c3⟩
  · rcases h with ⟨-, -, c3⟩ | ⟨c2, -⟩
    · obtain ⟨d1, d2⟩ := hs.2 c1
      rw [show 8 - i = (8 - (i + 1)) + 1 by omega] at c3
      simp only [zLin] at c3
      cases e : zLn1 bs L b with
      | error p =>
        rw [e] at c3
        obtain ⟨g1, g2⟩ := d1 p e
        exact Or.inl ⟨p, g1, by rw [e53, g2], c3⟩
      | ok z =>
        rw [e] at c3
        simp only at c3
        obtain ⟨g1, g2, g3, g4⟩ := d2 z e
        have l1 := (zLn1_le hb).2 z e
        have ez : b3 = z.1 := zNj (by omega) (by omega) (p4.symm.trans (e42.trans g2))
        subst ez
        rw [eb] at hg
        have hC : ∀ k, k < i + 1 → f5 (4000 + q) k = zup C i z.2.1 k ∧ f5 (5000 + q) k = zup P i z.2.2 k := fun k hk => by
          rw [e5 _ _ (by omega), e5 _ _ (by omega), e4]
          simp only [zup]
          by_cases ek : k = i
          · subst ek
            rw [if_pos rfl, if_pos rfl, zu_n (by omega), zu_n (by omega), zu_s, zu_n (by omega), zu_s]
            exact ⟨g3, g4⟩
          · rw [if_neg ek, if_neg ek, zu_n (by omega), zu_n (by omega), zu_n (by omega), zu_n (by omega), zu_n (by omega), zu_n (by omega), (hold k).1, (hold k).2]
            exact hCP k (by omega)
        refine Or.inr ⟨by rw [e53, g1], zup C i z.2.1, zup P i z.2.2, hC, ?_⟩
        rcases hg with ⟨r1, r2, r3, r4, bb, r5, r6⟩ | ⟨r1, r2, r3⟩
        · rw [if_pos ⟨by omega, r3, by rw [r4]; exact hx⟩] at c3
          have l3 := r6.2.1
          have eb5 : b5 = bb := zNj (by omega) (by omega) (p5.symm.trans (by rw [r5, zu_s]))
          subst eb5
          exact Or.inl ⟨r1, r2, by rw [c3, ← r6.eq]⟩
        · have eb5 : b5 = z.1 := zNj (by omega) (by omega) (p5.symm.trans (by rw [r2]; exact p4))
          subst eb5
          rw [if_neg (fun g => r3 (by omega) g.2.1 (by apply Int32.toInt_inj.mp; rw [hx]; exact g.2.2))] at c3
          exact Or.inr ⟨r1, c3⟩
    · exact absurd (by rw [c2]; decide) hy
theorem zLl.exit {T : Except Nat (Nat × Nat × (Nat → Int32) × (Nat → Int32))} {bs : Nat → Int32} {i q : Nat} {y : Int32} (h : zLl T bs L i y b q f) (hy : 8 ≤ i ∨ y.toInt = 0) : (∃ p, p ≤ 400 ∧ f 1 3 = nI p ∧ T = .error p) ∨ (f 1 3 = -1 ∧ ∃ C P, (∀ k, k < i → f (4000 + q) k = C k ∧ f (5000 + q) k = P k) ∧ T = .ok (b, i, C, P)) := by
  rcases h with h | ⟨c1, C, P, hCP, h⟩
  · exact Or.inl h
  · rcases h with ⟨c2, c3, -⟩ | ⟨-, c3⟩
    · exfalso
      rw [c2] at hy
      rcases hy with hy | hy
      · omega
      · exact absurd hy (by decide)
    · exact Or.inr ⟨c1, C, P, hCP, c3⟩
end CLX
/-- what is in a letter that was read -/
def zLrd (R : Except Nat (Nat × Nat × (Nat → Int32) × (Nat → Int32) × Int32 × Int32)) (q : Nat) (u : zFi) : Prop := (∃ p, p ≤ 400 ∧ R = .error p ∧ u 1 3 = nI p) ∨ ∃ x, R = .ok x ∧ u 1 3 = -1 ∧ u 1 2 = nI x.1 ∧ u (3000 + q) 2 = nI x.2.1 ∧ (∀ k, k < x.2.1 → u (4000 + q) k = x.2.2.1 k ∧ u (5000 + q) k = x.2.2.2.1 k) ∧ u (3000 + q) 3 = x.2.2.2.2.1 ∧ u (3000 + q) 4 = x.2.2.2.2.2
theorem zLrd.mk {bs : Nat → Int32} {f g1 g2 g3 g4 g5 u : zFi} {L a b b1 b2 i q : Nat} {s m : Int32} (hL : L ≤ 400) (ha : a ≤ L) (hb : b ≤ L) (hq : q ≤ 512) (eb : f 2 = bs) (hex : (∃ p, p ≤ 400 ∧ f 1 3 = nI p ∧ zLin bs L 8 a 0 (fun _ => 0) (fun _ => 0) = .error p) ∨ (f 1 3 = -1 ∧ ∃ C P, (∀ k, k < i → f (4000 + q) k = C k ∧ f (5000 + q) k = P k) ∧ zLin bs L 8 a 0 (fun _ => 0) (fun _ => 0) = .ok (b, i, C, P))) (hl : f (3000 + q) 2 = nI i)
    (h1 : zStp f g1 (zExc (zWrd (f 2) L [115, 117, 109] b) b) (fun x => g1 1 2 = nI x)) (F1 : ∀ i k, ¬ (i = 1 ∧ 2 ≤ k) → g1 i k = f i k) (p1 : g1 1 2 = nI b1) (q1 : b1 ≤ L)
    (h2 : zStp g1 g2 (zExc (zNum (g1 2) L 1 6 (nI 0) (nI 999999) b1) b1) (fun y => g2 1 2 = nI y.2 ∧ s = y.1)) (F2 : ∀ i k, ¬ (i = 1 ∧ 2 ≤ k) → g2 i k = g1 i k) (p2 : g2 1 2 = nI b2) (q2 : b2 ≤ L) (e3 : g3 = zu g2 (3000 + q) 3 s)
    (h4 : (zWrd (g3 2) L [109, 111, 110, 101, 121] b2 = none ∧ g5 = g3 ∧ m = s) ∨ ∃ b3, zWrd (g3 2) L [109, 111, 110, 101, 121] b2 = some b3 ∧ g4 = zu g3 1 2 (nI b3) ∧ zStp g4 g5 (zExc (zNum (g4 2) L 1 6 (nI 0) (nI 999999) b3) b3) (fun y => g5 1 2 = nI y.2 ∧ m = y.1) ∧ ∀ i k, ¬ (i = 1 ∧ 2 ≤ k) → g5 i k = g4 i k) (e5 : u = zu g5 (3000 + q) 4 m) : zLrd (zLe0 bs L a) q u := by
  have eg1 : g1 2 = bs := by rw [← eb]; exact funext (fun k => F1 2 k (by omega))
  have eg2 : g2 2 = bs := by rw [← eg1]; exact funext (fun k => F2 2 k (by omega))
  have eg3 : g3 2 = bs := by rw [← eg2, e3]; exact funext (fun k => zu_n (by omega))
  rw [eb] at h1
  rw [eg1] at h2
  rw [eg3] at h4
  have k5 : g3 1 3 ≠ -1 → u 1 3 = g3 1 3 := fun n => by
    rw [e5, zu_n (by omega)]
    rcases h4 with ⟨-, e, -⟩ | ⟨b3, -, e, h, -⟩
    · rw [e]
    · have e9 : g4 1 3 = g3 1 3 := by rw [e, zu_n (by omega)]
      rw [h.1 (by rw [e9]; exact n), e9]
  have e33 : g3 1 3 = g2 1 3 := by rw [e3, zu_n (by omega)]
  unfold zLe0
  rcases hex with ⟨p, c1, c2, c3⟩ | ⟨c1, C, P, hCP, c3⟩
  · have n1 : f 1 3 ≠ -1 := by rw [c2]; exact nI_ne1 c1
    have k1 := h1.1 n1
    have k2 := h2.1 (by rw [k1]; exact n1)
    exact Or.inl ⟨p, c1, by rw [c3], by rw [k5 (by rw [e33, k2, k1]; exact n1), e33, k2, k1, c2]⟩
  · rw [c3]
    simp only
    obtain ⟨d1, d2⟩ := h1.2 c1
    cases w1 : zWrd bs L [115, 117, 109] b with
    | none =>
      rw [w1] at d1
      obtain ⟨g, g'⟩ := d1 b rfl
      have n1 : g1 1 3 ≠ -1 := by rw [g']; exact nI_ne1 g
      have k2 := h2.1 n1
      exact Or.inl ⟨b, g, rfl, by rw [k5 (by rw [e33, k2]; exact n1), e33, k2, g']⟩
    | some x =>
      rw [w1] at d2
      obtain ⟨g, g'⟩ := d2 x rfl
      have l1 := (zWrd_le hb w1).2
      have ex : b1 = x := zNj (by omega) (by omega) (p1.symm.trans g')
      subst ex
      simp only
      obtain ⟨m1, m2⟩ := h2.2 g
      cases w2 : zNum bs L 1 6 (nI 0) (nI 999999) b1 with
      | none =>
        rw [w2] at m1
        obtain ⟨o, o'⟩ := m1 b1 rfl
        have n1 : g2 1 3 ≠ -1 := by rw [o']; exact nI_ne1 o
        exact Or.inl ⟨b1, o, rfl, by rw [k5 (by rw [e33]; exact n1), e33, o']⟩
      | some y =>
        rw [w2] at m2
        obtain ⟨o1, o2, o3⟩ := m2 y rfl
        have l2 := (zNum_le l1 w2).2
        have ey : b2 = y.2 := zNj (by omega) (by omega) (p2.symm.trans o2)
        subst ey
        simp only
        have FF : ∀ i k, ¬ (i = 1 ∧ 2 ≤ k) → ¬ (i = 3000 + q ∧ (k = 3 ∨ k = 4)) → u i k = f i k := fun i k n1 n2 => by
          rw [e5, zu_n (by omega)]
          have : g5 i k = g3 i k := by
            rcases h4 with ⟨-, e, -⟩ | ⟨b3, -, e, -, F⟩
            · rw [e]
            · rw [F i k n1, e, zu_n (by omega)]
          rw [this, e3, zu_n (by omega), F2 i k n1, F1 i k n1]
        have u4 : u (3000 + q) 4 = m := by rw [e5, zu_s]
        have u3 : u (3000 + q) 3 = s := by
          rw [e5, zu_n (by omega)]
          have : g5 (3000 + q) 3 = g3 (3000 + q) 3 := by
            rcases h4 with ⟨-, e, -⟩ | ⟨b3, -, e, -, F⟩
            · rw [e]
            · rw [F _ _ (by omega), e, zu_n (by omega)]
          rw [this, e3, zu_s]
        have uC : ∀ k, k < i → u (4000 + q) k = C k ∧ u (5000 + q) k = P k := fun k hk => by
          rw [FF _ _ (by omega) (by omega), FF _ _ (by omega) (by omega)]; exact hCP k hk
        have uL : u (3000 + q) 2 = nI i := by rw [FF _ _ (by omega) (by omega)]; exact hl
        rcases h4 with ⟨w3, e4, e6⟩ | ⟨b3, w3, e4, h, F⟩
        · rw [w3]
          exact Or.inr ⟨_, rfl, by rw [e5, zu_n (by omega), e4, e33, o1], by rw [e5, zu_n (by omega), e4, e3, zu_n (by omega)]; exact o2, uL, uC, by rw [u3, o3], by rw [u4, e6, o3]⟩
        · rw [w3]
          simp only
          have eg4 : g4 2 = bs := by rw [← eg3, e4]; exact funext (fun k => zu_n (by omega))
          rw [eg4] at h
          have l3 := (zWrd_le l2 w3).2
          obtain ⟨r1, r2⟩ := h.2 (by rw [e4, zu_n (by omega), e33, o1])
          cases w4 : zNum bs L 1 6 (nI 0) (nI 999999) b3 with
          | none =>
            rw [w4] at r1
            obtain ⟨t1, t2⟩ := r1 b3 rfl
            exact Or.inl ⟨b3, t1, rfl, by rw [e5, zu_n (by omega), t2]⟩
          | some z =>
            rw [w4] at r2
            obtain ⟨t1, t2, t3⟩ := r2 z rfl
            exact Or.inr ⟨_, rfl, by rw [e5, zu_n (by omega), t1], by rw [e5, zu_n (by omega)]; exact t2, uL, uC, by rw [u3, o3], by rw [u4, t3]⟩
theorem zLe0_le {b : Nat → Int32} {n a : Nat} (ha : a ≤ n) : ∀ x, zLe0 b n a = .ok x → x.1 ≤ n := by
  unfold zLe0
  cases e : zLin b n 8 a 0 (fun _ => 0) (fun _ => 0) with
  | error p => exact fun x q => by cases q
  | ok x =>
    have h1 := (zLin_le 8 a 0 _ _ ha).2 x e
    simp only
    cases e2 : zWrd b n [115, 117, 109] x.1 with
    | none => exact fun x q => by cases q
    | some a2 =>
      have h2 := zWrd_le h1.1 e2
      simp only
      cases e3 : zNum b n 1 6 (nI 0) (nI 999999) a2 with
      | none => exact fun x q => by cases q
      | some s =>
        have h3 := zNum_le h2.2 e3
        simp only
        cases e4 : zWrd b n [109, 111, 110, 101, 121] s.2 with
        | none => exact fun x q => by cases q; exact h3.2
        | some a3 =>
          have h4 := zWrd_le h3.2 e4
          simp only
          cases e5 : zNum b n 1 6 (nI 0) (nI 999999) a3 with
          | none => exact fun x q => by cases q
          | some m =>
            have h5 := zNum_le h4.2 e5
            exact fun x q => by cases q; exact h5.2
/-- the fault that a text tells -/
def zFv {α : Type} (R : Except Nat α) : Int32 := match R with
  | .error p => nI p
  | .ok _ => -1
theorem zFv_of {bs : Nat → Int32} {u : zFi} {L a q b8 : Nat} {w : Int32} (hL : L ≤ 400) (ha : a ≤ L) (h : zLrd (zLe0 bs L a) q u) (p : u 1 2 = nI b8) (hb : b8 ≤ L) (hc : (¬ u 1 3 = -1 ∧ w = u 1 3) ∨ (u 1 3 = -1 ∧ b8 < L ∧ w = nI b8) ∨ (u 1 3 = -1 ∧ b8 = L ∧ w = -1)) : w = zFv (zLet bs L a) := by
  rcases h with ⟨p, c1, c2, c3⟩ | ⟨x, c1, c2, c3, -⟩
  · unfold zLet
    rw [c2]
    rcases hc with ⟨-, d⟩ | ⟨d, -⟩ | ⟨d, -⟩
    · rw [d, c3]; rfl
    · exact absurd (c3.symm.trans d) (nI_ne1 c1)
    · exact absurd (c3.symm.trans d) (nI_ne1 c1)
  · have l := zLe0_le ha x c1
    have e : b8 = x.1 := zNj (by omega) (by omega) (p.symm.trans c3)
    subst e
    unfold zLet
    rw [c1]
    simp only
    rcases hc with ⟨d, -⟩ | ⟨-, d, d2⟩ | ⟨-, d, d2⟩
    · exact absurd c2 d
    · rw [if_pos d, d2]; rfl
    · rw [if_neg (by omega), d2]; rfl
/-! ===== THE REFERENCE READS A LETTER ===== -/
theorem zNum_bd {b : Nat → Int32} {n p q a : Nat} {lo hi : Int32} {x : Int32 × Nat} (h : zNum b n p q lo hi a = some x) : lo.toInt ≤ x.1.toInt ∧ x.1.toInt ≤ hi.toInt := by
  unfold zNum at h
  split at h
  · rename_i c
    have e := Option.some.inj h
    subst e
    exact ⟨c.2.2.1, c.2.2.2⟩
  · exact absurd h (by simp)
theorem zWrd_not {b : Nat → Int32} {n a : Nat} {ws : List Int32} (ha : a ≤ n) (h1 : ws.length ≠ 0) (h : a < n → ¬ (97 ≤ (b a).toInt ∧ (b a).toInt ≤ 122)) : zWrd b n ws a = none := by
  have e1 : (97 : Int32).toInt = 97 := by decide
  have e2 : (122 : Int32).toInt = 122 := by decide
  have hr : zRun b 97 122 a n 0 := ⟨by omega, fun j p q => absurd q (by omega), fun p => by have := h (by omega); show ¬ _; rw [Nat.add_zero]; omega⟩
  have := hr.eq
  unfold zWrd
  rw [if_neg (fun q => h1 (by rw [← q.1, ← this]))]
section MLX
variable {T : Except Nat (Nat × Nat × (Nat → Int32) × (Nat → Int32))} {bs C P : Nat → Int32} {L l0 c c2 : Nat}
theorem zLin_s (hl : l0 < 8) (hT : T = zLin bs L (8 - l0) (zS bs L c) l0 C P) : T = zLin bs L ((8 - (l0 + 1)) + 1) (zS bs L c) l0 C P := by rw [hT, show 8 - l0 = (8 - (l0 + 1)) + 1 by omega]
theorem zLin_e {p : Nat} (hl : l0 < 8) (hT : T = zLin bs L (8 - l0) (zS bs L c) l0 C P) (h : zLn1 bs L (zS bs L c) = .error p) : T = .error p := by
  rw [zLin_s hl hT]
  simp only [zLin, h]
theorem zLin_y {x : Nat × Int32 × Int32} (hl : l0 < 8) (hT : T = zLin bs L (8 - l0) (zS bs L c) l0 C P) (h : zLn1 bs L (zS bs L c) = .ok x) (e : c2 = x.1) (h2 : c2 < L) (h3 : (bs c2).toInt = 44) (h4 : l0 + 1 < 8) : T = zLin bs L (8 - (l0 + 1)) (zS bs L (c2 + 1)) (l0 + 1) (zup C l0 x.2.1) (zup P l0 x.2.2) := by
  rw [zLin_s hl hT]
  subst e
  simp only [zLin, h]
  rw [if_pos ⟨by omega, h2, h3⟩]
theorem zLin_n {x : Nat × Int32 × Int32} (hl : l0 < 8) (hT : T = zLin bs L (8 - l0) (zS bs L c) l0 C P) (h : zLn1 bs L (zS bs L c) = .ok x) (e : c2 = x.1) (h3 : l0 + 1 = 8 ∨ (c2 < L → ¬ (bs c2).toInt = 44)) : T = .ok (c2, l0 + 1, zup C l0 x.2.1, zup P l0 x.2.2) := by
  rw [zLin_s hl hT]
  subst e
  simp only [zLin, h]
  rw [if_neg (fun q => by
    rcases h3 with h3 | h3
    · exact q.1 (by omega)
    · exact h3 q.2.1 q.2.2)]
theorem zup_cp {f u : zFi} {x1 x2 : Int32} (hCP : ∀ k, k < l0 → f 48 k = C k ∧ f 49 k = P k) (h1 : u 48 l0 = x1) (h2 : u 49 l0 = x2) (h3 : ∀ j, j < l0 → u 48 j = f 48 j ∧ u 49 j = f 49 j) : ∀ k, k < l0 + 1 → u 48 k = zup C l0 x1 k ∧ u 49 k = zup P l0 x2 k := fun k hk => by
  simp only [zup]
  by_cases e : k = l0
  · subst e
    rw [if_pos rfl, if_pos rfl]
    exact ⟨h1, h2⟩
  · rw [if_neg e, if_neg e, (h3 k (by omega)).1, (h3 k (by omega)).2]
    exact hCP k (by omega)
end MLX
