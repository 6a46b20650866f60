/-! ===== READING: what a text says, by its bytes ===== -/
def zsk (b : Nat → Int32) (n : Nat) : Nat → Nat → Nat
  | 0, a => a
  | f + 1, a => if a < n ∧ (b a).toInt = 32 then zsk b n f (a + 1) else a
def zrn (b : Nat → Int32) (lo hi : Int32) (n : Nat) : Nat → Nat → Nat
  | 0, _ => 0
  | f + 1, a => if a < n ∧ lo.toInt ≤ (b a).toInt ∧ (b a).toInt ≤ hi.toInt then zrn b lo hi n f (a + 1) + 1 else 0
/-- the first byte from a on that is no blank -/
def zS (b : Nat → Int32) (n a : Nat) : Nat := zsk b n n a
/-- how many bytes from a on lie between lo and hi -/
def zR (b : Nat → Int32) (lo hi : Int32) (n a : Nat) : Nat := zrn b lo hi n n a
theorem zsk_eq {b : Nat → Int32} {n k : Nat} : ∀ f a, zSkip b a n k → n - a ≤ f → zsk b n f a = k := by
  intro f
  induction f with
  | zero =>
    intro a h hf
    have h1 := h.1
    have h2 := h.2.1
    show a = k
    omega
  | succ f ih =>
    intro a h hf
    obtain ⟨h1, h2, h3, h4⟩ := h
    simp only [zsk]
    by_cases q : a < k
    · rw [if_pos ⟨by omega, h3 a (Nat.le_refl _) q⟩]
      exact ih (a + 1) ⟨by omega, h2, fun j p r => h3 j (by omega) r, h4⟩ (by omega)
    · have e : a = k := by omega
      subst e
      rw [if_neg (fun q => h4 q.1 q.2)]
theorem zSkip.eq {b : Nat → Int32} {n a k : Nat} (h : zSkip b a n k) : k = zS b n a := (zsk_eq n a h (by omega)).symm
theorem zsk_skip {b : Nat → Int32} {n : Nat} : ∀ f a, a ≤ n → n - a ≤ f → zSkip b a n (zsk b n f a) := by
  intro f
  induction f with
  | zero => intro a h hf; exact ⟨Nat.le_refl _, h, fun j p r => absurd r (by show ¬ j < a; omega), fun p => absurd p (by show ¬ a < n; omega)⟩
  | succ f ih =>
    intro a h hf
    simp only [zsk]
    by_cases q : a < n ∧ (b a).toInt = 32
    · rw [if_pos q]
      obtain ⟨h1, h2, h3, h4⟩ := ih (a + 1) (by omega) (by omega)
      refine ⟨by omega, h2, fun j p r => ?_, h4⟩
      by_cases e : j = a
      · subst e; exact q.2
      · exact h3 j (by omega) r
    · rw [if_neg q]
      exact ⟨Nat.le_refl _, h, fun j p r => absurd r (by omega), fun p e => q ⟨p, e⟩⟩
theorem zS_skip {b : Nat → Int32} {n a : Nat} (h : a ≤ n) : zSkip b a n (zS b n a) := zsk_skip n a h (by omega)
theorem zS_le {b : Nat → Int32} {n a : Nat} (h : a ≤ n) : zS b n a ≤ n := (zS_skip h).2.1
theorem zS_ge {b : Nat → Int32} {n a : Nat} (h : a ≤ n) : a ≤ zS b n a := (zS_skip h).1
theorem zS_idem {b : Nat → Int32} {n a : Nat} (h : a ≤ n) : zS b n (zS b n a) = zS b n a := (zSkip.eq ⟨Nat.le_refl _, zS_le h, fun j p r => absurd r (by omega), (zS_skip h).2.2.2⟩).symm
theorem zrn_run {b : Nat → Int32} {lo hi : Int32} {n : Nat} : ∀ f a, a ≤ n → n - a ≤ f → zRun b lo hi a n (zrn b lo hi n f a) := by
  intro f
  induction f with
  | zero => intro a h hf; exact ⟨by show a + 0 ≤ n; omega, fun j p r => absurd r (by show ¬ j < a + 0; omega), fun p => absurd p (by show ¬ a + 0 < n; omega)⟩
  | succ f ih =>
    intro a h hf
    simp only [zrn]
    by_cases q : a < n ∧ lo.toInt ≤ (b a).toInt ∧ (b a).toInt ≤ hi.toInt
    · rw [if_pos q]
      obtain ⟨h1, h2, h3⟩ := ih (a + 1) (by omega) (by omega)
      refine ⟨by omega, fun j p r => ?_, fun p => ?_⟩
      · by_cases e : j = a
        · subst e; exact q.2
        · exact h2 j (by omega) (by omega)
      · have e : a + 1 + zrn b lo hi n f (a + 1) = a + (zrn b lo hi n f (a + 1) + 1) := by omega
        rw [e] at h3
        exact h3 p
    · rw [if_neg q]
      exact ⟨by omega, fun j p r => absurd r (by omega), fun p e => q ⟨p, e⟩⟩
theorem zR_run {b : Nat → Int32} {lo hi : Int32} {n a : Nat} (h : a ≤ n) : zRun b lo hi a n (zR b lo hi n a) := zrn_run n a h (by omega)
theorem zRun.eq {b : Nat → Int32} {lo hi : Int32} {n a k : Nat} (h : zRun b lo hi a n k) : k = zR b lo hi n a := zRun_one h (zR_run (by have := h.1; omega))
theorem zR_le {b : Nat → Int32} {lo hi : Int32} {n a : Nat} (h : a ≤ n) : a + zR b lo hi n a ≤ n := (zR_run h).1
/-- a number, and where the text goes on -/
def zNum (b : Nat → Int32) (n p q : Nat) (lo hi : Int32) (a : Nat) : Option (Int32 × Nat) := if p ≤ zR b 48 57 n a ∧ zR b 48 57 n a ≤ q ∧ lo.toInt ≤ (zDig b a (zR b 48 57 n a)).toInt ∧ (zDig b a (zR b 48 57 n a)).toInt ≤ hi.toInt then some (zDig b a (zR b 48 57 n a), zS b n (a + zR b 48 57 n a)) else none
/-- a word -/
def zWrd (b : Nat → Int32) (n : Nat) (ws : List Int32) (a : Nat) : Option Nat := if zR b 97 122 n a = ws.length ∧ ∀ j, j < ws.length → b (a + j) = ws.getD j 0 then some (zS b n (a + ws.length)) else none
/-- the thing of a code -/
def zFnd (cd : Nat → Int32) (v : Int32) : Nat → Option Nat
  | 0 => none
  | m + 1 => match zFnd cd v m with
    | some t => some t
    | none => if cd m = v then some m else none
theorem zFnd_no {cd : Nat → Int32} {v : Int32} : ∀ {m : Nat}, (∀ j, j < m → ¬ cd j = v) → zFnd cd v m = none := by
  intro m
  induction m with
  | zero => intro _; rfl
  | succ m ih => intro h; simp only [zFnd, ih (fun j q => h j (by omega)), if_neg (h m (by omega))]
theorem zFnd_yes {cd : Nat → Int32} {v : Int32} {t : Nat} (e : cd t = v) (hl : ∀ j, j < t → ¬ cd j = v) : ∀ {m : Nat}, t < m → zFnd cd v m = some t := by
  intro m
  induction m with
  | zero => intro h; exact absurd h (by omega)
  | succ m ih =>
    intro h
    by_cases q : t = m
    · subst q; simp only [zFnd, zFnd_no hl, if_pos e]
    · simp only [zFnd, ih (by omega)]
theorem zFnd_lt {cd : Nat → Int32} {v : Int32} {t : Nat} : ∀ {m : Nat}, zFnd cd v m = some t → t < m := by
  intro m
  induction m with
  | zero => intro h; exact absurd h (by simp [zFnd])
  | succ m ih =>
    intro h
    cases e : zFnd cd v m with
    | some t' => simp only [zFnd, e] at h; have e2 : t' = t := Option.some.inj h; subst e2; have := ih e; omega
    | none =>
      simp only [zFnd, e] at h
      by_cases q : cd m = v
      · rw [if_pos q] at h; have := Option.some.inj h; omega
      · rw [if_neg q] at h; exact absurd h (by simp)
theorem zFnd_cg {cd cd' : Nat → Int32} {v : Int32} : ∀ {m : Nat}, (∀ j, j < m → cd j = cd' j) → zFnd cd v m = zFnd cd' v m := by
  intro m
  induction m with
  | zero => intro _; rfl
  | succ m ih => intro h; simp only [zFnd, ih (fun j q => h j (by omega)), h m (by omega)]
/-- a thing, told by its code: the thing, and where the text goes on -/
def zThg (b : Nat → Int32) (n : Nat) (cd : Nat → Int32) (m : Nat) (un : Option Nat) (a : Nat) : Option (Nat × Nat) := match zNum b n 4 4 (nI 0) (nI 9999) a with
  | none => none
  | some x => match zFnd cd x.1 m with
    | none => none
    | some t => if un = some t then none else some (t, x.2)
def zKnd (b : Nat → Int32) (n a : Nat) : Option (Nat × Nat) := match zWrd b n [98, 101, 104, 105, 110, 100] a with
  | some x => some (0, x)
  | none => match zWrd b n [112, 111, 115, 116] a with
    | some x => some (1, x)
    | none => match zWrd b n [102, 114, 101, 101] a with
      | some x => some (2, x)
      | none => match zWrd b n [98, 97, 99, 107] a with
        | some x => some (3, x)
        | none => none
def zMost (k : Nat) : Int32 := ([99, 9999, 999999, 99] : List Int32).getD k 0
def zPlc (b : Nat → Int32) (n : Nat) (cd : Nat → Int32) (m a : Nat) : Except Nat (Nat × Nat × Int32) := match zThg b n cd m none a with
  | none => .error a
  | some x => match zWrd b n [98, 121] x.2 with
    | none => .error x.2
    | some a2 => match zThg b n cd m (some x.1) a2 with
      | none => .error a2
      | some y => .ok (y.2, 4 + x.1, nI y.1)
/-- a rule: where the text goes on, which number (4 and more: what takes a thing's place), and the number -/
def zRul (b : Nat → Int32) (n : Nat) (cd : Nat → Int32) (m a : Nat) : Except Nat (Nat × Nat × Int32) := match zWrd b n [112, 108, 97, 99, 101] a with
  | some a1 => zPlc b n cd m a1
  | none => match zKnd b n a with
    | none => .error a
    | some x => match zNum b n 1 6 (nI 0) (zMost x.1) x.2 with
      | none => .error x.2
      | some y => .ok (y.2, x.1, y.1)
def zup (D : Nat → Int32) (k : Nat) (v : Int32) : Nat → Int32 := fun j => if j = k then v else D j
/-- rules, one behind the other -/
def zRls (b : Nat → Int32) (n : Nat) (cd : Nat → Int32) (m : Nat) : Nat → Nat → (Nat → Int32) → Nat → Except Nat (Nat × (Nat → Int32))
  | 0, _, _, _ => .error 0
  | f + 1, a, D, k => match zRul b n cd m a with
    | .error p => .error p
    | .ok x => if x.1 < n ∧ (b x.1).toInt = 59 then zRls b n cd m f (zS b n (x.1 + 1)) (zup D x.2.1 x.2.2) (k + 1) else if x.1 < n then .error x.1 else .ok (k + 1, zup D x.2.1 x.2.2)
/-! where it goes on -/
theorem zNum_le {b : Nat → Int32} {n p q a : Nat} {lo hi : Int32} {x : Int32 × Nat} (ha : a ≤ n) (h : zNum b n p q lo hi a = some x) : a + p ≤ x.2 ∧ x.2 ≤ n := by
  unfold zNum at h
  split at h
  · rename_i c
    have e := Option.some.inj h
    subst e
    have h1 := zR_le (b := b) (lo := 48) (hi := 57) ha
    have h2 := zS_ge (b := b) h1
    have h3 := zS_le (b := b) h1
    have h4 := c.1
    exact ⟨by show a + p ≤ zS b n _; omega, h3⟩
  · exact absurd h (by simp)
theorem zWrd_le {b : Nat → Int32} {n a x : Nat} {ws : List Int32} (ha : a ≤ n) (h : zWrd b n ws a = some x) : a + ws.length ≤ x ∧ x ≤ n := by
  unfold zWrd at h
  split at h
  · rename_i c
    have e := Option.some.inj h
    subst e
    have h1 := zR_le (b := b) (lo := 97) (hi := 122) ha
    rw [c.1] at h1
    exact ⟨zS_ge h1, zS_le h1⟩
  · exact absurd h (by simp)
theorem zThg_le {b : Nat → Int32} {n m a : Nat} {cd : Nat → Int32} {un : Option Nat} {x : Nat × Nat} (ha : a ≤ n) (h : zThg b n cd m un a = some x) : (a + 4 ≤ x.2 ∧ x.2 ≤ n) ∧ x.1 < m := by
  unfold zThg at h
  cases e : zNum b n 4 4 (nI 0) (nI 9999) a with
  | none => rw [e] at h; exact absurd h (by simp)
  | some y =>
    rw [e] at h
    cases e2 : zFnd cd y.1 m with
    | none => simp [e2] at h
    | some t =>
      simp only [e2] at h
      split at h
      · exact absurd h (by simp)
      · have e3 := Option.some.inj h
        subst e3
        exact ⟨zNum_le ha e, zFnd_lt e2⟩
theorem zKnd_le {b : Nat → Int32} {n a : Nat} {x : Nat × Nat} (ha : a ≤ n) (h : zKnd b n a = some x) : (a + 4 ≤ x.2 ∧ x.2 ≤ n) ∧ x.1 < 4 := by
  unfold zKnd at h
  split at h
  · rename_i y e
    have e3 := Option.some.inj h
    subst e3
    have h1 := zWrd_le ha e
    exact ⟨⟨by have := h1.1; simp at this; show a + 4 ≤ y; omega, h1.2⟩, by show 0 < 4; omega⟩
  · split at h
    · rename_i y e
      have e3 := Option.some.inj h
      subst e3
      have h1 := zWrd_le ha e
      exact ⟨⟨by have := h1.1; simp at this; show a + 4 ≤ y; omega, h1.2⟩, by show 1 < 4; omega⟩
    · split at h
      · rename_i y e
        have e3 := Option.some.inj h
        subst e3
        have h1 := zWrd_le ha e
        exact ⟨⟨by have := h1.1; simp at this; show a + 4 ≤ y; omega, h1.2⟩, by show 2 < 4; omega⟩
      · split at h
        · rename_i y e
          have e3 := Option.some.inj h
          subst e3
          have h1 := zWrd_le ha e
          exact ⟨⟨by have := h1.1; simp at this; show a + 4 ≤ y; omega, h1.2⟩, by show 3 < 4; omega⟩
        · exact absurd h (by simp)
/-- what a rule tells: where the text goes on, or what stands wrong -/
theorem zRul_le {b : Nat → Int32} {n m a : Nat} {cd : Nat → Int32} (ha : a ≤ n) : (∀ p, zRul b n cd m a = .error p → p ≤ n) ∧ ∀ x, zRul b n cd m a = .ok x → (a + 1 ≤ x.1 ∧ x.1 ≤ n) ∧ x.2.1 < 4 + m := by
  unfold zRul
  cases e : zWrd b n [112, 108, 97, 99, 101] a with
  | some a1 =>
    have h1 := zWrd_le ha e
    simp only
    unfold zPlc
    cases e2 : zThg b n cd m none a1 with
    | none => exact ⟨fun p q => by cases q; exact h1.2, fun x q => (by cases q)⟩
    | some x =>
      have h2 := zThg_le h1.2 e2
      simp only
      cases e3 : zWrd b n [98, 121] x.2 with
      | none => exact ⟨fun p q => by cases q; exact h2.1.2, fun x q => (by cases q)⟩
      | some a2 =>
        have h3 := zWrd_le h2.1.2 e3
        simp only
        cases e4 : zThg b n cd m (some x.1) a2 with
        | none => exact ⟨fun p q => by cases q; exact h3.2, fun x q => (by cases q)⟩
        | some y =>
          have h4 := zThg_le h3.2 e4
          exact ⟨fun p q => (by cases q), fun z q => by cases q; exact ⟨⟨by show a + 1 ≤ y.2; simp at h1 h3; omega, h4.1.2⟩, by show 4 + x.1 < 4 + m; omega⟩⟩
  | none =>
    simp only
    cases e2 : zKnd b n a with
    | none => exact ⟨fun p q => by cases q; exact ha, fun x q => (by cases q)⟩
    | some x =>
      have h2 := zKnd_le ha e2
      simp only
      cases e3 : zNum b n 1 6 (nI 0) (zMost x.1) x.2 with
      | none => exact ⟨fun p q => by cases q; exact h2.1.2, fun x q => (by cases q)⟩
      | some y =>
        have h3 := zNum_le h2.1.2 e3
        exact ⟨fun p q => (by cases q), fun z q => by cases q; exact ⟨⟨by show a + 1 ≤ y.2; omega, h3.2⟩, by show x.1 < 4 + m; omega⟩⟩
/-! the bytes of class and reference -/
def zTb (b b' : Nat → Int32) (n : Nat) : Prop := ∀ j, j < n → (b j).toInt = (b' j).toInt ∨ ((b j).toInt < 0 ∧ 128 ≤ (b' j).toInt)
theorem zsk_tb {b b' : Nat → Int32} {n : Nat} (h : zTb b b' n) : ∀ f a, zsk b n f a = zsk b' n f a := by
  intro f
  induction f with
  | zero => intro a; rfl
  | succ f ih =>
    intro a
    simp only [zsk]
    by_cases q : a < n ∧ (b a).toInt = 32
    · rw [if_pos q, if_pos ⟨q.1, by have := h a q.1; omega⟩, ih]
    · rw [if_neg q, if_neg (fun r => q ⟨r.1, by have := h a r.1; have := r.2; omega⟩)]
theorem zS_tb {b b' : Nat → Int32} {n a : Nat} (h : zTb b b' n) : zS b n a = zS b' n a := zsk_tb h n a
theorem zrn_tb {b b' : Nat → Int32} {lo hi : Int32} {n : Nat} (h : zTb b b' n) (hlo : 0 ≤ lo.toInt) (hhi : hi.toInt < 128) : ∀ f a, zrn b lo hi n f a = zrn b' lo hi n f a := by
  intro f
  induction f with
  | zero => intro a; rfl
  | succ f ih =>
    intro a
    simp only [zrn]
    by_cases q : a < n ∧ lo.toInt ≤ (b a).toInt ∧ (b a).toInt ≤ hi.toInt
    · rw [if_pos q, if_pos ⟨q.1, by have := h a q.1; have := q.2; omega⟩, ih]
    · rw [if_neg q, if_neg (fun r => q ⟨r.1, by have := h a r.1; have := r.2; omega⟩)]
theorem zR_tb {b b' : Nat → Int32} {lo hi : Int32} {n a : Nat} (h : zTb b b' n) (hlo : 0 ≤ lo.toInt) (hhi : hi.toInt < 128) : zR b lo hi n a = zR b' lo hi n a := zrn_tb h hlo hhi n a
theorem zDig_tb {b b' : Nat → Int32} {a : Nat} : ∀ k, (∀ j, j < k → b (a + j) = b' (a + j)) → zDig b a k = zDig b' a k := by
  intro k
  induction k with
  | zero => intro _; rfl
  | succ k ih => intro h; simp only [zDig, ih (fun j q => h j (by omega)), h k (by omega)]
theorem zNum_tb {b b' : Nat → Int32} {n p q a : Nat} {lo hi : Int32} (h : zTb b b' n) (ha : a ≤ n) : zNum b n p q lo hi a = zNum b' n p q lo hi a := by
  have e1 : zR b 48 57 n a = zR b' 48 57 n a := zR_tb h (by decide) (by decide)
  have e2 : zDig b a (zR b' 48 57 n a) = zDig b' a (zR b' 48 57 n a) := zDig_tb _ (fun j hj => by
    have r := (zR_run (b := b') (lo := 48) (hi := 57) ha)
    have r1 := r.1
    have r2 := r.2.1 (a + j) (by omega) (by omega)
    have r3 := h (a + j) (by omega)
    apply Int32.toInt_inj.mp
    have : (48 : Int32).toInt = 48 := by decide
    have : (57 : Int32).toInt = 57 := by decide
    omega)
  unfold zNum
  rw [e1, e2, zS_tb h]
theorem zWrd_tb {b b' : Nat → Int32} {n a : Nat} {ws : List Int32} (h : zTb b b' n) (ha : a ≤ n) (hws : ∀ j, j < ws.length → 0 ≤ (ws.getD j 0).toInt ∧ (ws.getD j 0).toInt < 128) : zWrd b n ws a = zWrd b' n ws a := by
  have e1 : zR b 97 122 n a = zR b' 97 122 n a := zR_tb h (by decide) (by decide)
  unfold zWrd
  rw [e1, zS_tb h]
  have r1 := zR_le (b := b') (lo := 97) (hi := 122) ha
  by_cases q : zR b' 97 122 n a = ws.length ∧ ∀ j, j < ws.length → b (a + j) = ws.getD j 0
  · rw [if_pos q, if_pos ⟨q.1, fun j hj => by
      have r3 := h (a + j) (by omega)
      have r4 := hws j hj
      have r5 := q.2 j hj
      rw [r5] at r3
      apply Int32.toInt_inj.mp
      omega⟩]
  · rw [if_neg q, if_neg (fun r => q ⟨r.1, fun j hj => by
      have r3 := h (a + j) (by have := r.1; omega)
      have r4 := hws j hj
      have r5 := r.2 j hj
      rw [r5] at r3
      apply Int32.toInt_inj.mp
      omega⟩)]
theorem zThg_tb {b b' : Nat → Int32} {cd cd' : Nat → Int32} {n m a : Nat} {un : Option Nat} (h : zTb b b' n) (ha : a ≤ n) (hc : ∀ j, j < m → cd j = cd' j) : zThg b n cd m un a = zThg b' n cd' m un a := by
  unfold zThg
  rw [zNum_tb h ha]
  cases zNum b' n 4 4 (nI 0) (nI 9999) a with
  | none => rfl
  | some x => simp only [zFnd_cg hc]
theorem zKnd_tb {b b' : Nat → Int32} {n a : Nat} (h : zTb b b' n) (ha : a ≤ n) : zKnd b n a = zKnd b' n a := by
  unfold zKnd
  rw [zWrd_tb h ha (by decide), zWrd_tb h ha (by decide), zWrd_tb h ha (by decide), zWrd_tb h ha (by decide)]
theorem zRul_tb {b b' : Nat → Int32} {cd cd' : Nat → Int32} {n m a : Nat} (h : zTb b b' n) (ha : a ≤ n) (hc : ∀ j, j < m → cd j = cd' j) : zRul b n cd m a = zRul b' n cd' m a := by
  unfold zRul
  rw [zWrd_tb h ha (by decide), zKnd_tb h ha]
  cases e : zWrd b' n [112, 108, 97, 99, 101] a with
  | some a1 =>
    have h1 := zWrd_le ha e
    simp only
    unfold zPlc
    rw [zThg_tb h h1.2 hc]
    cases e2 : zThg b' n cd' m none a1 with
    | none => rfl
    | some x =>
      have h2 := zThg_le h1.2 e2
      simp only
      rw [zWrd_tb h h2.1.2 (by decide)]
      cases e3 : zWrd b' n [98, 121] x.2 with
      | none => rfl
      | some a2 =>
        have h3 := zWrd_le h2.1.2 e3
        simp only
        rw [zThg_tb h h3.2 hc]
  | none =>
    simp only
    cases e2 : zKnd b' n a with
    | none => rfl
    | some x =>
      have h2 := zKnd_le ha e2
      simp only
      rw [zNum_tb h h2.1.2]
theorem zRls_tb {b b' : Nat → Int32} {cd cd' : Nat → Int32} {n m : Nat} (h : zTb b b' n) (hc : ∀ j, j < m → cd j = cd' j) : ∀ f a D k, a ≤ n → zRls b n cd m f a D k = zRls b' n cd' m f a D k := by
  intro f
  induction f with
  | zero => intro a D k _; rfl
  | succ f ih =>
    intro a D k ha
    simp only [zRls, zRul_tb h ha hc]
    cases e : zRul b' n cd' m a with
    | error p => rfl
    | ok x =>
      have h1 := (zRul_le ha).2 x e
      simp only
      by_cases q : x.1 < n
      · have e2 : ((b x.1).toInt = 59) ↔ ((b' x.1).toInt = 59) := by have := h x.1 q; omega
        have h3 := zS_le (b := b) (n := n) (a := x.1 + 1) (by omega)
        have e3 := ih (zS b n (x.1 + 1)) (zup D x.2.1 x.2.2) (k + 1) h3
        rw [zS_tb h] at e3
        simp only [e2, zS_tb h, e3]
      · simp only [q, false_and, if_false]
/-! letters -/
def zLn1 (b : Nat → Int32) (n a : Nat) : Except Nat (Nat × Int32 × Int32) := match zNum b n 4 4 (nI 0) (nI 9999) a with
  | none => .error a
  | some x => match zWrd b n [120] x.2 with
    | none => .error x.2
    | some a2 => match zNum b n 1 6 (nI 1) (nI 99) a2 with
      | none => .error a2
      | some y => .ok (y.2, x.1, y.1)
def zLin (b : Nat → Int32) (n : Nat) : Nat → Nat → Nat → (Nat → Int32) → (Nat → Int32) → Except Nat (Nat × Nat × (Nat → Int32) × (Nat → Int32))
  | 0, a, l, C, P => .ok (a, l, C, P)
  | f + 1, a, l, C, P => match zLn1 b n a with
    | .error p => .error p
    | .ok x => if f ≠ 0 ∧ x.1 < n ∧ (b x.1).toInt = 44 then zLin b n f (zS b n (x.1 + 1)) (l + 1) (zup C l x.2.1) (zup P l x.2.2) else .ok (x.1, l + 1, zup C l x.2.1, zup P l x.2.2)
/-- a letter but for its end: where it goes on, how many lines, their codes, how many of each, the sum, the money -/
def zLe0 (b : Nat → Int32) (n a : Nat) : Except Nat (Nat × Nat × (Nat → Int32) × (Nat → Int32) × Int32 × Int32) := match zLin b n 8 a 0 (fun _ => 0) (fun _ => 0) with
  | .error p => .error p
  | .ok x => match zWrd b n [115, 117, 109] x.1 with
    | none => .error x.1
    | some a2 => match zNum b n 1 6 (nI 0) (nI 999999) a2 with
      | none => .error a2
      | some s => match zWrd b n [109, 111, 110, 101, 121] s.2 with
        | none => .ok (s.2, x.2.1, x.2.2.1, x.2.2.2, s.1, s.1)
        | some a3 => match zNum b n 1 6 (nI 0) (nI 999999) a3 with
          | none => .error a3
          | some m => .ok (m.2, x.2.1, x.2.2.1, x.2.2.2, s.1, m.1)
def zLet (b : Nat → Int32) (n a : Nat) : Except Nat (Nat × (Nat → Int32) × (Nat → Int32) × Int32 × Int32) := match zLe0 b n a with
  | .error p => .error p
  | .ok x => if x.1 < n then .error x.1 else .ok x.2
theorem zLn1_le {b : Nat → Int32} {n a : Nat} (ha : a ≤ n) : (∀ p, zLn1 b n a = .error p → p ≤ n) ∧ ∀ x, zLn1 b n a = .ok x → a + 1 ≤ x.1 ∧ x.1 ≤ n := by
  unfold zLn1
  cases e : zNum b n 4 4 (nI 0) (nI 9999) a with
  | none => exact ⟨fun p q => by cases q; exact ha, fun x q => by cases q⟩
  | some x =>
    have h1 := zNum_le ha e
    simp only
    cases e2 : zWrd b n [120] x.2 with
    | none => exact ⟨fun p q => by cases q; exact h1.2, fun x q => by cases q⟩
    | some a2 =>
      have h2 := zWrd_le h1.2 e2
      simp only
      cases e3 : zNum b n 1 6 (nI 1) (nI 99) a2 with
      | none => exact ⟨fun p q => by cases q; exact h2.2, fun x q => by cases q⟩
      | some y =>
        have h3 := zNum_le h2.2 e3
        exact ⟨fun p q => (by cases q), fun z q => by cases q; exact ⟨by show a + 1 ≤ y.2; simp at h2; omega, h3.2⟩⟩
theorem zLin_le {b : Nat → Int32} {n : Nat} : ∀ f a l C P, a ≤ n → (∀ p, zLin b n f a l C P = .error p → p ≤ n) ∧ ∀ x, zLin b n f a l C P = .ok x → x.1 ≤ n ∧ x.2.1 ≤ l + f := by
  intro f
  induction f with
  | zero => intro a l C P ha; exact ⟨fun p q => (by cases q), fun x q => by cases q; exact ⟨ha, by show l ≤ l + 0; omega⟩⟩
  | succ f ih =>
    intro a l C P ha
    simp only [zLin]
    cases e : zLn1 b n a with
    | error p => exact ⟨fun p' q => by cases q; exact (zLn1_le ha).1 p e, fun x q => by cases q⟩
    | ok x =>
      have h1 := (zLn1_le ha).2 x e
      simp only
      by_cases q : f ≠ 0 ∧ x.1 < n ∧ (b x.1).toInt = 44
      · rw [if_pos q]
        have h2 := ih (zS b n (x.1 + 1)) (l + 1) (zup C l x.2.1) (zup P l x.2.2) (zS_le (by omega))
        exact ⟨h2.1, fun y hy => by have := h2.2 y hy; omega⟩
      · rw [if_neg q]
        exact ⟨fun p q => (by cases q), fun y hy => by cases hy; exact ⟨h1.2, by show l + 1 ≤ l + (f + 1); omega⟩⟩
theorem zLn1_tb {b b' : Nat → Int32} {n a : Nat} (h : zTb b b' n) (ha : a ≤ n) : zLn1 b n a = zLn1 b' n a := by
  unfold zLn1
  rw [zNum_tb h ha]
  cases e : zNum b' n 4 4 (nI 0) (nI 9999) a with
  | none => rfl
  | some x =>
    have h1 := zNum_le ha e
    simp only
    rw [zWrd_tb h h1.2 (by decide)]
    cases e2 : zWrd b' n [120] x.2 with
    | none => rfl
    | some a2 =>
      have h2 := zWrd_le h1.2 e2
      simp only
      rw [zNum_tb h h2.2]
theorem zLin_tb {b b' : Nat → Int32} {n : Nat} (h : zTb b b' n) : ∀ f a l C P, a ≤ n → zLin b n f a l C P = zLin b' n f a l C P := by
  intro f
  induction f with
  | zero => intro a l C P _; rfl
  | succ f ih =>
    intro a l C P ha
    simp only [zLin, zLn1_tb h ha]
    cases e : zLn1 b' n a with
    | error p => rfl
    | ok x =>
      have h1 := (zLn1_le ha).2 x e
      simp only
      by_cases q : x.1 < n
      · have e2 : ((b x.1).toInt = 44) ↔ ((b' x.1).toInt = 44) := by have := h x.1 q; omega
        have h3 := zS_le (b := b) (n := n) (a := x.1 + 1) (by omega)
        have e3 := ih (zS b n (x.1 + 1)) (l + 1) (zup C l x.2.1) (zup P l x.2.2) h3
        rw [zS_tb h] at e3
        simp only [e2, zS_tb h, e3]
      · simp only [q, false_and, and_false, if_false]
theorem zLe0_tb {b b' : Nat → Int32} {n a : Nat} (h : zTb b b' n) (ha : a ≤ n) : zLe0 b n a = zLe0 b' n a := by
  unfold zLe0
  rw [zLin_tb h 8 a 0 _ _ ha]
  cases e : zLin b' n 8 a 0 (fun _ => 0) (fun _ => 0) with
  | error p => rfl
  | ok x =>
    have h1 := (zLin_le 8 a 0 _ _ ha).2 x e
    simp only
    rw [zWrd_tb h h1.1 (by decide)]
    cases e2 : zWrd b' n [115, 117, 109] x.1 with
    | none => rfl
    | some a2 =>
      have h2 := zWrd_le h1.1 e2
      simp only
      rw [zNum_tb h h2.2]
      cases e3 : zNum b' n 1 6 (nI 0) (nI 999999) a2 with
      | none => rfl
      | some s =>
        have h3 := zNum_le h2.2 e3
        simp only
        rw [zWrd_tb h h3.2 (by decide)]
        cases e4 : zWrd b' n [109, 111, 110, 101, 121] s.2 with
        | none => rfl
        | some a3 =>
          have h4 := zWrd_le h3.2 e4
          simp only
          rw [zNum_tb h h4.2]
theorem zLet_tb {b b' : Nat → Int32} {n a : Nat} (h : zTb b b' n) (ha : a ≤ n) : zLet b n a = zLet b' n a := by
  unfold zLet
  rw [zLe0_tb h ha]
/-! ===== THE CLASS READS ===== -/
def zExc {α : Type} (o : Option α) (a : Nat) : Except Nat α := match o with
  | none => .error a
  | some x => .ok x
/-- a step of the class's reading: what was wrong stays; else the step tells R -/
def zStp (fi u : zFi) {α : Type} (R : Except Nat α) (G : α → Prop) : Prop := (fi 1 3 ≠ -1 → u 1 3 = fi 1 3) ∧ (fi 1 3 = -1 → (∀ p, R = .error p → p ≤ 400 ∧ u 1 3 = nI p) ∧ ∀ x, R = .ok x → u 1 3 = -1 ∧ G x)
theorem zNj {a b : Nat} (ha : a ≤ 400) (hb : b ≤ 400) (h : nI a = nI b) : a = b := by
  have h9 := congrArg Int32.toInt h
  rw [nI_toInt (by omega), nI_toInt (by omega)] at h9
  omega
theorem nI_ne1 {p : Nat} (h : p ≤ 400) : nI p ≠ -1 := fun e => by
  have h9 := congrArg Int32.toInt e
  rw [nI_toInt (by omega)] at h9
  have : (-1 : Int32).toInt = -1 := by decide
  omega
section CX
variable {fi f1 f2 f3 u : zFi} {L a n : Nat}
theorem zRef.keep {x : Int32} (h : zRef fi x u) (q : fi 1 3 ≠ -1) : u 1 3 = fi 1 3 := by
  rcases h with ⟨e, _⟩ | ⟨_, rfl⟩
  · exact absurd e q
  · rfl
theorem zRef.set {x : Int32} (h : zRef fi x u) (q : fi 1 3 = -1) : u 1 3 = x := by
  rcases h with ⟨_, rfl⟩ | ⟨e, _⟩
  · exact zu_s
  · exact absurd q e
theorem zRef.st {α : Type} {G : α → Prop} (h : zRef fi (nI a) u) (ha : a ≤ 400) : zStp fi u (.error a : Except Nat α) G := ⟨h.keep, fun q => ⟨fun p e => by cases e; exact ⟨ha, h.set q⟩, fun x e => (by cases e)⟩⟩
theorem zWrd_yes {b : Nat → Int32} {x : Nat} {ws : List Int32} (h : zWordAt b a L ws) (s : zSkip b (a + ws.length) L x) : zWrd b L ws a = some x := by
  unfold zWrd
  rw [if_pos ⟨h.1.eq.symm, h.2⟩, s.eq]
theorem zWrd_no {b : Nat → Int32} {ws : List Int32} (h : ¬ zWordAt b a L ws) (ha : a ≤ L) : zWrd b L ws a = none := by
  unfold zWrd
  by_cases q : zR b 97 122 L a = ws.length ∧ ∀ j, j < ws.length → b (a + j) = ws.getD j 0
  · exact absurd ⟨q.1 ▸ zR_run ha, q.2⟩ h
  · rw [if_neg q]
theorem zStp.num {p q : Nat} {lo hi r : Int32} (hL : L ≤ 400) (ha : a ≤ L) (h : ∃ k, zRun (fi 2) 48 57 a L k ∧ (((p ≤ k ∧ k ≤ q ∧ lo.toInt ≤ (zDig (fi 2) a k).toInt ∧ (zDig (fi 2) a k).toInt ≤ hi.toInt) ∧ r = zDig (fi 2) a k ∧ ∃ b, u = zu fi 1 2 (nI b) ∧ zSkip (fi 2) (a + k) L b) ∨ (¬ (p ≤ k ∧ k ≤ q ∧ lo.toInt ≤ (zDig (fi 2) a k).toInt ∧ (zDig (fi 2) a k).toInt ≤ hi.toInt) ∧ r = -1 ∧ zRef fi (nI a) u))) : zStp fi u (zExc (zNum (fi 2) L p q lo hi a) a) (fun x => u 1 2 = nI x.2 ∧ r = x.1) := by
  obtain ⟨k, hr, h⟩ := h
  have hk := hr.eq
  subst hk
  rcases h with ⟨c, rfl, b, e, s⟩ | ⟨c, rfl, e⟩
  · have e1 : zNum (fi 2) L p q lo hi a = some (zDig (fi 2) a (zR (fi 2) 48 57 L a), b) := by
      unfold zNum
      rw [if_pos c, ← s.eq]
    rw [e1]
    exact ⟨fun q => by rw [e, zu_n (by omega)], fun q => ⟨fun p e' => (by cases e'), fun x e' => by cases e'; exact ⟨by rw [e, zu_n (by omega)]; exact q, by rw [e]; exact zu_s, rfl⟩⟩⟩
  · have e1 : zNum (fi 2) L p q lo hi a = none := by
      unfold zNum
      rw [if_neg c]
    rw [e1]
    exact e.st (by omega)
theorem zStp.need {ws : List Int32} (hL : L ≤ 400) (ha : a ≤ L) (h : (zWordAt (fi 2) a L ws ∧ ∃ b, u = zu fi 1 2 (nI b) ∧ zSkip (fi 2) (a + ws.length) L b) ∨ (¬ zWordAt (fi 2) a L ws ∧ zRef fi (nI a) u)) : zStp fi u (zExc (zWrd (fi 2) L ws a) a) (fun x => u 1 2 = nI x) := by
  rcases h with ⟨c, b, e, s⟩ | ⟨c, e⟩
  · rw [zWrd_yes c s]
    exact ⟨fun q => by rw [e, zu_n (by omega)], fun q => ⟨fun p e' => (by cases e'), fun x e' => by cases e'; exact ⟨by rw [e, zu_n (by omega)]; exact q, by rw [e]; exact zu_s⟩⟩⟩
  · rw [zWrd_no c ha]
    exact e.st (by omega)
theorem zStp.thgY {t : Nat} {un : Option Nat} {c : Int32} (h : zStp fi f1 (zExc (zNum (fi 2) L 4 4 (nI 0) (nI 9999) a) a) (fun x => f1 1 2 = nI x.2 ∧ c = x.1)) (ht : t < n) (h1 : f1 (300 + t) 1 = c) (h2 : ∀ j, j < t → ¬ f1 (300 + j) 1 = c) (hf : ∀ j, f1 (300 + j) 1 = fi (300 + j) 1) (hu : un ≠ some t) : zStp fi f1 (zExc (zThg (fi 2) L (fun t9 => fi (300 + t9) 1) n un a) a) (fun x => f1 1 2 = nI x.2 ∧ x.1 = t) := by
  refine ⟨h.1, fun q => ?_⟩
  obtain ⟨a1, a2⟩ := h.2 q
  cases e : zNum (fi 2) L 4 4 (nI 0) (nI 9999) a with
  | none =>
    have e1 : zThg (fi 2) L (fun t9 => fi (300 + t9) 1) n un a = none := by unfold zThg; rw [e]
    rw [e] at a1
    rw [e1]
    exact ⟨fun p hp => a1 p (by cases hp; rfl), fun x hx => (by cases hx)⟩
  | some y =>
    rw [e] at a2
    obtain ⟨b1, b2, b3⟩ := a2 y rfl
    have e1 : zThg (fi 2) L (fun t9 => fi (300 + t9) 1) n un a = some (t, y.2) := by
      unfold zThg
      rw [e]
      simp only
      rw [zFnd_yes (cd := fun t9 => fi (300 + t9) 1) (v := y.1) (t := t) (by rw [← hf, h1, b3]) (fun j hj q => h2 j hj (by rw [hf, b3]; exact q)) ht]
      simp only [if_neg hu]
    rw [e1]
    exact ⟨fun p hp => (by cases hp), fun x hx => by cases hx; exact ⟨b1, b2, rfl⟩⟩
theorem zStp.thgN {un : Option Nat} {c : Int32} (hL : L ≤ 400) (ha : a ≤ L) (h : zStp fi f1 (zExc (zNum (fi 2) L 4 4 (nI 0) (nI 9999) a) a) (fun x => f1 1 2 = nI x.2 ∧ c = x.1)) (hno : (∀ j, j < n → ¬ f1 (300 + j) 1 = c) ∨ ∃ t, t < n ∧ f1 (300 + t) 1 = c ∧ (∀ j, j < t → ¬ f1 (300 + j) 1 = c) ∧ un = some t) (hf : ∀ j, f1 (300 + j) 1 = fi (300 + j) 1) (hr : zRef f1 (nI a) u) : zStp fi u (zExc (zThg (fi 2) L (fun t9 => fi (300 + t9) 1) n un a) a) (fun _ => False) := by
  refine ⟨fun q => by rw [hr.keep (by rw [h.1 q]; exact q), h.1 q], fun q => ?_⟩
  obtain ⟨a1, a2⟩ := h.2 q
  have e1 : zThg (fi 2) L (fun t9 => fi (300 + t9) 1) n un a = none ∧ (f1 1 3 = -1 ∨ f1 1 3 = nI a) := by
    cases e : zNum (fi 2) L 4 4 (nI 0) (nI 9999) a with
    | none =>
      rw [e] at a1
      exact ⟨by unfold zThg; rw [e], Or.inr (a1 a rfl).2⟩
    | some y =>
      rw [e] at a2
      obtain ⟨b1, b2, b3⟩ := a2 y rfl
      refine ⟨?_, Or.inl b1⟩
      unfold zThg
      rw [e]
      simp only
      rcases hno with hno | ⟨t, c1, c2, c3, c4⟩
      · rw [zFnd_no (cd := fun t9 => fi (300 + t9) 1) (fun j hj q => hno j hj (by rw [hf, b3]; exact q))]
      · rw [zFnd_yes (cd := fun t9 => fi (300 + t9) 1) (v := y.1) (t := t) (by rw [← hf, c2, b3]) (fun j hj q => c3 j hj (by rw [hf, b3]; exact q)) c1]
        simp only [if_pos c4]
  obtain ⟨e1, e2⟩ := e1
  rw [e1]
  refine ⟨fun p hp => ?_, fun x hx => (by cases hx)⟩
  cases hp
  refine ⟨by omega, ?_⟩
  rcases e2 with e2 | e2
  · exact hr.set e2
  · rw [hr.keep (by rw [e2]; exact nI_ne1 (by omega)), e2]
/-- the draft of the rules: its numbers, and behind them what takes a thing's place -/
def zDft (fi : zFi) : Nat → Int32 := fun k => if k < 4 then fi 13 k else if k < 34 then fi 14 (k - 4) else 0
def zDru (fi : zFi) : Nat → Int32 := fun k => if k < 4 then fi 10 k else if k < 34 then fi 11 (k - 4) else 0
theorem zDft_cg {f g : zFi} (h : ∀ i k, i = 13 ∨ i = 14 → f i k = g i k) : zDft f = zDft g := by
  funext k
  simp only [zDft, h 13 k (by omega), h 14 (k - 4) (by omega)]
theorem zDru_cg {f g : zFi} (h : ∀ i k, i = 10 ∨ i = 11 → f i k = g i k) : zDru f = zDru g := by
  funext k
  simp only [zDru, h 10 k (by omega), h 11 (k - 4) (by omega)]
theorem zDft_num {f g : zFi} {k : Nat} {v : Int32} (hk : k < 4) (e : g = zu f 13 k v) : zDft g = zup (zDft f) k v := by
  funext j
  simp only [zDft, zup, e, zu]
  repeat' split
  all_goals first | rfl | omega | (simp_all; done) | (exfalso; simp_all; omega)
theorem zDft_plc {f g : zFi} {t : Nat} {v : Int32} (hk : t < 30) (e : g = zu f 14 t v) : zDft g = zup (zDft f) (4 + t) v := by
  funext j
  simp only [zDft, zup, e, zu]
  repeat' split
  all_goals first | rfl | omega | (simp_all; done) | (exfalso; simp_all; omega)
theorem zStp.plcY {a1 a2 t1 : Nat} {G3 : Nat × Nat → Prop} (hL : L ≤ 400) (ha : a ≤ L) (h1 : zStp fi f1 (zExc (zThg (fi 2) L (fun t9 => fi (300 + t9) 1) n none a) a) (fun x => f1 1 2 = nI x.2 ∧ x.1 = t1)) (p1 : f1 1 2 = nI a1) (q1 : a1 ≤ L) (e1 : f1 2 = fi 2) (h2 : zStp f1 f2 (zExc (zWrd (f1 2) L [98, 121] a1) a1) (fun x => f2 1 2 = nI x)) (p2 : f2 1 2 = nI a2) (q2 : a2 ≤ L) (e2 : f2 2 = fi 2) (e3 : (fun t9 => f2 (300 + t9) 1) = fun t9 => fi (300 + t9) 1) (h3 : zStp f2 f3 (zExc (zThg (f2 2) L (fun t9 => f2 (300 + t9) 1) n (some t1) a2) a2) G3) (k3 : u 1 3 = f3 1 3) (hG : ∀ y, G3 y → u 1 2 = nI y.2 ∧ zDft u = zup (zDft fi) (4 + t1) (nI y.1)) : zStp fi u (zPlc (fi 2) L (fun t9 => fi (300 + t9) 1) n a) (fun xx => u 1 2 = nI xx.1 ∧ zDft u = zup (zDft fi) xx.2.1 xx.2.2) := by
  rw [e1] at h2
  rw [e2, e3] at h3
  refine ⟨fun q => ?_, fun q => ?_⟩
  · have k1 := h1.1 q
    have k2 := h2.1 (by rw [k1]; exact q)
    rw [k3, h3.1 (by rw [k2, k1]; exact q), k2, k1]
  · obtain ⟨b1, b2⟩ := h1.2 q
    unfold zPlc
    cases e : zThg (fi 2) L (fun t9 => fi (300 + t9) 1) n none a with
    | none =>
      rw [e] at b1
      obtain ⟨c1, c2⟩ := b1 a rfl
      have n1 : f1 1 3 ≠ -1 := by rw [c2]; exact nI_ne1 c1
      have k2 := h2.1 n1
      have k4 := h3.1 (by rw [k2]; exact n1)
      exact ⟨fun p hp => by cases hp; exact ⟨c1, by rw [k3, k4, k2, c2]⟩, fun x hx => (by cases hx)⟩
    | some x =>
      rw [e] at b2
      obtain ⟨c1, c2, c3⟩ := b2 x rfl
      have l1 := (zThg_le ha e).1.2
      have ex : a1 = x.2 := zNj (by omega) (by omega) (p1.symm.trans c2)
      subst ex
      simp only
      obtain ⟨d1, d2⟩ := h2.2 c1
      cases e4 : zWrd (fi 2) L [98, 121] x.2 with
      | none =>
        rw [e4] at d1
        obtain ⟨g1, g2⟩ := d1 x.2 rfl
        have n1 : f2 1 3 ≠ -1 := by rw [g2]; exact nI_ne1 g1
        exact ⟨fun p hp => by cases hp; exact ⟨g1, by rw [k3, h3.1 n1, g2]⟩, fun x hx => (by cases hx)⟩
      | some y =>
        rw [e4] at d2
        obtain ⟨g1, g2⟩ := d2 y rfl
        have l2 := (zWrd_le l1 e4).2
        have ey : a2 = y := zNj (by omega) (by omega) (p2.symm.trans g2)
        subst ey
        simp only
        obtain ⟨m1, m2⟩ := h3.2 g1
        rw [c3]
        cases e5 : zThg (fi 2) L (fun t9 => fi (300 + t9) 1) n (some t1) a2 with
        | none =>
          rw [e5] at m1
          obtain ⟨o1, o2⟩ := m1 a2 rfl
          exact ⟨fun p hp => by cases hp; exact ⟨o1, by rw [k3, o2]⟩, fun x hx => (by cases hx)⟩
        | some z =>
          rw [e5] at m2
          obtain ⟨o1, o2⟩ := m2 z rfl
          obtain ⟨o3, o4⟩ := hG z o2
          exact ⟨fun p hp => (by cases hp), fun x hx => by cases hx; exact ⟨by rw [k3, o1], o3, o4⟩⟩
theorem zStp.plcN {G : Nat × Nat × Int32 → Prop} (h1 : zStp fi f1 (zExc (zThg (fi 2) L (fun t9 => fi (300 + t9) 1) n none a) a) (fun _ => False)) (k2 : f1 1 3 ≠ -1 → f2 1 3 = f1 1 3) (k3 : f2 1 3 ≠ -1 → f3 1 3 = f2 1 3) (k4 : u 1 3 = f3 1 3) : zStp fi u (zPlc (fi 2) L (fun t9 => fi (300 + t9) 1) n a) G := by
  refine ⟨fun q => ?_, fun q => ?_⟩
  · have k1 := h1.1 q
    have k5 := k2 (by rw [k1]; exact q)
    rw [k4, k3 (by rw [k5, k1]; exact q), k5, k1]
  · obtain ⟨b1, b2⟩ := h1.2 q
    unfold zPlc
    cases e : zThg (fi 2) L (fun t9 => fi (300 + t9) 1) n none a with
    | none =>
      rw [e] at b1
      obtain ⟨c1, c2⟩ := b1 a rfl
      have n1 : f1 1 3 ≠ -1 := by rw [c2]; exact nI_ne1 c1
      have k5 := k2 n1
      exact ⟨fun p hp => by cases hp; exact ⟨c1, by rw [k4, k3 (by rw [k5]; exact n1), k5, c2]⟩, fun x hx => (by cases hx)⟩
    | some x =>
      rw [e] at b2
      exact absurd (b2 x rfl).2 id
theorem zStp.rulP {b : Nat} (hw : zWrd (fi 2) L [112, 108, 97, 99, 101] a = some b) (e : f1 = zu fi 1 2 (nI b)) (h : zStp f1 u (zPlc (f1 2) L (fun t9 => f1 (300 + t9) 1) n b) (fun xx => u 1 2 = nI xx.1 ∧ zDft u = zup (zDft f1) xx.2.1 xx.2.2)) : zStp fi u (zRul (fi 2) L (fun t9 => fi (300 + t9) 1) n a) (fun xx => u 1 2 = nI xx.1 ∧ zDft u = zup (zDft fi) xx.2.1 xx.2.2) := by
  have e1 : f1 2 = fi 2 := by funext k; rw [e, zu_n (by omega)]
  have e2 : (fun t9 => f1 (300 + t9) 1) = fun t9 => fi (300 + t9) 1 := by funext k; rw [e, zu_n (by omega)]
  have e3 : zDft f1 = zDft fi := zDft_cg (fun i k q => by rw [e, zu_n (by omega)])
  have e4 : f1 1 3 = fi 1 3 := by rw [e, zu_n (by omega)]
  unfold zRul
  rw [hw]
  unfold zStp at h
  rw [e1, e2, e3, e4] at h
  exact h
theorem zStp.rulX {G : Nat × Nat × Int32 → Prop} (hL : L ≤ 400) (ha : a ≤ L) (hw : zWrd (fi 2) L [112, 108, 97, 99, 101] a = none) (hk : zKnd (fi 2) L a = none) (h : zRef fi (nI a) u) : zStp fi u (zRul (fi 2) L (fun t9 => fi (300 + t9) 1) n a) G := by
  unfold zRul
  rw [hw]
  simp only [hk]
  exact h.st (by omega)
theorem zStp.rulK {k x : Nat} {r hi : Int32} (hL : L ≤ 400) (ha : a ≤ L) (hw : zWrd (fi 2) L [112, 108, 97, 99, 101] a = none) (hk : zKnd (fi 2) L a = some (k, x)) (hk4 : k < 4) (e : f1 = zu fi 1 2 (nI x)) (hhi : hi = zMost k) (h : zStp f1 f2 (zExc (zNum (f1 2) L 1 6 (nI 0) hi x) x) (fun y => f2 1 2 = nI y.2 ∧ r = y.1)) (hd : zDft f2 = zDft f1) (eu : u = zu f2 13 k r) : zStp fi u (zRul (fi 2) L (fun t9 => fi (300 + t9) 1) n a) (fun xx => u 1 2 = nI xx.1 ∧ zDft u = zup (zDft fi) xx.2.1 xx.2.2) := by
  have e1 : f1 2 = fi 2 := by funext k; rw [e, zu_n (by omega)]
  have e3 : zDft f1 = zDft fi := zDft_cg (fun i k q => by rw [e, zu_n (by omega)])
  have e4 : f1 1 3 = fi 1 3 := by rw [e, zu_n (by omega)]
  have e5 : u 1 3 = f2 1 3 := by rw [eu, zu_n (by omega)]
  rw [e1, hhi] at h
  refine ⟨fun q => by rw [e5, h.1 (by rw [e4]; exact q), e4], fun q => ?_⟩
  obtain ⟨b1, b2⟩ := h.2 (by rw [e4]; exact q)
  unfold zRul
  rw [hw]
  simp only [hk]
  cases e6 : zNum (fi 2) L 1 6 (nI 0) (zMost k) x with
  | none =>
    rw [e6] at b1
    obtain ⟨c1, c2⟩ := b1 x rfl
    exact ⟨fun p hp => by cases hp; exact ⟨c1, by rw [e5, c2]⟩, fun x hx => (by cases hx)⟩
  | some y =>
    rw [e6] at b2
    obtain ⟨c1, c2, c3⟩ := b2 y rfl
    refine ⟨fun p hp => (by cases hp), fun z hz => ?_⟩
    cases hz
    refine ⟨by rw [e5, c1], by rw [eu, zu_n (by omega)]; exact c2, ?_⟩
    rw [zDft_num hk4 eu, hd, e3, c3]
/-- the class in its loop over the rules; T: what the whole text tells -/
def zLi (T : Except Nat (Nat × (Nat → Int32))) (bs cd : Nat → Int32) (L n i : Nat) (y : Int32) (b : Nat) (f : zFi) : Prop := (∃ p, p ≤ 400 ∧ f 1 3 = nI p ∧ T = .error p) ∨ (f 1 3 = -1 ∧ ((y = nI 1 ∧ 2 * i ≤ b ∧ T = zRls bs L cd n (401 - i) b (zDft f) i) ∨ (y = nI 0 ∧ ((b < L ∧ T = .error b) ∨ (b = L ∧ T = .ok (i, zDft f))))))
theorem zLi.step {T : Except Nat (Nat × (Nat → Int32))} {bs cd : Nat → Int32} {i b b1 b2 : Nat} {y r x : Int32} {f : zFi} (hL : L ≤ 400) (hb : b ≤ L) (hi : i < 400) (h : zLi T bs cd L n i y b f) (hy : ¬ y.toInt = 0) (eb : f 2 = bs) (ec : (fun t9 => f (300 + t9) 1) = cd) (hs : zStp f f1 (zRul (f 2) L (fun t9 => f (300 + t9) 1) n b) (fun xx => f1 1 2 = nI xx.1 ∧ zDft f1 = zup (zDft f) xx.2.1 xx.2.2)) (p1 : f1 1 2 = nI b1) (q1 : b1 ≤ L) (eb1 : f1 2 = bs) (hx : x.toInt = 59) (hg : (r = 1 ∧ b1 < L ∧ f1 2 b1 = x ∧ ∃ b, f2 = zu f1 1 2 (nI b) ∧ zSkip (f1 2) (b1 + 1) L b) ∨ (r = 0 ∧ f2 = f1 ∧ (b1 < L → ¬ f1 2 b1 = x))) (p2 : f2 1 2 = nI b2) (q2 : b2 ≤ L) : zLi T bs cd L n (i + 1) r b2 f2 := by
  have e3 : f2 1 3 = f1 1 3 := by
    rcases hg with ⟨-, -, -, b, e, -⟩ | ⟨-, e, -⟩
    · rw [e, zu_n (by omega)]
    · rw [e]
  rw [eb, ec] at hs
  rcases h with ⟨p, c1, c2, c3⟩ | ⟨c1, h⟩
  · exact Or.inl ⟨p, c1, by rw [e3, hs.1 (by rw [c2]; exact nI_ne1 c1), c2], c3⟩
  · rcases h with ⟨-, c2, c3⟩ | ⟨c2, -⟩
    · obtain ⟨d1, d2⟩ := hs.2 c1
      rw [show 401 - i = (401 - (i + 1)) + 1 by omega] at c3
      simp only [zRls] at c3
      cases e : zRul bs L cd n b with
      | error p =>
        rw [e] at c3
        obtain ⟨g1, g2⟩ := d1 p e
        exact Or.inl ⟨p, g1, by rw [e3, g2], c3⟩
      | ok z =>
        rw [e] at c3
        simp only at c3
        obtain ⟨g1, g2, g3⟩ := d2 z e
        have l1 := ((zRul_le hb).2 z e).1
        have ez : b1 = z.1 := zNj (by omega) (by omega) (p1.symm.trans g2)
        subst ez
        rw [eb1] at hg
        refine Or.inr ⟨by rw [e3, g1], ?_⟩
        rcases hg with ⟨r1, r2, r3, bb, r4, r5⟩ | ⟨r1, r2, r3⟩
        · have e4 : zDft f2 = zDft f1 := zDft_cg (fun i k q => by rw [r4, zu_n (by omega)])
          rw [if_pos ⟨r2, by rw [r3]; exact hx⟩] at c3
          have l2 := r5.1
          have l3 := r5.2.1
          have eb2 : b2 = bb := zNj (by omega) (by omega) (p2.symm.trans (by rw [r4, zu_s]))
          subst eb2
          exact Or.inl ⟨by rw [r1]; rfl, by omega, by rw [c3, ← r5.eq, e4, g3]⟩
        · have hne : ¬ (z.1 < L ∧ (bs z.1).toInt = 59) := fun q => r3 q.1 (by apply Int32.toInt_inj.mp; rw [hx]; exact q.2)
          rw [if_neg hne] at c3
          have eb2 : b2 = z.1 := zNj (by omega) (by omega) (p2.symm.trans (by rw [r2]; exact p1))
          subst eb2
          refine Or.inr ⟨by rw [r1]; rfl, ?_⟩
          by_cases q : z.1 < L
          · rw [if_pos q] at c3
            exact Or.inl ⟨q, c3⟩
          · rw [if_neg q] at c3
            exact Or.inr ⟨by omega, by rw [c3, r2, g3]⟩
    · exact absurd (by rw [c2]; decide) hy
theorem zDru_of {g : zFi} (h : u = fun i j => if i = 11 ∧ j < 30 then g 14 j else if i = 10 ∧ j < 4 then g 13 j else g i j) : zDru u = zDft g := by
  funext k
  simp only [zDru, zDft, h]
  repeat' split
  all_goals first | rfl | omega | (simp_all; done) | (exfalso; simp_all; omega)
theorem zDft_of {g : zFi} (h : g = fun i j => if i = 14 ∧ j < 30 then fi 11 j else if i = 13 ∧ j < 4 then fi 10 j else fi i j) : zDft g = zDru fi := by
  funext k
  simp only [zDru, zDft, h]
  repeat' split
  all_goals first | rfl | omega | (simp_all; done) | (exfalso; simp_all; omega)
theorem zLi.init {cd : Nat → Int32} {g f : zFi} {b : Nat} (h : g = fun i j => if i = 14 ∧ j < 30 then fi 11 j else if i = 13 ∧ j < 4 then fi 10 j else fi i j) (e7 : f = zu (zu g 1 3 (-1)) 1 2 (nI b)) (h7 : zSkip (g 2) 0 L b) : zRls (fi 2) L cd n 401 (zS (fi 2) L 0) (zDru fi) 0 = zRls (fi 2) L cd n (401 - 0) b (zDft f) 0 := by
  have e1 : g 2 = fi 2 := by funext k; rw [h]; show (if _ then _ else if _ then _ else _) = _; rw [if_neg (by omega), if_neg (by omega)]
  have e2 : zDft f = zDru fi := by rw [← zDft_of h]; exact zDft_cg (fun i k q => by rw [e7, zu_n (by omega), zu_n (by omega)])
  rw [e1] at h7
  rw [e2, h7.eq]
theorem zLi.exit {T : Except Nat (Nat × (Nat → Int32))} {bs cd : Nat → Int32} {i b : Nat} {y w : Int32} {f : zFi} (hL : L ≤ 400) (hb : b ≤ L) (h : zLi T bs cd L n i y b f) (hy : 400 ≤ i ∨ y.toInt = 0) (hc : (¬ f 1 3 = -1 ∧ w = f 1 3) ∨ (f 1 3 = -1 ∧ b < L ∧ w = nI b) ∨ (f 1 3 = -1 ∧ b = L ∧ w = -1)) : (∃ p, p ≤ 400 ∧ w = nI p ∧ T = .error p) ∨ (w = -1 ∧ T = .ok (i, zDft f)) := by
  rcases h with ⟨p, c1, c2, c3⟩ | ⟨c1, h⟩
  · rcases hc with ⟨-, d2⟩ | ⟨d1, -⟩ | ⟨d1, -⟩
    · exact Or.inl ⟨p, c1, by rw [d2, c2], c3⟩
    · exact absurd (c2.symm.trans d1) (nI_ne1 c1)
    · exact absurd (c2.symm.trans d1) (nI_ne1 c1)
  · rcases h with ⟨c2, c3, c4⟩ | ⟨c2, c3⟩
    · exfalso
      rw [c2] at hy
      rcases hy with hy | hy
      · omega
      · exact absurd hy (by decide)
    · rcases hc with ⟨d1, -⟩ | ⟨-, d1, d2⟩ | ⟨-, d1, d2⟩
      · exact absurd c1 d1
      · rcases c3 with ⟨c3, c4⟩ | ⟨c3, -⟩
        · exact Or.inl ⟨b, by omega, d2, c4⟩
        · omega
      · rcases c3 with ⟨c3, -⟩ | ⟨c3, c4⟩
        · omega
        · exact Or.inr ⟨d2, c4⟩
end CX
def zNn (d : Nat → Nat) : Nat → Nat
  | 0 => 0
  | k + 1 => zNn d k * 256 + d k
theorem zNn_lt {d : Nat → Nat} : ∀ k, (∀ j, j < k → d j < 256) → zNn d k < 256 ^ k := by
  intro k
  induction k with
  | zero => intro _; show 0 < 1; omega
  | succ k ih =>
    intro h
    have h1 := ih (fun j q => h j (by omega))
    have h2 := h k (by omega)
    show zNn d k * 256 + d k < 256 ^ (k + 1)
    rw [Nat.pow_succ]
    omega
theorem zNn_inj {d e : Nat → Nat} : ∀ k k', (∀ j, j < k → 0 < d j ∧ d j < 256) → (∀ j, j < k' → 0 < e j ∧ e j < 256) → zNn d k = zNn e k' → k = k' ∧ ∀ j, j < k → d j = e j := by
  intro k
  induction k with
  | zero =>
    intro k' _ h2 h
    cases k' with
    | zero => exact ⟨rfl, fun j q => absurd q (by omega)⟩
    | succ k' =>
      have := h2 k' (by omega)
      have : (0 : Nat) = zNn e k' * 256 + e k' := h
      omega
  | succ k ih =>
    intro k' h1 h2 h
    cases k' with
    | zero =>
      have := h1 k (by omega)
      have : zNn d k * 256 + d k = 0 := h
      omega
    | succ k' =>
      have a1 := h1 k (by omega)
      have a2 := h2 k' (by omega)
      have a3 : zNn d k * 256 + d k = zNn e k' * 256 + e k' := h
      obtain ⟨b1, b2⟩ := ih k' (fun j q => h1 j (by omega)) (fun j q => h2 j (by omega)) (by omega)
      subst b1
      refine ⟨rfl, fun j q => ?_⟩
      by_cases c : j = k
      · subst c; omega
      · exact b2 j (by omega)
/-- a word's bytes in one number -/
def zLv (b : Nat → Int32) (a : Nat) : Nat → Int64
  | 0 => 0
  | k + 1 => zLv b a k <<< ((nI 8).toInt64 &&& 63) ||| (b (a + k)).toInt64
theorem zShl {N y : Nat} (hN : N < 2 ^ 48) (hy : y < 256) : Int64.ofNat N <<< ((nI 8).toInt64 &&& 63) ||| Int64.ofNat y = Int64.ofNat (N * 256 + y) := by
  have e8 : (nI 8).toInt64 &&& 63 = 8 := by decide
  rw [e8]
  apply Int64.toBitVec_inj.mp
  rw [Int64.toBitVec_or, Int64.toBitVec_shiftLeft]
  have e9 : BitVec.smod (8 : Int64).toBitVec 64 = 8#64 := by decide
  rw [e9]
  apply BitVec.eq_of_toNat_eq
  simp only [BitVec.toNat_or, BitVec.shiftLeft_eq', BitVec.toNat_shiftLeft, BitVec.toNat_ofNat, Int64.toBitVec_ofNat']
  rw [Nat.mod_eq_of_lt (show N < 2 ^ 64 by omega), Nat.mod_eq_of_lt (show y < 2 ^ 64 by omega), Nat.mod_eq_of_lt (show 8 < 2 ^ 64 by omega), Nat.mod_eq_of_lt (show N * 256 + y < 2 ^ 64 by omega), Nat.mod_eq_of_lt (show N <<< 8 < 2 ^ 64 by rw [Nat.shiftLeft_eq]; omega)]
  rw [← Nat.shiftLeft_add_eq_or_of_lt (show y < 2 ^ 8 by omega), Nat.shiftLeft_eq]
theorem zI64 {x : Int32} {y : Nat} (h : x.toInt = (y : Int)) : x.toInt64 = Int64.ofNat y := by
  apply Int64.toInt_inj.mp
  rw [Int32.toInt_toInt64, h]
  have := x.toInt_lt
  rw [Int64.toInt_ofNat_of_lt (by omega)]
theorem zOfN {N M : Nat} (hN : N < 2 ^ 56) (hM : M < 2 ^ 56) (h : Int64.ofNat N = Int64.ofNat M) : N = M := by
  have h9 := congrArg Int64.toInt h
  rw [Int64.toInt_ofNat_of_lt (by omega), Int64.toInt_ofNat_of_lt (by omega)] at h9
  omega
theorem zLv_nat {b : Nat → Int32} {a : Nat} : ∀ k, k ≤ 7 → (∀ j, j < k → 97 ≤ (b (a + j)).toInt ∧ (b (a + j)).toInt ≤ 122) → zLv b a k = Int64.ofNat (zNn (fun j => (b (a + j)).toInt.toNat) k) := by
  intro k
  induction k with
  | zero => intro _ _; rfl
  | succ k ih =>
    intro hk h
    have h1 := zNn_lt (d := fun j => (b (a + j)).toInt.toNat) k (fun j q => by have := h j (by omega); show (b (a + j)).toInt.toNat < 256; omega)
    have h2 := h k (by omega)
    have h3 : 256 ^ k ≤ 256 ^ 6 := Nat.pow_le_pow_right (by omega) (by omega)
    show zLv b a k <<< ((nI 8).toInt64 &&& 63) ||| (b (a + k)).toInt64 = Int64.ofNat (zNn (fun j => (b (a + j)).toInt.toNat) k * 256 + (b (a + k)).toInt.toNat)
    rw [ih (by omega) (fun j q => h j (by omega)), zI64 (x := b (a + k)) (y := (b (a + k)).toInt.toNat) (by omega)]
    have h4 : (256 : Nat) ^ 6 = 2 ^ 48 := by rw [show (256 : Nat) = 2 ^ 8 from rfl, ← Nat.pow_mul]
    exact zShl (by omega) (by omega)
/-- the word that stands at c, as the reference tells it -/
def zOKw (b : Nat → Int32) (c L : Nat) (wd : Int64) : Prop := ∃ k, zRun b 97 122 c L k ∧ 1 ≤ k ∧ k ≤ 7 ∧ zLv b c k = wd
def zWs (ws : List Int32) (wd : Int64) : Prop := (∀ j, j < ws.length → 97 ≤ (ws.getD j 0).toInt ∧ (ws.getD j 0).toInt ≤ 122) ∧ (1 ≤ ws.length ∧ ws.length ≤ 7) ∧ wd = Int64.ofNat (zNn (fun j => (ws.getD j 0).toInt.toNat) ws.length)
theorem zP56 {k N : Nat} (hk : k ≤ 7) (h : N < 256 ^ k) : N < 2 ^ 56 := by
  have l3 : 256 ^ k ≤ 256 ^ 7 := Nat.pow_le_pow_right (by omega) (by omega)
  have p7 : (256 : Nat) ^ 7 = 2 ^ 56 := by rw [show (256 : Nat) = 2 ^ 8 from rfl, ← Nat.pow_mul]
  rw [p7] at l3
  exact Nat.lt_of_lt_of_le h l3
theorem zOKw.yes {b : Nat → Int32} {c L : Nat} {wd : Int64} {ws : List Int32} (hw : zWs ws wd) (h : zOKw b c L wd) : zRun b 97 122 c L ws.length ∧ zWrd b L ws c = some (zS b L (c + ws.length)) := by
  obtain ⟨k, h1, h2, h3, h4⟩ := h
  obtain ⟨w1, ⟨w2, w3⟩, w4⟩ := hw
  have hr : ∀ j, j < k → 97 ≤ (b (c + j)).toInt ∧ (b (c + j)).toInt ≤ 122 := fun j q => h1.2.1 (c + j) (by omega) (by omega)
  rw [zLv_nat k h3 hr, w4] at h4
  have l1 := zNn_lt (d := fun j => (b (c + j)).toInt.toNat) k (fun j q => by have := hr j q; show (b (c + j)).toInt.toNat < 256; omega)
  have l2 := zNn_lt (d := fun j => (ws.getD j 0).toInt.toNat) ws.length (fun j q => by have := w1 j q; show (ws.getD j 0).toInt.toNat < 256; omega)
  have h5 := zOfN (zP56 h3 l1) (zP56 w3 l2) h4
  clear l1 l2 h4
  obtain ⟨a1, a2⟩ := zNn_inj k ws.length (fun j q => by have := hr j q; show 0 < (b (c + j)).toInt.toNat ∧ (b (c + j)).toInt.toNat < 256; omega) (fun j q => by have := w1 j q; show 0 < (ws.getD j 0).toInt.toNat ∧ (ws.getD j 0).toInt.toNat < 256; omega) h5
  subst a1
  refine ⟨h1, ?_⟩
  unfold zWrd
  rw [if_pos ⟨h1.eq.symm, fun j q => by
    have q1 : (b (c + j)).toInt.toNat = (ws.getD j 0).toInt.toNat := a2 j q
    have q2 := hr j q
    have q3 := w1 j q
    apply Int32.toInt_inj.mp
    omega⟩]
theorem zNn_cg {d e : Nat → Nat} : ∀ k, (∀ j, j < k → d j = e j) → zNn d k = zNn e k := by
  intro k
  induction k with
  | zero => intro _; rfl
  | succ k ih =>
    intro h
    show zNn d k * 256 + d k = zNn e k * 256 + e k
    rw [ih (fun j q => h j (by omega)), h k (by omega)]
theorem zOKw.no {b : Nat → Int32} {c L : Nat} {wd : Int64} {ws : List Int32} (hc : c ≤ L) (hw : zWs ws wd) (h : ¬ zOKw b c L wd) : zWrd b L ws c = none := by
  unfold zWrd
  by_cases q : zR b 97 122 L c = ws.length ∧ ∀ j, j < ws.length → b (c + j) = ws.getD j 0
  · exfalso
    obtain ⟨w1, ⟨w2, w3⟩, w4⟩ := hw
    have hr : zRun b 97 122 c L ws.length := q.1 ▸ zR_run hc
    have e0 := zLv_nat (b := b) (a := c) ws.length w3 (fun j q => hr.2.1 (c + j) (by omega) (by omega))
    have e1 : zNn (fun j => (b (c + j)).toInt.toNat) ws.length = zNn (fun j => (ws.getD j 0).toInt.toNat) ws.length := zNn_cg ws.length (fun j hj => by show (b (c + j)).toInt.toNat = (ws.getD j 0).toInt.toNat; rw [q.2 j hj])
    exact h ⟨ws.length, hr, w2, w3, e0.trans ((congrArg Int64.ofNat e1).trans w4.symm)⟩
  · rw [if_neg q]
theorem zDig_m {b : Nat → Int32} {c k : Nat} {v w1 w2 w3 : Int32} (h : v = zDig b c k) (e1 : w1 = nI 10 * v) (e2 : w2 = w1 + b (c + k)) (e3 : w3 = w2 - nI 48) : w3 = zDig b c (k + 1) := by
  rw [e3, e2, e1, h, Int32.mul_comm]
  rfl
/-- a number that the reference has read -/
theorem zNumM {b : Nat → Int32} {L c k p q : Nat} {lo hi v : Int32} (hc : c + k ≤ L) (hk : k ≤ q + 1) (hd : ∀ j, c ≤ j → j < c + k → 48 ≤ (b j).toInt ∧ (b j).toInt ≤ 57) (hv : v = zDig b c k) (hx : k ≤ q → c + k < L → ¬ (48 ≤ (b (c + k)).toInt ∧ (b (c + k)).toInt ≤ 57)) : ((p ≤ k ∧ k ≤ q ∧ lo.toInt ≤ v.toInt ∧ v.toInt ≤ hi.toInt) → zNum b L p q lo hi c = some (v, zS b L (c + k))) ∧ (¬ (p ≤ k ∧ k ≤ q ∧ lo.toInt ≤ v.toInt ∧ v.toInt ≤ hi.toInt) → zNum b L p q lo hi c = none) := by
  have e1 : (48 : Int32).toInt = 48 := by decide
  have e2 : (57 : Int32).toInt = 57 := by decide
  by_cases h : k ≤ q
  · have hr : zRun b 48 57 c L k := ⟨hc, fun j a1 a2 => by have := hd j a1 a2; omega, fun a1 => by have := hx h a1; omega⟩
    have e := hr.eq
    unfold zNum
    rw [← e, ← hv]
    exact ⟨fun c1 => by rw [if_pos c1], fun c1 => by rw [if_neg c1]⟩
  · have hr := zR_run (b := b) (lo := 48) (hi := 57) (n := L) (a := c) (by omega)
    have : k ≤ zR b 48 57 L c := by
      rcases Nat.lt_or_ge (zR b 48 57 L c) k with g | g
      · exfalso
        have := hd (c + zR b 48 57 L c) (by omega) (by omega)
        exact hr.2.2 (by omega) (by omega)
      · exact g
    unfold zNum
    exact ⟨fun c1 => absurd c1.2.1 h, fun _ => by rw [if_neg (fun c1 => by have := c1.2.1; omega)]⟩
theorem zRun.wd {b : Nat → Int32} {a n c : Nat} (h1 : a ≤ c) (h2 : c ≤ n) (hj : ∀ j, a ≤ j → j < c → 97 ≤ (b j).toInt ∧ (b j).toInt ≤ 122) (hx : c < n → ¬ (97 ≤ (b c).toInt ∧ (b c).toInt ≤ 122)) : zRun b 97 122 a n (c - a) := by
  have e1 : (97 : Int32).toInt = 97 := by decide
  have e2 : (122 : Int32).toInt = 122 := by decide
  refine ⟨by omega, fun j p q => by have := hj j p (by omega); omega, fun p => ?_⟩
  rw [show a + (c - a) = c by omega] at p ⊢
  have := hx p
  omega
theorem zLv_s {b : Nat → Int32} {c i : Nat} {ww v1 v2 v3 : Int64} (hc : c ≤ i) (h : ww = zLv b c (i - c)) (e1 : v1 = ww <<< ((nI 8).toInt64 &&& 63)) (e2 : v2 = (b i).toInt64) (e3 : v3 = v1 ||| v2) : v3 = zLv b c (i + 1 - c) := by
  rw [show i + 1 - c = (i - c) + 1 by omega, e3, e2, e1, h]
  show _ = zLv b c (i - c) <<< _ ||| (b (c + (i - c))).toInt64
  rw [show c + (i - c) = i by omega]
theorem zLc {x y : Int64} (h : (lg_cmp x y).toInt = 0) : x = y := by
  unfold lg_cmp at h
  split at h
  · exact absurd h (by decide)
  · split at h
    · assumption
    · exact absurd h (by decide)
section RX
variable {b cd : Nat → Int32} {L n a t x : Nat} {un : Option Nat} {v : Int32}
theorem zThg_0 (h : zNum b L 4 4 (nI 0) (nI 9999) a = none) : zThg b L cd n un a = none := by unfold zThg; rw [h]
theorem zThg_1 (h : zNum b L 4 4 (nI 0) (nI 9999) a = some (v, x)) (hno : ∀ j, j < n → ¬ cd j = v) : zThg b L cd n un a = none := by unfold zThg; rw [h]; simp only [zFnd_no hno]
theorem zThg_2 (h : zNum b L 4 4 (nI 0) (nI 9999) a = some (v, x)) (ht : t < n) (e : cd t = v) (hl : ∀ j, j < t → ¬ cd j = v) (hu : un = some t) : zThg b L cd n un a = none := by unfold zThg; rw [h]; simp only [zFnd_yes e hl ht, if_pos hu]
theorem zThg_3 (h : zNum b L 4 4 (nI 0) (nI 9999) a = some (v, x)) (ht : t < n) (e : cd t = v) (hl : ∀ j, j < t → ¬ cd j = v) (hu : un ≠ some t) : zThg b L cd n un a = some (t, x) := by unfold zThg; rw [h]; simp only [zFnd_yes e hl ht, if_neg hu]
theorem zOKw.yesE {c e p : Nat} {wd : Int64} {ws : List Int32} (hw : zWs ws wd) (h : zOKw b c L wd) (hr : zRun b 97 122 c L (e - c)) (hc : c ≤ e) (hk : c = p) : zWrd b L ws p = some (zS b L e) := by
  obtain ⟨h1, h2⟩ := h.yes hw
  have h3 := zRun_one hr h1
  rw [← hk, h2, show c + ws.length = e by omega]
/-- the reference's draft of the rules -/
def zDmo (fi : zFi) : Nat → Int32 := fun k => if k < 4 then fi 45 k else if k < 34 then fi 46 (k - 4) else 0
def zDot (fi : zFi) : Nat → Int32 := fun k => if k < 4 then fi 44 k else if k < 34 then fi 40 (k - 4) else 0
theorem zDmo_cg {f g : zFi} (h : ∀ i k, i = 45 ∨ i = 46 → f i k = g i k) : zDmo f = zDmo g := by
  funext k
  simp only [zDmo, h 45 k (by omega), h 46 (k - 4) (by omega)]
theorem zDot_cg {f g : zFi} (h : ∀ i k, i = 44 ∨ i = 40 → f i k = g i k) : zDot f = zDot g := by
  funext k
  simp only [zDot, h 44 k (by omega), h 40 (k - 4) (by omega)]
theorem zDmo_num {f g : zFi} {k : Nat} {v : Int32} (hk : k < 4) (e : g = zu f 45 k v) : zDmo g = zup (zDmo f) k v := by
  funext j
  simp only [zDmo, zup, e, zu]
  repeat' split
  all_goals first | rfl | omega | (simp_all; done) | (exfalso; simp_all; omega)
theorem zDmo_plc {f g : zFi} {t : Nat} {v : Int32} (hk : t < 30) (e : g = zu f 46 t v) : zDmo g = zup (zDmo f) (4 + t) v := by
  funext j
  simp only [zDmo, zup, e, zu]
  repeat' split
  all_goals first | rfl | omega | (simp_all; done) | (exfalso; simp_all; omega)
end RX
theorem zWs_place : zWs [112, 108, 97, 99, 101] 482854658917 := ⟨by decide, by decide, by decide⟩
theorem zWs_by : zWs [98, 121] 25209 := ⟨by decide, by decide, by decide⟩
theorem zWs_behind : zWs [98, 101, 104, 105, 110, 100] 108187682958948 := ⟨by decide, by decide, by decide⟩
theorem zWs_post : zWs [112, 111, 115, 116] 1886352244 := ⟨by decide, by decide, by decide⟩
theorem zWs_free : zWs [102, 114, 101, 101] 1718773093 := ⟨by decide, by decide, by decide⟩
theorem zWs_back : zWs [98, 97, 99, 107] 1650549611 := ⟨by decide, by decide, by decide⟩
theorem zWs_x : zWs [120] 120 := ⟨by decide, by decide, by decide⟩
theorem zWs_sum : zWs [115, 117, 109] 7566701 := ⟨by decide, by decide, by decide⟩
theorem zWs_money : zWs [109, 111, 110, 101, 121] 470020941177 := ⟨by decide, by decide, by decide⟩
/-- the reference in its loop over the rules -/
def zLm (T : Except Nat (Nat × (Nat → Int32))) (bs cd : Nat → Int32) (L n mm m2 : Nat) (y3 : Int32) (c : Nat) (D9 : Nat → Int32) (f : zFi) : Prop := (y3 = nI 0 ∧ m2 = 0 ∧ ∃ p, p ≤ 400 ∧ T = .error p ∧ f 30 24 = nI p) ∨ (y3 = nI 1 ∧ f 30 24 = -1 ∧ (∀ k, k < 4 + n → zDmo f k = D9 k) ∧ ((m2 = 1 ∧ mm ≤ c ∧ T = zRls bs L cd n (401 - mm) (zS bs L c) D9 mm) ∨ (m2 = 0 ∧ ((zS bs L c < L ∧ T = .error (zS bs L c)) ∨ (zS bs L c = L ∧ T = .ok (mm, D9))))))
section LM
variable {T : Except Nat (Nat × (Nat → Int32))} {bs cd D9 : Nat → Int32} {L n mm c c2 : Nat}
theorem zLm_s (hm : mm ≤ c) (hc : c ≤ L) (hL : L ≤ 400) (hT : T = zRls bs L cd n (401 - mm) (zS bs L c) D9 mm) : T = zRls bs L cd n ((401 - (mm + 1)) + 1) (zS bs L c) D9 mm := by rw [hT, show 401 - mm = (401 - (mm + 1)) + 1 by omega]
theorem zLm_e {p : Nat} (hm : mm ≤ c) (hc : c ≤ L) (hL : L ≤ 400) (hT : T = zRls bs L cd n (401 - mm) (zS bs L c) D9 mm) (h : zRul bs L cd n (zS bs L c) = .error p) : T = .error p := by
  rw [zLm_s hm hc hL hT]
  simp only [zRls, h]
theorem zLm_y {x : Nat × Nat × Int32} (hm : mm ≤ c) (hc : c ≤ L) (hL : L ≤ 400) (hT : T = zRls bs L cd n (401 - mm) (zS bs L c) D9 mm) (h : zRul bs L cd n (zS bs L c) = .ok x) (e : c2 = x.1) (h2 : c2 < L) (h3 : (bs c2).toInt = 59) : T = zRls bs L cd n (401 - (mm + 1)) (zS bs L (c2 + 1)) (zup D9 x.2.1 x.2.2) (mm + 1) := by
  rw [zLm_s hm hc hL hT]
  subst e
  simp only [zRls, h, h2, h3, and_self, if_true]
theorem zLm_n {x : Nat × Nat × Int32} (hm : mm ≤ c) (hc : c ≤ L) (hL : L ≤ 400) (hT : T = zRls bs L cd n (401 - mm) (zS bs L c) D9 mm) (h : zRul bs L cd n (zS bs L c) = .ok x) (e : c2 = x.1) (h2 : c2 ≤ L) (h3 : c2 < L → ¬ (bs c2).toInt = 59) : (c2 < L ∧ T = .error c2) ∨ (c2 = L ∧ T = .ok (mm + 1, zup D9 x.2.1 x.2.2)) := by
  have hT := zLm_s hm hc hL hT
  subst e
  simp only [zRls, h] at hT
  rw [if_neg (fun q => h3 q.1 q.2)] at hT
  by_cases q : x.1 < L
  · rw [if_pos q] at hT
    exact Or.inl ⟨q, hT⟩
  · rw [if_neg q] at hT
    exact Or.inr ⟨by omega, hT⟩
theorem zup_ag {A B : Nat → Int32} {N kd : Nat} {v : Int32} (h : ∀ k, k < N → A k = B k) : ∀ k, k < N → zup A kd v k = zup B kd v k := fun k hk => by
  simp only [zup, h k hk]
theorem zDmo_init {f fi : zFi} (h0 : f 45 0 = fi 44 0) (h1 : f 45 1 = fi 44 1) (h2 : f 45 2 = fi 44 2) (h3 : f 45 3 = fi 44 3) (hn : n ≤ 30) (ht : ∀ t, t < n → f 46 t = fi 40 t) : ∀ k, k < 4 + n → zDmo f k = zDot fi k := fun k hk => by
  simp only [zDmo, zDot]
  by_cases q : k < 4
  · rw [if_pos q, if_pos q]
    have : k = 0 ∨ k = 1 ∨ k = 2 ∨ k = 3 := by omega
    rcases this with rfl | rfl | rfl | rfl
    · exact h0
    · exact h1
    · exact h2
    · exact h3
  · rw [if_neg q, if_neg q, if_pos (by omega), if_pos (by omega)]
    exact ht _ (by omega)
theorem zDmo_n {f : zFi} {D : Nat → Int32} (h : ∀ k, k < 4 + n → zDmo f k = D k) : ∀ k, k < 4 → f 45 k = D k := fun k q => by
  have := h k (by omega)
  simp only [zDmo, if_pos q] at this
  exact this
theorem zDmo_t {f : zFi} {D : Nat → Int32} (hn : n ≤ 30) (h : ∀ k, k < 4 + n → zDmo f k = D k) : ∀ t, t < n → f 46 t = D (4 + t) := fun t q => by
  have := h (4 + t) (by omega)
  simp only [zDmo] at this
  rw [if_neg (by omega), if_pos (by omega), show 4 + t - 4 = t by omega] at this
  exact this
theorem zDot_end {u : zFi} {fi : zFi} {D : Nat → Int32} (h : u 44 0 = D 0 ∧ u 44 1 = D 1 ∧ u 44 2 = D 2 ∧ u 44 3 = D 3) (hn : n ≤ 30) (h1 : ∀ t, t < n → u 40 t = D (4 + t)) (h2 : ∀ t, n ≤ t → u 40 t = fi 40 t) : (∀ k, k < 4 + n → zDot u k = D k) ∧ ∀ k, 4 + n ≤ k → zDot u k = zDot fi k := by
  refine ⟨fun k hk => ?_, fun k hk => ?_⟩
  · simp only [zDot]
    by_cases q : k < 4
    · rw [if_pos q]
      have : k = 0 ∨ k = 1 ∨ k = 2 ∨ k = 3 := by omega
      rcases this with rfl | rfl | rfl | rfl
      · exact h.1
      · exact h.2.1
      · exact h.2.2.1
      · exact h.2.2.2
    · rw [if_neg q, if_pos (by omega), h1 _ (by omega), show 4 + (k - 4) = k by omega]
  · simp only [zDot]
    by_cases q : k < 34
    · rw [if_neg (by omega), if_pos q, if_neg (by omega), if_pos q, h2 _ (by omega)]
    · rw [if_neg (by omega), if_neg q, if_neg (by omega), if_neg q]
end LM
def zB9 (x k : Int32) : Int32 := (x >>> (k &&& 31)) &&& 255
theorem zB89' (y : Int32) : ((y.toInt8.toInt32).toInt = (y &&& 255).toInt ∨ ((y.toInt8.toInt32).toInt < 0 ∧ 128 ≤ (y &&& 255).toInt)) ∧ 0 ≤ (y &&& 255).toInt := by
  have h1 : (y &&& 255).toBitVec.toNat = y.toBitVec.toNat % 256 := by
    rw [Int32.toBitVec_and, BitVec.toNat_and]
    show y.toBitVec.toNat &&& (2 ^ 8 - 1) = _
    rw [Nat.and_two_pow_sub_one_eq_mod]
  have h2 : (y &&& 255).toInt = ((y.toBitVec.toNat % 256 : Nat) : Int) := by
    rw [← Int32.toInt_toBitVec, BitVec.toInt_eq_toNat_of_lt (by omega), h1]
  have h3 : (y.toInt8.toInt32).toInt = y.toInt.bmod 256 := by
    rw [Int8.toInt_toInt32, Int32.toInt_toInt8]
  have h4 : y.toInt % 256 = ((y.toBitVec.toNat % 256 : Nat) : Int) := by
    rw [← Int32.toInt_toBitVec, BitVec.toInt_eq_toNat_cond]
    split <;> omega
  rw [h3, h2]
  unfold Int.bmod
  simp only []
  rw [show ((256 : Nat) : Int) = 256 from rfl, h4]
  split <;> omega
theorem zB89 (x k : Int32) : ((zB8 x k).toInt = (zB9 x k).toInt ∨ ((zB8 x k).toInt < 0 ∧ 128 ≤ (zB9 x k).toInt)) ∧ 0 ≤ (zB9 x k).toInt := zB89' _
/-! ===== THE CLASS READS A LETTER ===== -/
section CLX
variable {f f1 f2 f3 f4 f5 : zFi} {L b b1 b2 : Nat}
theorem zStp.ln1 {c v : Int32} (hL : L ≤ 400) (hb : b ≤ L) (h1 : zStp f f1 (zExc (zNum (f 2) L 4 4 (nI 0) (nI 9999) b) b) (fun x => f1 1 2 = nI x.2 ∧ c = x.1)) (p1 : f1 1 2 = nI b1) (q1 : b1 ≤ L) (e1 : f1 2 = f 2) (h2 : zStp f1 f2 (zExc (zWrd (f1 2) L [120] b1) b1) (fun x => f2 1 2 = nI x)) (p2 : f2 1 2 = nI b2) (q2 : b2 ≤ L) (e2 : f2 2 = f 2) (h3 : zStp f2 f3 (zExc (zNum (f2 2) L 1 6 (nI 1) (nI 99) b2) b2) (fun y => f3 1 2 = nI y.2 ∧ v = y.1)) : zStp f f3 (zLn1 (f 2) L b) (fun z => f3 1 2 = nI z.1 ∧ c = z.2.1 ∧ v = z.2.2) := by
  rw [e1] at h2
  rw [e2] at h3
  refine ⟨fun q => ?_, fun q => ?_⟩
  · have k1 := h1.1 q
    have k2 := h2.1 (by rw [k1]; exact q)
    rw [h3.1 (by rw [k2, k1]; exact q), k2, k1]
  · obtain ⟨a1, a2⟩ := h1.2 q
    unfold zLn1
    cases e : zNum (f 2) L 4 4 (nI 0) (nI 9999) b with
    | none =>
      rw [e] at a1
      obtain ⟨c1, c2⟩ := a1 b rfl
      have n1 : f1 1 3 ≠ -1 := by rw [c2]; exact nI_ne1 c1
      have k2 := h2.1 n1
      have k4 := h3.1 (by rw [k2]; exact n1)
      exact ⟨fun p hp => by cases hp; exact ⟨c1, by rw [k4, k2, c2]⟩, fun x hx => by cases hx⟩
    | some x =>
      rw [e] at a2
      obtain ⟨c1, c2, c3⟩ := a2 x rfl
      have l1 := (zNum_le hb e).2
      have ex : b1 = x.2 := zNj (by omega) (by omega) (p1.symm.trans c2)
      subst ex
      simp only
      obtain ⟨d1, d2⟩ := h2.2 c1
      cases e4 : zWrd (f 2) L [120] x.2 with
      | none =>
        rw [e4] at d1
        obtain ⟨g1, g2⟩ := d1 x.2 rfl
        have n1 : f2 1 3 ≠ -1 := by rw [g2]; exact nI_ne1 g1
        exact ⟨fun p hp => by cases hp; exact ⟨g1, by rw [h3.1 n1, g2]⟩, fun x hx => by cases hx⟩
      | some y =>
        rw [e4] at d2
        obtain ⟨g1, g2⟩ := d2 y rfl
        have l2 := (zWrd_le l1 e4).2
        have ey : b2 = y := zNj (by omega) (by omega) (p2.symm.trans g2)
        subst ey
        simp only
        obtain ⟨m1, m2⟩ := h3.2 g1
        cases e5 : zNum (f 2) L 1 6 (nI 1) (nI 99) b2 with
        | none =>
          rw [e5] at m1
          exact ⟨fun p hp => by cases hp; exact m1 b2 rfl, fun x hx => by cases hx⟩
        | some z =>
          rw [e5] at m2
          obtain ⟨o1, o2, o3⟩ := m2 z rfl
          exact ⟨fun p hp => (by cases hp), fun x hx => by cases hx; exact ⟨o1, o2, c3, o3⟩⟩
/-- the class in its loop over a letter's lines; T: what the lines tell -/
def zLl (T : Except Nat (Nat × Nat × (Nat → Int32) × (Nat → Int32))) (bs : Nat → Int32) (L i : Nat) (y : Int32) (b q : Nat) (f : zFi) : Prop := (∃ p, p ≤ 400 ∧ f 1 3 = nI p ∧ T = .error p) ∨ (f 1 3 = -1 ∧ ∃ C P, (∀ k, k < i → f (4000 + q) k = C k ∧ f (5000 + q) k = P k) ∧ ((y = nI 1 ∧ i < 8 ∧ T = zLin bs L (8 - i) b i C P) ∨ (y = nI 0 ∧ T = .ok (b, i, C, P))))
theorem zLl.step {T : Except Nat (Nat × Nat × (Nat → Int32) × (Nat → Int32))} {bs : Nat → Int32} {i b3 b5 q : Nat} {y y' c v x : Int32} (hL : L ≤ 400) (hb : b ≤ L) (hi : i < 8) (hq : q ≤ 512) (h : zLl T bs L i y b q f) (hy : ¬ y.toInt = 0) (hs : zStp f f3 (zLn1 bs L b) (fun z => f3 1 2 = nI z.1 ∧ c = z.2.1 ∧ v = z.2.2)) (hold : ∀ k, f3 (4000 + q) k = f (4000 + q) k ∧ f3 (5000 + q) k = f (5000 + q) k) (e4 : f4 = zu (zu (zu f3 (4000 + q) i c) (5000 + q) i v) (3000 + q) 2 (nI (i + 1))) (p4 : f4 1 2 = nI b3) (q4 : b3 ≤ L) (eb : f4 2 = bs) (hx : x.toInt = 44) (hg : (y' = nI 1 ∧ i + 1 < 8 ∧ b3 < L ∧ f4 2 b3 = x ∧ ∃ b, f5 = zu f4 1 2 (nI b) ∧ zSkip (f4 2) (b3 + 1) L b) ∨ (y' = nI 0 ∧ f5 = f4 ∧ (i + 1 < 8 → b3 < L → ¬ f4 2 b3 = x))) (p5 : f5 1 2 = nI b5) (q5 : b5 ≤ L) : zLl T bs L (i + 1) y' b5 q f5 := by
  have e43 : f4 1 3 = f3 1 3 := by rw [e4, zu_n (by omega), zu_n (by omega), zu_n (by omega)]
  have e42 : f4 1 2 = f3 1 2 := by rw [e4, zu_n (by omega), zu_n (by omega), zu_n (by omega)]
  have e5 : ∀ i k, ¬ (i = 1 ∧ k = 2) → f5 i k = f4 i k := fun i k n => by
    rcases hg with ⟨-, -, -, -, b, e, -⟩ | ⟨-, e, -⟩
    · rw [e, zu_n n]
    · rw [e]
  have e53 : f5 1 3 = f3 1 3 := by rw [e5 1 3 (by omega), e43]
  rcases h with ⟨p, c1, c2, c3⟩ | ⟨c1, C, P, hCP, h⟩
  · exact Or.inl ⟨p, c1, by rw [e53, hs.1 (by rw [c2]; exact nI_ne1 c1), c2], c3⟩
  · rcases h with ⟨-, -, c3⟩ | ⟨c2, -⟩
    · obtain ⟨d1, d2⟩ := hs.2 c1
      rw [show 8 - i = (8 - (i + 1)) + 1 by omega] at c3
      simp only [zLin] at c3
      cases e : zLn1 bs L b with
      | error p =>
        rw [e] at c3
        obtain ⟨g1, g2⟩ := d1 p e
        exact Or.inl ⟨p, g1, by rw [e53, g2], c3⟩
      | ok z =>
        rw [e] at c3
        simp only at c3
        obtain ⟨g1, g2, g3, g4⟩ := d2 z e
        have l1 := (zLn1_le hb).2 z e
        have ez : b3 = z.1 := zNj (by omega) (by omega) (p4.symm.trans (e42.trans g2))
        subst ez
        rw [eb] at hg
        have hC : ∀ k, k < i + 1 → f5 (4000 + q) k = zup C i z.2.1 k ∧ f5 (5000 + q) k = zup P i z.2.2 k := fun k hk => by
          rw [e5 _ _ (by omega), e5 _ _ (by omega), e4]
          simp only [zup]
          by_cases ek : k = i
          · subst ek
            rw [if_pos rfl, if_pos rfl, zu_n (by omega), zu_n (by omega), zu_s, zu_n (by omega), zu_s]
            exact ⟨g3, g4⟩
          · rw [if_neg ek, if_neg ek, zu_n (by omega), zu_n (by omega), zu_n (by omega), zu_n (by omega), zu_n (by omega), zu_n (by omega), (hold k).1, (hold k).2]
            exact hCP k (by omega)
        refine Or.inr ⟨by rw [e53, g1], zup C i z.2.1, zup P i z.2.2, hC, ?_⟩
        rcases hg with ⟨r1, r2, r3, r4, bb, r5, r6⟩ | ⟨r1, r2, r3⟩
        · rw [if_pos ⟨by omega, r3, by rw [r4]; exact hx⟩] at c3
          have l3 := r6.2.1
          have eb5 : b5 = bb := zNj (by omega) (by omega) (p5.symm.trans (by rw [r5, zu_s]))
          subst eb5
          exact Or.inl ⟨r1, r2, by rw [c3, ← r6.eq]⟩
        · have eb5 : b5 = z.1 := zNj (by omega) (by omega) (p5.symm.trans (by rw [r2]; exact p4))
          subst eb5
          rw [if_neg (fun g => r3 (by omega) g.2.1 (by apply Int32.toInt_inj.mp; rw [hx]; exact g.2.2))] at c3
          exact Or.inr ⟨r1, c3⟩
    · exact absurd (by rw [c2]; decide) hy
theorem zLl.exit {T : Except Nat (Nat × Nat × (Nat → Int32) × (Nat → Int32))} {bs : Nat → Int32} {i q : Nat} {y : Int32} (h : zLl T bs L i y b q f) (hy : 8 ≤ i ∨ y.toInt = 0) : (∃ p, p ≤ 400 ∧ f 1 3 = nI p ∧ T = .error p) ∨ (f 1 3 = -1 ∧ ∃ C P, (∀ k, k < i → f (4000 + q) k = C k ∧ f (5000 + q) k = P k) ∧ T = .ok (b, i, C, P)) := by
  rcases h with h | ⟨c1, C, P, hCP, h⟩
  · exact Or.inl h
  · rcases h with ⟨c2, c3, -⟩ | ⟨-, c3⟩
    · exfalso
      rw [c2] at hy
      rcases hy with hy | hy
      · omega
      · exact absurd hy (by decide)
    · exact Or.inr ⟨c1, C, P, hCP, c3⟩
end CLX
/-- what is in a letter that was read -/
def zLrd (R : Except Nat (Nat × Nat × (Nat → Int32) × (Nat → Int32) × Int32 × Int32)) (q : Nat) (u : zFi) : Prop := (∃ p, p ≤ 400 ∧ R = .error p ∧ u 1 3 = nI p) ∨ ∃ x, R = .ok x ∧ u 1 3 = -1 ∧ u 1 2 = nI x.1 ∧ u (3000 + q) 2 = nI x.2.1 ∧ (∀ k, k < x.2.1 → u (4000 + q) k = x.2.2.1 k ∧ u (5000 + q) k = x.2.2.2.1 k) ∧ u (3000 + q) 3 = x.2.2.2.2.1 ∧ u (3000 + q) 4 = x.2.2.2.2.2
theorem zLrd.mk {bs : Nat → Int32} {f g1 g2 g3 g4 g5 u : zFi} {L a b b1 b2 i q : Nat} {s m : Int32} (hL : L ≤ 400) (ha : a ≤ L) (hb : b ≤ L) (hq : q ≤ 512) (eb : f 2 = bs) (hex : (∃ p, p ≤ 400 ∧ f 1 3 = nI p ∧ zLin bs L 8 a 0 (fun _ => 0) (fun _ => 0) = .error p) ∨ (f 1 3 = -1 ∧ ∃ C P, (∀ k, k < i → f (4000 + q) k = C k ∧ f (5000 + q) k = P k) ∧ zLin bs L 8 a 0 (fun _ => 0) (fun _ => 0) = .ok (b, i, C, P))) (hl : f (3000 + q) 2 = nI i)
    (h1 : zStp f g1 (zExc (zWrd (f 2) L [115, 117, 109] b) b) (fun x => g1 1 2 = nI x)) (F1 : ∀ i k, ¬ (i = 1 ∧ 2 ≤ k) → g1 i k = f i k) (p1 : g1 1 2 = nI b1) (q1 : b1 ≤ L)
    (h2 : zStp g1 g2 (zExc (zNum (g1 2) L 1 6 (nI 0) (nI 999999) b1) b1) (fun y => g2 1 2 = nI y.2 ∧ s = y.1)) (F2 : ∀ i k, ¬ (i = 1 ∧ 2 ≤ k) → g2 i k = g1 i k) (p2 : g2 1 2 = nI b2) (q2 : b2 ≤ L) (e3 : g3 = zu g2 (3000 + q) 3 s)
    (h4 : (zWrd (g3 2) L [109, 111, 110, 101, 121] b2 = none ∧ g5 = g3 ∧ m = s) ∨ ∃ b3, zWrd (g3 2) L [109, 111, 110, 101, 121] b2 = some b3 ∧ g4 = zu g3 1 2 (nI b3) ∧ zStp g4 g5 (zExc (zNum (g4 2) L 1 6 (nI 0) (nI 999999) b3) b3) (fun y => g5 1 2 = nI y.2 ∧ m = y.1) ∧ ∀ i k, ¬ (i = 1 ∧ 2 ≤ k) → g5 i k = g4 i k) (e5 : u = zu g5 (3000 + q) 4 m) : zLrd (zLe0 bs L a) q u := by
  have eg1 : g1 2 = bs := by rw [← eb]; exact funext (fun k => F1 2 k (by omega))
  have eg2 : g2 2 = bs := by rw [← eg1]; exact funext (fun k => F2 2 k (by omega))
  have eg3 : g3 2 = bs := by rw [← eg2, e3]; exact funext (fun k => zu_n (by omega))
  rw [eb] at h1
  rw [eg1] at h2
  rw [eg3] at h4
  have k5 : g3 1 3 ≠ -1 → u 1 3 = g3 1 3 := fun n => by
    rw [e5, zu_n (by omega)]
    rcases h4 with ⟨-, e, -⟩ | ⟨b3, -, e, h, -⟩
    · rw [e]
    · have e9 : g4 1 3 = g3 1 3 := by rw [e, zu_n (by omega)]
      rw [h.1 (by rw [e9]; exact n), e9]
  have e33 : g3 1 3 = g2 1 3 := by rw [e3, zu_n (by omega)]
  unfold zLe0
  rcases hex with ⟨p, c1, c2, c3⟩ | ⟨c1, C, P, hCP, c3⟩
  · have n1 : f 1 3 ≠ -1 := by rw [c2]; exact nI_ne1 c1
    have k1 := h1.1 n1
    have k2 := h2.1 (by rw [k1]; exact n1)
    exact Or.inl ⟨p, c1, by rw [c3], by rw [k5 (by rw [e33, k2, k1]; exact n1), e33, k2, k1, c2]⟩
  · rw [c3]
    simp only
    obtain ⟨d1, d2⟩ := h1.2 c1
    cases w1 : zWrd bs L [115, 117, 109] b with
    | none =>
      rw [w1] at d1
      obtain ⟨g, g'⟩ := d1 b rfl
      have n1 : g1 1 3 ≠ -1 := by rw [g']; exact nI_ne1 g
      have k2 := h2.1 n1
      exact Or.inl ⟨b, g, rfl, by rw [k5 (by rw [e33, k2]; exact n1), e33, k2, g']⟩
    | some x =>
      rw [w1] at d2
      obtain ⟨g, g'⟩ := d2 x rfl
      have l1 := (zWrd_le hb w1).2
      have ex : b1 = x := zNj (by omega) (by omega) (p1.symm.trans g')
      subst ex
      simp only
      obtain ⟨m1, m2⟩ := h2.2 g
      cases w2 : zNum bs L 1 6 (nI 0) (nI 999999) b1 with
      | none =>
        rw [w2] at m1
        obtain ⟨o, o'⟩ := m1 b1 rfl
        have n1 : g2 1 3 ≠ -1 := by rw [o']; exact nI_ne1 o
        exact Or.inl ⟨b1, o, rfl, by rw [k5 (by rw [e33]; exact n1), e33, o']⟩
      | some y =>
        rw [w2] at m2
        obtain ⟨o1, o2, o3⟩ := m2 y rfl
        have l2 := (zNum_le l1 w2).2
        have ey : b2 = y.2 := zNj (by omega) (by omega) (p2.symm.trans o2)
        subst ey
        simp only
        have FF : ∀ i k, ¬ (i = 1 ∧ 2 ≤ k) → ¬ (i = 3000 + q ∧ (k = 3 ∨ k = 4)) → u i k = f i k := fun i k n1 n2 => by
          rw [e5, zu_n (by omega)]
          have : g5 i k = g3 i k := by
            rcases h4 with ⟨-, e, -⟩ | ⟨b3, -, e, -, F⟩
            · rw [e]
            · rw [F i k n1, e, zu_n (by omega)]
          rw [this, e3, zu_n (by omega), F2 i k n1, F1 i k n1]
        have u4 : u (3000 + q) 4 = m := by rw [e5, zu_s]
        have u3 : u (3000 + q) 3 = s := by
          rw [e5, zu_n (by omega)]
          have : g5 (3000 + q) 3 = g3 (3000 + q) 3 := by
            rcases h4 with ⟨-, e, -⟩ | ⟨b3, -, e, -, F⟩
            · rw [e]
            · rw [F _ _ (by omega), e, zu_n (by omega)]
          rw [this, e3, zu_s]
        have uC : ∀ k, k < i → u (4000 + q) k = C k ∧ u (5000 + q) k = P k := fun k hk => by
          rw [FF _ _ (by omega) (by omega), FF _ _ (by omega) (by omega)]; exact hCP k hk
        have uL : u (3000 + q) 2 = nI i := by rw [FF _ _ (by omega) (by omega)]; exact hl
        rcases h4 with ⟨w3, e4, e6⟩ | ⟨b3, w3, e4, h, F⟩
        · rw [w3]
          exact Or.inr ⟨_, rfl, by rw [e5, zu_n (by omega), e4, e33, o1], by rw [e5, zu_n (by omega), e4, e3, zu_n (by omega)]; exact o2, uL, uC, by rw [u3, o3], by rw [u4, e6, o3]⟩
        · rw [w3]
          simp only
          have eg4 : g4 2 = bs := by rw [← eg3, e4]; exact funext (fun k => zu_n (by omega))
          rw [eg4] at h
          have l3 := (zWrd_le l2 w3).2
          obtain ⟨r1, r2⟩ := h.2 (by rw [e4, zu_n (by omega), e33, o1])
          cases w4 : zNum bs L 1 6 (nI 0) (nI 999999) b3 with
          | none =>
            rw [w4] at r1
            obtain ⟨t1, t2⟩ := r1 b3 rfl
            exact Or.inl ⟨b3, t1, rfl, by rw [e5, zu_n (by omega), t2]⟩
          | some z =>
            rw [w4] at r2
            obtain ⟨t1, t2, t3⟩ := r2 z rfl
            exact Or.inr ⟨_, rfl, by rw [e5, zu_n (by omega), t1], by rw [e5, zu_n (by omega)]; exact t2, uL, uC, by rw [u3, o3], by rw [u4, t3]⟩
theorem zLe0_le {b : Nat → Int32} {n a : Nat} (ha : a ≤ n) : ∀ x, zLe0 b n a = .ok x → x.1 ≤ n := by
  unfold zLe0
  cases e : zLin b n 8 a 0 (fun _ => 0) (fun _ => 0) with
  | error p => exact fun x q => by cases q
  | ok x =>
    have h1 := (zLin_le 8 a 0 _ _ ha).2 x e
    simp only
    cases e2 : zWrd b n [115, 117, 109] x.1 with
    | none => exact fun x q => by cases q
    | some a2 =>
      have h2 := zWrd_le h1.1 e2
      simp only
      cases e3 : zNum b n 1 6 (nI 0) (nI 999999) a2 with
      | none => exact fun x q => by cases q
      | some s =>
        have h3 := zNum_le h2.2 e3
        simp only
        cases e4 : zWrd b n [109, 111, 110, 101, 121] s.2 with
        | none => exact fun x q => by cases q; exact h3.2
        | some a3 =>
          have h4 := zWrd_le h3.2 e4
          simp only
          cases e5 : zNum b n 1 6 (nI 0) (nI 999999) a3 with
          | none => exact fun x q => by cases q
          | some m =>
            have h5 := zNum_le h4.2 e5
            exact fun x q => by cases q; exact h5.2
/-- the fault that a text tells -/
def zFv {α : Type} (R : Except Nat α) : Int32 := match R with
  | .error p => nI p
  | .ok _ => -1
theorem zFv_of {bs : Nat → Int32} {u : zFi} {L a q b8 : Nat} {w : Int32} (hL : L ≤ 400) (ha : a ≤ L) (h : zLrd (zLe0 bs L a) q u) (p : u 1 2 = nI b8) (hb : b8 ≤ L) (hc : (¬ u 1 3 = -1 ∧ w = u 1 3) ∨ (u 1 3 = -1 ∧ b8 < L ∧ w = nI b8) ∨ (u 1 3 = -1 ∧ b8 = L ∧ w = -1)) : w = zFv (zLet bs L a) := by
  rcases h with ⟨p, c1, c2, c3⟩ | ⟨x, c1, c2, c3, -⟩
  · unfold zLet
    rw [c2]
    rcases hc with ⟨-, d⟩ | ⟨d, -⟩ | ⟨d, -⟩
    · rw [d, c3]; rfl
    · exact absurd (c3.symm.trans d) (nI_ne1 c1)
    · exact absurd (c3.symm.trans d) (nI_ne1 c1)
  · have l := zLe0_le ha x c1
    have e : b8 = x.1 := zNj (by omega) (by omega) (p.symm.trans c3)
    subst e
    unfold zLet
    rw [c1]
    simp only
    rcases hc with ⟨d, -⟩ | ⟨-, d, d2⟩ | ⟨-, d, d2⟩
    · exact absurd c2 d
    · rw [if_pos d, d2]; rfl
    · rw [if_neg (by omega), d2]; rfl
/-! ===== THE REFERENCE READS A LETTER ===== -/
theorem zNum_bd {b : Nat → Int32} {n p q a : Nat} {lo hi : Int32} {x : Int32 × Nat} (h : zNum b n p q lo hi a = some x) : lo.toInt ≤ x.1.toInt ∧ x.1.toInt ≤ hi.toInt := by
  unfold zNum at h
  split at h
  · rename_i c
    have e := Option.some.inj h
    subst e
    exact ⟨c.2.2.1, c.2.2.2⟩
  · exact absurd h (by simp)
theorem zWrd_not {b : Nat → Int32} {n a : Nat} {ws : List Int32} (ha : a ≤ n) (h1 : ws.length ≠ 0) (h : a < n → ¬ (97 ≤ (b a).toInt ∧ (b a).toInt ≤ 122)) : zWrd b n ws a = none := by
  have e1 : (97 : Int32).toInt = 97 := by decide
  have e2 : (122 : Int32).toInt = 122 := by decide
  have hr : zRun b 97 122 a n 0 := ⟨by omega, fun j p q => absurd q (by omega), fun p => by have := h (by omega); show ¬ _; rw [Nat.add_zero]; omega⟩
  have := hr.eq
  unfold zWrd
  rw [if_neg (fun q => h1 (by rw [← q.1, ← this]))]
section MLX
variable {T : Except Nat (Nat × Nat × (Nat → Int32) × (Nat → Int32))} {bs C P : Nat → Int32} {L l0 c c2 : Nat}
theorem zLin_s (hl : l0 < 8) (hT : T = zLin bs L (8 - l0) (zS bs L c) l0 C P) : T = zLin bs L ((8 - (l0 + 1)) + 1) (zS bs L c) l0 C P := by rw [hT, show 8 - l0 = (8 - (l0 + 1)) + 1 by omega]
theorem zLin_e {p : Nat} (hl : l0 < 8) (hT : T = zLin bs L (8 - l0) (zS bs L c) l0 C P) (h : zLn1 bs L (zS bs L c) = .error p) : T = .error p := by
  rw [zLin_s hl hT]
  simp only [zLin, h]
theorem zLin_y {x : Nat × Int32 × Int32} (hl : l0 < 8) (hT : T = zLin bs L (8 - l0) (zS bs L c) l0 C P) (h : zLn1 bs L (zS bs L c) = .ok x) (e : c2 = x.1) (h2 : c2 < L) (h3 : (bs c2).toInt = 44) (h4 : l0 + 1 < 8) : T = zLin bs L (8 - (l0 + 1)) (zS bs L (c2 + 1)) (l0 + 1) (zup C l0 x.2.1) (zup P l0 x.2.2) := by
  rw [zLin_s hl hT]
  subst e
  simp only [zLin, h]
  rw [if_pos ⟨by omega, h2, h3⟩]
theorem zLin_n {x : Nat × Int32 × Int32} (hl : l0 < 8) (hT : T = zLin bs L (8 - l0) (zS bs L c) l0 C P) (h : zLn1 bs L (zS bs L c) = .ok x) (e : c2 = x.1) (h3 : l0 + 1 = 8 ∨ (c2 < L → ¬ (bs c2).toInt = 44)) : T = .ok (c2, l0 + 1, zup C l0 x.2.1, zup P l0 x.2.2) := by
  rw [zLin_s hl hT]
  subst e
  simp only [zLin, h]
  rw [if_neg (fun q => by
    rcases h3 with h3 | h3
    · exact q.1 (by omega)
    · exact h3 q.2.1 q.2.2)]
theorem zup_cp {f u : zFi} {x1 x2 : Int32} (hCP : ∀ k, k < l0 → f 48 k = C k ∧ f 49 k = P k) (h1 : u 48 l0 = x1) (h2 : u 49 l0 = x2) (h3 : ∀ j, j < l0 → u 48 j = f 48 j ∧ u 49 j = f 49 j) : ∀ k, k < l0 + 1 → u 48 k = zup C l0 x1 k ∧ u 49 k = zup P l0 x2 k := fun k hk => by
  simp only [zup]
  by_cases e : k = l0
  · subst e
    rw [if_pos rfl, if_pos rfl]
    exact ⟨h1, h2⟩
  · rw [if_neg e, if_neg e, (h3 k (by omega)).1, (h3 k (by omega)).2]
    exact hCP k (by omega)
end MLX
/-! ===== LETTERS BY NUMBERS ===== -/
theorem zI_div {a b : Nat} (ha : a < 2147483648) (hb : 0 < b) (hb2 : b < 2147483648) : nI a / nI b = nI (a / b) := by
  apply Int32.toInt_inj.mp
  have h1 : a / b < 2147483648 := Nat.lt_of_le_of_lt (Nat.div_le_self _ _) ha
  have h2 : Int.tdiv (a : Int) (b : Int) = ((a / b : Nat) : Int) := rfl
  rw [Int32.toInt_div, nI_toInt ha, nI_toInt hb2, nI_toInt h1, h2]
  generalize a / b = e at h1
  exact Int.bmod_eq_of_le (by omega) (by omega)
theorem zI_rem {a b : Nat} (ha : a < 2147483648) (hb : 0 < b) (hb2 : b < 2147483648) : nI a - nI a / nI b * nI b = nI (a % b) := by
  rw [zI_div ha hb hb2, pk_mul, pk_sub (Nat.div_mul_le_self a b)]
  congr 1
  have h := Nat.div_add_mod a b
  rw [Nat.mul_comm] at h
  omega
def zPv (p : Nat) : Int32 := if p = 0 then -1 else nI p
theorem zPv_or {p : Nat} {r : Int32} (h : r = zPv p) : (p = 0 ∧ r = -1) ∨ (0 < p ∧ r = nI p) := by
  unfold zPv at h
  by_cases q : p = 0
  · rw [if_pos q] at h; exact Or.inl ⟨q, h⟩
  · rw [if_neg q] at h; exact Or.inr ⟨by omega, h⟩
/-- the price of a code among n things, 0 if it is not sold -/
def zPo (cd pN : Nat → Nat) : Nat → Nat → Nat
  | 0, _ => 0
  | n + 1, c => if cd n = c then pN n else zPo cd pN n c
theorem zPo_le {cd pN : Nat → Nat} {M : Nat} : ∀ {n c : Nat}, (∀ t, t < n → pN t ≤ M) → zPo cd pN n c ≤ M
  | 0, _, _ => Nat.zero_le _
  | n + 1, c, h => by
    unfold zPo
    split
    · exact h n (by omega)
    · exact zPo_le (fun t q => h t (by omega))
theorem zPo_no {cd pN : Nat → Nat} : ∀ {n c : Nat}, (∀ t, t < n → ¬ cd t = c) → zPo cd pN n c = 0
  | 0, _, _ => rfl
  | n + 1, c, h => by
    unfold zPo
    rw [if_neg (h n (by omega))]
    exact zPo_no (fun t q => h t (by omega))
theorem zPo_at {cd pN : Nat → Nat} {t c : Nat} : ∀ {n : Nat}, t < n → cd t = c → (∀ t', t' < n → cd t = cd t' → t = t') → zPo cd pN n c = pN t
  | 0, h, _, _ => absurd h (by omega)
  | n + 1, h, e, d => by
    unfold zPo
    by_cases q : cd n = c
    · rw [if_pos q, d n (by omega) (e.trans q.symm)]
    · rw [if_neg q]
      exact zPo_at (by by_cases w : t = n; (subst w; exact absurd e q); omega) e (fun t' r s => d t' (by omega) s)
def zSm (g : Nat → Nat) : Nat → Nat
  | 0 => 0
  | k + 1 => zSm g k + g k
theorem zSm_le {g : Nat → Nat} {M : Nat} : ∀ {k : Nat}, (∀ j, j < k → g j ≤ M) → zSm g k ≤ k * M
  | 0, _ => by simp [zSm]
  | k + 1, h => by
    have h1 := zSm_le (g := g) (M := M) (k := k) (fun j q => h j (by omega))
    have h2 := h k (by omega)
    unfold zSm
    rw [Nat.succ_mul]
    omega
theorem zSm_cg {g g' : Nat → Nat} : ∀ {k : Nat}, (∀ j, j < k → g j = g' j) → zSm g k = zSm g' k
  | 0, _ => rfl
  | k + 1, h => by
    unfold zSm
    rw [zSm_cg (fun j q => h j (by omega)), h k (by omega)]
/-- how many are not 0 -/
def zCn (g : Nat → Nat) : Nat → Nat
  | 0 => 0
  | k + 1 => zCn g k + if g k = 0 then 0 else 1
theorem zCn_le {g : Nat → Nat} : ∀ {k : Nat}, zCn g k ≤ k
  | 0 => Nat.le_refl _
  | k + 1 => by
    have h1 := zCn_le (g := g) (k := k)
    unfold zCn
    split <;> omega
/-- how many of the last k digits are unlike -/
def zUd (a b : Nat) : Nat → Nat
  | 0 => 0
  | k + 1 => zUd a b k + if a / 10 ^ k % 10 = b / 10 ^ k % 10 then 0 else 1
theorem zUd_le {a b : Nat} : ∀ {k : Nat}, zUd a b k ≤ k
  | 0 => Nat.le_refl _
  | k + 1 => by
    have h1 := zUd_le (a := a) (b := b) (k := k)
    unfold zUd
    split <;> omega
def zFN (ok : Nat → Bool) (k : Nat) (cd : Nat → Nat) (s : Nat × Nat × Nat) : Nat → Nat × Nat × Nat
  | 0 => s
  | t + 1 => if ok t = true then ((zFN ok k cd s t).1 + 1, k, cd t) else zFN ok k cd s t
/-- the ways to mend, line by line and thing by thing: how many, the last one's line and code -/
def zFM (ok : Nat → Nat → Bool) (n : Nat) (cd : Nat → Nat) : Nat → Nat × Nat × Nat
  | 0 => (0, 0, 0)
  | k + 1 => zFN (ok k) k cd (zFM ok n cd k) n
theorem zFN_le {ok : Nat → Bool} {k : Nat} {cd : Nat → Nat} {s : Nat × Nat × Nat} : ∀ {t : Nat}, (zFN ok k cd s t).1 ≤ s.1 + t
  | 0 => Nat.le_refl _
  | t + 1 => by
    have h1 := zFN_le (ok := ok) (k := k) (cd := cd) (s := s) (t := t)
    unfold zFN
    split
    · show (zFN ok k cd s t).1 + 1 ≤ _; omega
    · omega
theorem zFM_le {ok : Nat → Nat → Bool} {n : Nat} {cd : Nat → Nat} : ∀ {k : Nat}, (zFM ok n cd k).1 ≤ k * n
  | 0 => by simp [zFM]
  | k + 1 => by
    have h1 := zFM_le (ok := ok) (n := n) (cd := cd) (k := k)
    have h2 := zFN_le (ok := ok k) (k := k) (cd := cd) (s := zFM ok n cd k) (t := n)
    unfold zFM
    rw [Nat.succ_mul]
    omega
theorem zFN_in {ok : Nat → Bool} {k : Nat} {cd : Nat → Nat} {s : Nat × Nat × Nat} (B : Nat) (hk : k < B) (hs : s.1 ≠ 0 → s.2.1 < B) : ∀ {t : Nat}, (zFN ok k cd s t).1 ≠ 0 → (zFN ok k cd s t).2.1 < B
  | 0, h => hs h
  | t + 1, h => by
    unfold zFN at h ⊢
    split at h
    · rename_i q; rw [if_pos q]; exact hk
    · rename_i q; rw [if_neg q]; exact zFN_in B hk hs h
theorem zFM_in {ok : Nat → Nat → Bool} {n : Nat} {cd : Nat → Nat} (B : Nat) : ∀ {k : Nat}, k ≤ B → (zFM ok n cd k).1 ≠ 0 → (zFM ok n cd k).2.1 < B
  | 0, _, h => absurd rfl h
  | k + 1, hk, h => zFN_in B (by omega) (fun q => zFM_in B (by omega) q) h
theorem zFN_y {ok : Nat → Bool} {k : Nat} {cd : Nat → Nat} {s : Nat × Nat × Nat} {t : Nat} (h : ok t = true) : zFN ok k cd s (t + 1) = ((zFN ok k cd s t).1 + 1, k, cd t) := if_pos h
theorem zFN_n {ok : Nat → Bool} {k : Nat} {cd : Nat → Nat} {s : Nat × Nat × Nat} {t : Nat} (h : ¬ ok t = true) : zFN ok k cd s (t + 1) = zFN ok k cd s t := if_neg h
theorem zFN_cg {ok ok' : Nat → Bool} {k : Nat} {cd : Nat → Nat} {s : Nat × Nat × Nat} : ∀ {t : Nat}, (∀ j, j < t → ok j = ok' j) → zFN ok k cd s t = zFN ok' k cd s t
  | 0, _ => rfl
  | t + 1, h => by
    unfold zFN
    rw [zFN_cg (fun j q => h j (by omega)), h t (by omega)]
/-- none of the things mends -/
theorem zFN_no {ok : Nat → Bool} {k : Nat} {cd : Nat → Nat} {s : Nat × Nat × Nat} : ∀ {t : Nat}, (∀ j, j < t → ¬ ok j = true) → zFN ok k cd s t = s
  | 0, _ => rfl
  | t + 1, h => by
    unfold zFN
    rw [if_neg (h t (by omega))]
    exact zFN_no (fun j q => h j (by omega))
def zIf (x : Int32) (c0 : Nat) (lc : Nat → Nat) (j : Nat) : Nat := if x = nI j then c0 else lc j
def zDue (ru : Nat → Int32) (x : Int32) : Int32 := x + if x.toInt < (ru 2).toInt then ru 1 else 0
/-- things' codes and their prices of today, in the reference -/
def zqPb (fi : zFi) (n td : Nat) (cd pN : Nat → Nat) : Prop := fi 30 1 = nI td ∧ td ≤ 999 ∧ ∀ t, t < n → fi 31 t = nI (cd t) ∧ cd t < 10000 ∧ pN t ≤ 10000 ∧ (∃ k, k ≤ 4 ∧ fi 36 t = nI k ∧ zMonM fi t k (nI td) (zPv (pN t))) ∧ ∀ t', t' < n → cd t = cd t' → t = t'
theorem zqPb.cg {fi fi' : zFi} {n td : Nat} {cd pN : Nat → Nat} (h : zqPb fi n td cd pN) (hi : ∀ i k, (i = 30 ∧ k = 1) ∨ i = 31 ∨ (36 ≤ i ∧ i ≤ 39) → fi' i k = fi i k) : zqPb fi' n td cd pN := by
  refine ⟨by rw [hi _ _ (by omega)]; exact h.1, h.2.1, fun t ht => ?_⟩
  obtain ⟨a1, a2, a3, ⟨k, b1, b2, b3⟩, a5⟩ := h.2.2 t ht
  exact ⟨by rw [hi _ _ (by omega)]; exact a1, a2, a3, ⟨k, b1, by rw [hi _ _ (by omega)]; exact b2, b3.cg (fun i j q => (hi i j (by omega)).symm)⟩, a5⟩
theorem zMonM.uni {fi : zFi} {t k : Nat} {x r r' : Int32} (h : zMonM fi t k x r) (h' : zMonM fi t k x r') : r = r' := by
  rcases h with ⟨j, a, b, c, d⟩ | ⟨a, b⟩
  · rcases h' with ⟨j', a', b', c', d'⟩ | ⟨a', b'⟩
    · have e : j = j' := by
        rcases Nat.lt_trichotomy j j' with q | q | q
        · exact absurd b' (c j' q a')
        · exact q
        · exact absurd b (c' j q a)
      rw [d, d', e]
    · exact absurd b (a' j a)
  · rcases h' with ⟨j', a', b', c', d'⟩ | ⟨a', b'⟩
    · exact absurd b' (a j' a')
    · rw [b, b']
theorem zqPb.le {fi : zFi} {n td : Nat} {cd pN : Nat → Nat} (h : zqPb fi n td cd pN) {c : Nat} : zPo cd pN n c ≤ 10000 := zPo_le (fun t q => (h.2.2 t q).2.2.1)
/-- a letter's lines, in the reference -/
def zqLy (fi : zFi) (L : Nat) (lc mn : Nat → Nat) : Prop := L ≤ 8 ∧ fi 30 26 = nI L ∧ ∀ j, j < L → fi 48 j = nI (lc j) ∧ lc j < 10000 ∧ fi 49 j = nI (mn j) ∧ 1 ≤ mn j ∧ mn j ≤ 99
theorem zqLy.cg {fi fi' : zFi} {L : Nat} {lc mn : Nat → Nat} (h : zqLy fi L lc mn) (hi : ∀ i k, (i = 30 ∧ k = 26) ∨ i = 48 ∨ i = 49 → fi' i k = fi i k) : zqLy fi' L lc mn := ⟨h.1, by rw [hi _ _ (by omega)]; exact h.2.1, fun j q => by rw [hi 48 j (by omega), hi 49 j (by omega)]; exact h.2.2 j q⟩
theorem zqLy.bd {fi : zFi} {L : Nat} {lc mn : Nat → Nat} (h : zqLy fi L lc mn) {P : Nat → Nat} (hP : ∀ j, P j ≤ 10000) {i : Nat} (hi : i ≤ L) : zSm (fun j => P j * mn j) i ≤ 7920000 := by
  have h1 := zSm_le (g := fun j => P j * mn j) (M := 990000) (k := i) (fun j q => Nat.mul_le_mul (hP j) (h.2.2 j (by omega)).2.2.2.2)
  have h2 := h.1
  have h3 : i * 990000 ≤ 8 * 990000 := Nat.mul_le_mul_right _ (by omega)
  omega
/-- what findMendings has found so far -/
def zFI (f : zFi) (s : Nat × Nat × Nat) : Prop := f 30 31 = nI s.1 ∧ (s.1 ≠ 0 → f 30 32 = nI s.2.1 ∧ f 30 33 = nI s.2.2)
/-! ===== LETTERS BY NUMBERS: THE CLASS ===== -/
theorem zMon.uni {fi : zFi} {t k : Nat} {x r r' : Int32} (h : zMon fi t k x r) (h' : zMon fi t k x r') : r = r' := by
  rcases h with ⟨j, a, b, c, d⟩ | ⟨a, b⟩
  · rcases h' with ⟨j', a', b', c', d'⟩ | ⟨a', b'⟩
    · have e : j = j' := by
        rcases Nat.lt_trichotomy j j' with q | q | q
        · exact absurd b' (c j' q a')
        · exact q
        · exact absurd b (c' j q a)
      rw [d, d', e]
    · exact absurd b (a' j a)
  · rcases h' with ⟨j', a', b', c', d'⟩ | ⟨a', b'⟩
    · exact absurd b' (a j' a')
    · rw [b, b']
theorem zMon.cg {fi fi' : zFi} {t k : Nat} {x r : Int32} (h : zMon fi' t k x r) (hf : ∀ i j, i = 340 + t ∨ i = 380 + t ∨ i = 420 + t → fi' i j = fi i j) : zMon fi t k x r := by
  rcases h with ⟨j, a, b, c, d⟩ | ⟨a, b⟩
  · rw [hf (380 + t) _ (by omega), hf (420 + t) _ (by omega)] at b
    refine Or.inl ⟨j, a, b, fun i p q => ?_, by rw [d]; exact hf _ _ (by omega)⟩
    have h9 := c i p q
    rw [hf (380 + t) _ (by omega), hf (420 + t) _ (by omega)] at h9
    exact h9
  · refine Or.inr ⟨fun j p => ?_, b⟩
    have h9 := a j p
    rw [hf (380 + t) _ (by omega), hf (420 + t) _ (by omega)] at h9
    exact h9
/-- things' codes and their prices of today, in the class -/
def zqPk (fi : zFi) (n td : Nat) (cd pN : Nat → Nat) : Prop := fi 0 15 = nI td ∧ td ≤ 999 ∧ n ≤ 30 ∧ ∀ t, t < n → fi (300 + t) 1 = nI (cd t) ∧ cd t < 10000 ∧ pN t ≤ 10000 ∧ (∃ k, k ≤ 4 ∧ fi (300 + t) 6 = nI k ∧ zMon fi t k (nI td) (zPv (pN t))) ∧ ∀ t', t' < n → cd t = cd t' → t = t'
theorem zqPk.cg {fi fi' : zFi} {n td : Nat} {cd pN : Nat → Nat} (h : zqPk fi n td cd pN) (hi : ∀ i k, (i = 0 ∧ k = 15) ∨ (300 ≤ i ∧ i < 450) → fi' i k = fi i k) : zqPk fi' n td cd pN := by
  refine ⟨by rw [hi _ _ (by omega)]; exact h.1, h.2.1, h.2.2.1, fun t ht => ?_⟩
  have hn := h.2.2.1
  obtain ⟨a1, a2, a3, ⟨k, b1, b2, b3⟩, a5⟩ := h.2.2.2 t ht
  exact ⟨by rw [hi _ _ (by omega)]; exact a1, a2, a3, ⟨k, b1, by rw [hi _ _ (by omega)]; exact b2, b3.cg (fun i j q => (hi i j (by omega)).symm)⟩, a5⟩
theorem zqPk.le {fi : zFi} {n td : Nat} {cd pN : Nat → Nat} (h : zqPk fi n td cd pN) {c : Nat} : zPo cd pN n c ≤ 10000 := zPo_le (fun t q => (h.2.2.2 t q).2.2.1)
/-- a letter's lines, in the class -/
def zqLw (fi : zFi) (q L : Nat) (lc mn : Nat → Nat) : Prop := L ≤ 8 ∧ fi (3000 + q) 2 = nI L ∧ ∀ j, j < L → fi (4000 + q) j = nI (lc j) ∧ lc j < 10000 ∧ fi (5000 + q) j = nI (mn j) ∧ 1 ≤ mn j ∧ mn j ≤ 99
theorem zqLw.cg {fi fi' : zFi} {q L : Nat} {lc mn : Nat → Nat} (h : zqLw fi q L lc mn) (hi : ∀ i k, (i = 3000 + q ∧ k = 2) ∨ i = 4000 + q ∨ i = 5000 + q → fi' i k = fi i k) : zqLw fi' q L lc mn := ⟨h.1, by rw [hi _ _ (by omega)]; exact h.2.1, fun j w => by rw [hi (4000 + q) j (by omega), hi (5000 + q) j (by omega)]; exact h.2.2 j w⟩
theorem zqLw.bd {fi : zFi} {q L : Nat} {lc mn : Nat → Nat} (h : zqLw fi q L lc mn) {g : Nat → Nat} (hP : ∀ j, j < L → g j ≤ 10000 * mn j) {i : Nat} (hi : i ≤ L) : zSm g i ≤ 7920000 := by
  have h1 := zSm_le (g := g) (M := 990000) (k := i) (fun j q => by have a1 := hP j (by omega); have a2 := (h.2.2 j (by omega)).2.2.2.2; omega)
  have h2 := h.1
  have h3 : i * 990000 ≤ 8 * 990000 := Nat.mul_le_mul_right _ (by omega)
  omega
theorem zUd4 {a b : Nat} : zUd a b 4 = 0 + (if a / 1 % 10 = b / 1 % 10 then 0 else 1) + (if a / 10 % 10 = b / 10 % 10 then 0 else 1) + (if a / 100 % 10 = b / 100 % 10 then 0 else 1) + (if a / 1000 % 10 = b / 1000 % 10 then 0 else 1) := rfl
/-- what the class's findMendings has found so far -/
def zFJ (f : zFi) (q : Nat) (s : Nat × Nat × Nat) : Prop := f (3000 + q) 5 = nI s.1 ∧ (s.1 ≠ 0 → f (3000 + q) 6 = nI s.2.1 ∧ f (3000 + q) 7 = nI s.2.2)
theorem zFN_cb {ok : Nat → Bool} {k : Nat} {cd : Nat → Nat} {s : Nat × Nat × Nat} (B : Nat) (hs : s.1 ≠ 0 → s.2.2 < B) : ∀ {t : Nat}, (∀ j, j < t → cd j < B) → (zFN ok k cd s t).1 ≠ 0 → (zFN ok k cd s t).2.2 < B
  | 0, _, h => hs h
  | t + 1, hc, h => by
    unfold zFN at h ⊢
    split at h
    · rename_i q; rw [if_pos q]; exact hc t (by omega)
    · rename_i q; rw [if_neg q]; exact zFN_cb B hs (fun j w => hc j (by omega)) h
theorem zFM_cb {ok : Nat → Nat → Bool} {n : Nat} {cd : Nat → Nat} (B : Nat) (hc : ∀ j, j < n → cd j < B) : ∀ {k : Nat}, (zFM ok n cd k).1 ≠ 0 → (zFM ok n cd k).2.2 < B
  | 0, h => absurd rfl h
  | k + 1, h => zFN_cb B (fun q => zFM_cb B hc q) hc h
theorem zNm1 {j : Nat} (h : j < 2147483648) : ¬ (-1 : Int32) = nI j := fun e => by
  have h9 := congrArg Int32.toInt e
  rw [nI_toInt h] at h9
  have h8 : (-1 : Int32).toInt = -1 := by decide
  omega
def zUp (lc : Nat → Nat) (k c : Nat) (j : Nat) : Nat := if j = k then c else lc j
/-- all lines are known and their sum is the one told -/
def zPl (cd pN : Nat → Nat) (n : Nat) (lc mn : Nat → Nat) (L sm : Nat) : Prop := (∀ j, j < L → 0 < zPo cd pN n (lc j)) ∧ zSm (fun j => zPo cd pN n (lc j) * mn j) L = sm
/-- plain, mended or in doubt: how many ways, whether it is clear, the codes behind it -/
def zMe (pl : Prop) (s : Nat × Nat × Nat) (lc lc' : Nat → Nat) (m b : Nat) : Prop := (pl ∧ b = 1 ∧ m = 0 ∧ lc' = lc) ∨ (¬ pl ∧ s.1 = 1 ∧ b = 1 ∧ m = 1 ∧ lc' = zUp lc s.2.1 s.2.2) ∨ (¬ pl ∧ s.1 ≠ 1 ∧ b = 0 ∧ m = s.1 ∧ lc' = lc)
theorem zSm_m {g : Nat → Nat} {L : Nat} (h : L ≤ 8) : zSm (fun j => zIf (-1) 0 g j) L = zSm g L := zSm_cg (fun j q => if_neg (zNm1 (by omega)))
theorem zqLw.up {fi fi' : zFi} {q L k c : Nat} {lc mn : Nat → Nat} (h : zqLw fi q L lc mn) (hc : c < 10000) (e : fi' = zu fi (4000 + q) k (nI c)) : zqLw fi' q L (zUp lc k c) mn := by
  refine ⟨h.1, by rw [e, zu_n (by omega)]; exact h.2.1, fun j w => ?_⟩
  obtain ⟨a1, a2, a3⟩ := h.2.2 j w
  unfold zUp
  by_cases q9 : j = k
  · subst q9; rw [if_pos rfl, e]; exact ⟨zu_s, hc, by rw [zu_n (by omega)]; exact a3⟩
  · rw [if_neg q9, e]; exact ⟨by rw [zu_n (by omega)]; exact a1, a2, by rw [zu_n (by omega)]; exact a3⟩
/-! ===== MENDINGS: WHAT CLASS AND REFERENCE HAVE IN COMMON ===== -/
theorem zEi {k j : Nat} (hk : k < 2147483648) (hj : j < 2147483648) : nI k = nI j ↔ k = j := ⟨fun e => zNi hk hj e, fun e => by rw [e]⟩
theorem zSm_sp {g h : Nat → Nat} {k a : Nat} (hk0 : h k = a) : ∀ {L : Nat}, L ≤ 2147483648 → k < L → (∀ j, j < L → j ≠ k → h j = g j) → zSm h L = zSm (fun j => zIf (nI k) 0 g j) L + a
  | 0, _, h0, _ => absurd h0 (by omega)
  | L + 1, hL, hk, hj => by
    unfold zSm
    by_cases e : k = L
    · subst e
      have h1 : zSm h k = zSm (fun j => zIf (nI k) 0 g j) k := zSm_cg (fun j q => by rw [hj j (by omega) (by omega)]; exact (if_neg (fun e => absurd (zNi (by omega) (by omega) e) (by omega))).symm)
      rw [h1, hk0]
      simp only [zIf, if_true, Nat.add_zero]
    · rw [zSm_sp hk0 (by omega) (by omega) (fun j q w => hj j (by omega) w), hj L (by omega) (fun w => e w.symm)]
      have h2 : zIf (nI k) 0 g L = g L := if_neg (fun w => e (zNi (by omega) (by omega) w))
      rw [h2]
      omega
noncomputable def zOk (cd pN : Nat → Nat) (n : Nat) (lc mn : Nat → Nat) (L sm : Nat) (k t : Nat) : Bool := @decide ((∀ j, j < L → ¬ nI k = nI j → 0 < zPo cd pN n (lc j)) ∧ 0 < pN t ∧ zSm (fun j => zIf (nI k) 0 (fun j => zPo cd pN n (lc j) * mn j) j) L + pN t * mn k = sm ∧ zUd (cd t) (lc k) 4 = 1) (Classical.propDecidable _)
theorem zOk_c {cd pN : Nat → Nat} {n : Nat} {lc mn : Nat → Nat} {L sm k t : Nat} : zOk cd pN n lc mn L sm k t = true ↔ (∀ j, j < L → ¬ nI k = nI j → 0 < zPo cd pN n (lc j)) ∧ 0 < pN t ∧ zSm (fun j => zIf (nI k) 0 (fun j => zPo cd pN n (lc j) * mn j) j) L + pN t * mn k = sm ∧ zUd (cd t) (lc k) 4 = 1 := @decide_eq_true_iff _ (Classical.propDecidable _)
/-- the sum with another code in a line's place -/
theorem zSm_at {cd pN : Nat → Nat} {n : Nat} {lc mn : Nat → Nat} {L k t : Nat} {h : Nat → Nat} (hL : L ≤ 8) (hk : k < L) (ht : t < n) (hd : ∀ t', t' < n → cd t = cd t' → t = t') (h1 : h k = cd t) (h2 : ∀ j, j < L → j ≠ k → h j = lc j) : zSm (fun j => zPo cd pN n (h j) * mn j) L = zSm (fun j => zIf (nI k) 0 (fun j => zPo cd pN n (lc j) * mn j) j) L + pN t * mn k :=
  zSm_sp (g := fun j => zPo cd pN n (lc j) * mn j) (h := fun j => zPo cd pN n (h j) * mn j) (by rw [h1, zPo_at ht rfl hd]) (by omega) hk (fun j q w => by rw [h2 j q w])
theorem zOk_m {cd pN : Nat → Nat} {n : Nat} {lc mn : Nat → Nat} {L sm k t : Nat} (hL : L ≤ 8) (hk : k < L) (ht : t < n) (hd : ∀ t', t' < n → cd t = cd t' → t = t') : zOk cd pN n lc mn L sm k t = true ↔ zUd (cd t) (lc k) 4 = 1 ∧ 0 < pN t ∧ (∀ j, j < L → 0 < zPo cd pN n (zIf (nI k) (cd t) lc j)) ∧ zSm (fun j => zPo cd pN n (zIf (nI k) (cd t) lc j) * mn j) L = sm := by
  have e1 : zIf (nI k) (cd t) lc k = cd t := if_pos rfl
  have e2 : ∀ j, j < L → j ≠ k → zIf (nI k) (cd t) lc j = lc j := fun j q w => if_neg (fun e => w (zNi (by omega) (by omega) e).symm)
  rw [zOk_c, zSm_at hL hk ht hd e1 e2]
  constructor
  · rintro ⟨a, b, c, d⟩
    refine ⟨d, b, fun j q => ?_, c⟩
    by_cases w : j = k
    · rw [w, e1, zPo_at ht rfl hd]; exact b
    · rw [e2 j q w]; exact a j q (fun e => w (zNi (by omega) (by omega) e).symm)
  · rintro ⟨d, b, a, c⟩
    exact ⟨fun j q w => by have h9 := a j q; rw [e2 j q (fun e => w (by rw [e]))] at h9; exact h9, b, c, d⟩
theorem zFN_ok {ok : Nat → Bool} {k : Nat} {cd : Nat → Nat} {s : Nat × Nat × Nat} {P : Nat → Nat → Prop} (hs : s.1 ≠ 0 → P s.2.1 s.2.2) : ∀ {t : Nat}, (∀ j, j < t → ok j = true → P k (cd j)) → (zFN ok k cd s t).1 ≠ 0 → P (zFN ok k cd s t).2.1 (zFN ok k cd s t).2.2
  | 0, _, h => hs h
  | t + 1, hc, h => by
    unfold zFN at h ⊢
    split at h
    · rename_i q; rw [if_pos q]; exact hc t (by omega) q
    · rename_i q; rw [if_neg q]; exact zFN_ok hs (fun j w => hc j (by omega)) h
theorem zFM_ok {ok : Nat → Nat → Bool} {n : Nat} {cd : Nat → Nat} {P : Nat → Nat → Prop} : ∀ {K : Nat}, (∀ k t, k < K → t < n → ok k t = true → P k (cd t)) → (zFM ok n cd K).1 ≠ 0 → P (zFM ok n cd K).2.1 (zFM ok n cd K).2.2
  | 0, _, h => absurd rfl h
  | K + 1, hc, h => zFN_ok (fun q => zFM_ok (fun k t a b => hc k t (by omega) b) q) (fun j w e => hc K j (by omega) w e) h
theorem zMe.uni {pl : Prop} {s : Nat × Nat × Nat} {lc a a' : Nat → Nat} {m m' b b' : Nat} (h : zMe pl s lc a m b) (h' : zMe pl s lc a' m' b') : a = a' ∧ m = m' ∧ b = b' := by
  rcases h with ⟨p, q1, q2, q3⟩ | ⟨p, z, q1, q2, q3⟩ | ⟨p, z, q1, q2, q3⟩ <;> rcases h' with ⟨p', r1, r2, r3⟩ | ⟨p', z', r1, r2, r3⟩ | ⟨p', z', r1, r2, r3⟩
  · exact ⟨by rw [q3, r3], by rw [q2, r2], by rw [q1, r1]⟩
  · exact absurd p p'
  · exact absurd p p'
  · exact absurd p' p
  · exact ⟨by rw [q3, r3], by rw [q2, r2], by rw [q1, r1]⟩
  · exact absurd z z'
  · exact absurd p' p
  · exact absurd z' z
  · exact ⟨by rw [q3, r3], by rw [q2, r2], by rw [q1, r1]⟩
/-- clear: the sum of its lines is the one told, and it is not 0 -/
theorem zMe.sum {cd pN : Nat → Nat} {n : Nat} {lc lc2 mn : Nat → Nat} {L sm m b : Nat} (h : zMe (zPl cd pN n lc mn L sm) (zFM (zOk cd pN n lc mn L sm) n cd L) lc lc2 m b) (hb : b = 1) (hL : L ≤ 8) (hL1 : 1 ≤ L) (hm : ∀ j, j < L → 1 ≤ mn j) (hd : ∀ t t', t < n → t' < n → cd t = cd t' → t = t') : zSm (fun j => zPo cd pN n (lc2 j) * mn j) L = sm ∧ 0 < sm := by
  rcases h with ⟨p, q1, q2, q3⟩ | ⟨p, z, q1, q2, q3⟩ | ⟨p, z, q1, q2, q3⟩
  · rw [q3]
    refine ⟨p.2, ?_⟩
    have h1 := p.2
    obtain ⟨L', rfl⟩ : ∃ L', L = L' + 1 := ⟨L - 1, by omega⟩
    unfold zSm at h1
    have h2 : 0 < zPo cd pN n (lc L') * mn L' := Nat.mul_pos (p.1 L' (by omega)) (hm L' (by omega))
    omega
  · have h1 := zFM_ok (ok := zOk cd pN n lc mn L sm) (n := n) (cd := cd) (P := fun k c => k < L ∧ ∃ t, t < n ∧ c = cd t ∧ zOk cd pN n lc mn L sm k t = true) (K := L) (fun k t a b e => ⟨a, t, b, rfl, e⟩) (by omega)
    obtain ⟨hk, t, ht, hc, e⟩ := h1
    rw [zOk_c] at e
    obtain ⟨-, e2, e3, -⟩ := e
    have h2 := zSm_at (mn := mn) (lc := lc) (pN := pN) (h := lc2) hL hk ht (fun t' q => hd t t' ht q) (by rw [q3, hc]; exact if_pos rfl) (fun j q w => by rw [q3]; exact if_neg w)
    rw [h2]
    have h3 : 0 < pN t * mn (zFM (zOk cd pN n lc mn L sm) n cd L).2.1 := Nat.mul_pos e2 (hm _ hk)
    exact ⟨e3, by omega⟩
  · omega
/-! ===== LETTERS AS THEY ARE READ: THEIR NUMBERS' BOUNDS ===== -/
def zN (i : Int32) : Nat := i.toInt.toNat
theorem zN_eq {i : Int32} (h : 0 ≤ i.toInt) : i = nI (zN i) := by
  apply Int32.toInt_inj.mp
  have h2 : i.toInt < 2147483648 := by have := Int32.toInt_lt i; omega
  rw [nI_toInt (by unfold zN; omega)]
  unfold zN
  omega
theorem zN_le {i : Int32} {B : Nat} (h : i.toInt ≤ (B : Int)) : zN i ≤ B := by unfold zN; omega
theorem zN_ge {i : Int32} {B : Nat} (h : (B : Int) ≤ i.toInt) : B ≤ zN i := by unfold zN; omega
def zGl (c p : Int32) : Prop := (0 ≤ c.toInt ∧ c.toInt ≤ 9999) ∧ 1 ≤ p.toInt ∧ p.toInt ≤ 99
def zGd (x : Nat × (Nat → Int32) × (Nat → Int32) × Int32 × Int32) : Prop := 1 ≤ x.1 ∧ x.1 ≤ 8 ∧ (∀ k, k < x.1 → zGl (x.2.1 k) (x.2.2.1 k)) ∧ (0 ≤ x.2.2.2.1.toInt ∧ x.2.2.2.1.toInt ≤ 999999) ∧ 0 ≤ x.2.2.2.2.toInt ∧ x.2.2.2.2.toInt ≤ 999999
theorem zNum_in {b : Nat → Int32} {n p q a : Nat} {lo hi : Int32} {x : Int32 × Nat} (h : zNum b n p q lo hi a = some x) : lo.toInt ≤ x.1.toInt ∧ x.1.toInt ≤ hi.toInt := by
  unfold zNum at h
  split at h
  · rename_i w; cases h; exact ⟨w.2.2.1, w.2.2.2⟩
  · cases h
theorem zLn1_in {b : Nat → Int32} {n a : Nat} {x : Nat × Int32 × Int32} (h : zLn1 b n a = .ok x) : zGl x.2.1 x.2.2 := by
  unfold zLn1 at h
  cases e : zNum b n 4 4 (nI 0) (nI 9999) a with
  | none => rw [e] at h; cases h
  | some y =>
    rw [e] at h
    simp only at h
    cases e2 : zWrd b n [120] y.2 with
    | none => rw [e2] at h; cases h
    | some a2 =>
      rw [e2] at h
      simp only at h
      cases e3 : zNum b n 1 6 (nI 1) (nI 99) a2 with
      | none => rw [e3] at h; cases h
      | some z =>
        rw [e3] at h
        cases h
        have h1 := zNum_in e
        have h3 := zNum_in e3
        rw [nI_toInt (by omega), nI_toInt (by omega)] at h1 h3
        unfold zGl
        simp only
        omega
theorem zLin_in {b : Nat → Int32} {n : Nat} : ∀ (f a l : Nat) (C P : Nat → Int32) (y : Nat × Nat × (Nat → Int32) × (Nat → Int32)), (∀ k, k < l → zGl (C k) (P k)) → zLin b n f a l C P = .ok y → (f ≠ 0 → l + 1 ≤ y.2.1) ∧ y.2.1 ≤ l + f ∧ ∀ k, k < y.2.1 → zGl (y.2.2.1 k) (y.2.2.2 k) := by
  intro f
  induction f with
  | zero => intro a l C P y hg h; unfold zLin at h; cases h; exact ⟨fun q => absurd rfl q, by simp only; omega, hg⟩
  | succ f ih =>
    intro a l C P y hg h
    unfold zLin at h
    cases e : zLn1 b n a with
    | error p => rw [e] at h; cases h
    | ok x =>
      rw [e] at h
      simp only at h
      have hx := zLn1_in e
      have hg2 : ∀ k, k < l + 1 → zGl (zup C l x.2.1 k) (zup P l x.2.2 k) := fun k hk => by
        unfold zup
        by_cases q : k = l
        · rw [if_pos q, if_pos q]; exact hx
        · rw [if_neg q, if_neg q]; exact hg k (by omega)
      split at h
      · rename_i w
        obtain ⟨a1, a2, a3⟩ := ih _ _ _ _ _ hg2 h
        exact ⟨fun _ => by have := a1 w.1; omega, by omega, a3⟩
      · cases h; exact ⟨fun _ => Nat.le_refl _, by simp only; omega, hg2⟩
theorem zLe0_in {b : Nat → Int32} {n a : Nat} {x : Nat × Nat × (Nat → Int32) × (Nat → Int32) × Int32 × Int32} (h : zLe0 b n a = .ok x) : zGd x.2 := by
  unfold zLe0 at h
  cases e : zLin b n 8 a 0 (fun _ => 0) (fun _ => 0) with
  | error p => rw [e] at h; cases h
  | ok y =>
    rw [e] at h
    simp only at h
    obtain ⟨l1, l2, l3⟩ := zLin_in 8 a 0 _ _ y (fun k hk => absurd hk (by omega)) e
    have l1 := l1 (by decide)
    cases e2 : zWrd b n [115, 117, 109] y.1 with
    | none => rw [e2] at h; cases h
    | some a2 =>
      rw [e2] at h
      simp only at h
      cases e3 : zNum b n 1 6 (nI 0) (nI 999999) a2 with
      | none => rw [e3] at h; cases h
      | some s =>
        rw [e3] at h
        simp only at h
        have h3 := zNum_in e3
        rw [nI_toInt (by omega), nI_toInt (by omega)] at h3
        cases e4 : zWrd b n [109, 111, 110, 101, 121] s.2 with
        | none => rw [e4] at h; cases h; exact ⟨by simp only; omega, by simp only; omega, l3, ⟨by simp only; omega, by simp only; omega⟩, by simp only; omega, by simp only; omega⟩
        | some a3 =>
          rw [e4] at h
          simp only at h
          cases e5 : zNum b n 1 6 (nI 0) (nI 999999) a3 with
          | none => rw [e5] at h; cases h
          | some m =>
            rw [e5] at h
            cases h
            have h5 := zNum_in e5
            rw [nI_toInt (by omega), nI_toInt (by omega)] at h5
            exact ⟨by simp only; omega, by simp only; omega, l3, ⟨by simp only; omega, by simp only; omega⟩, by simp only; omega, by simp only; omega⟩
theorem zLet_in {b : Nat → Int32} {n a : Nat} {x : Nat × (Nat → Int32) × (Nat → Int32) × Int32 × Int32} (h : zLet b n a = .ok x) : zGd x := by
  unfold zLet at h
  cases e : zLe0 b n a with
  | error p => rw [e] at h; cases h
  | ok y =>
    rw [e] at h
    simp only at h
    split at h
    · cases h
    · cases h; exact zLe0_in e
/-- the lines' codes and how many, as numbers -/
def zLcN (x : Nat × (Nat → Int32) × (Nat → Int32) × Int32 × Int32) (j : Nat) : Nat := zN (x.2.1 j)
def zMnN (x : Nat × (Nat → Int32) × (Nat → Int32) × Int32 × Int32) (j : Nat) : Nat := zN (x.2.2.1 j)
theorem zLrd.fin {bs : Nat → Int32} {u : zFi} {L a q b8 : Nat} {w : Int32} (hL : L ≤ 400) (ha : a ≤ L) (h : zLrd (zLe0 bs L a) q u) (p : u 1 2 = nI b8) (hb : b8 ≤ L) (hc : (¬ u 1 3 = -1 ∧ w = u 1 3) ∨ (u 1 3 = -1 ∧ b8 < L ∧ w = nI b8) ∨ (u 1 3 = -1 ∧ b8 = L ∧ w = -1)) (hw : w = -1) : ∃ x, zLet bs L a = .ok x ∧ u (3000 + q) 2 = nI x.1 ∧ (∀ k, k < x.1 → u (4000 + q) k = x.2.1 k ∧ u (5000 + q) k = x.2.2.1 k) ∧ u (3000 + q) 3 = x.2.2.2.1 ∧ u (3000 + q) 4 = x.2.2.2.2 := by
  rcases h with ⟨p, c1, c2, c3⟩ | ⟨x, c1, c2, c3, c4, c5, c6, c7⟩
  · exfalso
    rcases hc with ⟨d1, d⟩ | ⟨d, -⟩ | ⟨d, -⟩
    · exact d1 (d.symm.trans hw)
    · exact nI_ne1 c1 (c3.symm.trans d)
    · exact nI_ne1 c1 (c3.symm.trans d)
  · have l := zLe0_le ha x c1
    have e : b8 = x.1 := zNj (by omega) (by omega) (p.symm.trans c3)
    subst e
    rcases hc with ⟨d, -⟩ | ⟨-, d, d2⟩ | ⟨-, d, d2⟩
    · exact absurd c2 d
    · exact absurd (d2.symm.trans hw) (nI_ne1 (by omega))
    · exact ⟨x.2, by unfold zLet; rw [c1]; simp only; rw [if_neg (by omega)], c4, c5, c6, c7⟩
theorem zFv_er {α : Type} {R : Except Nat α} (h : ¬ zFv R = -1) : ∃ p, R = .error p := by
  cases R with
  | error p => exact ⟨p, rfl⟩
  | ok x => exact absurd rfl h
theorem zqLw.rd {u : zFi} {q : Nat} {x : Nat × (Nat → Int32) × (Nat → Int32) × Int32 × Int32} (hg : zGd x) (h2 : u (3000 + q) 2 = nI x.1) (h4 : ∀ k, k < x.1 → u (4000 + q) k = x.2.1 k ∧ u (5000 + q) k = x.2.2.1 k) : zqLw u q x.1 (zLcN x) (zMnN x) := by
  refine ⟨hg.2.1, h2, fun j hj => ?_⟩
  obtain ⟨⟨a1, a2⟩, a3, a4⟩ := hg.2.2.1 j hj
  obtain ⟨b1, b2⟩ := h4 j hj
  have c1 : zN (x.2.1 j) ≤ 9999 := zN_le (by omega)
  exact ⟨by rw [b1]; exact zN_eq a1, by unfold zLcN; omega, by rw [b2]; exact zN_eq (by omega), zN_ge (by omega), zN_le (by omega)⟩
theorem zqLy.rd {u : zFi} {x : Nat × (Nat → Int32) × (Nat → Int32) × Int32 × Int32} (hg : zGd x) (h2 : u 30 26 = nI x.1) (h4 : ∀ k, k < x.1 → u 48 k = x.2.1 k ∧ u 49 k = x.2.2.1 k) : zqLy u x.1 (zLcN x) (zMnN x) := by
  refine ⟨hg.2.1, h2, fun j hj => ?_⟩
  obtain ⟨⟨a1, a2⟩, a3, a4⟩ := hg.2.2.1 j hj
  obtain ⟨b1, b2⟩ := h4 j hj
  have c1 : zN (x.2.1 j) ≤ 9999 := zN_le (by omega)
  exact ⟨by rw [b1]; exact zN_eq a1, by unfold zLcN; omega, by rw [b2]; exact zN_eq (by omega), zN_ge (by omega), zN_le (by omega)⟩
theorem zMe.b {pl : Prop} {s : Nat × Nat × Nat} {lc a : Nat → Nat} {m b : Nat} (h : zMe pl s lc a m b) : b ≤ 1 := by
  rcases h with ⟨-, q, -⟩ | ⟨-, -, q, -⟩ | ⟨-, -, q, -⟩ <;> omega
theorem zMe.m {pl : Prop} {ok : Nat → Nat → Bool} {n L : Nat} {cd lc a : Nat → Nat} {m b : Nat} (h : zMe pl (zFM ok n cd L) lc a m b) (hL : L ≤ 8) (hn : n ≤ 30) : m ≤ 240 := by
  have h1 : (zFM ok n cd L).1 ≤ 8 * 30 := Nat.le_trans zFM_le (Nat.mul_le_mul hL hn)
  rcases h with ⟨-, -, q, -⟩ | ⟨-, -, -, q, -⟩ | ⟨-, -, -, q, -⟩ <;> omega
theorem zWt_le {fi : zFi} : ∀ {d : Nat}, zWt fi d ≤ d
  | 0 => Nat.le_refl _
  | d + 1 => by
    have h := zWt_le (fi := fi) (d := d)
    unfold zWt
    split <;> omega
theorem zWt_cg {fi f : zFi} : ∀ {d : Nat}, (∀ i, i < d → f (3000 + i) 9 = fi (3000 + i) 9) → zWt f d = zWt fi d
  | 0, _ => rfl
  | d + 1, h => by
    unfold zWt
    rw [zWt_cg (fun i q => h i (by omega)), h d (by omega)]
/-- a letter's outcome: its ways to mend, whether it is clear, its codes behind it -/
def zLm2 (cd pN : Nat → Nat) (n : Nat) (x : Nat × (Nat → Int32) × (Nat → Int32) × Int32 × Int32) (lc2 : Nat → Nat) (m2 b2 : Nat) : Prop := zMe (zPl cd pN n (zLcN x) (zMnN x) x.1 (zN x.2.2.2.1)) (zFM (zOk cd pN n (zLcN x) (zMnN x) x.1 (zN x.2.2.2.1)) n cd x.1) (zLcN x) lc2 m2 b2
def zPd (cd pN : Nat → Nat) (n : Nat) (ru : Nat → Int32) (L : Nat) (lc mn : Nat → Nat) (mo : Int32) : Prop := 0 < zSm (fun j => zPo cd pN n (lc j) * mn j) L ∧ (zDue ru (nI (zSm (fun j => zPo cd pN n (lc j) * mn j) L))).toInt ≤ mo.toInt
