/-! ===== the reference's sets by their bits ===== -/
def wBit (a k : Nat) : Prop := a / 2 ^ k % 2 = 1
theorem wD63 {a b : wP} (h1 : a.1 ≤ 7) (h2 : b.1 ≤ 7) (h3 : a.2 ≤ 21) (h4 : b.2 ≤ 21) : wD a b ≤ 63 := by
  unfold wD
  split
  · omega
  · split <;> omega
theorem wTen {k : Nat} (h : k < 10) : k = 0 ∨ k = 1 ∨ k = 2 ∨ k = 3 ∨ k = 4 ∨ k = 5 ∨ k = 6 ∨ k = 7 ∨ k = 8 ∨ k = 9 := by omega
theorem wBit_lo {a k : Nat} (hk : k < 10) (h : wBit a k) : 2 ^ k ≤ a := by
  unfold wBit at h
  rcases wTen hk with rfl | rfl | rfl | rfl | rfl | rfl | rfl | rfl | rfl | rfl <;> simp only [Nat.reducePow] at h ⊢ <;> omega
theorem wBit_sub {a k j : Nat} (hk : k < 10) (hj : j < 10) (h : wBit a k) : wBit (a - 2 ^ k) j ↔ wBit a j ∧ j ≠ k := by
  unfold wBit at *
  rcases wTen hk with rfl | rfl | rfl | rfl | rfl | rfl | rfl | rfl | rfl | rfl <;> rcases wTen hj with rfl | rfl | rfl | rfl | rfl | rfl | rfl | rfl | rfl | rfl <;> simp only [Nat.reducePow] at h ⊢ <;> omega
set_option maxRecDepth 100000 in
theorem wBit_ne0 : ∀ p : Fin 11, ∀ a : Fin 1024, 0 < a.val → a.val < 2 ^ p.val → ∃ k : Fin 10, k.val < p.val ∧ a.val / 2 ^ k.val % 2 = 1 := by decide +kernel
theorem wBit_ne {a p : Nat} (hp : p ≤ 10) (ha : a < 2 ^ p) (h0 : 0 < a) : ∃ k, k < p ∧ wBit a k := by
  have h1 : 2 ^ p ≤ 1024 := Nat.le_trans (Nat.pow_le_pow_right (by omega) hp) (by decide)
  obtain ⟨k, k1, k2⟩ := wBit_ne0 ⟨p, by omega⟩ ⟨a, by omega⟩ h0 ha
  exact ⟨k.val, k1, k2⟩
theorem wBit_all {p k : Nat} (hp : p ≤ 10) (hk : k < p) : wBit (2 ^ p - 1) k := by
  have : ∀ p : Fin 11, ∀ k : Fin 10, k.val < p.val → (2 ^ p.val - 1) / 2 ^ k.val % 2 = 1 := by decide
  exact this ⟨p, by omega⟩ ⟨k, by omega⟩ hk
set_option maxRecDepth 100000 in
theorem zShr : ∀ k : Fin 10, ∀ a : Fin 1024, (nI a.val >>> (nI k.val &&& 31)) = nI (a.val / 2 ^ k.val) := by decide +kernel
set_option maxRecDepth 100000 in
theorem zAnd1 : ∀ a : Fin 1024, (nI a.val &&& 1) = nI (a.val % 2) := by decide +kernel
set_option maxRecDepth 100000 in
theorem zClr : ∀ k : Fin 10, ∀ a : Fin 1024, (nI a.val &&& (((1 : Int32) <<< (nI k.val &&& 31)) ^^^ -1)) = nI (if a.val / 2 ^ k.val % 2 = 1 then a.val - 2 ^ k.val else a.val) := by decide +kernel
/-! ===== the reference's table, set by set ===== -/
def wK (p a k : Nat) : Prop := k < p ∧ wBit a k
theorem wK.split {p a la k : Nat} (hp : p ≤ 10) (hl : la < p) (hb : wBit a la) : wK p a k ↔ wK p (a - 2 ^ la) k ∨ k = la := by
  unfold wK
  constructor
  · rintro ⟨h1, h2⟩
    by_cases e : k = la
    · exact Or.inr e
    · exact Or.inl ⟨h1, (wBit_sub (by omega) (by omega) hb).mpr ⟨h2, e⟩⟩
  · rintro (⟨h1, h2⟩ | e)
    · exact ⟨h1, ((wBit_sub (by omega) (by omega) hb).mp h2).1⟩
    · rw [e]; exact ⟨hl, hb⟩
theorem wTb.one {P : Nat → wP} {p a la : Nat} (hp : p ≤ 10) (hP : ∀ k, k < p → (P k).2 ≤ 21) (hl : la < p) (hb : wBit a la) (h0 : a - 2 ^ la = 0) : wOpt P (wK p a) la (wD (0, 0) (P la)) :=
  wOpt.one (fun k w => hP k w.1) ⟨hl, hb⟩ (fun k w => by
    rcases (wK.split hp hl hb).mp w with ⟨-, q⟩ | q
    · rw [h0] at q; unfold wBit at q; rw [Nat.zero_div] at q; omega
    · exact q)
theorem wTb.step {P : Nat → wP} {p a la v : Nat} {g : Nat → Nat} (hp : p ≤ 10) (ha : a < 2 ^ p) (hP : ∀ k, k < p → (P k).2 ≤ 21) (hl : la < p) (hb : wBit a la) (h0 : 0 < a - 2 ^ la) (hg : ∀ k, wK p (a - 2 ^ la) k → wOpt P (wK p (a - 2 ^ la)) k (g k)) (h1 : ∃ k, wK p (a - 2 ^ la) k ∧ v = g k + wD (P k) (P la)) (h2 : ∀ k, wK p (a - 2 ^ la) k → v ≤ g k + wD (P k) (P la)) : wOpt P (wK p a) la v :=
  wOpt.step (fun k w => hP k w.1) ⟨hl, hb⟩ (fun k => wK.split hp hl hb) (by obtain ⟨k, k1, -⟩ := h1; exact ⟨k, k1⟩) hg h1 h2
/-- the least so far, -1 if there is none -/
def wMl (B : Nat → Prop) (h : Nat → Nat) (kk : Nat) (y : Int32) : Prop := (y = -1 ∧ ∀ k, k < kk → ¬ B k) ∨ ∃ v, y = nI v ∧ (∃ k, k < kk ∧ B k ∧ v = h k) ∧ ∀ k, k < kk → B k → v ≤ h k
section WC
variable {B : Nat → Prop} {h : Nat → Nat} {kk : Nat} {y : Int32}
theorem wMl.st0 : wMl B h 0 (-1) := Or.inl ⟨rfl, fun k q => absurd q (by omega)⟩
theorem wMl.skip (m : wMl B h kk y) (n : ¬ B kk) : wMl B h (kk + 1) y := by
  rcases m with ⟨e, q⟩ | ⟨v, e, ⟨k, k1, k2, k3⟩, q⟩
  · exact Or.inl ⟨e, fun k w => by by_cases u : k = kk; (rw [u]; exact n); exact q k (by omega)⟩
  · exact Or.inr ⟨v, e, ⟨k, by omega, k2, k3⟩, fun k w b => by by_cases u : k = kk; (rw [u] at b; exact absurd b n); exact q k (by omega) b⟩
theorem wMl.first (m : wMl B h kk (-1)) (b : B kk) (hh : ∀ k, k < kk → B k → h k < 2147483648) : wMl B h (kk + 1) (nI (h kk)) := by
  rcases m with ⟨-, q⟩ | ⟨v, e, ⟨k, k1, k2, k3⟩, -⟩
  · exact Or.inr ⟨_, rfl, ⟨kk, by omega, b, rfl⟩, fun k w b2 => by by_cases u : k = kk; (rw [u]; omega); exact absurd b2 (q k (by omega))⟩
  · exfalso
    have h9 := congrArg Int32.toInt e
    rw [k3, nI_toInt (hh k k1 k2)] at h9
    have h8 : (-1 : Int32).toInt = -1 := by decide
    omega
theorem wMl.less (m : wMl B h kk y) (b : B kk) (hh : ∀ k, k ≤ kk → B k → h k < 2147483648) (l : (h kk : Int) < y.toInt) : wMl B h (kk + 1) (nI (h kk)) := by
  rcases m with ⟨e, -⟩ | ⟨v, e, ⟨k, k1, k2, k3⟩, q⟩
  · rw [e, show (-1 : Int32).toInt = -1 by decide] at l; omega
  · rw [e, nI_toInt (by rw [k3]; exact hh k (by omega) k2)] at l
    exact Or.inr ⟨_, rfl, ⟨kk, by omega, b, rfl⟩, fun k w b2 => by by_cases u : k = kk; (rw [u]; omega); (have := q k (by omega) b2; omega)⟩
theorem wMl.keep (m : wMl B h kk y) (n1 : ¬ y = -1) (hh : ∀ k, k ≤ kk → B k → h k < 2147483648) (l : y.toInt ≤ (h kk : Int)) : wMl B h (kk + 1) y := by
  rcases m with ⟨e, -⟩ | ⟨v, e, ⟨k, k1, k2, k3⟩, q⟩
  · exact absurd e n1
  · rw [e, nI_toInt (by rw [k3]; exact hh k (by omega) k2)] at l
    exact Or.inr ⟨v, e, ⟨k, by omega, k2, k3⟩, fun k w b2 => by by_cases u : k = kk; (rw [u]; omega); exact q k (by omega) b2⟩
theorem wMl.end (m : wMl B h kk y) (hne : ∃ k, k < kk ∧ B k) : ∃ v, y = nI v ∧ (∃ k, k < kk ∧ B k ∧ v = h k) ∧ ∀ k, k < kk → B k → v ≤ h k := by
  rcases m with ⟨-, q⟩ | w
  · obtain ⟨k, k1, k2⟩ := hne; exact absurd k2 (q k k1)
  · exact w
end WC
def wN (i : Int32) : Nat := i.toInt.toNat
theorem wN_n {v : Nat} (h : v < 2147483648) : wN (nI v) = v := by unfold wN; rw [nI_toInt h]; rfl
def wTab2 (g : Nat → Int32) (P : Nat → wP) (p s la : Nat) : Prop := ∀ a l, 1 ≤ a → (a < s ∨ (a = s ∧ l < la)) → l < p → wBit a l → ∃ v, g (10 * a + l) = nI v ∧ v ≤ 63 * a ∧ wOpt P (wK p a) l v
theorem wTab2.cg {g g' : Nat → Int32} {P : Nat → wP} {p s la : Nat} (h : wTab2 g P p s la) (e : ∀ k, k < 10 * s + la → g' k = g k) (hl : la ≤ 10) (hp : p ≤ 10) : wTab2 g' P p s la := fun a l h1 h2 h3 h4 => by
  obtain ⟨v, v1, v2, v3⟩ := h a l h1 h2 h3 h4
  exact ⟨v, by rw [e _ (by omega)]; exact v1, v2, v3⟩
theorem wTab2.skip {g : Nat → Int32} {P : Nat → wP} {p s la : Nat} (h : wTab2 g P p s la) (n : ¬ wBit s la) : wTab2 g P p s (la + 1) := fun a l h1 h2 h3 h4 => by
  by_cases e : a = s ∧ l = la
  · obtain ⟨rfl, rfl⟩ := e; exact absurd h4 n
  · exact h a l h1 (by omega) h3 h4
theorem wTab2.put {g g' : Nat → Int32} {P : Nat → wP} {p s la v : Nat} (h : wTab2 g P p s la) (hl : la < p) (hp : p ≤ 10) (e : ∀ k, k ≠ 10 * s + la → g' k = g k) (ev : g' (10 * s + la) = nI v) (hv : v ≤ 63 * s) (ho : wOpt P (wK p s) la v) : wTab2 g' P p s (la + 1) := fun a l h1 h2 h3 h4 => by
  by_cases q : a = s ∧ l = la
  · obtain ⟨rfl, rfl⟩ := q; exact ⟨v, ev, hv, ho⟩
  · obtain ⟨w, w1, w2, w3⟩ := h a l h1 (by omega) h3 h4
    exact ⟨w, by rw [e _ (by omega)]; exact w1, w2, w3⟩
theorem wTab2.row {g : Nat → Int32} {P : Nat → wP} {p s : Nat} (h : wTab2 g P p s p) : wTab2 g P p (s + 1) 0 := fun a l h1 h2 h3 h4 => h a l h1 (by omega) h3 h4
theorem wTab2.st0 {g : Nat → Int32} {P : Nat → wP} {p : Nat} : wTab2 g P p 1 0 := fun a l h1 h2 => by omega
/-- the value that is put down -/
theorem wPut {g : Nat → Int32} {P : Nat → wP} {p s la rs : Nat} {y : Int32} (hp : p ≤ 10) (hs : s < 2 ^ p) (hP : ∀ k, k < p → (P k).1 ≤ 7 ∧ (P k).2 ≤ 21) (hl : la < p) (hb : wBit s la) (e : rs = s - 2 ^ la) (ht : wTab2 g P p s la) (h : (rs = 0 ∧ y = nI (wD (0, 0) (P la))) ∨ (0 < rs ∧ wMl (fun k => wBit rs k) (fun k => wN (g (10 * rs + k)) + wD (P k) (P la)) p y)) : ∃ v, y = nI v ∧ v ≤ 63 * s ∧ wOpt P (wK p s) la v := by
  have lo := wBit_lo (by omega) hb
  have p2 : 0 < 2 ^ la := Nat.pos_of_ne_zero (by simp)
  have hl7 := hP la hl
  rcases h with ⟨e0, ey⟩ | ⟨e0, m⟩
  · have d := wD63 (a := (0, 0)) (b := P la) (by simp) hl7.1 (by simp) hl7.2
    exact ⟨_, ey, by omega, wTb.one hp (fun k w => (hP k w).2) hl hb (by omega)⟩
  · obtain ⟨k0, k1, k2⟩ := wBit_ne (a := rs) hp (by omega) e0
    obtain ⟨v, v1, ⟨k, q1, q2, q3⟩, v3⟩ := m.end ⟨k0, k1, k2⟩
    have tb : ∀ k, k < p → wBit rs k → ∃ w, g (10 * rs + k) = nI w ∧ w ≤ 63 * rs ∧ wOpt P (wK p rs) k w := fun k a1 a2 => ht rs k (by omega) (Or.inl (by omega)) a1 a2
    have nn : ∀ k, k < p → wBit rs k → wN (g (10 * rs + k)) ≤ 63 * rs ∧ wOpt P (wK p rs) k (wN (g (10 * rs + k))) := fun k a1 a2 => by
      obtain ⟨w, w1, w2, w3⟩ := tb k a1 a2
      have s1024 : 2 ^ p ≤ 1024 := Nat.le_trans (Nat.pow_le_pow_right (by omega) hp) (by decide)
      rw [w1, wN_n (by omega)]; exact ⟨w2, w3⟩
    have d := wD63 (a := P k) (b := P la) (hP k q1).1 hl7.1 (hP k q1).2 hl7.2
    have n1 := (nn k q1 q2).1
    refine ⟨v, v1, by omega, ?_⟩
    exact wTb.step (g := fun k => wN (g (10 * rs + k))) hp hs (fun k w => (hP k w).2) hl hb (by omega) (fun k w => by rw [← e] at w ⊢; exact (nn k w.1 w.2).2) ⟨k, ⟨q1, by rw [← e]; exact q2⟩, q3⟩ (fun k w => v3 k w.1 (by rw [e]; exact w.2))
set_option maxHeartbeats 4000000 in
set_option maxRecDepth 100000 in
/-- far -/
theorem m_farN (l : Launch) (hl0 : l.stackTraces = false) (D : va_G) (A : Nat → Prop) (sad : Nat → Nat) (τ : zTy) (fi : zFi) (fr : zFr) (ol : Int64) (a1 a2 b1 b2 : Nat) (h1 : a1 ≤ 7) (h2 : a2 ≤ 21) (h3 : b1 ≤ 7) (h4 : b2 ≤ 21) : Met l yX12_far wsX12_far ({ frames := 0, cells := 0, slots := 0, locals := 0 }) (va_Pc [.int (nI a1), .int (nI a2), .int (nI b1), .int (nI b2)] (zQc D A sad τ fi fr ol)) (va_Qi (fun (r : Int32) (u : Unit) => r = nI (wD (a1, a2) (b1, b2))) (fun (u : Unit) (t : State) => zH D A τ fi fr ol t t.heap) A) 0 0 A := by
  refine Met.ofW (cc := cX12_far) (maxL := 7) (ret := (some .int)) (by decide) rfl ?_
  intro p9 e9 s m args below meth c9 s₁ B hml hv
  obtain ⟨rfl, hz, hH, hA⟩ := hv
  have hx := B.exec
  have hb := B.bytes
  have hr := B.returns
  have hts := atoms_spec (ws := wsX12_far) B.pre
  have hown : s.vm.findClass RX12 = some m.cls := findClass_of_methodNamed B.named
  have hlocks := B.notSynchronized
  have hS : va_S A s.heap s.heap [] := va_S.rf
  have hl := lv_entry ([.int (nI a1), .int (nI a2), .int (nI b1), .int (nI b2)]) (n := 7) (Nat.le_of_ble_eq_true rfl)
  rw [lg_entry_eq]
  generalize (lg_sl ([.int (nI a1), .int (nI a2), .int (nI b1), .int (nI b2)]) ++ List.replicate (7 - (lg_sl ([.int (nI a1), .int (nI a2), .int (nI b1), .int (nI b2)])).length) Slot.unset).toArray = ls at hl ⊢
  have hl : lv_has ls 7 [(0, .int (nI a1)), (1, .int (nI a2)), (2, .int (nI b1)), (3, .int (nI b2))] := hl
  refine lv_iload_n hx hb dX12_far_0 rfl (lv_at hl 0 rfl) ?_
  refine lv_iload_n hx hb dX12_far_1 rfl (lv_at hl 2 rfl) ?_
  refine lv_icmp_le (tgt := 11) hx hb dX12_far_2 (by decide) (fun c101 => ?_) (fun c101 => ?_)
  · have zc101 := c101
    replace zc101 := zc_le (nI_toInt (by omega)) (nI_toInt (by omega)) zc101
    refine lv_iload_n hx hb dX12_far_11 rfl (lv_at hl 2 rfl) ?_
    refine lv_iload_n hx hb dX12_far_12 rfl (lv_at hl 0 rfl) ?_
    refine lv_isub hx hb dX12_far_13 ?_
    refine lv_topi (fun v102 ev102 => ?_)
    obtain rfl : v102 = nI (b1 - a1) := ev102.trans (pk_sub (by omega))
    refine lv_istore (lv' := [(4, .int (nI (b1 - a1))), (0, .int (nI a1)), (1, .int (nI a2)), (2, .int (nI b1)), (3, .int (nI b2))]) hx hb dX12_far_14 hl (by decide) rfl (fun ls hl => ?_)
    refine lv_iload hx hb dX12_far_16 (lv_at hl 0 rfl) ?_
    refine lv_if_ne (tgt := 36) hx hb dX12_far_18 (by decide) (fun c103 => ?_) (fun c103 => ?_)
    · have zc103 := c103
      replace zc103 := zc_neq (nI_toInt (by omega)) ((by decide : (0 : Int32).toInt = 0)) zc103
      refine lv_iload_n hx hb dX12_far_36 rfl (lv_at hl 2 rfl) ?_
      refine lv_iload_n hx hb dX12_far_37 rfl (lv_at hl 4 rfl) ?_
      refine lv_iadd hx hb dX12_far_38 ?_
      refine lv_topi (fun v104 ev104 => ?_)
      obtain rfl : v104 = nI (a2 + b2) := ev104.trans (nI_add _ _)
      refine lv_istore (lv' := [(5, .int (nI (a2 + b2))), (4, .int (nI (b1 - a1))), (0, .int (nI a1)), (1, .int (nI a2)), (2, .int (nI b1)), (3, .int (nI b2))]) hx hb dX12_far_39 hl (by decide) rfl (fun ls hl => ?_)
      refine lv_bipush (v := nI 42) hx hb dX12_far_41 (by decide) ?_
      refine lv_iload_n hx hb dX12_far_43 rfl (lv_at hl 3 rfl) ?_
      refine lv_isub hx hb dX12_far_44 ?_
      refine lv_topi (fun v105 ev105 => ?_)
      obtain rfl : v105 = nI (42 - a2) := ev105.trans (pk_sub (by omega))
      refine lv_iload_n hx hb dX12_far_45 rfl (lv_at hl 5 rfl) ?_
      refine lv_isub hx hb dX12_far_46 ?_
      refine lv_topi (fun v106 ev106 => ?_)
      obtain rfl : v106 = nI ((42 - a2) - b2) := ev106.trans (pk_sub (by omega))
      refine lv_istore (lv' := [(6, .int (nI ((42 - a2) - b2))), (5, .int (nI (a2 + b2))), (4, .int (nI (b1 - a1))), (0, .int (nI a1)), (1, .int (nI a2)), (2, .int (nI b1)), (3, .int (nI b2))]) hx hb dX12_far_47 hl (by decide) rfl (fun ls hl => ?_)
      refine lv_bipush (v := nI 6) hx hb dX12_far_49 (by decide) ?_
      refine lv_iload hx hb dX12_far_51 (lv_at hl 2 rfl) ?_
      refine lv_imul hx hb dX12_far_53 ?_
      refine lv_topi (fun v107 ev107 => ?_)
      obtain rfl : v107 = nI (6 * (b1 - a1)) := ev107.trans (pk_mul _ _)
      refine lv_iload hx hb dX12_far_54 (lv_at hl 1 rfl) ?_
      refine lv_iload hx hb dX12_far_56 (lv_at hl 0 rfl) ?_
      refine lv_icmp_ge (tgt := 66) hx hb dX12_far_58 (by decide) (fun c108 => ?_) (fun c108 => ?_)
      · have zc108 := c108
        replace zc108 := zc_le (nI_toInt (by omega)) (nI_toInt (by omega)) zc108
        refine lv_iload hx hb dX12_far_66 (lv_at hl 0 rfl) ?_
        refine lv_iadd hx hb dX12_far_68 ?_
        refine lv_topi (fun v109 ev109 => ?_)
        obtain rfl : v109 = nI ((6 * (b1 - a1)) + ((42 - a2) - b2)) := ev109.trans (nI_add _ _)
        refine W.widen (k := 0) (n := 0) (by decide) (by decide) ?_
        exact W.iret (v := nI ((6 * (b1 - a1)) + ((42 - a2) - b2))) hx hb hr (fun t9 ht9 hW9 => ⟨⟨nI ((6 * (b1 - a1)) + ((42 - a2) - b2)), (), rfl, (by congr 1; unfold wD; simp only; split <;> (try split) <;> omega), zEnd1 hH ht9 hW9⟩, hS.F ht9⟩) hS.2.2 dX12_far_69
      · have zc108 := c108
        replace zc108 := zc_nle (nI_toInt (by omega)) (nI_toInt (by omega)) zc108
        refine lv_iload hx hb dX12_far_61 (lv_at hl 1 rfl) ?_
        refine lv_goto (tgt := 68) hx hb dX12_far_63 (by decide) ?_
        refine lv_iadd hx hb dX12_far_68 ?_
        refine lv_topi (fun v110 ev110 => ?_)
        obtain rfl : v110 = nI ((6 * (b1 - a1)) + (a2 + b2)) := ev110.trans (nI_add _ _)
        refine W.widen (k := 0) (n := 0) (by decide) (by decide) ?_
        exact W.iret (v := nI ((6 * (b1 - a1)) + (a2 + b2))) hx hb hr (fun t9 ht9 hW9 => ⟨⟨nI ((6 * (b1 - a1)) + (a2 + b2)), (), rfl, (by congr 1; unfold wD; simp only; split <;> (try split) <;> omega), zEnd1 hH ht9 hW9⟩, hS.F ht9⟩) hS.2.2 dX12_far_69
    · have zc103 := c103
      replace zc103 := zc_eq (nI_toInt (by omega)) ((by decide : (0 : Int32).toInt = 0)) zc103
      refine lv_iload_n hx hb dX12_far_21 rfl (lv_at hl 2 rfl) ?_
      refine lv_iload_n hx hb dX12_far_22 rfl (lv_at hl 4 rfl) ?_
      refine lv_icmp_le (tgt := 32) hx hb dX12_far_23 (by decide) (fun c111 => ?_) (fun c111 => ?_)
      · have zc111 := c111
        replace zc111 := zc_le (nI_toInt (by omega)) (nI_toInt (by omega)) zc111
        refine lv_iload_n hx hb dX12_far_32 rfl (lv_at hl 4 rfl) ?_
        refine lv_iload_n hx hb dX12_far_33 rfl (lv_at hl 2 rfl) ?_
        refine lv_isub hx hb dX12_far_34 ?_
        refine lv_topi (fun v112 ev112 => ?_)
        obtain rfl : v112 = nI (b2 - a2) := ev112.trans (pk_sub (by omega))
        refine W.widen (k := 0) (n := 0) (by decide) (by decide) ?_
        exact W.iret (v := nI (b2 - a2)) hx hb hr (fun t9 ht9 hW9 => ⟨⟨nI (b2 - a2), (), rfl, (by congr 1; unfold wD; simp only; split <;> (try split) <;> omega), zEnd1 hH ht9 hW9⟩, hS.F ht9⟩) hS.2.2 dX12_far_35
      · have zc111 := c111
        replace zc111 := zc_nle (nI_toInt (by omega)) (nI_toInt (by omega)) zc111
        refine lv_iload_n hx hb dX12_far_26 rfl (lv_at hl 2 rfl) ?_
        refine lv_iload_n hx hb dX12_far_27 rfl (lv_at hl 4 rfl) ?_
        refine lv_isub hx hb dX12_far_28 ?_
        refine lv_topi (fun v113 ev113 => ?_)
        obtain rfl : v113 = nI (a2 - b2) := ev113.trans (pk_sub (by omega))
        refine lv_goto (tgt := 35) hx hb dX12_far_29 (by decide) ?_
        refine W.widen (k := 0) (n := 0) (by decide) (by decide) ?_
        exact W.iret (v := nI (a2 - b2)) hx hb hr (fun t9 ht9 hW9 => ⟨⟨nI (a2 - b2), (), rfl, (by congr 1; unfold wD; simp only; split <;> (try split) <;> omega), zEnd1 hH ht9 hW9⟩, hS.F ht9⟩) hS.2.2 dX12_far_35
  · have zc101 := c101
    replace zc101 := zc_nle (nI_toInt (by omega)) (nI_toInt (by omega)) zc101
    refine lv_iload_n hx hb dX12_far_5 rfl (lv_at hl 0 rfl) ?_
    refine lv_iload_n hx hb dX12_far_6 rfl (lv_at hl 2 rfl) ?_
    refine lv_isub hx hb dX12_far_7 ?_
    refine lv_topi (fun v114 ev114 => ?_)
    obtain rfl : v114 = nI (a1 - b1) := ev114.trans (pk_sub (by omega))
    refine lv_goto (tgt := 14) hx hb dX12_far_8 (by decide) ?_
    refine lv_istore (lv' := [(4, .int (nI (a1 - b1))), (0, .int (nI a1)), (1, .int (nI a2)), (2, .int (nI b1)), (3, .int (nI b2))]) hx hb dX12_far_14 hl (by decide) rfl (fun ls hl => ?_)
    refine lv_iload hx hb dX12_far_16 (lv_at hl 0 rfl) ?_
    refine lv_if_ne (tgt := 36) hx hb dX12_far_18 (by decide) (fun c115 => ?_) (fun c115 => ?_)
    · have zc115 := c115
      replace zc115 := zc_neq (nI_toInt (by omega)) ((by decide : (0 : Int32).toInt = 0)) zc115
      refine lv_iload_n hx hb dX12_far_36 rfl (lv_at hl 2 rfl) ?_
      refine lv_iload_n hx hb dX12_far_37 rfl (lv_at hl 4 rfl) ?_
      refine lv_iadd hx hb dX12_far_38 ?_
      refine lv_topi (fun v116 ev116 => ?_)
      obtain rfl : v116 = nI (a2 + b2) := ev116.trans (nI_add _ _)
      refine lv_istore (lv' := [(5, .int (nI (a2 + b2))), (4, .int (nI (a1 - b1))), (0, .int (nI a1)), (1, .int (nI a2)), (2, .int (nI b1)), (3, .int (nI b2))]) hx hb dX12_far_39 hl (by decide) rfl (fun ls hl => ?_)
      refine lv_bipush (v := nI 42) hx hb dX12_far_41 (by decide) ?_
      refine lv_iload_n hx hb dX12_far_43 rfl (lv_at hl 3 rfl) ?_
      refine lv_isub hx hb dX12_far_44 ?_
      refine lv_topi (fun v117 ev117 => ?_)
      obtain rfl : v117 = nI (42 - a2) := ev117.trans (pk_sub (by omega))
      refine lv_iload_n hx hb dX12_far_45 rfl (lv_at hl 5 rfl) ?_
      refine lv_isub hx hb dX12_far_46 ?_
      refine lv_topi (fun v118 ev118 => ?_)
      obtain rfl : v118 = nI ((42 - a2) - b2) := ev118.trans (pk_sub (by omega))
      refine lv_istore (lv' := [(6, .int (nI ((42 - a2) - b2))), (5, .int (nI (a2 + b2))), (4, .int (nI (a1 - b1))), (0, .int (nI a1)), (1, .int (nI a2)), (2, .int (nI b1)), (3, .int (nI b2))]) hx hb dX12_far_47 hl (by decide) rfl (fun ls hl => ?_)
      refine lv_bipush (v := nI 6) hx hb dX12_far_49 (by decide) ?_
      refine lv_iload hx hb dX12_far_51 (lv_at hl 2 rfl) ?_
      refine lv_imul hx hb dX12_far_53 ?_
      refine lv_topi (fun v119 ev119 => ?_)
      obtain rfl : v119 = nI (6 * (a1 - b1)) := ev119.trans (pk_mul _ _)
      refine lv_iload hx hb dX12_far_54 (lv_at hl 1 rfl) ?_
      refine lv_iload hx hb dX12_far_56 (lv_at hl 0 rfl) ?_
      refine lv_icmp_ge (tgt := 66) hx hb dX12_far_58 (by decide) (fun c120 => ?_) (fun c120 => ?_)
      · have zc120 := c120
        replace zc120 := zc_le (nI_toInt (by omega)) (nI_toInt (by omega)) zc120
        refine lv_iload hx hb dX12_far_66 (lv_at hl 0 rfl) ?_
        refine lv_iadd hx hb dX12_far_68 ?_
        refine lv_topi (fun v121 ev121 => ?_)
        obtain rfl : v121 = nI ((6 * (a1 - b1)) + ((42 - a2) - b2)) := ev121.trans (nI_add _ _)
        refine W.widen (k := 0) (n := 0) (by decide) (by decide) ?_
        exact W.iret (v := nI ((6 * (a1 - b1)) + ((42 - a2) - b2))) hx hb hr (fun t9 ht9 hW9 => ⟨⟨nI ((6 * (a1 - b1)) + ((42 - a2) - b2)), (), rfl, (by congr 1; unfold wD; simp only; split <;> (try split) <;> omega), zEnd1 hH ht9 hW9⟩, hS.F ht9⟩) hS.2.2 dX12_far_69
      · have zc120 := c120
        replace zc120 := zc_nle (nI_toInt (by omega)) (nI_toInt (by omega)) zc120
        refine lv_iload hx hb dX12_far_61 (lv_at hl 1 rfl) ?_
        refine lv_goto (tgt := 68) hx hb dX12_far_63 (by decide) ?_
        refine lv_iadd hx hb dX12_far_68 ?_
        refine lv_topi (fun v122 ev122 => ?_)
        obtain rfl : v122 = nI ((6 * (a1 - b1)) + (a2 + b2)) := ev122.trans (nI_add _ _)
        refine W.widen (k := 0) (n := 0) (by decide) (by decide) ?_
        exact W.iret (v := nI ((6 * (a1 - b1)) + (a2 + b2))) hx hb hr (fun t9 ht9 hW9 => ⟨⟨nI ((6 * (a1 - b1)) + (a2 + b2)), (), rfl, (by congr 1; unfold wD; simp only; split <;> (try split) <;> omega), zEnd1 hH ht9 hW9⟩, hS.F ht9⟩) hS.2.2 dX12_far_69
    · have zc115 := c115
      replace zc115 := zc_eq (nI_toInt (by omega)) ((by decide : (0 : Int32).toInt = 0)) zc115
      refine lv_iload_n hx hb dX12_far_21 rfl (lv_at hl 2 rfl) ?_
      refine lv_iload_n hx hb dX12_far_22 rfl (lv_at hl 4 rfl) ?_
      refine lv_icmp_le (tgt := 32) hx hb dX12_far_23 (by decide) (fun c123 => ?_) (fun c123 => ?_)
      · have zc123 := c123
        replace zc123 := zc_le (nI_toInt (by omega)) (nI_toInt (by omega)) zc123
        refine lv_iload_n hx hb dX12_far_32 rfl (lv_at hl 4 rfl) ?_
        refine lv_iload_n hx hb dX12_far_33 rfl (lv_at hl 2 rfl) ?_
        refine lv_isub hx hb dX12_far_34 ?_
        refine lv_topi (fun v124 ev124 => ?_)
        obtain rfl : v124 = nI (b2 - a2) := ev124.trans (pk_sub (by omega))
        refine W.widen (k := 0) (n := 0) (by decide) (by decide) ?_
        exact W.iret (v := nI (b2 - a2)) hx hb hr (fun t9 ht9 hW9 => ⟨⟨nI (b2 - a2), (), rfl, (by congr 1; unfold wD; simp only; split <;> (try split) <;> omega), zEnd1 hH ht9 hW9⟩, hS.F ht9⟩) hS.2.2 dX12_far_35
      · have zc123 := c123
        replace zc123 := zc_nle (nI_toInt (by omega)) (nI_toInt (by omega)) zc123
        refine lv_iload_n hx hb dX12_far_26 rfl (lv_at hl 2 rfl) ?_
        refine lv_iload_n hx hb dX12_far_27 rfl (lv_at hl 4 rfl) ?_
        refine lv_isub hx hb dX12_far_28 ?_
        refine lv_topi (fun v125 ev125 => ?_)
        obtain rfl : v125 = nI (a2 - b2) := ev125.trans (pk_sub (by omega))
        refine lv_goto (tgt := 35) hx hb dX12_far_29 (by decide) ?_
        refine W.widen (k := 0) (n := 0) (by decide) (by decide) ?_
        exact W.iret (v := nI (a2 - b2)) hx hb hr (fun t9 ht9 hW9 => ⟨⟨nI (a2 - b2), (), rfl, (by congr 1; unfold wD; simp only; split <;> (try split) <;> omega), zEnd1 hH ht9 hW9⟩, hS.F ht9⟩) hS.2.2 dX12_far_35
set_option maxHeartbeats 4000000 in
set_option maxRecDepth 100000 in
/-- between -/
theorem m_betweenN (l : Launch) (hl0 : l.stackTraces = false) (D : va_G) (A : Nat → Prop) (sad : Nat → Nat) (τ : zTy) (fi : zFi) (fr : zFr) (ol : Int64) (hF : zFix τ fr) (n : Nat) (hn30 : n ≤ 30) (p : Nat) (hp10 : p ≤ 10) (Pp : Nat → wP) (hQp : ∀ j, j < p → (∃ t, t < n ∧ fi 71 j = nI t ∧ fi 33 t = nI (Pp j).1 ∧ fi 34 t = nI (Pp j).2) ∧ (Pp j).1 ≤ 7 ∧ 1 ≤ (Pp j).2 ∧ (Pp j).2 ≤ 20) (a1 b1 : Nat) (ha1 : a1 < p) (hb1 : b1 < p) : Met l yX12_between wsX12_between ({ frames := 1, cells := 0, slots := 0, locals := 26 }) (va_Pc [.ref (τ.1 30), .int (nI a1), .int (nI b1)] (zQc D A sad τ fi fr ol)) (va_Qi (fun (r : Int32) (u : Unit) => r = nI (wD (Pp a1) (Pp b1))) (fun (u : Unit) (t : State) => zH D A τ fi fr ol t t.heap) A) 0 0 A := by
  refine Met.ofW (cc := cX12_between) (maxL := 3) (ret := (some .int)) (by decide) rfl ?_
  intro p9 e9 s m args below meth c9 s₁ B hml hv
  obtain ⟨rfl, hz, hH, hA⟩ := hv
  have hx := B.exec
  have hb := B.bytes
  have hr := B.returns
  have hts := atoms_spec (ws := wsX12_between) B.pre
  have hown : s.vm.findClass RX12 = some m.cls := findClass_of_methodNamed B.named
  have hlocks := B.notSynchronized
  have hS : va_S A s.heap s.heap [] := va_S.rf
  have hl := lv_entry ([.ref (τ.1 30), .int (nI a1), .int (nI b1)]) (n := 3) (Nat.le_of_ble_eq_true rfl)
  rw [lg_entry_eq]
  generalize (lg_sl ([.ref (τ.1 30), .int (nI a1), .int (nI b1)]) ++ List.replicate (3 - (lg_sl ([.ref (τ.1 30), .int (nI a1), .int (nI b1)])).length) Slot.unset).toArray = ls at hl ⊢
  have hl : lv_has ls 3 [(0, .ref (τ.1 30)), (1, .int (nI a1)), (2, .int (nI b1))] := hl
  obtain ⟨⟨ta1, hta1, ga1, sa1, pa1⟩, bsa1, bla1, bha1⟩ := hQp a1 ha1
  obtain ⟨⟨tb1, htb1, gb1, sb1, pb1⟩, bsb1, blb1, bhb1⟩ := hQp b1 hb1
  have hiX12 : ∀ w ∈ u_ws RX12 TX12 71, w ∈ wsX12_between := fun _ h => List.mem_cons_of_mem _ (List.mem_append_right _ h)
  have hw1 := hts (.fieldLink RX12 16 "PostHouseModel" "street" "[I") (by decide +kernel)
  have hw2 := hts (.fieldLink RX12 159 "PostHouseModel" "pick" "[I") (by decide +kernel)
  have hw3 := hts (.fieldLink RX12 19 "PostHouseModel" "place" "[I") (by decide +kernel)
  refine lv_aload_n hx hb dX12_between_0 rfl (lv_at hl 0 rfl) ?_
  refine zGetR (D := D) (ci := 12) (C := RX12) (T := TX12) (N := 71) hx hb hts hiX12 hown hH (zk_30 hF) rfl 5 (by decide) rfl hw1 (fun _ h9 => h9) dX12_between_1 (zr_30_5 hF) ?_
  refine lv_aload_n hx hb dX12_between_4 rfl (lv_at hl 0 rfl) ?_
  refine zGetR (D := D) (ci := 12) (C := RX12) (T := TX12) (N := 71) hx hb hts hiX12 hown hH (zk_30 hF) rfl 69 (by decide) rfl hw2 (fun _ h9 => h9) dX12_between_5 (zr_30_69 hF) ?_
  refine lv_iload_n hx hb dX12_between_8 rfl (lv_at hl 1 rfl) ?_
  refine zIaldN (D := D) hx hb hH (zk_71 hF) (zn_71 hF) (by omega) (by omega) ga1 dX12_between_9 ?_
  refine zIaldN (D := D) hx hb hH (zk_33 hF) (zn_33 hF) (by omega) (by omega) sa1 dX12_between_10 ?_
  refine lv_aload_n hx hb dX12_between_11 rfl (lv_at hl 0 rfl) ?_
  refine zGetR (D := D) (ci := 12) (C := RX12) (T := TX12) (N := 71) hx hb hts hiX12 hown hH (zk_30 hF) rfl 6 (by decide) rfl hw3 (fun _ h9 => h9) dX12_between_12 (zr_30_6 hF) ?_
  refine lv_aload_n hx hb dX12_between_15 rfl (lv_at hl 0 rfl) ?_
  refine zGetR (D := D) (ci := 12) (C := RX12) (T := TX12) (N := 71) hx hb hts hiX12 hown hH (zk_30 hF) rfl 69 (by decide) rfl hw2 (fun _ h9 => h9) dX12_between_16 (zr_30_69 hF) ?_
  refine lv_iload_n hx hb dX12_between_19 rfl (lv_at hl 1 rfl) ?_
  refine zIaldN (D := D) hx hb hH (zk_71 hF) (zn_71 hF) (by omega) (by omega) ga1 dX12_between_20 ?_
  refine zIaldN (D := D) hx hb hH (zk_34 hF) (zn_34 hF) (by omega) (by omega) pa1 dX12_between_21 ?_
  refine lv_aload_n hx hb dX12_between_22 rfl (lv_at hl 0 rfl) ?_
  refine zGetR (D := D) (ci := 12) (C := RX12) (T := TX12) (N := 71) hx hb hts hiX12 hown hH (zk_30 hF) rfl 5 (by decide) rfl hw1 (fun _ h9 => h9) dX12_between_23 (zr_30_5 hF) ?_
  refine lv_aload_n hx hb dX12_between_26 rfl (lv_at hl 0 rfl) ?_
  refine zGetR (D := D) (ci := 12) (C := RX12) (T := TX12) (N := 71) hx hb hts hiX12 hown hH (zk_30 hF) rfl 69 (by decide) rfl hw2 (fun _ h9 => h9) dX12_between_27 (zr_30_69 hF) ?_
  refine lv_iload_n hx hb dX12_between_30 rfl (lv_at hl 2 rfl) ?_
  refine zIaldN (D := D) hx hb hH (zk_71 hF) (zn_71 hF) (by omega) (by omega) gb1 dX12_between_31 ?_
  refine zIaldN (D := D) hx hb hH (zk_33 hF) (zn_33 hF) (by omega) (by omega) sb1 dX12_between_32 ?_
  refine lv_aload_n hx hb dX12_between_33 rfl (lv_at hl 0 rfl) ?_
  refine zGetR (D := D) (ci := 12) (C := RX12) (T := TX12) (N := 71) hx hb hts hiX12 hown hH (zk_30 hF) rfl 6 (by decide) rfl hw3 (fun _ h9 => h9) dX12_between_34 (zr_30_6 hF) ?_
  refine lv_aload_n hx hb dX12_between_37 rfl (lv_at hl 0 rfl) ?_
  refine zGetR (D := D) (ci := 12) (C := RX12) (T := TX12) (N := 71) hx hb hts hiX12 hown hH (zk_30 hF) rfl 69 (by decide) rfl hw2 (fun _ h9 => h9) dX12_between_38 (zr_30_69 hF) ?_
  refine lv_iload_n hx hb dX12_between_41 rfl (lv_at hl 2 rfl) ?_
  refine zIaldN (D := D) hx hb hH (zk_71 hF) (zn_71 hF) (by omega) (by omega) gb1 dX12_between_42 ?_
  refine zIaldN (D := D) hx hb hH (zk_34 hF) (zn_34 hF) (by omega) (by omega) pb1 dX12_between_43 ?_
  refine va_calli (va_runS (As := [.int (nI ((Pp a1).1)), .int (nI ((Pp a1).2)), .int (nI ((Pp b1).1)), .int (nI ((Pp b1).2))]) (rest := []) ⟨hx, hb, hml, hown, hts⟩ (m_farN l hl0 D A sad τ fi fr ol ((Pp a1).1) ((Pp a1).2) ((Pp b1).1) ((Pp b1).2) (by omega) (by omega) (by omega) (by omega)) (cwS 4 hts gX12_between_X12_far rfl rfl rfl (by decide +kernel) ⟨Nat.le_of_ble_eq_true rfl, Nat.le_of_ble_eq_true rfl⟩) ⟨zQc_bl, zQc_at hz hS hA hH⟩ rfl rfl hl.1 rfl (lv_room (Nat.le_of_ble_eq_true rfl)) dX12_between_44 ⟨Nat.le_of_ble_eq_true rfl, Nat.le_of_ble_eq_true rfl⟩) hS (fun q _ h => h) (fun q h => h) (fun r101 u9 t9 H1 locs ht9 hvm9 hw hB hz1 hk1 hS => ?_)
  have hH := zMv ht9 hvm9 hB
  generalize H1 = H at hH hS ⊢
  refine W.widen (k := 0) (n := 0) (by decide) (by decide) ?_
  exact W.iret (v := r101) hx hb hr (fun t9 ht9 hW9 => ⟨⟨r101, (), rfl, hw, zEnd1 hH ht9 hW9⟩, hS.F ht9⟩) hS.2.2 dX12_between_47
set_option maxHeartbeats 4000000 in
set_option maxRecDepth 100000 in
/-- home -/
theorem m_homeN (l : Launch) (hl0 : l.stackTraces = false) (D : va_G) (A : Nat → Prop) (sad : Nat → Nat) (τ : zTy) (fi : zFi) (fr : zFr) (ol : Int64) (hF : zFix τ fr) (n : Nat) (hn30 : n ≤ 30) (p : Nat) (hp10 : p ≤ 10) (Pp : Nat → wP) (hQp : ∀ j, j < p → (∃ t, t < n ∧ fi 71 j = nI t ∧ fi 33 t = nI (Pp j).1 ∧ fi 34 t = nI (Pp j).2) ∧ (Pp j).1 ≤ 7 ∧ 1 ≤ (Pp j).2 ∧ (Pp j).2 ≤ 20) (a1 : Nat) (ha1 : a1 < p) : Met l yX12_home wsX12_home ({ frames := 1, cells := 0, slots := 0, locals := 26 }) (va_Pc [.ref (τ.1 30), .int (nI a1)] (zQc D A sad τ fi fr ol)) (va_Qi (fun (r : Int32) (u : Unit) => r = nI (wD (0, 0) (Pp a1))) (fun (u : Unit) (t : State) => zH D A τ fi fr ol t t.heap) A) 0 0 A := by
  refine Met.ofW (cc := cX12_home) (maxL := 2) (ret := (some .int)) (by decide) rfl ?_
  intro p9 e9 s m args below meth c9 s₁ B hml hv
  obtain ⟨rfl, hz, hH, hA⟩ := hv
  have hx := B.exec
  have hb := B.bytes
  have hr := B.returns
  have hts := atoms_spec (ws := wsX12_home) B.pre
  have hown : s.vm.findClass RX12 = some m.cls := findClass_of_methodNamed B.named
  have hlocks := B.notSynchronized
  have hS : va_S A s.heap s.heap [] := va_S.rf
  have hl := lv_entry ([.ref (τ.1 30), .int (nI a1)]) (n := 2) (Nat.le_of_ble_eq_true rfl)
  rw [lg_entry_eq]
  generalize (lg_sl ([.ref (τ.1 30), .int (nI a1)]) ++ List.replicate (2 - (lg_sl ([.ref (τ.1 30), .int (nI a1)])).length) Slot.unset).toArray = ls at hl ⊢
  have hl : lv_has ls 2 [(0, .ref (τ.1 30)), (1, .int (nI a1))] := hl
  obtain ⟨⟨ta1, hta1, ga1, sa1, pa1⟩, bsa1, bla1, bha1⟩ := hQp a1 ha1
  have hiX12 : ∀ w ∈ u_ws RX12 TX12 71, w ∈ wsX12_home := fun _ h => List.mem_cons_of_mem _ (List.mem_append_right _ h)
  have hw1 := hts (.fieldLink RX12 16 "PostHouseModel" "street" "[I") (by decide +kernel)
  have hw2 := hts (.fieldLink RX12 159 "PostHouseModel" "pick" "[I") (by decide +kernel)
  have hw3 := hts (.fieldLink RX12 19 "PostHouseModel" "place" "[I") (by decide +kernel)
  refine lv_iconst (v := nI 0) hx hb dX12_home_0 (by decide) ?_
  refine lv_iconst (v := nI 0) hx hb dX12_home_1 (by decide) ?_
  refine lv_aload_n hx hb dX12_home_2 rfl (lv_at hl 0 rfl) ?_
  refine zGetR (D := D) (ci := 12) (C := RX12) (T := TX12) (N := 71) hx hb hts hiX12 hown hH (zk_30 hF) rfl 5 (by decide) rfl hw1 (fun _ h9 => h9) dX12_home_3 (zr_30_5 hF) ?_
  refine lv_aload_n hx hb dX12_home_6 rfl (lv_at hl 0 rfl) ?_
  refine zGetR (D := D) (ci := 12) (C := RX12) (T := TX12) (N := 71) hx hb hts hiX12 hown hH (zk_30 hF) rfl 69 (by decide) rfl hw2 (fun _ h9 => h9) dX12_home_7 (zr_30_69 hF) ?_
  refine lv_iload_n hx hb dX12_home_10 rfl (lv_at hl 1 rfl) ?_
  refine zIaldN (D := D) hx hb hH (zk_71 hF) (zn_71 hF) (by omega) (by omega) ga1 dX12_home_11 ?_
  refine zIaldN (D := D) hx hb hH (zk_33 hF) (zn_33 hF) (by omega) (by omega) sa1 dX12_home_12 ?_
  refine lv_aload_n hx hb dX12_home_13 rfl (lv_at hl 0 rfl) ?_
  refine zGetR (D := D) (ci := 12) (C := RX12) (T := TX12) (N := 71) hx hb hts hiX12 hown hH (zk_30 hF) rfl 6 (by decide) rfl hw3 (fun _ h9 => h9) dX12_home_14 (zr_30_6 hF) ?_
  refine lv_aload_n hx hb dX12_home_17 rfl (lv_at hl 0 rfl) ?_
  refine zGetR (D := D) (ci := 12) (C := RX12) (T := TX12) (N := 71) hx hb hts hiX12 hown hH (zk_30 hF) rfl 69 (by decide) rfl hw2 (fun _ h9 => h9) dX12_home_18 (zr_30_69 hF) ?_
  refine lv_iload_n hx hb dX12_home_21 rfl (lv_at hl 1 rfl) ?_
  refine zIaldN (D := D) hx hb hH (zk_71 hF) (zn_71 hF) (by omega) (by omega) ga1 dX12_home_22 ?_
  refine zIaldN (D := D) hx hb hH (zk_34 hF) (zn_34 hF) (by omega) (by omega) pa1 dX12_home_23 ?_
  refine va_calli (va_runS (As := [.int (nI 0), .int (nI 0), .int (nI ((Pp a1).1)), .int (nI ((Pp a1).2))]) (rest := []) ⟨hx, hb, hml, hown, hts⟩ (m_farN l hl0 D A sad τ fi fr ol 0 0 ((Pp a1).1) ((Pp a1).2) (by omega) (by omega) (by omega) (by omega)) (cwS 4 hts gX12_home_X12_far rfl rfl rfl (by decide +kernel) ⟨Nat.le_of_ble_eq_true rfl, Nat.le_of_ble_eq_true rfl⟩) ⟨zQc_bl, zQc_at hz hS hA hH⟩ rfl rfl hl.1 rfl (lv_room (Nat.le_of_ble_eq_true rfl)) dX12_home_24 ⟨Nat.le_of_ble_eq_true rfl, Nat.le_of_ble_eq_true rfl⟩) hS (fun q _ h => h) (fun q h => h) (fun r101 u9 t9 H1 locs ht9 hvm9 hw hB hz1 hk1 hS => ?_)
  have hH := zMv ht9 hvm9 hB
  generalize H1 = H at hH hS ⊢
  refine W.widen (k := 0) (n := 0) (by decide) (by decide) ?_
  exact W.iret (v := r101) hx hb hr (fun t9 ht9 hW9 => ⟨⟨r101, (), rfl, hw, zEnd1 hH ht9 hW9⟩, hS.F ht9⟩) hS.2.2 dX12_home_27
theorem wFin {g : Nat → Int32} {P : Nat → wP} {p s : Nat} {y : Int32} (hp : p ≤ 10) (h0 : 0 < p) (hs : s = 2 ^ p) (hP : ∀ k, k < p → (P k).1 ≤ 7 ∧ (P k).2 ≤ 21) (ht : wTab2 g P p s 0) (m : wMl (fun _ => True) (fun k => wN (g (10 * (s - 1) + k)) + wD (0, 0) (P k)) p y) : ∃ q, y = nI q ∧ wTour P (fun k => k < p) q ∧ q < 1000000 := by
  have hb : s ≤ 1024 := by rw [hs]; exact Nat.le_trans (Nat.pow_le_pow_right (by omega) hp) (by decide)
  have hba : ∀ k, k < p → wBit (s - 1) k := fun k h9 => by rw [hs]; exact wBit_all hp h9
  have h1p : 1 ≤ s - 1 := by
    have h9 := wBit_lo (by omega) (hba 0 (by omega))
    have h8 : 0 < 2 ^ 0 := by decide
    omega
  have nn : ∀ k, k < p → wN (g (10 * (s - 1) + k)) ≤ 63 * (s - 1) ∧ wOpt P (fun k => k < p) k (wN (g (10 * (s - 1) + k))) := fun k h => by
    obtain ⟨w, w1, w2, w3⟩ := ht (s - 1) k h1p (Or.inl (by omega)) h (hba k h)
    rw [w1, wN_n (by omega)]
    refine ⟨w2, ?_⟩
    have e : wK p (s - 1) = fun k => k < p := by funext k; exact propext ⟨fun q => q.1, fun q => ⟨q, hba k q⟩⟩
    rw [← e]; exact w3
  obtain ⟨v, v1, ⟨k, k1, -, k3⟩, v3⟩ := m.end ⟨0, h0, trivial⟩
  have d := wD63 (a := (0, 0)) (b := P k) (by simp) (hP k k1).1 (by simp) (hP k k1).2
  have n1 := (nn k k1).1
  exact ⟨v, v1, wTour.of (f := fun k => wN (g (10 * (s - 1) + k))) (fun k w => (hP k w).2) ⟨0, h0⟩ (fun k w => (nn k w).2) ⟨k, k1, k3⟩ (fun k w => v3 k w trivial), by omega⟩
set_option maxHeartbeats 4000000 in
set_option maxRecDepth 100000 in
/-- walk -/
theorem m_walkN (l : Launch) (hl0 : l.stackTraces = false) (D : va_G) (A : Nat → Prop) (sad : Nat → Nat) (τ : zTy) (fi : zFi) (fr : zFr) (ol : Int64) (hF : zFix τ fr) (n : Nat) (hn30 : n ≤ 30) (p : Nat) (hp10 : p ≤ 10) (Pp : Nat → wP) (hQp : ∀ j, j < p → (∃ t, t < n ∧ fi 71 j = nI t ∧ fi 33 t = nI (Pp j).1 ∧ fi 34 t = nI (Pp j).2) ∧ (Pp j).1 ≤ 7 ∧ 1 ≤ (Pp j).2 ∧ (Pp j).2 ≤ 20) (hpk : fi 30 68 = nI p) : Met l yX12_walk wsX12_walk ({ frames := 2, cells := 0, slots := 0, locals := 48 }) (va_Pc [.ref (τ.1 30)] (zQc D A sad τ fi fr ol)) (va_Qi (fun (r : Int32) (u : zFi) => ((p = 0 ∧ r = nI 0) ∨ (0 < p ∧ ∃ q, r = nI q ∧ wTour Pp (fun k => k < p) q ∧ q < 1000000)) ∧ u 30 0 = nI 0 ∧ u 30 68 = nI 0 ∧ ∀ a b, ¬ (a = 72 ∨ (a = 30 ∧ (b = 0 ∨ b = 68))) → u a b = fi a b) (fun (u : zFi) (t : State) => zH D A τ u fr ol t t.heap) A) 0 0 A := by
  refine Met.ofW (cc := cX12_walk) (maxL := 8) (ret := (some .int)) (by decide) rfl ?_
  intro p9 e9 s m args below meth c9 s₁ B hml hv
  obtain ⟨rfl, hz, hH, hA⟩ := hv
  have hx := B.exec
  have hb := B.bytes
  have hr := B.returns
  have hts := atoms_spec (ws := wsX12_walk) B.pre
  have hown : s.vm.findClass RX12 = some m.cls := findClass_of_methodNamed B.named
  have hlocks := B.notSynchronized
  have hS : va_S A s.heap s.heap [] := va_S.rf
  have hl := lv_entry ([.ref (τ.1 30)]) (n := 8) (Nat.le_of_ble_eq_true rfl)
  rw [lg_entry_eq]
  generalize (lg_sl ([.ref (τ.1 30)]) ++ List.replicate (8 - (lg_sl ([.ref (τ.1 30)])).length) Slot.unset).toArray = ls at hl ⊢
  have hl : lv_has ls 8 [(0, .ref (τ.1 30))] := hl
  have hPP : ∀ k, k < p → (Pp k).1 ≤ 7 ∧ (Pp k).2 ≤ 21 := fun k h => by have h9 := (hQp k h).2; omega
  have hQx : ∀ f9 : zFi, (∀ a b, ¬ (a = 72 ∨ (a = 30 ∧ (b = 0 ∨ b = 68))) → f9 a b = fi a b) → ∀ j, j < p → (∃ t, t < n ∧ f9 71 j = nI t ∧ f9 33 t = nI (Pp j).1 ∧ f9 34 t = nI (Pp j).2) ∧ (Pp j).1 ≤ 7 ∧ 1 ≤ (Pp j).2 ∧ (Pp j).2 ≤ 20 := fun f9 h9 j hj => by obtain ⟨⟨t, a1, a2, a3, a4⟩, a5⟩ := hQp j hj; exact ⟨⟨t, a1, by rw [h9 _ _ (by omega)]; exact a2, by rw [h9 _ _ (by omega)]; exact a3, by rw [h9 _ _ (by omega)]; exact a4⟩, a5⟩
  have hw0 := hts (.fieldLink RX12 165 "PostHouseModel" "thrown" "I") (by decide +kernel)
  have hiX12 : ∀ w ∈ u_ws RX12 TX12 71, w ∈ wsX12_walk := fun _ h => List.mem_cons_of_mem _ (List.mem_append_right _ h)
  have hw2 := hts (.fieldLink RX12 351 "PostHouseModel" "picks" "I") (by decide +kernel)
  have hw3 := hts (.fieldLink RX12 162 "PostHouseModel" "way" "[I") (by decide +kernel)
  refine lv_aload_n hx hb dX12_walk_0 rfl (lv_at hl 0 rfl) ?_
  refine lv_iconst (v := nI 0) hx hb dX12_walk_1 (by decide) ?_
  refine zPutI (D := D) (ci := 12) (ty := .int) (C := RX12) (T := TX12) (N := 71) hx hb hts hiX12 tyX12 tyX12_ok nmX12 hown hH hS (zk_30 hF) rfl 0 (by decide) rfl hw0 (fun _ h9 => h9) rfl (by decide +kernel) rfl rfl dX12_walk_2 (fun H locs hH hS => ?_)
  obtain ⟨f101, ef101⟩ : ∃ f9 : zFi, f9 = zu fi 30 0 (nI 0) := ⟨_, rfl⟩
  rw [← ef101] at hH
  have q102 : f101 30 68 = nI p := by rw [ef101, zu_n (fun h9 => absurd h9.2 (by decide))]; exact hpk
  have q103 : f101 30 0 = nI 0 := by rw [ef101]; exact zu_s
  refine lv_aload_n hx hb dX12_walk_5 rfl (lv_at hl 0 rfl) ?_
  refine zGetI (D := D) (ci := 12) (C := RX12) (T := TX12) (N := 71) hx hb hts hiX12 hown hH (zk_30 hF) rfl 68 (by decide) rfl hw2 (fun _ h9 => h9) dX12_walk_6 q102 ?_
  refine lv_istore_n (lv' := [(1, .int (nI p)), (0, .ref (τ.1 30))]) hx hb dX12_walk_9 rfl hl (by decide) rfl (fun ls hl => ?_)
  refine lv_aload_n hx hb dX12_walk_10 rfl (lv_at hl 1 rfl) ?_
  refine lv_iconst (v := nI 0) hx hb dX12_walk_11 (by decide) ?_
  refine zPutI (D := D) (ci := 12) (ty := .int) (C := RX12) (T := TX12) (N := 71) hx hb hts hiX12 tyX12 tyX12_ok nmX12 hown hH hS (zk_30 hF) rfl 68 (by decide) rfl hw2 (fun _ h9 => h9) rfl (by decide +kernel) rfl rfl dX12_walk_12 (fun H locs hH hS => ?_)
  obtain ⟨f104, ef104⟩ : ∃ f9 : zFi, f9 = zu f101 30 68 (nI 0) := ⟨_, rfl⟩
  rw [← ef104] at hH
  have q105 : f104 30 0 = nI 0 := by rw [ef104, zu_n (fun h9 => absurd h9.2 (by decide))]; exact q103
  have q106 : f104 30 68 = nI 0 := by rw [ef104]; exact zu_s
  refine lv_iload_n hx hb dX12_walk_15 rfl (lv_at hl 0 rfl) ?_
  refine lv_if_ne (tgt := 21) hx hb dX12_walk_16 (by decide) (fun c107 => ?_) (fun c107 => ?_)
  · have zc107 := c107
    replace zc107 := zc_neq (nI_toInt (by omega)) ((by decide : (0 : Int32).toInt = 0)) zc107
    obtain ⟨P2, hP2⟩ : ∃ P2 : Nat, P2 = 2 ^ p := ⟨_, rfl⟩
    have hP2s : ((1 : Int32) <<< (nI p &&& 31)) = nI P2 := by rw [hP2]; exact zShl1 ⟨p, by omega⟩
    have hP2b : P2 ≤ 1024 := by rw [hP2]; exact Nat.le_trans (Nat.pow_le_pow_right (by omega) hp10) (by decide)
    have hP21 : 1 ≤ P2 := by rw [hP2]; exact Nat.one_le_two_pow
    have hfW : ∀ a b, ¬ (a = 72 ∨ (a = 30 ∧ (b = 0 ∨ b = 68))) → f104 a b = fi a b := fun a b h => by rw [ef104, zu_n (by omega), ef101, zu_n (by omega)]
    have q68 := q106
    have hp0 : 0 < p := by omega
    refine lv_iconst (v := nI 1) hx hb dX12_walk_21 (by decide) ?_
    refine lv_istore_n (lv' := [(2, .int (nI 1)), (1, .int (nI p)), (0, .ref (τ.1 30))]) hx hb dX12_walk_22 rfl hl (by decide) rfl (fun ls hl => ?_)
    refine zLp (σ := Nat × zFi) (fun x9 k9 H locs ls => (fun (sN : Nat) (f : zFi) => k9 = P2 - sN ∧ (1 ≤ sN ∧ sN ≤ P2 ∧ (f 30 0 = nI 0 ∧ f 30 68 = nI 0) ∧ wTab2 (f 72) Pp p sN 0 ∧ ∀ a b, ¬ (a = 72 ∨ (a = 30 ∧ (b = 0 ∨ b = 68))) → f a b = fi a b) ∧ zH D A τ f fr ol s H ∧ va_S A s.heap H locs ∧ lv_has ls 8 [(0, .ref (τ.1 30)), (1, .int (nI p)), (2, .int (nI sN))]) x9.1 x9.2) (1, f104) (P2 - 1) (show P2 - 1 = P2 - 1 ∧ (1 ≤ 1 ∧ 1 ≤ P2 ∧ (f104 30 0 = nI 0 ∧ f104 30 68 = nI 0) ∧ wTab2 (f104 72) Pp p 1 0 ∧ ∀ a b, ¬ (a = 72 ∨ (a = 30 ∧ (b = 0 ∨ b = 68))) → f104 a b = fi a b) ∧ zH D A τ f104 fr ol s _ ∧ va_S A s.heap _ _ ∧ lv_has _ 8 [(0, .ref (τ.1 30)), (1, .int (nI p)), (2, .int (nI 1))] from ⟨rfl, ⟨Nat.le_refl _, hP21, ⟨q105, q68⟩, wTab2.st0, hfW⟩, hH, hS, lv_sub hl [2, 1, 0] rfl⟩) (fun k9 ih x9 H locs ls hv9 => ?_)
    obtain ⟨sN, f⟩ := x9
    have hv9 : k9 = P2 - sN ∧ (1 ≤ sN ∧ sN ≤ P2 ∧ (f 30 0 = nI 0 ∧ f 30 68 = nI 0) ∧ wTab2 (f 72) Pp p sN 0 ∧ ∀ a b, ¬ (a = 72 ∨ (a = 30 ∧ (b = 0 ∨ b = 68))) → f a b = fi a b) ∧ zH D A τ f fr ol s H ∧ va_S A s.heap H locs ∧ lv_has ls 8 [(0, .ref (τ.1 30)), (1, .int (nI p)), (2, .int (nI sN))] := hv9
    obtain ⟨hkih108, hv9, hH, hS, hl⟩ := hv9
    obtain ⟨h1, h2, p68, hTa, hfr⟩ := hv9
    have ih108 := ih
    clear ih
    refine lv_iload_n hx hb dX12_walk_23 rfl (lv_at hl 2 rfl) ?_
    refine lv_iconst (v := nI 1) hx hb dX12_walk_24 (by decide) ?_
    refine lv_iload_n hx hb dX12_walk_25 rfl (lv_at hl 1 rfl) ?_
    refine lv_ishl hx hb dX12_walk_26 ?_
    refine lv_topi (fun v109 ev109 => ?_)
    obtain rfl : v109 = nI P2 := ev109.trans hP2s
    refine lv_icmp_ge (tgt := 165) hx hb dX12_walk_27 (by decide) (fun c110 => ?_) (fun c110 => ?_)
    · have zc110 := c110
      replace zc110 := zc_le (nI_toInt (by omega)) (nI_toInt (by omega)) zc110
      refine lv_iconst (v := (-1)) hx hb dX12_walk_165 (by decide) ?_
      refine lv_istore_n (lv' := [(2, .int ((-1))), (0, .ref (τ.1 30)), (1, .int (nI p))]) hx hb dX12_walk_166 rfl hl (by decide) rfl (fun ls hl => ?_)
      refine lv_iconst (v := nI 0) hx hb dX12_walk_167 (by decide) ?_
      refine lv_istore_n (lv' := [(3, .int (nI 0)), (2, .int ((-1))), (0, .ref (τ.1 30)), (1, .int (nI p))]) hx hb dX12_walk_168 rfl hl (by decide) rfl (fun ls hl => ?_)
      refine zLp (σ := Nat × Int32) (fun x9 k9 H locs ls => (fun (lb : Nat) (y2 : Int32) => k9 = p - lb ∧ (lb ≤ p ∧ wMl (fun _ => True) (fun k => wN (f 72 (10 * (P2 - 1) + k)) + wD (0, 0) (Pp k)) lb y2) ∧ zH D A τ f fr ol s H ∧ va_S A s.heap H locs ∧ lv_has ls 8 [(0, .ref (τ.1 30)), (1, .int (nI p)), (2, .int y2), (3, .int (nI lb))]) x9.1 x9.2) (0, (-1)) (p - 0) (show p - 0 = p - 0 ∧ (0 ≤ p ∧ wMl (fun _ => True) (fun k => wN (f 72 (10 * (P2 - 1) + k)) + wD (0, 0) (Pp k)) 0 ((-1))) ∧ zH D A τ f fr ol s _ ∧ va_S A s.heap _ _ ∧ lv_has _ 8 [(0, .ref (τ.1 30)), (1, .int (nI p)), (2, .int ((-1))), (3, .int (nI 0))] from ⟨rfl, ⟨Nat.zero_le _, wMl.st0⟩, hH, hS, lv_sub hl [2, 3, 1, 0] rfl⟩) (fun k9 ih x9 H locs ls hv9 => ?_)
      obtain ⟨lb, y2⟩ := x9
      have hv9 : k9 = p - lb ∧ (lb ≤ p ∧ wMl (fun _ => True) (fun k => wN (f 72 (10 * (P2 - 1) + k)) + wD (0, 0) (Pp k)) lb y2) ∧ zH D A τ f fr ol s H ∧ va_S A s.heap H locs ∧ lv_has ls 8 [(0, .ref (τ.1 30)), (1, .int (nI p)), (2, .int y2), (3, .int (nI lb))] := hv9
      obtain ⟨hkih111, hv9, hH, hS, hl⟩ := hv9
      obtain ⟨h6, hm⟩ := hv9
      have ih111 := ih
      clear ih
      refine lv_iload_n hx hb dX12_walk_169 rfl (lv_at hl 3 rfl) ?_
      refine lv_iload_n hx hb dX12_walk_170 rfl (lv_at hl 1 rfl) ?_
      refine lv_icmp_ge (tgt := 217) hx hb dX12_walk_171 (by decide) (fun c112 => ?_) (fun c112 => ?_)
      · have zc112 := c112
        replace zc112 := zc_le (nI_toInt (by omega)) (nI_toInt (by omega)) zc112
        refine lv_iload_n hx hb dX12_walk_217 rfl (lv_at hl 2 rfl) ?_
        refine W.widen (k := 0) (n := 0) (by decide) (by decide) ?_
        exact W.iret (v := y2) hx hb hr (fun t9 ht9 hW9 => ⟨⟨y2, f, rfl, ⟨Or.inr ⟨hp0, by rw [show lb = p by omega] at hm; rw [show sN = P2 by omega] at hTa; exact wFin hp10 hp0 hP2 hPP hTa hm⟩, p68.1, p68.2, hfr⟩, zEnd1 hH ht9 hW9⟩, hS.F ht9⟩) hS.2.2 dX12_walk_218
      · have zc112 := c112
        replace zc112 := zc_nle (nI_toInt (by omega)) (nI_toInt (by omega)) zc112
        have hba : ∀ k, k < p → wBit (P2 - 1) k := fun k h9 => by rw [hP2]; exact wBit_all hp10 h9
        have h1p : 1 ≤ P2 - 1 := by have h9 := wBit_lo (by omega) (hba 0 (by omega)); have h8 : 0 < 2 ^ 0 := (by decide); omega
        have hh : ∀ k, k ≤ lb → (fun _ : Nat => True) k → (fun k => wN (f 72 (10 * (P2 - 1) + k)) + wD (0, 0) (Pp k)) k < 2147483648 := fun k q1 q2 => by obtain ⟨v, v1, v2, -⟩ := hTa (P2 - 1) k h1p (Or.inl (by omega)) (by omega) (hba k (by omega)); have d := wD63 (a := (0, 0)) (b := Pp k) (by simp) (hPP k (by omega)).1 (by simp) (hPP k (by omega)).2; show wN (f 72 (10 * (P2 - 1) + k)) + wD (0, 0) (Pp k) < _; rw [v1, wN_n (by omega)]; omega
        obtain ⟨v9, g9, b9, -⟩ := hTa (P2 - 1) lb h1p (Or.inl (by omega)) (by omega) (hba lb (by omega))
        have d9 := wD63 (a := (0, 0)) (b := Pp lb) (by simp) (hPP lb (by omega)).1 (by simp) (hPP lb (by omega)).2
        have eh : v9 + wD (0, 0) (Pp lb) = wN (f 72 (10 * (P2 - 1) + lb)) + wD (0, 0) (Pp lb) := by rw [g9, wN_n (by omega)]
        refine lv_aload_n hx hb dX12_walk_174 rfl (lv_at hl 0 rfl) ?_
        refine zGetR (D := D) (ci := 12) (C := RX12) (T := TX12) (N := 71) hx hb hts hiX12 hown hH (zk_30 hF) rfl 70 (by decide) rfl hw3 (fun _ h9 => h9) dX12_walk_175 (zr_30_70 hF) ?_
        refine lv_bipush (v := nI 10) hx hb dX12_walk_178 (by decide) ?_
        refine lv_iconst (v := nI 1) hx hb dX12_walk_180 (by decide) ?_
        refine lv_iload_n hx hb dX12_walk_181 rfl (lv_at hl 1 rfl) ?_
        refine lv_ishl hx hb dX12_walk_182 ?_
        refine lv_topi (fun v113 ev113 => ?_)
        obtain rfl : v113 = nI P2 := ev113.trans hP2s
        refine lv_iconst (v := nI 1) hx hb dX12_walk_183 (by decide) ?_
        refine lv_isub hx hb dX12_walk_184 ?_
        refine lv_topi (fun v114 ev114 => ?_)
        obtain rfl : v114 = nI (P2 - 1) := ev114.trans (pk_sub (by omega))
        refine lv_imul hx hb dX12_walk_185 ?_
        refine lv_topi (fun v115 ev115 => ?_)
        obtain rfl : v115 = nI (10 * (P2 - 1)) := ev115.trans (pk_mul _ _)
        refine lv_iload_n hx hb dX12_walk_186 rfl (lv_at hl 3 rfl) ?_
        refine lv_iadd hx hb dX12_walk_187 ?_
        refine lv_topi (fun v116 ev116 => ?_)
        obtain rfl : v116 = nI (10 * (P2 - 1) + lb) := ev116.trans (nI_add _ _)
        refine zIaldN (D := D) hx hb hH (zk_72 hF) (zn_72 hF) (by omega) (by omega) g9 dX12_walk_188 ?_
        refine lv_aload_n hx hb dX12_walk_189 rfl (lv_at hl 0 rfl) ?_
        refine lv_iload_n hx hb dX12_walk_190 rfl (lv_at hl 3 rfl) ?_
        refine va_calli (va_runV (As := [.int (nI lb)]) (rest := [.int (nI v9)]) ⟨hx, hb, hml, hown, hts⟩ (m_homeN l hl0 D A sad τ f fr ol hF n hn30 p hp10 Pp (hQx f hfr) lb (by omega)) (cwV 1 hts gX12_walk_X12_home rfl rfl rfl (by decide +kernel) ⟨Nat.le_of_ble_eq_true rfl, Nat.le_of_ble_eq_true rfl⟩) ⟨zQc_bl, zRecv hH (zk_30 hF) rfl, zQc_at hz hS hA hH⟩ rfl rfl hl.1 rfl (lv_room (Nat.le_of_ble_eq_true rfl)) dX12_walk_191 ⟨Nat.le_of_ble_eq_true rfl, Nat.le_of_ble_eq_true rfl⟩) hS (fun q _ h => h) (fun q h => h) (fun r117 u9 t9 H1 locs ht9 hvm9 hw hB hz1 hk1 hS => ?_)
        have hH := zMv ht9 hvm9 hB
        generalize H1 = H at hH hS ⊢
        subst hw
        refine lv_iadd hx hb dX12_walk_194 ?_
        refine lv_topi (fun v118 ev118 => ?_)
        obtain rfl : v118 = nI (v9 + wD (0, 0) (Pp lb)) := ev118.trans (nI_add _ _)
        refine lv_istore (lv' := [(4, .int (nI (v9 + wD (0, 0) (Pp lb)))), (0, .ref (τ.1 30)), (1, .int (nI p)), (2, .int y2), (3, .int (nI lb))]) hx hb dX12_walk_195 hl (by decide) rfl (fun ls hl => ?_)
        refine lv_iload_n hx hb dX12_walk_197 rfl (lv_at hl 3 rfl) ?_
        refine lv_iconst (v := (-1)) hx hb dX12_walk_198 (by decide) ?_
        refine lv_icmp_eq (tgt := 208) hx hb dX12_walk_199 (by decide) (fun c119 => ?_) (fun c119 => ?_)
        · have zc119 := c119
          replace zc119 := zc_eq (rfl) ((by decide : ((-1) : Int32).toInt = (-1))) zc119
          refine lv_iload hx hb dX12_walk_208 (lv_at hl 0 rfl) ?_
          refine lv_istore_n (lv' := [(2, .int (nI (v9 + wD (0, 0) (Pp lb)))), (4, .int (nI (v9 + wD (0, 0) (Pp lb)))), (0, .ref (τ.1 30)), (1, .int (nI p)), (3, .int (nI lb))]) hx hb dX12_walk_210 rfl hl (by decide) rfl (fun ls hl => ?_)
          refine lv_iinc (v := nI (lb + 1)) (lv' := [(3, .int (nI (lb + 1))), (2, .int (nI (v9 + wD (0, 0) (Pp lb)))), (4, .int (nI (v9 + wD (0, 0) (Pp lb)))), (0, .ref (τ.1 30)), (1, .int (nI p))]) hx hb dX12_walk_211 hl (k := 4) rfl (by rw [show (Int32.ofInt 1 : Int32) = nI 1 from by decide, nI_add]) (by decide) rfl (fun ls hl => ?_)
          refine lv_goto (tgt := 169) hx hb dX12_walk_214 (by decide) ?_
          exact ih111 (p - (lb + 1)) (by omega) (lb + 1, nI (v9 + wD (0, 0) (Pp lb))) _ _ _ (show p - (lb + 1) = p - (lb + 1) ∧ ((lb + 1) ≤ p ∧ wMl (fun _ => True) (fun k => wN (f 72 (10 * (P2 - 1) + k)) + wD (0, 0) (Pp k)) (lb + 1) (nI (v9 + wD (0, 0) (Pp lb)))) ∧ zH D A τ f fr ol s _ ∧ va_S A s.heap _ _ ∧ lv_has _ 8 [(0, .ref (τ.1 30)), (1, .int (nI p)), (2, .int (nI (v9 + wD (0, 0) (Pp lb)))), (3, .int (nI (lb + 1)))] from ⟨rfl, ⟨by omega, by rw [c119] at hm; rw [eh]; exact hm.first trivial (fun k q1 q2 => hh k (by omega) q2)⟩, hH, hS, lv_sub hl [3, 4, 1, 0] rfl⟩)
        · have zc119 := c119
          replace zc119 := zc_neq (rfl) ((by decide : ((-1) : Int32).toInt = (-1))) zc119
          refine lv_iload hx hb dX12_walk_202 (lv_at hl 0 rfl) ?_
          refine lv_iload_n hx hb dX12_walk_204 rfl (lv_at hl 3 rfl) ?_
          refine lv_icmp_ge (tgt := 211) hx hb dX12_walk_205 (by decide) (fun c120 => ?_) (fun c120 => ?_)
          · have zc120 := c120
            replace zc120 := zc_le (rfl) (nI_toInt (by omega)) zc120
            refine lv_iinc (v := nI (lb + 1)) (lv' := [(3, .int (nI (lb + 1))), (4, .int (nI (v9 + wD (0, 0) (Pp lb)))), (0, .ref (τ.1 30)), (1, .int (nI p)), (2, .int y2)]) hx hb dX12_walk_211 hl (k := 4) rfl (by rw [show (Int32.ofInt 1 : Int32) = nI 1 from by decide, nI_add]) (by decide) rfl (fun ls hl => ?_)
            refine lv_goto (tgt := 169) hx hb dX12_walk_214 (by decide) ?_
            exact ih111 (p - (lb + 1)) (by omega) (lb + 1, y2) _ _ _ (show p - (lb + 1) = p - (lb + 1) ∧ ((lb + 1) ≤ p ∧ wMl (fun _ => True) (fun k => wN (f 72 (10 * (P2 - 1) + k)) + wD (0, 0) (Pp k)) (lb + 1) y2) ∧ zH D A τ f fr ol s _ ∧ va_S A s.heap _ _ ∧ lv_has _ 8 [(0, .ref (τ.1 30)), (1, .int (nI p)), (2, .int y2), (3, .int (nI (lb + 1)))] from ⟨rfl, ⟨by omega, hm.keep c119 hh (by show _ ≤ ((wN (f 72 (10 * (P2 - 1) + lb)) + wD (0, 0) (Pp lb) : Nat) : Int); rw [← eh]; omega)⟩, hH, hS, lv_sub hl [2, 3, 4, 0] rfl⟩)
          · have zc120 := c120
            replace zc120 := zc_nle (rfl) (nI_toInt (by omega)) zc120
            refine lv_iload hx hb dX12_walk_208 (lv_at hl 0 rfl) ?_
            refine lv_istore_n (lv' := [(2, .int (nI (v9 + wD (0, 0) (Pp lb)))), (4, .int (nI (v9 + wD (0, 0) (Pp lb)))), (0, .ref (τ.1 30)), (1, .int (nI p)), (3, .int (nI lb))]) hx hb dX12_walk_210 rfl hl (by decide) rfl (fun ls hl => ?_)
            refine lv_iinc (v := nI (lb + 1)) (lv' := [(3, .int (nI (lb + 1))), (2, .int (nI (v9 + wD (0, 0) (Pp lb)))), (4, .int (nI (v9 + wD (0, 0) (Pp lb)))), (0, .ref (τ.1 30)), (1, .int (nI p))]) hx hb dX12_walk_211 hl (k := 4) rfl (by rw [show (Int32.ofInt 1 : Int32) = nI 1 from by decide, nI_add]) (by decide) rfl (fun ls hl => ?_)
            refine lv_goto (tgt := 169) hx hb dX12_walk_214 (by decide) ?_
            exact ih111 (p - (lb + 1)) (by omega) (lb + 1, nI (v9 + wD (0, 0) (Pp lb))) _ _ _ (show p - (lb + 1) = p - (lb + 1) ∧ ((lb + 1) ≤ p ∧ wMl (fun _ => True) (fun k => wN (f 72 (10 * (P2 - 1) + k)) + wD (0, 0) (Pp k)) (lb + 1) (nI (v9 + wD (0, 0) (Pp lb)))) ∧ zH D A τ f fr ol s _ ∧ va_S A s.heap _ _ ∧ lv_has _ 8 [(0, .ref (τ.1 30)), (1, .int (nI p)), (2, .int (nI (v9 + wD (0, 0) (Pp lb)))), (3, .int (nI (lb + 1)))] from ⟨rfl, ⟨by omega, by rw [eh]; exact hm.less trivial hh (by show ((wN (f 72 (10 * (P2 - 1) + lb)) + wD (0, 0) (Pp lb) : Nat) : Int) < _; rw [← eh]; omega)⟩, hH, hS, lv_sub hl [3, 4, 1, 0] rfl⟩)
    · have zc110 := c110
      replace zc110 := zc_nle (nI_toInt (by omega)) (nI_toInt (by omega)) zc110
      refine lv_iconst (v := nI 0) hx hb dX12_walk_30 (by decide) ?_
      refine lv_istore_n (lv' := [(3, .int (nI 0)), (0, .ref (τ.1 30)), (1, .int (nI p)), (2, .int (nI sN))]) hx hb dX12_walk_31 rfl hl (by decide) rfl (fun ls hl => ?_)
      refine zLp (σ := Nat × zFi) (fun x9 k9 H locs ls => (fun (la : Nat) (f2 : zFi) => k9 = p - la ∧ (la ≤ p ∧ (f2 30 0 = nI 0 ∧ f2 30 68 = nI 0) ∧ wTab2 (f2 72) Pp p sN la ∧ ∀ a b, ¬ (a = 72 ∨ (a = 30 ∧ (b = 0 ∨ b = 68))) → f2 a b = fi a b) ∧ zH D A τ f2 fr ol s H ∧ va_S A s.heap H locs ∧ lv_has ls 8 [(0, .ref (τ.1 30)), (1, .int (nI p)), (2, .int (nI sN)), (3, .int (nI la))]) x9.1 x9.2) (0, f) (p - 0) (show p - 0 = p - 0 ∧ (0 ≤ p ∧ (f 30 0 = nI 0 ∧ f 30 68 = nI 0) ∧ wTab2 (f 72) Pp p sN 0 ∧ ∀ a b, ¬ (a = 72 ∨ (a = 30 ∧ (b = 0 ∨ b = 68))) → f a b = fi a b) ∧ zH D A τ f fr ol s _ ∧ va_S A s.heap _ _ ∧ lv_has _ 8 [(0, .ref (τ.1 30)), (1, .int (nI p)), (2, .int (nI sN)), (3, .int (nI 0))] from ⟨rfl, ⟨Nat.zero_le _, p68, hTa, hfr⟩, hH, hS, lv_sub hl [1, 2, 3, 0] rfl⟩) (fun k9 ih x9 H locs ls hv9 => ?_)
      obtain ⟨la, f2⟩ := x9
      have hv9 : k9 = p - la ∧ (la ≤ p ∧ (f2 30 0 = nI 0 ∧ f2 30 68 = nI 0) ∧ wTab2 (f2 72) Pp p sN la ∧ ∀ a b, ¬ (a = 72 ∨ (a = 30 ∧ (b = 0 ∨ b = 68))) → f2 a b = fi a b) ∧ zH D A τ f2 fr ol s H ∧ va_S A s.heap H locs ∧ lv_has ls 8 [(0, .ref (τ.1 30)), (1, .int (nI p)), (2, .int (nI sN)), (3, .int (nI la))] := hv9
      obtain ⟨hkih121, hv9, hH, hS, hl⟩ := hv9
      obtain ⟨h3, p682, hTb, hfr2⟩ := hv9
      have ih121 := ih
      clear ih
      refine lv_iload_n hx hb dX12_walk_32 rfl (lv_at hl 3 rfl) ?_
      refine lv_iload_n hx hb dX12_walk_33 rfl (lv_at hl 1 rfl) ?_
      refine lv_icmp_ge (tgt := 159) hx hb dX12_walk_34 (by decide) (fun c122 => ?_) (fun c122 => ?_)
      · have zc122 := c122
        replace zc122 := zc_le (nI_toInt (by omega)) (nI_toInt (by omega)) zc122
        refine lv_iinc (v := nI (sN + 1)) (lv' := [(2, .int (nI (sN + 1))), (0, .ref (τ.1 30)), (1, .int (nI p)), (3, .int (nI la))]) hx hb dX12_walk_159 hl (k := 2) rfl (by rw [show (Int32.ofInt 1 : Int32) = nI 1 from by decide, nI_add]) (by decide) rfl (fun ls hl => ?_)
        refine lv_goto (tgt := 23) hx hb dX12_walk_162 (by decide) ?_
        exact ih108 (P2 - (sN + 1)) (by omega) (sN + 1, f2) _ _ _ (show P2 - (sN + 1) = P2 - (sN + 1) ∧ (1 ≤ (sN + 1) ∧ (sN + 1) ≤ P2 ∧ (f2 30 0 = nI 0 ∧ f2 30 68 = nI 0) ∧ wTab2 (f2 72) Pp p (sN + 1) 0 ∧ ∀ a b, ¬ (a = 72 ∨ (a = 30 ∧ (b = 0 ∨ b = 68))) → f2 a b = fi a b) ∧ zH D A τ f2 fr ol s _ ∧ va_S A s.heap _ _ ∧ lv_has _ 8 [(0, .ref (τ.1 30)), (1, .int (nI p)), (2, .int (nI (sN + 1)))] from ⟨rfl, ⟨by omega, by omega, p682, by rw [show la = p by omega] at hTb; exact hTb.row, hfr2⟩, hH, hS, lv_sub hl [1, 2, 0] rfl⟩)
      · have zc122 := c122
        replace zc122 := zc_nle (nI_toInt (by omega)) (nI_toInt (by omega)) zc122
        refine lv_iconst (v := (-1)) hx hb dX12_walk_37 (by decide) ?_
        refine lv_istore (lv' := [(4, .int ((-1))), (0, .ref (τ.1 30)), (1, .int (nI p)), (2, .int (nI sN)), (3, .int (nI la))]) hx hb dX12_walk_38 hl (by decide) rfl (fun ls hl => ?_)
        refine lv_iload_n hx hb dX12_walk_40 rfl (lv_at hl 3 rfl) ?_
        refine lv_iconst (v := nI 1) hx hb dX12_walk_41 (by decide) ?_
        refine lv_iload_n hx hb dX12_walk_42 rfl (lv_at hl 4 rfl) ?_
        refine lv_ishl hx hb dX12_walk_43 ?_
        refine lv_topi (fun v123 ev123 => ?_)
        refine lv_iconst (v := (-1)) hx hb dX12_walk_44 (by decide) ?_
        refine lv_ixor hx hb dX12_walk_45 ?_
        refine lv_topi (fun v124 ev124 => ?_)
        obtain ⟨rs, hrs, ers⟩ : ∃ rs : Nat, (rs = if sN / 2 ^ la % 2 = 1 then sN - 2 ^ la else sN) ∧ nI sN &&& v124 = nI rs := ⟨_, rfl, by rw [ev124, ev123]; exact zClr ⟨la, by omega⟩ ⟨sN, by omega⟩⟩
        have hrsb : rs ≤ sN := by rw [hrs]; split; (exact Nat.sub_le _ _); exact Nat.le_refl _
        refine lv_iand hx hb dX12_walk_46 ?_
        refine lv_topi (fun v125 ev125 => ?_)
        obtain rfl : v125 = nI rs := ev125.trans ers
        refine lv_istore (lv' := [(5, .int (nI rs)), (4, .int ((-1))), (0, .ref (τ.1 30)), (1, .int (nI p)), (2, .int (nI sN)), (3, .int (nI la))]) hx hb dX12_walk_47 hl (by decide) rfl (fun ls hl => ?_)
        obtain ⟨d1, hd1⟩ : ∃ d9 : Nat, d9 = sN / 2 ^ la := ⟨_, rfl⟩
        have hd1s : (nI sN >>> (nI la &&& 31)) = nI d1 := by rw [hd1]; exact zShr ⟨la, by omega⟩ ⟨sN, by omega⟩
        have hd1b : d1 ≤ sN := by rw [hd1]; exact Nat.div_le_self _ _
        obtain ⟨b1, hb1⟩ : ∃ b9 : Nat, b9 = d1 % 2 := ⟨_, rfl⟩
        have hb1s : (nI d1 &&& 1) = nI b1 := by rw [hb1]; exact zAnd1 ⟨d1, by omega⟩
        refine lv_iload_n hx hb dX12_walk_49 rfl (lv_at hl 4 rfl) ?_
        refine lv_iload_n hx hb dX12_walk_50 rfl (lv_at hl 5 rfl) ?_
        refine lv_ishr hx hb dX12_walk_51 ?_
        refine lv_topi (fun v126 ev126 => ?_)
        obtain rfl : v126 = nI d1 := ev126.trans hd1s
        refine lv_iconst (v := nI 1) hx hb dX12_walk_52 (by decide) ?_
        refine lv_iand hx hb dX12_walk_53 ?_
        refine lv_topi (fun v127 ev127 => ?_)
        obtain rfl : v127 = nI b1 := ev127.trans hb1s
        refine lv_if_ne (tgt := 60) hx hb dX12_walk_54 (by decide) (fun c128 => ?_) (fun c128 => ?_)
        · have zc128 := c128
          replace zc128 := zc_neq (nI_toInt (by omega)) ((by decide : (0 : Int32).toInt = 0)) zc128
          have hbt : wBit sN la := by unfold wBit; rw [← hd1, ← hb1]; omega
          have hrs2 : rs = sN - 2 ^ la := by rw [hrs]; exact if_pos hbt
          have hlo := wBit_lo (by omega) hbt
          have h2p : 0 < 2 ^ la := Nat.pos_of_ne_zero (by simp)
          have hrsl : rs < sN := by omega
          refine lv_iload hx hb dX12_walk_60 (lv_at hl 0 rfl) ?_
          refine lv_if_ne (tgt := 72) hx hb dX12_walk_62 (by decide) (fun c129 => ?_) (fun c129 => ?_)
          · have zc129 := c129
            replace zc129 := zc_neq (nI_toInt (by omega)) ((by decide : (0 : Int32).toInt = 0)) zc129
            refine lv_iconst (v := nI 0) hx hb dX12_walk_72 (by decide) ?_
            refine lv_istore (lv' := [(6, .int (nI 0)), (5, .int (nI rs)), (4, .int ((-1))), (0, .ref (τ.1 30)), (1, .int (nI p)), (2, .int (nI sN)), (3, .int (nI la))]) hx hb dX12_walk_73 hl (by decide) rfl (fun ls hl => ?_)
            refine zLp (σ := Nat × Int32) (fun x9 k9 H locs ls => (fun (kk : Nat) (y4 : Int32) => k9 = p - kk ∧ (kk ≤ p ∧ ((rs = 0 ∧ y4 = nI (wD (0, 0) (Pp la))) ∨ (0 < rs ∧ wMl (fun k => wBit rs k) (fun k => wN (f2 72 (10 * rs + k)) + wD (Pp k) (Pp la)) kk y4))) ∧ zH D A τ f2 fr ol s H ∧ va_S A s.heap H locs ∧ lv_has ls 8 [(0, .ref (τ.1 30)), (1, .int (nI p)), (2, .int (nI sN)), (3, .int (nI la)), (4, .int y4), (5, .int (nI rs)), (6, .int (nI kk))]) x9.1 x9.2) (0, (-1)) (p - 0) (show p - 0 = p - 0 ∧ (0 ≤ p ∧ ((rs = 0 ∧ ((-1)) = nI (wD (0, 0) (Pp la))) ∨ (0 < rs ∧ wMl (fun k => wBit rs k) (fun k => wN (f2 72 (10 * rs + k)) + wD (Pp k) (Pp la)) 0 ((-1))))) ∧ zH D A τ f2 fr ol s _ ∧ va_S A s.heap _ _ ∧ lv_has _ 8 [(0, .ref (τ.1 30)), (1, .int (nI p)), (2, .int (nI sN)), (3, .int (nI la)), (4, .int ((-1))), (5, .int (nI rs)), (6, .int (nI 0))] from ⟨rfl, ⟨Nat.zero_le _, Or.inr ⟨by omega, wMl.st0⟩⟩, hH, hS, lv_sub hl [3, 4, 5, 6, 2, 1, 0] rfl⟩) (fun k9 ih x9 H locs ls hv9 => ?_)
            obtain ⟨kk, y4⟩ := x9
            have hv9 : k9 = p - kk ∧ (kk ≤ p ∧ ((rs = 0 ∧ y4 = nI (wD (0, 0) (Pp la))) ∨ (0 < rs ∧ wMl (fun k => wBit rs k) (fun k => wN (f2 72 (10 * rs + k)) + wD (Pp k) (Pp la)) kk y4))) ∧ zH D A τ f2 fr ol s H ∧ va_S A s.heap H locs ∧ lv_has ls 8 [(0, .ref (τ.1 30)), (1, .int (nI p)), (2, .int (nI sN)), (3, .int (nI la)), (4, .int y4), (5, .int (nI rs)), (6, .int (nI kk))] := hv9
            obtain ⟨hkih130, hv9, hH, hS, hl⟩ := hv9
            obtain ⟨h5, hm⟩ := hv9
            have ih130 := ih
            clear ih
            refine lv_iload hx hb dX12_walk_75 (lv_at hl 6 rfl) ?_
            refine lv_iload_n hx hb dX12_walk_77 rfl (lv_at hl 1 rfl) ?_
            refine lv_icmp_ge (tgt := 140) hx hb dX12_walk_78 (by decide) (fun c131 => ?_) (fun c131 => ?_)
            · have zc131 := c131
              replace zc131 := zc_le (nI_toInt (by omega)) (nI_toInt (by omega)) zc131
              refine lv_aload_n hx hb dX12_walk_140 rfl (lv_at hl 0 rfl) ?_
              refine zGetR (D := D) (ci := 12) (C := RX12) (T := TX12) (N := 71) hx hb hts hiX12 hown hH (zk_30 hF) rfl 70 (by decide) rfl hw3 (fun _ h9 => h9) dX12_walk_141 (zr_30_70 hF) ?_
              refine lv_bipush (v := nI 10) hx hb dX12_walk_144 (by decide) ?_
              refine lv_iload_n hx hb dX12_walk_146 rfl (lv_at hl 2 rfl) ?_
              refine lv_imul hx hb dX12_walk_147 ?_
              refine lv_topi (fun v132 ev132 => ?_)
              obtain rfl : v132 = nI (10 * sN) := ev132.trans (pk_mul _ _)
              refine lv_iload_n hx hb dX12_walk_148 rfl (lv_at hl 3 rfl) ?_
              refine lv_iadd hx hb dX12_walk_149 ?_
              refine lv_topi (fun v133 ev133 => ?_)
              obtain rfl : v133 = nI (10 * sN + la) := ev133.trans (nI_add _ _)
              refine lv_iload hx hb dX12_walk_150 (lv_at hl 4 rfl) ?_
              refine zIastN (D := D) hx hb hH hS (zk_72 hF) (zn_72 hF) (by omega) (by omega) dX12_walk_152 (fun H locs hH hS => ?_)
              obtain ⟨f134, ef134⟩ : ∃ f9 : zFi, f9 = zu f2 72 (10 * sN + la) y4 := ⟨_, rfl⟩
              rw [← ef134] at hH
              have q135 : f134 72 (10 * sN + la) = y4 := by rw [ef134]; exact zu_s
              refine lv_iinc (v := nI (la + 1)) (lv' := [(3, .int (nI (la + 1))), (0, .ref (τ.1 30)), (1, .int (nI p)), (2, .int (nI sN)), (4, .int y4), (5, .int (nI rs)), (6, .int (nI kk))]) hx hb dX12_walk_153 hl (k := 3) rfl (by rw [show (Int32.ofInt 1 : Int32) = nI 1 from by decide, nI_add]) (by decide) rfl (fun ls hl => ?_)
              refine lv_goto (tgt := 32) hx hb dX12_walk_156 (by decide) ?_
              have hkp : kk = p := by omega
              rw [hkp] at hm
              obtain ⟨v8, a8, b8, c8⟩ := wPut hp10 (by rw [← hP2]; omega) hPP (by omega) hbt hrs2 hTb hm
              exact ih121 (p - (la + 1)) (by omega) (la + 1, f134) _ _ _ (show p - (la + 1) = p - (la + 1) ∧ ((la + 1) ≤ p ∧ (f134 30 0 = nI 0 ∧ f134 30 68 = nI 0) ∧ wTab2 (f134 72) Pp p sN (la + 1) ∧ ∀ a b, ¬ (a = 72 ∨ (a = 30 ∧ (b = 0 ∨ b = 68))) → f134 a b = fi a b) ∧ zH D A τ f134 fr ol s _ ∧ va_S A s.heap _ _ ∧ lv_has _ 8 [(0, .ref (τ.1 30)), (1, .int (nI p)), (2, .int (nI sN)), (3, .int (nI (la + 1)))] from ⟨rfl, ⟨by omega, ⟨by rw [ef134, zu_n (by omega)]; exact p682.1, by rw [ef134, zu_n (by omega)]; exact p682.2⟩, hTb.put (v := v8) (by omega) hp10 (fun k9 h9 => by rw [ef134, zu_n (by omega)]) (by rw [ef134, zu_s]; exact a8) b8 c8, fun a b h => by rw [ef134, zu_n (by omega)]; exact hfr2 a b h⟩, hH, hS, lv_sub hl [1, 2, 3, 0] rfl⟩)
            · have zc131 := c131
              replace zc131 := zc_nle (nI_toInt (by omega)) (nI_toInt (by omega)) zc131
              obtain ⟨d2, hd2⟩ : ∃ d9 : Nat, d9 = rs / 2 ^ kk := ⟨_, rfl⟩
              have hd2s : (nI rs >>> (nI kk &&& 31)) = nI d2 := by rw [hd2]; exact zShr ⟨kk, by omega⟩ ⟨rs, by omega⟩
              have hd2b : d2 ≤ rs := by rw [hd2]; exact Nat.div_le_self _ _
              obtain ⟨b2, hb2⟩ : ∃ b9 : Nat, b9 = d2 % 2 := ⟨_, rfl⟩
              have hb2s : (nI d2 &&& 1) = nI b2 := by rw [hb2]; exact zAnd1 ⟨d2, by omega⟩
              refine lv_iload hx hb dX12_walk_81 (lv_at hl 5 rfl) ?_
              refine lv_iload hx hb dX12_walk_83 (lv_at hl 6 rfl) ?_
              refine lv_ishr hx hb dX12_walk_85 ?_
              refine lv_topi (fun v136 ev136 => ?_)
              obtain rfl : v136 = nI d2 := ev136.trans hd2s
              refine lv_iconst (v := nI 1) hx hb dX12_walk_86 (by decide) ?_
              refine lv_iand hx hb dX12_walk_87 ?_
              refine lv_topi (fun v137 ev137 => ?_)
              obtain rfl : v137 = nI b2 := ev137.trans hb2s
              refine lv_if_ne (tgt := 94) hx hb dX12_walk_88 (by decide) (fun c138 => ?_) (fun c138 => ?_)
              · have zc138 := c138
                replace zc138 := zc_neq (nI_toInt (by omega)) ((by decide : (0 : Int32).toInt = 0)) zc138
                have hbk : wBit rs kk := by unfold wBit; rw [← hd2, ← hb2]; omega
                have hrs0 : 0 < rs := by have h9 := wBit_lo (by omega) hbk; have h8 : 0 < 2 ^ kk := Nat.pos_of_ne_zero (by simp); omega
                have hml5 : wMl (fun k => wBit rs k) (fun k => wN (f2 72 (10 * rs + k)) + wD (Pp k) (Pp la)) kk y4 := by rcases hm with ⟨e0, -⟩ | ⟨-, e1⟩; (exfalso; omega); exact e1
                have hh : ∀ k, k ≤ kk → wBit rs k → (fun k => wN (f2 72 (10 * rs + k)) + wD (Pp k) (Pp la)) k < 2147483648 := fun k q1 q2 => by obtain ⟨v, v1, v2, -⟩ := hTb rs k (by omega) (Or.inl (by omega)) (by omega) q2; have d := wD63 (a := Pp k) (b := Pp la) (hPP k (by omega)).1 (hPP la (by omega)).1 (hPP k (by omega)).2 (hPP la (by omega)).2; show wN (f2 72 (10 * rs + k)) + wD (Pp k) (Pp la) < _; rw [v1, wN_n (by omega)]; omega
                obtain ⟨v9, g9, b9, -⟩ := hTb rs kk (by omega) (Or.inl (by omega)) (by omega) hbk
                have d9 := wD63 (a := Pp kk) (b := Pp la) (hPP kk (by omega)).1 (hPP la (by omega)).1 (hPP kk (by omega)).2 (hPP la (by omega)).2
                have eh : v9 + wD (Pp kk) (Pp la) = wN (f2 72 (10 * rs + kk)) + wD (Pp kk) (Pp la) := by rw [g9, wN_n (by omega)]
                refine lv_aload_n hx hb dX12_walk_94 rfl (lv_at hl 0 rfl) ?_
                refine zGetR (D := D) (ci := 12) (C := RX12) (T := TX12) (N := 71) hx hb hts hiX12 hown hH (zk_30 hF) rfl 70 (by decide) rfl hw3 (fun _ h9 => h9) dX12_walk_95 (zr_30_70 hF) ?_
                refine lv_bipush (v := nI 10) hx hb dX12_walk_98 (by decide) ?_
                refine lv_iload hx hb dX12_walk_100 (lv_at hl 5 rfl) ?_
                refine lv_imul hx hb dX12_walk_102 ?_
                refine lv_topi (fun v139 ev139 => ?_)
                obtain rfl : v139 = nI (10 * rs) := ev139.trans (pk_mul _ _)
                refine lv_iload hx hb dX12_walk_103 (lv_at hl 6 rfl) ?_
                refine lv_iadd hx hb dX12_walk_105 ?_
                refine lv_topi (fun v140 ev140 => ?_)
                obtain rfl : v140 = nI (10 * rs + kk) := ev140.trans (nI_add _ _)
                refine zIaldN (D := D) hx hb hH (zk_72 hF) (zn_72 hF) (by omega) (by omega) g9 dX12_walk_106 ?_
                refine lv_aload_n hx hb dX12_walk_107 rfl (lv_at hl 0 rfl) ?_
                refine lv_iload hx hb dX12_walk_108 (lv_at hl 6 rfl) ?_
                refine lv_iload_n hx hb dX12_walk_110 rfl (lv_at hl 3 rfl) ?_
                refine va_calli (va_runV (As := [.int (nI kk), .int (nI la)]) (rest := [.int (nI v9)]) ⟨hx, hb, hml, hown, hts⟩ (m_betweenN l hl0 D A sad τ f2 fr ol hF n hn30 p hp10 Pp (hQx f2 hfr2) kk la (by omega) (by omega)) (cwV 2 hts gX12_walk_X12_between rfl rfl rfl (by decide +kernel) ⟨Nat.le_of_ble_eq_true rfl, Nat.le_of_ble_eq_true rfl⟩) ⟨zQc_bl, zRecv hH (zk_30 hF) rfl, zQc_at hz hS hA hH⟩ rfl rfl hl.1 rfl (lv_room (Nat.le_of_ble_eq_true rfl)) dX12_walk_111 ⟨Nat.le_of_ble_eq_true rfl, Nat.le_of_ble_eq_true rfl⟩) hS (fun q _ h => h) (fun q h => h) (fun r141 u9 t9 H1 locs ht9 hvm9 hw hB hz1 hk1 hS => ?_)
                have hH := zMv ht9 hvm9 hB
                generalize H1 = H at hH hS ⊢
                subst hw
                refine lv_iadd hx hb dX12_walk_114 ?_
                refine lv_topi (fun v142 ev142 => ?_)
                obtain rfl : v142 = nI (v9 + wD (Pp kk) (Pp la)) := ev142.trans (nI_add _ _)
                refine lv_istore (lv' := [(7, .int (nI (v9 + wD (Pp kk) (Pp la)))), (0, .ref (τ.1 30)), (1, .int (nI p)), (2, .int (nI sN)), (3, .int (nI la)), (4, .int y4), (5, .int (nI rs)), (6, .int (nI kk))]) hx hb dX12_walk_115 hl (by decide) rfl (fun ls hl => ?_)
                refine lv_iload hx hb dX12_walk_117 (lv_at hl 5 rfl) ?_
                refine lv_iconst (v := (-1)) hx hb dX12_walk_119 (by decide) ?_
                refine lv_icmp_eq (tgt := 130) hx hb dX12_walk_120 (by decide) (fun c143 => ?_) (fun c143 => ?_)
                · have zc143 := c143
                  replace zc143 := zc_eq (rfl) ((by decide : ((-1) : Int32).toInt = (-1))) zc143
                  refine lv_iload hx hb dX12_walk_130 (lv_at hl 0 rfl) ?_
                  refine lv_istore (lv' := [(4, .int (nI (v9 + wD (Pp kk) (Pp la)))), (7, .int (nI (v9 + wD (Pp kk) (Pp la)))), (0, .ref (τ.1 30)), (1, .int (nI p)), (2, .int (nI sN)), (3, .int (nI la)), (5, .int (nI rs)), (6, .int (nI kk))]) hx hb dX12_walk_132 hl (by decide) rfl (fun ls hl => ?_)
                  refine lv_iinc (v := nI (kk + 1)) (lv' := [(6, .int (nI (kk + 1))), (4, .int (nI (v9 + wD (Pp kk) (Pp la)))), (7, .int (nI (v9 + wD (Pp kk) (Pp la)))), (0, .ref (τ.1 30)), (1, .int (nI p)), (2, .int (nI sN)), (3, .int (nI la)), (5, .int (nI rs))]) hx hb dX12_walk_134 hl (k := 7) rfl (by rw [show (Int32.ofInt 1 : Int32) = nI 1 from by decide, nI_add]) (by decide) rfl (fun ls hl => ?_)
                  refine lv_goto (tgt := 75) hx hb dX12_walk_137 (by decide) ?_
                  exact ih130 (p - (kk + 1)) (by omega) (kk + 1, nI (v9 + wD (Pp kk) (Pp la))) _ _ _ (show p - (kk + 1) = p - (kk + 1) ∧ ((kk + 1) ≤ p ∧ ((rs = 0 ∧ (nI (v9 + wD (Pp kk) (Pp la))) = nI (wD (0, 0) (Pp la))) ∨ (0 < rs ∧ wMl (fun k => wBit rs k) (fun k => wN (f2 72 (10 * rs + k)) + wD (Pp k) (Pp la)) (kk + 1) (nI (v9 + wD (Pp kk) (Pp la)))))) ∧ zH D A τ f2 fr ol s _ ∧ va_S A s.heap _ _ ∧ lv_has _ 8 [(0, .ref (τ.1 30)), (1, .int (nI p)), (2, .int (nI sN)), (3, .int (nI la)), (4, .int (nI (v9 + wD (Pp kk) (Pp la)))), (5, .int (nI rs)), (6, .int (nI (kk + 1)))] from ⟨rfl, ⟨by omega, Or.inr ⟨hrs0, by rw [c143] at hml5; rw [eh]; exact hml5.first hbk (fun k q1 q2 => hh k (by omega) q2)⟩⟩, hH, hS, lv_sub hl [3, 4, 5, 6, 1, 7, 0] rfl⟩)
                · have zc143 := c143
                  replace zc143 := zc_neq (rfl) ((by decide : ((-1) : Int32).toInt = (-1))) zc143
                  refine lv_iload hx hb dX12_walk_123 (lv_at hl 0 rfl) ?_
                  refine lv_iload hx hb dX12_walk_125 (lv_at hl 5 rfl) ?_
                  refine lv_icmp_ge (tgt := 134) hx hb dX12_walk_127 (by decide) (fun c144 => ?_) (fun c144 => ?_)
                  · have zc144 := c144
                    replace zc144 := zc_le (rfl) (nI_toInt (by omega)) zc144
                    refine lv_iinc (v := nI (kk + 1)) (lv' := [(6, .int (nI (kk + 1))), (7, .int (nI (v9 + wD (Pp kk) (Pp la)))), (0, .ref (τ.1 30)), (1, .int (nI p)), (2, .int (nI sN)), (3, .int (nI la)), (4, .int y4), (5, .int (nI rs))]) hx hb dX12_walk_134 hl (k := 7) rfl (by rw [show (Int32.ofInt 1 : Int32) = nI 1 from by decide, nI_add]) (by decide) rfl (fun ls hl => ?_)
                    refine lv_goto (tgt := 75) hx hb dX12_walk_137 (by decide) ?_
                    exact ih130 (p - (kk + 1)) (by omega) (kk + 1, y4) _ _ _ (show p - (kk + 1) = p - (kk + 1) ∧ ((kk + 1) ≤ p ∧ ((rs = 0 ∧ y4 = nI (wD (0, 0) (Pp la))) ∨ (0 < rs ∧ wMl (fun k => wBit rs k) (fun k => wN (f2 72 (10 * rs + k)) + wD (Pp k) (Pp la)) (kk + 1) y4))) ∧ zH D A τ f2 fr ol s _ ∧ va_S A s.heap _ _ ∧ lv_has _ 8 [(0, .ref (τ.1 30)), (1, .int (nI p)), (2, .int (nI sN)), (3, .int (nI la)), (4, .int y4), (5, .int (nI rs)), (6, .int (nI (kk + 1)))] from ⟨rfl, ⟨by omega, Or.inr ⟨hrs0, hml5.keep c143 hh (by show _ ≤ ((wN (f2 72 (10 * rs + kk)) + wD (Pp kk) (Pp la) : Nat) : Int); rw [← eh]; omega)⟩⟩, hH, hS, lv_sub hl [2, 3, 4, 5, 6, 7, 0] rfl⟩)
                  · have zc144 := c144
                    replace zc144 := zc_nle (rfl) (nI_toInt (by omega)) zc144
                    refine lv_iload hx hb dX12_walk_130 (lv_at hl 0 rfl) ?_
                    refine lv_istore (lv' := [(4, .int (nI (v9 + wD (Pp kk) (Pp la)))), (7, .int (nI (v9 + wD (Pp kk) (Pp la)))), (0, .ref (τ.1 30)), (1, .int (nI p)), (2, .int (nI sN)), (3, .int (nI la)), (5, .int (nI rs)), (6, .int (nI kk))]) hx hb dX12_walk_132 hl (by decide) rfl (fun ls hl => ?_)
                    refine lv_iinc (v := nI (kk + 1)) (lv' := [(6, .int (nI (kk + 1))), (4, .int (nI (v9 + wD (Pp kk) (Pp la)))), (7, .int (nI (v9 + wD (Pp kk) (Pp la)))), (0, .ref (τ.1 30)), (1, .int (nI p)), (2, .int (nI sN)), (3, .int (nI la)), (5, .int (nI rs))]) hx hb dX12_walk_134 hl (k := 7) rfl (by rw [show (Int32.ofInt 1 : Int32) = nI 1 from by decide, nI_add]) (by decide) rfl (fun ls hl => ?_)
                    refine lv_goto (tgt := 75) hx hb dX12_walk_137 (by decide) ?_
                    exact ih130 (p - (kk + 1)) (by omega) (kk + 1, nI (v9 + wD (Pp kk) (Pp la))) _ _ _ (show p - (kk + 1) = p - (kk + 1) ∧ ((kk + 1) ≤ p ∧ ((rs = 0 ∧ (nI (v9 + wD (Pp kk) (Pp la))) = nI (wD (0, 0) (Pp la))) ∨ (0 < rs ∧ wMl (fun k => wBit rs k) (fun k => wN (f2 72 (10 * rs + k)) + wD (Pp k) (Pp la)) (kk + 1) (nI (v9 + wD (Pp kk) (Pp la)))))) ∧ zH D A τ f2 fr ol s _ ∧ va_S A s.heap _ _ ∧ lv_has _ 8 [(0, .ref (τ.1 30)), (1, .int (nI p)), (2, .int (nI sN)), (3, .int (nI la)), (4, .int (nI (v9 + wD (Pp kk) (Pp la)))), (5, .int (nI rs)), (6, .int (nI (kk + 1)))] from ⟨rfl, ⟨by omega, Or.inr ⟨hrs0, by rw [eh]; exact hml5.less hbk hh (by show ((wN (f2 72 (10 * rs + kk)) + wD (Pp kk) (Pp la) : Nat) : Int) < _; rw [← eh]; omega)⟩⟩, hH, hS, lv_sub hl [3, 4, 5, 6, 1, 7, 0] rfl⟩)
              · have zc138 := c138
                replace zc138 := zc_eq (nI_toInt (by omega)) ((by decide : (0 : Int32).toInt = 0)) zc138
                have hnk : ¬ wBit rs kk := fun h9 => by unfold wBit at h9; rw [← hd2, ← hb2] at h9; omega
                refine lv_goto (tgt := 134) hx hb dX12_walk_91 (by decide) ?_
                refine lv_iinc (v := nI (kk + 1)) (lv' := [(6, .int (nI (kk + 1))), (0, .ref (τ.1 30)), (1, .int (nI p)), (2, .int (nI sN)), (3, .int (nI la)), (4, .int y4), (5, .int (nI rs))]) hx hb dX12_walk_134 hl (k := 6) rfl (by rw [show (Int32.ofInt 1 : Int32) = nI 1 from by decide, nI_add]) (by decide) rfl (fun ls hl => ?_)
                refine lv_goto (tgt := 75) hx hb dX12_walk_137 (by decide) ?_
                exact ih130 (p - (kk + 1)) (by omega) (kk + 1, y4) _ _ _ (show p - (kk + 1) = p - (kk + 1) ∧ ((kk + 1) ≤ p ∧ ((rs = 0 ∧ y4 = nI (wD (0, 0) (Pp la))) ∨ (0 < rs ∧ wMl (fun k => wBit rs k) (fun k => wN (f2 72 (10 * rs + k)) + wD (Pp k) (Pp la)) (kk + 1) y4))) ∧ zH D A τ f2 fr ol s _ ∧ va_S A s.heap _ _ ∧ lv_has _ 8 [(0, .ref (τ.1 30)), (1, .int (nI p)), (2, .int (nI sN)), (3, .int (nI la)), (4, .int y4), (5, .int (nI rs)), (6, .int (nI (kk + 1)))] from ⟨rfl, ⟨by omega, by rcases hm with e0 | ⟨e0, m0⟩; (exact Or.inl e0); exact Or.inr ⟨e0, m0.skip hnk⟩⟩, hH, hS, lv_sub hl [1, 2, 3, 4, 5, 6, 0] rfl⟩)
          · have zc129 := c129
            replace zc129 := zc_eq (nI_toInt (by omega)) ((by decide : (0 : Int32).toInt = 0)) zc129
            refine lv_aload_n hx hb dX12_walk_65 rfl (lv_at hl 2 rfl) ?_
            refine lv_iload_n hx hb dX12_walk_66 rfl (lv_at hl 5 rfl) ?_
            refine va_calli (va_runV (As := [.int (nI la)]) (rest := []) ⟨hx, hb, hml, hown, hts⟩ (m_homeN l hl0 D A sad τ f2 fr ol hF n hn30 p hp10 Pp (hQx f2 hfr2) la (by omega)) (cwV 1 hts gX12_walk_X12_home rfl rfl rfl (by decide +kernel) ⟨Nat.le_of_ble_eq_true rfl, Nat.le_of_ble_eq_true rfl⟩) ⟨zQc_bl, zRecv hH (zk_30 hF) rfl, zQc_at hz hS hA hH⟩ rfl rfl hl.1 rfl (lv_room (Nat.le_of_ble_eq_true rfl)) dX12_walk_67 ⟨Nat.le_of_ble_eq_true rfl, Nat.le_of_ble_eq_true rfl⟩) hS (fun q _ h => h) (fun q h => h) (fun r145 u9 t9 H1 locs ht9 hvm9 hw hB hz1 hk1 hS => ?_)
            have hH := zMv ht9 hvm9 hB
            generalize H1 = H at hH hS ⊢
            subst hw
            refine lv_istore (lv' := [(4, .int (nI (wD (0, 0) (Pp la)))), (5, .int (nI rs)), (0, .ref (τ.1 30)), (1, .int (nI p)), (2, .int (nI sN)), (3, .int (nI la))]) hx hb dX12_walk_70 hl (by decide) rfl (fun ls hl => ?_)
            refine lv_iconst (v := nI 0) hx hb dX12_walk_72 (by decide) ?_
            refine lv_istore (lv' := [(6, .int (nI 0)), (4, .int (nI (wD (0, 0) (Pp la)))), (5, .int (nI rs)), (0, .ref (τ.1 30)), (1, .int (nI p)), (2, .int (nI sN)), (3, .int (nI la))]) hx hb dX12_walk_73 hl (by decide) rfl (fun ls hl => ?_)
            refine zLp (σ := Nat × Int32) (fun x9 k9 H locs ls => (fun (kk : Nat) (y4 : Int32) => k9 = p - kk ∧ (kk ≤ p ∧ ((rs = 0 ∧ y4 = nI (wD (0, 0) (Pp la))) ∨ (0 < rs ∧ wMl (fun k => wBit rs k) (fun k => wN (f2 72 (10 * rs + k)) + wD (Pp k) (Pp la)) kk y4))) ∧ zH D A τ f2 fr ol s H ∧ va_S A s.heap H locs ∧ lv_has ls 8 [(0, .ref (τ.1 30)), (1, .int (nI p)), (2, .int (nI sN)), (3, .int (nI la)), (4, .int y4), (5, .int (nI rs)), (6, .int (nI kk))]) x9.1 x9.2) (0, nI (wD (0, 0) (Pp la))) (p - 0) (show p - 0 = p - 0 ∧ (0 ≤ p ∧ ((rs = 0 ∧ (nI (wD (0, 0) (Pp la))) = nI (wD (0, 0) (Pp la))) ∨ (0 < rs ∧ wMl (fun k => wBit rs k) (fun k => wN (f2 72 (10 * rs + k)) + wD (Pp k) (Pp la)) 0 (nI (wD (0, 0) (Pp la)))))) ∧ zH D A τ f2 fr ol s _ ∧ va_S A s.heap _ _ ∧ lv_has _ 8 [(0, .ref (τ.1 30)), (1, .int (nI p)), (2, .int (nI sN)), (3, .int (nI la)), (4, .int (nI (wD (0, 0) (Pp la)))), (5, .int (nI rs)), (6, .int (nI 0))] from ⟨rfl, ⟨Nat.zero_le _, Or.inl ⟨by omega, rfl⟩⟩, hH, hS, lv_sub hl [3, 4, 5, 6, 1, 2, 0] rfl⟩) (fun k9 ih x9 H locs ls hv9 => ?_)
            obtain ⟨kk, y4⟩ := x9
            have hv9 : k9 = p - kk ∧ (kk ≤ p ∧ ((rs = 0 ∧ y4 = nI (wD (0, 0) (Pp la))) ∨ (0 < rs ∧ wMl (fun k => wBit rs k) (fun k => wN (f2 72 (10 * rs + k)) + wD (Pp k) (Pp la)) kk y4))) ∧ zH D A τ f2 fr ol s H ∧ va_S A s.heap H locs ∧ lv_has ls 8 [(0, .ref (τ.1 30)), (1, .int (nI p)), (2, .int (nI sN)), (3, .int (nI la)), (4, .int y4), (5, .int (nI rs)), (6, .int (nI kk))] := hv9
            obtain ⟨hkih146, hv9, hH, hS, hl⟩ := hv9
            obtain ⟨h5, hm⟩ := hv9
            have ih146 := ih
            clear ih
            refine lv_iload hx hb dX12_walk_75 (lv_at hl 6 rfl) ?_
            refine lv_iload_n hx hb dX12_walk_77 rfl (lv_at hl 1 rfl) ?_
            refine lv_icmp_ge (tgt := 140) hx hb dX12_walk_78 (by decide) (fun c147 => ?_) (fun c147 => ?_)
            · have zc147 := c147
              replace zc147 := zc_le (nI_toInt (by omega)) (nI_toInt (by omega)) zc147
              refine lv_aload_n hx hb dX12_walk_140 rfl (lv_at hl 0 rfl) ?_
              refine zGetR (D := D) (ci := 12) (C := RX12) (T := TX12) (N := 71) hx hb hts hiX12 hown hH (zk_30 hF) rfl 70 (by decide) rfl hw3 (fun _ h9 => h9) dX12_walk_141 (zr_30_70 hF) ?_
              refine lv_bipush (v := nI 10) hx hb dX12_walk_144 (by decide) ?_
              refine lv_iload_n hx hb dX12_walk_146 rfl (lv_at hl 2 rfl) ?_
              refine lv_imul hx hb dX12_walk_147 ?_
              refine lv_topi (fun v148 ev148 => ?_)
              obtain rfl : v148 = nI (10 * sN) := ev148.trans (pk_mul _ _)
              refine lv_iload_n hx hb dX12_walk_148 rfl (lv_at hl 3 rfl) ?_
              refine lv_iadd hx hb dX12_walk_149 ?_
              refine lv_topi (fun v149 ev149 => ?_)
              obtain rfl : v149 = nI (10 * sN + la) := ev149.trans (nI_add _ _)
              refine lv_iload hx hb dX12_walk_150 (lv_at hl 4 rfl) ?_
              refine zIastN (D := D) hx hb hH hS (zk_72 hF) (zn_72 hF) (by omega) (by omega) dX12_walk_152 (fun H locs hH hS => ?_)
              obtain ⟨f150, ef150⟩ : ∃ f9 : zFi, f9 = zu f2 72 (10 * sN + la) y4 := ⟨_, rfl⟩
              rw [← ef150] at hH
              have q151 : f150 72 (10 * sN + la) = y4 := by rw [ef150]; exact zu_s
              refine lv_iinc (v := nI (la + 1)) (lv' := [(3, .int (nI (la + 1))), (0, .ref (τ.1 30)), (1, .int (nI p)), (2, .int (nI sN)), (4, .int y4), (5, .int (nI rs)), (6, .int (nI kk))]) hx hb dX12_walk_153 hl (k := 3) rfl (by rw [show (Int32.ofInt 1 : Int32) = nI 1 from by decide, nI_add]) (by decide) rfl (fun ls hl => ?_)
              refine lv_goto (tgt := 32) hx hb dX12_walk_156 (by decide) ?_
              have hkp : kk = p := by omega
              rw [hkp] at hm
              obtain ⟨v8, a8, b8, c8⟩ := wPut hp10 (by rw [← hP2]; omega) hPP (by omega) hbt hrs2 hTb hm
              exact ih121 (p - (la + 1)) (by omega) (la + 1, f150) _ _ _ (show p - (la + 1) = p - (la + 1) ∧ ((la + 1) ≤ p ∧ (f150 30 0 = nI 0 ∧ f150 30 68 = nI 0) ∧ wTab2 (f150 72) Pp p sN (la + 1) ∧ ∀ a b, ¬ (a = 72 ∨ (a = 30 ∧ (b = 0 ∨ b = 68))) → f150 a b = fi a b) ∧ zH D A τ f150 fr ol s _ ∧ va_S A s.heap _ _ ∧ lv_has _ 8 [(0, .ref (τ.1 30)), (1, .int (nI p)), (2, .int (nI sN)), (3, .int (nI (la + 1)))] from ⟨rfl, ⟨by omega, ⟨by rw [ef150, zu_n (by omega)]; exact p682.1, by rw [ef150, zu_n (by omega)]; exact p682.2⟩, hTb.put (v := v8) (by omega) hp10 (fun k9 h9 => by rw [ef150, zu_n (by omega)]) (by rw [ef150, zu_s]; exact a8) b8 c8, fun a b h => by rw [ef150, zu_n (by omega)]; exact hfr2 a b h⟩, hH, hS, lv_sub hl [1, 2, 3, 0] rfl⟩)
            · have zc147 := c147
              replace zc147 := zc_nle (nI_toInt (by omega)) (nI_toInt (by omega)) zc147
              obtain ⟨d2, hd2⟩ : ∃ d9 : Nat, d9 = rs / 2 ^ kk := ⟨_, rfl⟩
              have hd2s : (nI rs >>> (nI kk &&& 31)) = nI d2 := by rw [hd2]; exact zShr ⟨kk, by omega⟩ ⟨rs, by omega⟩
              have hd2b : d2 ≤ rs := by rw [hd2]; exact Nat.div_le_self _ _
              obtain ⟨b2, hb2⟩ : ∃ b9 : Nat, b9 = d2 % 2 := ⟨_, rfl⟩
              have hb2s : (nI d2 &&& 1) = nI b2 := by rw [hb2]; exact zAnd1 ⟨d2, by omega⟩
              refine lv_iload hx hb dX12_walk_81 (lv_at hl 5 rfl) ?_
              refine lv_iload hx hb dX12_walk_83 (lv_at hl 6 rfl) ?_
              refine lv_ishr hx hb dX12_walk_85 ?_
              refine lv_topi (fun v152 ev152 => ?_)
              obtain rfl : v152 = nI d2 := ev152.trans hd2s
              refine lv_iconst (v := nI 1) hx hb dX12_walk_86 (by decide) ?_
              refine lv_iand hx hb dX12_walk_87 ?_
              refine lv_topi (fun v153 ev153 => ?_)
              obtain rfl : v153 = nI b2 := ev153.trans hb2s
              refine lv_if_ne (tgt := 94) hx hb dX12_walk_88 (by decide) (fun c154 => ?_) (fun c154 => ?_)
              · have zc154 := c154
                replace zc154 := zc_neq (nI_toInt (by omega)) ((by decide : (0 : Int32).toInt = 0)) zc154
                have hbk : wBit rs kk := by unfold wBit; rw [← hd2, ← hb2]; omega
                have hrs0 : 0 < rs := by have h9 := wBit_lo (by omega) hbk; have h8 : 0 < 2 ^ kk := Nat.pos_of_ne_zero (by simp); omega
                have hml5 : wMl (fun k => wBit rs k) (fun k => wN (f2 72 (10 * rs + k)) + wD (Pp k) (Pp la)) kk y4 := by rcases hm with ⟨e0, -⟩ | ⟨-, e1⟩; (exfalso; omega); exact e1
                have hh : ∀ k, k ≤ kk → wBit rs k → (fun k => wN (f2 72 (10 * rs + k)) + wD (Pp k) (Pp la)) k < 2147483648 := fun k q1 q2 => by obtain ⟨v, v1, v2, -⟩ := hTb rs k (by omega) (Or.inl (by omega)) (by omega) q2; have d := wD63 (a := Pp k) (b := Pp la) (hPP k (by omega)).1 (hPP la (by omega)).1 (hPP k (by omega)).2 (hPP la (by omega)).2; show wN (f2 72 (10 * rs + k)) + wD (Pp k) (Pp la) < _; rw [v1, wN_n (by omega)]; omega
                obtain ⟨v9, g9, b9, -⟩ := hTb rs kk (by omega) (Or.inl (by omega)) (by omega) hbk
                have d9 := wD63 (a := Pp kk) (b := Pp la) (hPP kk (by omega)).1 (hPP la (by omega)).1 (hPP kk (by omega)).2 (hPP la (by omega)).2
                have eh : v9 + wD (Pp kk) (Pp la) = wN (f2 72 (10 * rs + kk)) + wD (Pp kk) (Pp la) := by rw [g9, wN_n (by omega)]
                refine lv_aload_n hx hb dX12_walk_94 rfl (lv_at hl 0 rfl) ?_
                refine zGetR (D := D) (ci := 12) (C := RX12) (T := TX12) (N := 71) hx hb hts hiX12 hown hH (zk_30 hF) rfl 70 (by decide) rfl hw3 (fun _ h9 => h9) dX12_walk_95 (zr_30_70 hF) ?_
                refine lv_bipush (v := nI 10) hx hb dX12_walk_98 (by decide) ?_
                refine lv_iload hx hb dX12_walk_100 (lv_at hl 5 rfl) ?_
                refine lv_imul hx hb dX12_walk_102 ?_
                refine lv_topi (fun v155 ev155 => ?_)
                obtain rfl : v155 = nI (10 * rs) := ev155.trans (pk_mul _ _)
                refine lv_iload hx hb dX12_walk_103 (lv_at hl 6 rfl) ?_
                refine lv_iadd hx hb dX12_walk_105 ?_
                refine lv_topi (fun v156 ev156 => ?_)
                obtain rfl : v156 = nI (10 * rs + kk) := ev156.trans (nI_add _ _)
                refine zIaldN (D := D) hx hb hH (zk_72 hF) (zn_72 hF) (by omega) (by omega) g9 dX12_walk_106 ?_
                refine lv_aload_n hx hb dX12_walk_107 rfl (lv_at hl 0 rfl) ?_
                refine lv_iload hx hb dX12_walk_108 (lv_at hl 6 rfl) ?_
                refine lv_iload_n hx hb dX12_walk_110 rfl (lv_at hl 3 rfl) ?_
                refine va_calli (va_runV (As := [.int (nI kk), .int (nI la)]) (rest := [.int (nI v9)]) ⟨hx, hb, hml, hown, hts⟩ (m_betweenN l hl0 D A sad τ f2 fr ol hF n hn30 p hp10 Pp (hQx f2 hfr2) kk la (by omega) (by omega)) (cwV 2 hts gX12_walk_X12_between rfl rfl rfl (by decide +kernel) ⟨Nat.le_of_ble_eq_true rfl, Nat.le_of_ble_eq_true rfl⟩) ⟨zQc_bl, zRecv hH (zk_30 hF) rfl, zQc_at hz hS hA hH⟩ rfl rfl hl.1 rfl (lv_room (Nat.le_of_ble_eq_true rfl)) dX12_walk_111 ⟨Nat.le_of_ble_eq_true rfl, Nat.le_of_ble_eq_true rfl⟩) hS (fun q _ h => h) (fun q h => h) (fun r157 u9 t9 H1 locs ht9 hvm9 hw hB hz1 hk1 hS => ?_)
                have hH := zMv ht9 hvm9 hB
                generalize H1 = H at hH hS ⊢
                subst hw
                refine lv_iadd hx hb dX12_walk_114 ?_
                refine lv_topi (fun v158 ev158 => ?_)
                obtain rfl : v158 = nI (v9 + wD (Pp kk) (Pp la)) := ev158.trans (nI_add _ _)
                refine lv_istore (lv' := [(7, .int (nI (v9 + wD (Pp kk) (Pp la)))), (0, .ref (τ.1 30)), (1, .int (nI p)), (2, .int (nI sN)), (3, .int (nI la)), (4, .int y4), (5, .int (nI rs)), (6, .int (nI kk))]) hx hb dX12_walk_115 hl (by decide) rfl (fun ls hl => ?_)
                refine lv_iload hx hb dX12_walk_117 (lv_at hl 5 rfl) ?_
                refine lv_iconst (v := (-1)) hx hb dX12_walk_119 (by decide) ?_
                refine lv_icmp_eq (tgt := 130) hx hb dX12_walk_120 (by decide) (fun c159 => ?_) (fun c159 => ?_)
                · have zc159 := c159
                  replace zc159 := zc_eq (rfl) ((by decide : ((-1) : Int32).toInt = (-1))) zc159
                  refine lv_iload hx hb dX12_walk_130 (lv_at hl 0 rfl) ?_
                  refine lv_istore (lv' := [(4, .int (nI (v9 + wD (Pp kk) (Pp la)))), (7, .int (nI (v9 + wD (Pp kk) (Pp la)))), (0, .ref (τ.1 30)), (1, .int (nI p)), (2, .int (nI sN)), (3, .int (nI la)), (5, .int (nI rs)), (6, .int (nI kk))]) hx hb dX12_walk_132 hl (by decide) rfl (fun ls hl => ?_)
                  refine lv_iinc (v := nI (kk + 1)) (lv' := [(6, .int (nI (kk + 1))), (4, .int (nI (v9 + wD (Pp kk) (Pp la)))), (7, .int (nI (v9 + wD (Pp kk) (Pp la)))), (0, .ref (τ.1 30)), (1, .int (nI p)), (2, .int (nI sN)), (3, .int (nI la)), (5, .int (nI rs))]) hx hb dX12_walk_134 hl (k := 7) rfl (by rw [show (Int32.ofInt 1 : Int32) = nI 1 from by decide, nI_add]) (by decide) rfl (fun ls hl => ?_)
                  refine lv_goto (tgt := 75) hx hb dX12_walk_137 (by decide) ?_
                  exact ih146 (p - (kk + 1)) (by omega) (kk + 1, nI (v9 + wD (Pp kk) (Pp la))) _ _ _ (show p - (kk + 1) = p - (kk + 1) ∧ ((kk + 1) ≤ p ∧ ((rs = 0 ∧ (nI (v9 + wD (Pp kk) (Pp la))) = nI (wD (0, 0) (Pp la))) ∨ (0 < rs ∧ wMl (fun k => wBit rs k) (fun k => wN (f2 72 (10 * rs + k)) + wD (Pp k) (Pp la)) (kk + 1) (nI (v9 + wD (Pp kk) (Pp la)))))) ∧ zH D A τ f2 fr ol s _ ∧ va_S A s.heap _ _ ∧ lv_has _ 8 [(0, .ref (τ.1 30)), (1, .int (nI p)), (2, .int (nI sN)), (3, .int (nI la)), (4, .int (nI (v9 + wD (Pp kk) (Pp la)))), (5, .int (nI rs)), (6, .int (nI (kk + 1)))] from ⟨rfl, ⟨by omega, Or.inr ⟨hrs0, by rw [c159] at hml5; rw [eh]; exact hml5.first hbk (fun k q1 q2 => hh k (by omega) q2)⟩⟩, hH, hS, lv_sub hl [3, 4, 5, 6, 1, 7, 0] rfl⟩)
                · have zc159 := c159
                  replace zc159 := zc_neq (rfl) ((by decide : ((-1) : Int32).toInt = (-1))) zc159
                  refine lv_iload hx hb dX12_walk_123 (lv_at hl 0 rfl) ?_
                  refine lv_iload hx hb dX12_walk_125 (lv_at hl 5 rfl) ?_
                  refine lv_icmp_ge (tgt := 134) hx hb dX12_walk_127 (by decide) (fun c160 => ?_) (fun c160 => ?_)
                  · have zc160 := c160
                    replace zc160 := zc_le (rfl) (nI_toInt (by omega)) zc160
                    refine lv_iinc (v := nI (kk + 1)) (lv' := [(6, .int (nI (kk + 1))), (7, .int (nI (v9 + wD (Pp kk) (Pp la)))), (0, .ref (τ.1 30)), (1, .int (nI p)), (2, .int (nI sN)), (3, .int (nI la)), (4, .int y4), (5, .int (nI rs))]) hx hb dX12_walk_134 hl (k := 7) rfl (by rw [show (Int32.ofInt 1 : Int32) = nI 1 from by decide, nI_add]) (by decide) rfl (fun ls hl => ?_)
                    refine lv_goto (tgt := 75) hx hb dX12_walk_137 (by decide) ?_
                    exact ih146 (p - (kk + 1)) (by omega) (kk + 1, y4) _ _ _ (show p - (kk + 1) = p - (kk + 1) ∧ ((kk + 1) ≤ p ∧ ((rs = 0 ∧ y4 = nI (wD (0, 0) (Pp la))) ∨ (0 < rs ∧ wMl (fun k => wBit rs k) (fun k => wN (f2 72 (10 * rs + k)) + wD (Pp k) (Pp la)) (kk + 1) y4))) ∧ zH D A τ f2 fr ol s _ ∧ va_S A s.heap _ _ ∧ lv_has _ 8 [(0, .ref (τ.1 30)), (1, .int (nI p)), (2, .int (nI sN)), (3, .int (nI la)), (4, .int y4), (5, .int (nI rs)), (6, .int (nI (kk + 1)))] from ⟨rfl, ⟨by omega, Or.inr ⟨hrs0, hml5.keep c159 hh (by show _ ≤ ((wN (f2 72 (10 * rs + kk)) + wD (Pp kk) (Pp la) : Nat) : Int); rw [← eh]; omega)⟩⟩, hH, hS, lv_sub hl [2, 3, 4, 5, 6, 7, 0] rfl⟩)
                  · have zc160 := c160
                    replace zc160 := zc_nle (rfl) (nI_toInt (by omega)) zc160
                    refine lv_iload hx hb dX12_walk_130 (lv_at hl 0 rfl) ?_
                    refine lv_istore (lv' := [(4, .int (nI (v9 + wD (Pp kk) (Pp la)))), (7, .int (nI (v9 + wD (Pp kk) (Pp la)))), (0, .ref (τ.1 30)), (1, .int (nI p)), (2, .int (nI sN)), (3, .int (nI la)), (5, .int (nI rs)), (6, .int (nI kk))]) hx hb dX12_walk_132 hl (by decide) rfl (fun ls hl => ?_)
                    refine lv_iinc (v := nI (kk + 1)) (lv' := [(6, .int (nI (kk + 1))), (4, .int (nI (v9 + wD (Pp kk) (Pp la)))), (7, .int (nI (v9 + wD (Pp kk) (Pp la)))), (0, .ref (τ.1 30)), (1, .int (nI p)), (2, .int (nI sN)), (3, .int (nI la)), (5, .int (nI rs))]) hx hb dX12_walk_134 hl (k := 7) rfl (by rw [show (Int32.ofInt 1 : Int32) = nI 1 from by decide, nI_add]) (by decide) rfl (fun ls hl => ?_)
                    refine lv_goto (tgt := 75) hx hb dX12_walk_137 (by decide) ?_
                    exact ih146 (p - (kk + 1)) (by omega) (kk + 1, nI (v9 + wD (Pp kk) (Pp la))) _ _ _ (show p - (kk + 1) = p - (kk + 1) ∧ ((kk + 1) ≤ p ∧ ((rs = 0 ∧ (nI (v9 + wD (Pp kk) (Pp la))) = nI (wD (0, 0) (Pp la))) ∨ (0 < rs ∧ wMl (fun k => wBit rs k) (fun k => wN (f2 72 (10 * rs + k)) + wD (Pp k) (Pp la)) (kk + 1) (nI (v9 + wD (Pp kk) (Pp la)))))) ∧ zH D A τ f2 fr ol s _ ∧ va_S A s.heap _ _ ∧ lv_has _ 8 [(0, .ref (τ.1 30)), (1, .int (nI p)), (2, .int (nI sN)), (3, .int (nI la)), (4, .int (nI (v9 + wD (Pp kk) (Pp la)))), (5, .int (nI rs)), (6, .int (nI (kk + 1)))] from ⟨rfl, ⟨by omega, Or.inr ⟨hrs0, by rw [eh]; exact hml5.less hbk hh (by show ((wN (f2 72 (10 * rs + kk)) + wD (Pp kk) (Pp la) : Nat) : Int) < _; rw [← eh]; omega)⟩⟩, hH, hS, lv_sub hl [3, 4, 5, 6, 1, 7, 0] rfl⟩)
              · have zc154 := c154
                replace zc154 := zc_eq (nI_toInt (by omega)) ((by decide : (0 : Int32).toInt = 0)) zc154
                have hnk : ¬ wBit rs kk := fun h9 => by unfold wBit at h9; rw [← hd2, ← hb2] at h9; omega
                refine lv_goto (tgt := 134) hx hb dX12_walk_91 (by decide) ?_
                refine lv_iinc (v := nI (kk + 1)) (lv' := [(6, .int (nI (kk + 1))), (0, .ref (τ.1 30)), (1, .int (nI p)), (2, .int (nI sN)), (3, .int (nI la)), (4, .int y4), (5, .int (nI rs))]) hx hb dX12_walk_134 hl (k := 6) rfl (by rw [show (Int32.ofInt 1 : Int32) = nI 1 from by decide, nI_add]) (by decide) rfl (fun ls hl => ?_)
                refine lv_goto (tgt := 75) hx hb dX12_walk_137 (by decide) ?_
                exact ih146 (p - (kk + 1)) (by omega) (kk + 1, y4) _ _ _ (show p - (kk + 1) = p - (kk + 1) ∧ ((kk + 1) ≤ p ∧ ((rs = 0 ∧ y4 = nI (wD (0, 0) (Pp la))) ∨ (0 < rs ∧ wMl (fun k => wBit rs k) (fun k => wN (f2 72 (10 * rs + k)) + wD (Pp k) (Pp la)) (kk + 1) y4))) ∧ zH D A τ f2 fr ol s _ ∧ va_S A s.heap _ _ ∧ lv_has _ 8 [(0, .ref (τ.1 30)), (1, .int (nI p)), (2, .int (nI sN)), (3, .int (nI la)), (4, .int y4), (5, .int (nI rs)), (6, .int (nI (kk + 1)))] from ⟨rfl, ⟨by omega, by rcases hm with e0 | ⟨e0, m0⟩; (exact Or.inl e0); exact Or.inr ⟨e0, m0.skip hnk⟩⟩, hH, hS, lv_sub hl [1, 2, 3, 4, 5, 6, 0] rfl⟩)
        · have zc128 := c128
          replace zc128 := zc_eq (nI_toInt (by omega)) ((by decide : (0 : Int32).toInt = 0)) zc128
          have hnb : ¬ wBit sN la := fun h9 => by unfold wBit at h9; rw [← hd1, ← hb1] at h9; omega
          refine lv_goto (tgt := 153) hx hb dX12_walk_57 (by decide) ?_
          refine lv_iinc (v := nI (la + 1)) (lv' := [(3, .int (nI (la + 1))), (5, .int (nI rs)), (4, .int ((-1))), (0, .ref (τ.1 30)), (1, .int (nI p)), (2, .int (nI sN))]) hx hb dX12_walk_153 hl (k := 5) rfl (by rw [show (Int32.ofInt 1 : Int32) = nI 1 from by decide, nI_add]) (by decide) rfl (fun ls hl => ?_)
          refine lv_goto (tgt := 32) hx hb dX12_walk_156 (by decide) ?_
          exact ih121 (p - (la + 1)) (by omega) (la + 1, f2) _ _ _ (show p - (la + 1) = p - (la + 1) ∧ ((la + 1) ≤ p ∧ (f2 30 0 = nI 0 ∧ f2 30 68 = nI 0) ∧ wTab2 (f2 72) Pp p sN (la + 1) ∧ ∀ a b, ¬ (a = 72 ∨ (a = 30 ∧ (b = 0 ∨ b = 68))) → f2 a b = fi a b) ∧ zH D A τ f2 fr ol s _ ∧ va_S A s.heap _ _ ∧ lv_has _ 8 [(0, .ref (τ.1 30)), (1, .int (nI p)), (2, .int (nI sN)), (3, .int (nI (la + 1)))] from ⟨rfl, ⟨by omega, p682, hTb.skip hnb, hfr2⟩, hH, hS, lv_sub hl [3, 4, 5, 0] rfl⟩)
  · have zc107 := c107
    replace zc107 := zc_eq (nI_toInt (by omega)) ((by decide : (0 : Int32).toInt = 0)) zc107
    refine lv_iconst (v := nI 0) hx hb dX12_walk_19 (by decide) ?_
    refine W.widen (k := 0) (n := 0) (by decide) (by decide) ?_
    exact W.iret (v := nI 0) hx hb hr (fun t9 ht9 hW9 => ⟨⟨nI 0, f104, rfl, ⟨Or.inl ⟨by omega, rfl⟩, q105, q106, fun a b h => by rw [ef104, zu_n (by omega), ef101, zu_n (by omega)]⟩, zEnd1 hH ht9 hW9⟩, hS.F ht9⟩) hS.2.2 dX12_walk_20
