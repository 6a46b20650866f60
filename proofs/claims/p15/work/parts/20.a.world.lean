/-! ===== MORE THAT EVERY METHOD TAKES AS GIVEN: the static arrays, the JDK's formatter ===== -/
def zSt : List (String × String × List Int32) := [("PostHouse$Rules", "MOST", [99, 9999, 999999, 99]), ("PostHouse$Walk", "LANE_FRONT", [1, 2, 0, 2, 2, 0]), ("PostHouse$Walk", "LANE_BACK", [1, 0, 2, 2, 2, 0]), ("PostHouse$Walk", "WAY_FRONT", [1, 2, 2, 0, 2, 0]), ("PostHouse$Walk", "WAY_BACK", [1, 2, 0, 2, 2, 0])]
def zGx (A : Nat → Prop) (sad : Nat → Nat) (U : State) (H : Heap) : Prop :=
  va_Zq "jdk/internal/util/Preconditions" "SIOOBE_FORMATTER" "Ljava/util/function/BiFunction;" A U H ∧
  ∀ (i : Nat) (q : String × String × List Int32), zSt[i]? = some q → va_Z q.1 q.2.1 "[I" (.ref (sad (20 + i))) A U H ∧ va_T .int (sad (20 + i)) q.2.2.length (fun j => .int (q.2.2.getD j 0)) A U H
theorem zGx.moved {A : Nat → Prop} {sad : Nat → Nat} {u U : State} {H : Heap} (hvm : u.vm.Alike U.vm) (h : zGx A sad u H) : zGx A sad U H := ⟨h.1.moved hvm, fun i q hq => ⟨(h.2 i q hq).1.moved hvm, (h.2 i q hq).2.moved hvm⟩⟩
theorem zGx.kept {A : Nat → Prop} {sad : Nat → Nat} {U : State} {H H1 : Heap} (h : zGx A sad U H) (hq : ∀ a : Nat, a < H.size → ¬ A a → H1[a]? = H[a]?) : zGx A sad U H1 :=
  ⟨h.1.kept hq, fun i q hi => ⟨(h.2 i q hi).1.kept hq, (h.2 i q hi).2.kept hq⟩⟩
def zG2 (A : Nat → Prop) (sad : Nat → Nat) (U : State) (H : Heap) : Prop := zG A sad U H ∧ zGx A sad U H
/-! ===== THE FIXED CELLS ===== -/
def zSl (c : Nat) : List Bool := match c with
  | 0 => [true, false]
  | 1 => [true, true, true, false]
  | 2 => [true, true, false, false, false, false, false, false, false, false]
  | 3 => [false, false, false, true, false, false]
  | 4 => [true, true, true, false, false]
  | 5 => [true, true]
  | 6 => [false, false, false, false]
  | 7 => [true, false, false, false]
  | 8 => [false, false, false, false, false, false, false, true, true, true]
  | 9 => [true, false, true, true, true, true]
  | 10 => [true, false, false, false, false, false, false, false, false, true]
  | 11 => [true, true, true, true, true, true, true, true, true, true, false, false, false, false, false, false]
  | _ => [false, false, false, true, true, true, true, true, true, true, true, true, true, false, true, true, true, true, true, true, true, false, false, false, false, false, false, true, true, false, false, false, false, false, false, false, false, true, true, true, true, true, true, true, true, false, true, true, true, true, true, true, true, true, true, true, true, true, true, true, true, false, true, true, true, true, true, true, false, true, true]
/-! ===== THE WORLD BY NUMBERS: every cell has a number of its own, what it holds is told by numbers ===== -/
def zT (k : Nat) : FieldType := match k with
  | 1 => .int
  | 2 => .byte
  | 3 => .boolean
  | 4 => .long
  | 5 => .object "PostHouse$Letter"
  | 6 => .object "PostHouse$Order"
  | 7 => .object "PostHouse$Sending"
  | 8 => .object "PostHouse$Thing"
  | _ => .object "PostHouse$Want"
abbrev zTy : Type := (Nat → Nat) × (Nat → ClassId) × (Nat → Nat) × (Nat → Nat)
abbrev zFi : Type := Nat → Nat → Int32
abbrev zFr : Type := Nat → Nat → Option Nat
/-- an object's fields: a number, or the number of a cell -/
def zV (ad : Nat → Nat) (fi : Nat → Int32) (fr : Nat → Option Nat) : List Bool → Nat → List Value
  | [], _ => []
  | b :: bs, k => (if b then va_rf ((fr k).map ad) else .int (fi k)) :: zV ad fi fr bs (k + 1)
theorem zV_len (ad : Nat → Nat) (fi : Nat → Int32) (fr : Nat → Option Nat) : ∀ (bs : List Bool) (k : Nat), (zV ad fi fr bs k).length = bs.length
  | [], _ => rfl
  | _ :: bs, k => by simp [zV, zV_len ad fi fr bs (k + 1)]
theorem zV_get {ad : Nat → Nat} {fi : Nat → Int32} {fr : Nat → Option Nat} : ∀ (bs : List Bool) (k j : Nat) (b : Bool), bs[j]? = some b → (zV ad fi fr bs k)[j]? = some (if b then va_rf ((fr (k + j)).map ad) else .int (fi (k + j)))
  | [], _, j, _, h => by simp at h
  | b0 :: bs, k, 0, b, h => by
    simp at h
    subst h
    simp [zV]
  | b0 :: bs, k, j + 1, b, h => by
    have h' : bs[j]? = some b := by simpa using h
    have := zV_get (ad := ad) (fi := fi) (fr := fr) bs (k + 1) j b h'
    rw [show k + 1 + j = k + (j + 1) by omega] at this
    simpa [zV] using this
theorem zV_cg {ad ad' : Nat → Nat} {fi fi' : Nat → Int32} {fr fr' : Nat → Option Nat} : ∀ (bs : List Bool) (k : Nat), (∀ j, k ≤ j → fi' j = fi j) → (∀ j, k ≤ j → (fr' j).map ad' = (fr j).map ad) → zV ad' fi' fr' bs k = zV ad fi fr bs k
  | [], _, _, _ => rfl
  | b :: bs, k, h1, h2 => by
    simp only [zV]
    rw [h1 k (Nat.le_refl k), h2 k (Nat.le_refl k), zV_cg bs (k + 1) (fun j hj => h1 j (by omega)) (fun j hj => h2 j (by omega))]
theorem zV_seti {ad : Nat → Nat} {fi : Nat → Int32} {fr : Nat → Option Nat} {v : Int32} : ∀ (bs : List Bool) (k j : Nat), bs[j]? = some false → (zV ad fi fr bs k).set j (.int v) = zV ad (fun q => if q = k + j then v else fi q) fr bs k
  | [], _, j, h => by simp at h
  | b0 :: bs, k, 0, h => by
    simp at h
    subst h
    simp only [zV, List.set_cons_zero]
    rw [zV_cg (ad := ad) (ad' := ad) (fi := fi) (fr := fr) (fr' := fr) (fi' := fun q => if q = k + 0 then v else fi q) bs (k + 1) (fun j hj => by simp; omega) (fun _ _ => rfl)]
    simp
  | b0 :: bs, k, j + 1, h => by
    have h' : bs[j]? = some false := by simpa using h
    simp only [zV, List.set_cons_succ]
    rw [zV_seti bs (k + 1) j h']
    rw [show (fun q => if q = k + 1 + j then v else fi q) = (fun q => if q = k + (j + 1) then v else fi q) by funext q; rw [show k + 1 + j = k + (j + 1) by omega]]
    simp
theorem zV_setr {ad : Nat → Nat} {fi : Nat → Int32} {fr : Nat → Option Nat} {r : Option Nat} : ∀ (bs : List Bool) (k j : Nat), bs[j]? = some true → (zV ad fi fr bs k).set j (va_rf (r.map ad)) = zV ad fi (fun q => if q = k + j then r else fr q) bs k
  | [], _, j, h => by simp at h
  | b0 :: bs, k, 0, h => by
    simp at h
    subst h
    simp only [zV, List.set_cons_zero]
    rw [zV_cg (ad := ad) (ad' := ad) (fi := fi) (fi' := fi) (fr := fr) (fr' := fun q => if q = k + 0 then r else fr q) bs (k + 1) (fun _ _ => rfl) (fun j hj => by rw [if_neg (by omega)])]
    simp
  | b0 :: bs, k, j + 1, h => by
    have h' : bs[j]? = some true := by simpa using h
    simp only [zV, List.set_cons_succ]
    rw [zV_setr bs (k + 1) j h']
    rw [show (fun q => if q = k + 1 + j then r else fr q) = (fun q => if q = k + (j + 1) then r else fr q) by funext q; rw [show k + 1 + j = k + (j + 1) by omega]]
    simp
/-- the cell of a number -/
def zE (τ : zTy) (fi : zFi) (fr : zFr) (ol : Int64) (i : Nat) : va_E :=
  if τ.2.2.1 i < 16 then
    (if τ.2.2.1 i < 4 then .inl (τ.2.1 i, τ.2.2.2 i, .inl (fi i))
     else if τ.2.2.1 i = 4 then .inl (τ.2.1 i, τ.2.2.2 i, .inr (.inl (fun _ => ol)))
     else .inl (τ.2.1 i, τ.2.2.2 i, .inr (.inr (.inr (.inr (fun j => (fr i j).map τ.1))))))
  else .inr (τ.2.2.1 i - 16, zV τ.1 (fi i) (fr i) (zSl (τ.2.2.1 i - 16)) 0)
abbrev zW (τ : zTy) (fi : zFi) (fr : zFr) (ol : Int64) (i : Nat) : Nat × va_E := (τ.1 i, zE τ fi fr ol i)
theorem zE_obj {τ : zTy} {fi : zFi} {fr : zFr} {ol : Int64} {i ci : Nat} (h : τ.2.2.1 i = ci + 16) : zE τ fi fr ol i = .inr (ci, zV τ.1 (fi i) (fr i) (zSl ci) 0) := by
  unfold zE
  rw [if_neg (by omega), show τ.2.2.1 i - 16 = ci by omega]
theorem zE_int {τ : zTy} {fi : zFi} {fr : zFr} {ol : Int64} {i : Nat} (h : τ.2.2.1 i < 4) : zE τ fi fr ol i = .inl (τ.2.1 i, τ.2.2.2 i, .inl (fi i)) := by
  unfold zE
  rw [if_pos (by omega), if_pos h]
theorem zE_long {τ : zTy} {fi : zFi} {fr : zFr} {ol : Int64} {i : Nat} (h : τ.2.2.1 i = 4) : zE τ fi fr ol i = .inl (τ.2.1 i, τ.2.2.2 i, .inr (.inl (fun _ => ol))) := by
  unfold zE
  rw [if_pos (by omega), if_neg (by omega), if_pos h]
theorem zE_ref {τ : zTy} {fi : zFi} {fr : zFr} {ol : Int64} {i : Nat} (h : 5 ≤ τ.2.2.1 i) (h2 : τ.2.2.1 i < 16) : zE τ fi fr ol i = .inl (τ.2.1 i, τ.2.2.2 i, .inr (.inr (.inr (.inr (fun j => (fr i j).map τ.1))))) := by
  unfold zE
  rw [if_pos (by omega), if_neg (by omega), if_neg (by omega)]
theorem zE_cg {τ : zTy} {fi fi' : zFi} {fr fr' : zFr} {ol : Int64} {i : Nat} (h1 : fi' i = fi i) (h2 : fr' i = fr i) : zE τ fi' fr' ol i = zE τ fi fr ol i := by
  unfold zE
  rw [h1, h2]
/-- no cell tells of one that isn't there -/
def zCl (τ : zTy) (fr : zFr) : Prop := ∀ i j r : Nat, τ.2.2.1 i ≠ 0 → fr i j = some r → τ.2.2.1 r ≠ 0
def zH (D : va_G) (A : Nat → Prop) (τ : zTy) (fi : zFi) (fr : zFr) (ol : Int64) (U : State) (H : Heap) : Prop :=
  (∃ ids : List Nat, (∀ i, i ∈ ids ↔ τ.2.2.1 i ≠ 0) ∧ va_P D vwCl (ids.map (zW τ fi fr ol)) H ∧ va_D A (ids.map (zW τ fi fr ol))) ∧ va_K D vwCl [] U ∧
  (∀ i, τ.2.2.1 i ≠ 0 → τ.2.2.1 i < 16 → ArrOfT U (τ.2.1 i) (zT (τ.2.2.1 i)) ∧ va_RA U (τ.2.1 i) (zT (τ.2.2.1 i))) ∧ zCl τ fr
section ZH
variable {D : va_G} {A : Nat → Prop} {τ : zTy} {fi : zFi} {fr : zFr} {ol : Int64} {U : State} {H : Heap}
theorem zH.moved {u : State} (hvm : u.vm.Alike U.vm) (h : zH D A τ fi fr ol u H) : zH D A τ fi fr ol U H := ⟨h.1, va_K.moved hvm h.2.1, fun i a b => ⟨arrOfT_moved hvm (h.2.2.1 i a b).1, (h.2.2.1 i a b).2.moved hvm⟩, h.2.2.2⟩
theorem zH.kept {H1 : Heap} (h : zH D A τ fi fr ol U H) (hq : ∀ a : Nat, a < H.size → H1[a]? = H[a]?) : zH D A τ fi fr ol U H1 := by
  obtain ⟨⟨ids, h1, h2, h3⟩, h4⟩ := h
  exact ⟨⟨ids, h1, h2.kept (fun k q hk => hq q.1 (h2 k q hk).lt), h3⟩, h4⟩
theorem zH.one (h : zH D A τ fi fr ol U H) {i : Nat} (hi : τ.2.2.1 i ≠ 0) : va_P D vwCl [zW τ fi fr ol i] H := by
  obtain ⟨⟨ids, h1, h2, h3⟩, h4⟩ := h
  obtain ⟨k, hk⟩ := List.getElem?_of_mem ((h1 i).mpr hi)
  have hk2 : (ids.map (zW τ fi fr ol))[k]? = some (zW τ fi fr ol i) := by rw [List.getElem?_map, hk]; rfl
  intro n q hn
  have hn1 : n < 1 := (List.getElem?_eq_some_iff.mp hn).1
  rw [show n = 0 by omega] at hn
  cases hn
  exact h2 k _ hk2
theorem zH.inA (h : zH D A τ fi fr ol U H) {i : Nat} (hi : τ.2.2.1 i ≠ 0) : A (τ.1 i) := by
  obtain ⟨⟨ids, h1, h2, h3⟩, h4⟩ := h
  obtain ⟨k, hk⟩ := List.getElem?_of_mem ((h1 i).mpr hi)
  have hk2 : (ids.map (zW τ fi fr ol))[k]? = some (zW τ fi fr ol i) := by rw [List.getElem?_map, hk]; rfl
  exact h3.2 k _ hk2
theorem zH.inj (h : zH D A τ fi fr ol U H) {i j : Nat} (hi : τ.2.2.1 i ≠ 0) (hj : τ.2.2.1 j ≠ 0) (he : τ.1 i = τ.1 j) : i = j := by
  obtain ⟨⟨ids, h1, h2, h3⟩, h4⟩ := h
  obtain ⟨k, hk⟩ := List.getElem?_of_mem ((h1 i).mpr hi)
  obtain ⟨n, hn⟩ := List.getElem?_of_mem ((h1 j).mpr hj)
  have hk2 : (ids.map (zW τ fi fr ol))[k]? = some (zW τ fi fr ol i) := by rw [List.getElem?_map, hk]; rfl
  have hn2 : (ids.map (zW τ fi fr ol))[n]? = some (zW τ fi fr ol j) := by rw [List.getElem?_map, hn]; rfl
  have := h3.1 k n _ _ hk2 hn2 he
  subst this
  rw [hk] at hn
  exact Option.some.inj hn
theorem zH.arr (h : zH D A τ fi fr ol U H) {i t : Nat} (ht : τ.2.2.1 i = t) (h0 : t ≠ 0) (h1 : t < 16) : va_K D vwCl [(τ.2.1 i, zT t)] U := by
  refine ⟨h.2.1.1, fun k q hk => ?_⟩
  have hz : k < 1 := (List.getElem?_eq_some_iff.mp hk).1
  rw [show k = 0 by omega] at hk
  cases hk
  have := h.2.2.1 i (by omega) (by omega)
  rw [ht] at this
  exact this
theorem zSet {ids : List Nat} {w w' : Nat → Nat × va_E} {k i : Nat} (hD : va_D A (ids.map w)) (hk : ids[k]? = some i) (h1 : ∀ j, j ≠ i → w' j = w j) : (ids.map w).set k (w' i) = ids.map w' := by
  apply List.ext_getElem?
  intro n
  by_cases hn : n = k
  · subst hn
    have hl : n < (ids.map w).length := by rw [List.length_map]; exact (List.getElem?_eq_some_iff.mp hk).1
    rw [List.getElem?_set_self hl, List.getElem?_map, hk]
    rfl
  · rw [List.getElem?_set_ne (Ne.symm hn), List.getElem?_map, List.getElem?_map]
    cases hj : ids[n]? with
    | none => rfl
    | some j =>
      have hji : j ≠ i := by
        intro e
        subst e
        exact hn (hD.1 n k (w j) (w j) (by rw [List.getElem?_map, hj]; rfl) (by rw [List.getElem?_map, hk]; rfl) rfl)
      simp [h1 j hji]
/-- a cell is written: the list of cells, the place, and the way back -/
theorem zH.wr (h : zH D A τ fi fr ol U H) {i : Nat} (hi : τ.2.2.1 i ≠ 0) (fi' : zFi) (fr' : zFr) (ol' : Int64) (hE : ∀ j, j ≠ i → zE τ fi' fr' ol' j = zE τ fi fr ol j) (hc : zCl τ fr') :
    ∃ (ws : va_W) (k : Nat), va_P D vwCl ws H ∧ va_D A ws ∧ ws[k]? = some (τ.1 i, zE τ fi fr ol i) ∧ (∀ n, τ.2.2.1 n ≠ 0 → ∃ q : Nat, ws[q]? = some (τ.1 n, zE τ fi fr ol n)) ∧ ∀ H1 : Heap, va_P D vwCl (ws.set k (τ.1 i, zE τ fi' fr' ol' i)) H1 → va_D A (ws.set k (τ.1 i, zE τ fi' fr' ol' i)) → zH D A τ fi' fr' ol' U H1 := by
  obtain ⟨⟨ids, h1, h2, h3⟩, h4, h5, h6⟩ := h
  obtain ⟨k, hk⟩ := List.getElem?_of_mem ((h1 i).mpr hi)
  refine ⟨ids.map (zW τ fi fr ol), k, h2, h3, by rw [List.getElem?_map, hk]; rfl, fun n hn => ?_, fun H1 a b => ?_⟩
  · obtain ⟨q, hq⟩ := List.getElem?_of_mem ((h1 n).mpr hn)
    exact ⟨q, by rw [List.getElem?_map, hq]; rfl⟩
  have e := zSet (w := zW τ fi fr ol) (w' := zW τ fi' fr' ol') h3 hk (fun j hj => by simp only [zW]; rw [hE j hj])
  rw [show (τ.1 i, zE τ fi' fr' ol' i) = zW τ fi' fr' ol' i from rfl, e] at a b
  exact ⟨⟨ids, h1, a, b⟩, h4, h5, hc⟩
/-- a cell is made -/
theorem zH.nw (h : zH D A τ fi fr ol U H) {i : Nat} (hi : τ.2.2.1 i = 0) (ol' : Int64) (ho : ol' = ol ∨ ∀ j, τ.2.2.1 j ≠ 4) :
    ∃ ws : va_W, va_P D vwCl ws H ∧ va_D A ws ∧ ∀ (H1 : Heap) (q t n : Nat) (cA : ClassId), t ≠ 0 → (t < 16 → ArrOfT U cA (zT t) ∧ va_RA U cA (zT t)) → va_P D vwCl (ws ++ [(q, zE (va_up τ.1 i q, va_up τ.2.1 i cA, va_up τ.2.2.1 i t, va_up τ.2.2.2 i n) (va_up fi i (fun _ => 0)) (va_up fr i (fun _ => none)) ol' i)]) H1 → va_D A (ws ++ [(q, zE (va_up τ.1 i q, va_up τ.2.1 i cA, va_up τ.2.2.1 i t, va_up τ.2.2.2 i n) (va_up fi i (fun _ => 0)) (va_up fr i (fun _ => none)) ol' i)]) →
      zH D A (va_up τ.1 i q, va_up τ.2.1 i cA, va_up τ.2.2.1 i t, va_up τ.2.2.2 i n) (va_up fi i (fun _ => 0)) (va_up fr i (fun _ => none)) ol' U H1 := by
  obtain ⟨⟨ids, h1, h2, h3⟩, h4, h5, h6⟩ := h
  refine ⟨ids.map (zW τ fi fr ol), h2, h3, fun H1 q t n cA ht hA a b => ?_⟩
  have key : ∀ j, j ∈ ids → zW (va_up τ.1 i q, va_up τ.2.1 i cA, va_up τ.2.2.1 i t, va_up τ.2.2.2 i n) (va_up fi i (fun _ => 0)) (va_up fr i (fun _ => none)) ol' j = zW τ fi fr ol j := by
    intro j hj
    have hj0 := (h1 j).mp hj
    have hji : j ≠ i := fun e => hj0 (by rw [e]; exact hi)
    have hm : ∀ k, ((va_up fr i (fun _ => none) j) k).map (va_up τ.1 i q) = (fr j k).map τ.1 := by
      intro k
      rw [va_up_ne fr _ hji]
      cases hr : fr j k with
      | none => rfl
      | some r =>
        have hri : r ≠ i := fun e => h6 j k r hj0 hr (by rw [e]; exact hi)
        simp [va_up_ne τ.1 q hri]
    simp only [zW]
    rw [va_up_ne τ.1 q hji]
    congr 1
    by_cases hk : τ.2.2.1 j < 16
    · by_cases h4' : τ.2.2.1 j < 4
      · rw [zE_int h4', zE_int (by show va_up τ.2.2.1 i t j < 4; rw [va_up_ne _ _ hji]; exact h4')]
        simp only [va_up_ne _ _ hji]
      · by_cases h44 : τ.2.2.1 j = 4
        · rw [zE_long h44, zE_long (by show va_up τ.2.2.1 i t j = 4; rw [va_up_ne _ _ hji]; exact h44)]
          rcases ho with ho | ho
          · simp only [va_up_ne _ _ hji, ho]
          · exact absurd h44 (ho j)
        · rw [zE_ref (by omega) hk, zE_ref (by show 5 ≤ va_up τ.2.2.1 i t j; rw [va_up_ne _ _ hji]; omega) (by show va_up τ.2.2.1 i t j < 16; rw [va_up_ne _ _ hji]; exact hk)]
          have hf : (fun k => ((va_up fr i (fun _ => none) j) k).map (va_up τ.1 i q)) = (fun k => (fr j k).map τ.1) := funext hm
          simp only [va_up_ne _ _ hji] at hf ⊢
          rw [hf]
    · have e1 : τ.2.2.1 j = (τ.2.2.1 j - 16) + 16 := by omega
      rw [zE_obj e1, zE_obj (ci := τ.2.2.1 j - 16) (by show va_up τ.2.2.1 i t j = _; rw [va_up_ne _ _ hji]; exact e1)]
      rw [zV_cg (ad := τ.1) (ad' := va_up τ.1 i q) (fi := fi j) (fi' := va_up fi i (fun _ => 0) j) (fr := fr j) (fr' := va_up fr i (fun _ => none) j) _ 0 (fun k _ => by rw [va_up_ne _ _ hji]) (fun k _ => hm k)]
  have e : ids.map (zW τ fi fr ol) ++ [(q, zE (va_up τ.1 i q, va_up τ.2.1 i cA, va_up τ.2.2.1 i t, va_up τ.2.2.2 i n) (va_up fi i (fun _ => 0)) (va_up fr i (fun _ => none)) ol' i)] = (ids ++ [i]).map (zW (va_up τ.1 i q, va_up τ.2.1 i cA, va_up τ.2.2.1 i t, va_up τ.2.2.2 i n) (va_up fi i (fun _ => 0)) (va_up fr i (fun _ => none)) ol') := by
    rw [List.map_append, List.map_congr_left key]
    simp [zW, va_up]
  rw [e] at a b
  refine ⟨⟨ids ++ [i], fun j => ?_, a, b⟩, h4, fun j => ?_, fun j k r hj hr => ?_⟩
  · by_cases hji : j = i
    · subst hji
      simp [va_up, ht]
    · simp only [List.mem_append, List.mem_singleton, hji, or_false]
      show j ∈ ids ↔ va_up τ.2.2.1 i t j ≠ 0
      rw [va_up_ne _ _ hji]
      exact h1 j
  · by_cases hji : j = i
    · subst hji
      show va_up τ.2.2.1 j t j ≠ 0 → va_up τ.2.2.1 j t j < 16 → ArrOfT U (va_up τ.2.1 j cA j) (zT (va_up τ.2.2.1 j t j)) ∧ va_RA U (va_up τ.2.1 j cA j) (zT (va_up τ.2.2.1 j t j))
      rw [va_up_self, va_up_self]
      exact fun _ x => hA x
    · show va_up τ.2.2.1 i t j ≠ 0 → va_up τ.2.2.1 i t j < 16 → ArrOfT U (va_up τ.2.1 i cA j) (zT (va_up τ.2.2.1 i t j)) ∧ va_RA U (va_up τ.2.1 i cA j) (zT (va_up τ.2.2.1 i t j))
      rw [va_up_ne _ _ hji, va_up_ne _ _ hji]
      exact h5 j
  · show va_up τ.2.2.1 i t r ≠ 0
    have hj' : va_up τ.2.2.1 i t j ≠ 0 := hj
    by_cases hji : j = i
    · subst hji
      rw [va_up_self] at hr
      cases hr
    · rw [va_up_ne _ _ hji] at hr hj'
      by_cases hri : r = i
      · subst hri; rw [va_up_self]; exact ht
      · rw [va_up_ne _ _ hri]; exact h6 j k r hj' hr
theorem zNd {l : List (Nat × va_E)} (h : ∀ (i j : Nat) (p q : Nat × va_E), l[i]? = some p → l[j]? = some q → p.1 = q.1 → i = j) : (l.map (·.1)).Nodup := by
  rw [List.Nodup, List.pairwise_iff_getElem]
  intro i j hi hj hij e
  rw [List.length_map] at hi hj
  rw [List.getElem_map, List.getElem_map] at e
  have := h i j _ _ (List.getElem?_eq_getElem hi) (List.getElem?_eq_getElem hj) e
  omega
/-- a cell that nobody tells of is forgotten -/
theorem zH.drop (h : zH D A τ fi fr ol U H) (i : Nat) (hr : ∀ j k, j ≠ i → τ.2.2.1 j ≠ 0 → fr j k ≠ some i) : zH D A (τ.1, τ.2.1, va_up τ.2.2.1 i 0, τ.2.2.2) fi fr ol U H := by
  obtain ⟨⟨ids, h1, h2, h3⟩, h4, h5, h6⟩ := h
  have hm : ∀ j, j ∈ ids.filter (fun q => decide (q ≠ i)) → zW (τ.1, τ.2.1, va_up τ.2.2.1 i 0, τ.2.2.2) fi fr ol j = zW τ fi fr ol j := by
    intro j hj
    have hji : j ≠ i := by simpa using (List.mem_filter.mp hj).2
    simp only [zW, zE]
    rw [va_up_ne _ _ hji]
  have hsub : (ids.filter (fun q => decide (q ≠ i))).map (zW τ fi fr ol) = ((ids.filter (fun q => decide (q ≠ i))).map (zW (τ.1, τ.2.1, va_up τ.2.2.1 i 0, τ.2.2.2) fi fr ol)) := (List.map_congr_left hm).symm
  have hsl : ((ids.filter (fun q => decide (q ≠ i))).map (zW τ fi fr ol)).Sublist (ids.map (zW τ fi fr ol)) := List.Sublist.map _ List.filter_sublist
  refine ⟨⟨ids.filter (fun q => decide (q ≠ i)), fun j => ?_, ?_, ?_⟩, h4, fun j hj => ?_, fun j k r hj hjr => ?_⟩
  · rw [List.mem_filter]
    show _ ↔ va_up τ.2.2.1 i 0 j ≠ 0
    by_cases hji : j = i
    · subst hji; simp [va_up]
    · rw [va_up_ne _ _ hji]; simp [hji, h1 j]
  · rw [← hsub]
    intro k q hk
    obtain ⟨n, hn⟩ := List.getElem?_of_mem (hsl.subset (List.mem_of_getElem? hk))
    exact h2 n q hn
  · rw [← hsub]
    have nd := (zNd h3.1).sublist (hsl.map (·.1))
    refine ⟨fun a b p q ha hb hpq => ?_, fun k q hk => ?_⟩
    · refine (List.getElem?_inj (l := ((ids.filter (fun q => decide (q ≠ i))).map (zW τ fi fr ol)).map (·.1)) ?_ nd).mp ?_
      · rw [List.length_map]; exact (List.getElem?_eq_some_iff.mp ha).1
      · have e1 := congrArg (Option.map (·.1)) ha
        have e2 := congrArg (Option.map (·.1)) hb
        rw [← List.getElem?_map] at e1 e2
        rw [e1, e2]
        simp [hpq]
    · obtain ⟨n, hn⟩ := List.getElem?_of_mem (hsl.subset (List.mem_of_getElem? hk))
      exact h3.2 n q hn
  · have hj' : va_up τ.2.2.1 i 0 j ≠ 0 := hj
    have hji : j ≠ i := fun e => hj' (by rw [e, va_up_self])
    show va_up τ.2.2.1 i 0 j < 16 → ArrOfT U (τ.2.1 j) (zT (va_up τ.2.2.1 i 0 j)) ∧ va_RA U (τ.2.1 j) (zT (va_up τ.2.2.1 i 0 j))
    rw [va_up_ne _ _ hji] at hj' ⊢
    exact h5 j hj'
  · have hj' : va_up τ.2.2.1 i 0 j ≠ 0 := hj
    have hji : j ≠ i := fun e => hj' (by rw [e, va_up_self])
    rw [va_up_ne _ _ hji] at hj'
    show va_up τ.2.2.1 i 0 r ≠ 0
    have hri : r ≠ i := fun e => hr j k hji hj' (by rw [hjr, e])
    rw [va_up_ne _ _ hri]
    exact h6 j k r hj' hjr
end ZH
