section ZROW2
variable {p : Program} {l : Launch} {e : Env} {R : Room} {s : State} {m : MethodId} {args : Array Value} {below : List Frame} {meth : Method} {c : Code} {H : Heap} {locs : List Loc} {cells slots : Nat} {Q : State → Prop}
variable {cc : ByteArray} {pc : Nat} {ls : Array Slot} {rest : List Value} {D : va_G} {A : Nat → Prop} {H0 : Heap} {τ : zTy} {fi : zFi} {fr : zFr} {ol : Int64}
theorem zGetI (hexec : p.tables.exec = Jvm.exec) (hb : c.code = cc) {own ref C : String} {T : u_T} {N ci index : Nat} {Ts : List Cond} (hts : ∀ w ∈ Ts, w.before args s = true) (hin : ∀ w ∈ u_ws C T N, w ∈ Ts) (hown : s.vm.findClass own = some m.cls) (hH : zH D A τ fi fr ol s H) {i : Nat} (hk : τ.2.2.1 i = ci + 16) (hc : vwCl[ci]? = some (C, T, N)) (k : Nat) (hkN : k < N) (hsl : (zSl ci)[k]? = some false) (hlink : (Cond.fieldLink own index ref (T k).2.1 (T k).2.2.1).before args s = true) (hsame : ∀ x, s.fieldFound? (T k).1 (T k).2.1 (T k).2.2.1 = some x → s.fieldFound? ref (T k).2.1 (T k).2.2.1 = some x) (hdg : decode cc pc = .ok (.getfield index, 3))
    {v : Int32} (hv : fi i k = v) (kk : W p l e R s m args below meth c H locs cells slots Q (F0 m (pc + 3) ls (.int v :: rest))) : W p l e R s m args below meth c H locs cells slots Q (F0 m pc ls (.ref (τ.1 i) :: rest)) := zGet (D := D) hexec hb hts hin hown hH hk hc k hkN hsl hlink hsame hdg (by rw [← hv]; rfl) kk
theorem zGetR (hexec : p.tables.exec = Jvm.exec) (hb : c.code = cc) {own ref C : String} {T : u_T} {N ci index : Nat} {Ts : List Cond} (hts : ∀ w ∈ Ts, w.before args s = true) (hin : ∀ w ∈ u_ws C T N, w ∈ Ts) (hown : s.vm.findClass own = some m.cls) (hH : zH D A τ fi fr ol s H) {i : Nat} (hk : τ.2.2.1 i = ci + 16) (hc : vwCl[ci]? = some (C, T, N)) (k : Nat) (hkN : k < N) (hsl : (zSl ci)[k]? = some true) (hlink : (Cond.fieldLink own index ref (T k).2.1 (T k).2.2.1).before args s = true) (hsame : ∀ x, s.fieldFound? (T k).1 (T k).2.1 (T k).2.2.1 = some x → s.fieldFound? ref (T k).2.1 (T k).2.2.1 = some x) (hdg : decode cc pc = .ok (.getfield index, 3))
    {r : Nat} (hr : fr i k = some r) (kk : W p l e R s m args below meth c H locs cells slots Q (F0 m (pc + 3) ls (.ref (τ.1 r) :: rest))) : W p l e R s m args below meth c H locs cells slots Q (F0 m pc ls (.ref (τ.1 i) :: rest)) := zGet (D := D) hexec hb hts hin hown hH hk hc k hkN hsl hlink hsame hdg (by rw [hr]; rfl) kk
theorem zGetQ (hexec : p.tables.exec = Jvm.exec) (hb : c.code = cc) {own ref C : String} {T : u_T} {N ci index : Nat} {Ts : List Cond} (hts : ∀ w ∈ Ts, w.before args s = true) (hin : ∀ w ∈ u_ws C T N, w ∈ Ts) (hown : s.vm.findClass own = some m.cls) (hH : zH D A τ fi fr ol s H) {i : Nat} (hk : τ.2.2.1 i = ci + 16) (hc : vwCl[ci]? = some (C, T, N)) (k : Nat) (hkN : k < N) (hsl : (zSl ci)[k]? = some true) (hlink : (Cond.fieldLink own index ref (T k).2.1 (T k).2.2.1).before args s = true) (hsame : ∀ x, s.fieldFound? (T k).1 (T k).2.1 (T k).2.2.1 = some x → s.fieldFound? ref (T k).2.1 (T k).2.2.1 = some x) (hdg : decode cc pc = .ok (.getfield index, 3))
    (kk : W p l e R s m args below meth c H locs cells slots Q (F0 m (pc + 3) ls (va_rf ((fr i k).map τ.1) :: rest))) : W p l e R s m args below meth c H locs cells slots Q (F0 m pc ls (.ref (τ.1 i) :: rest)) := zGet (D := D) hexec hb hts hin hown hH hk hc k hkN hsl hlink hsame hdg (rfl) kk
theorem zGetN (hexec : p.tables.exec = Jvm.exec) (hb : c.code = cc) {own ref C : String} {T : u_T} {N ci index : Nat} {Ts : List Cond} (hts : ∀ w ∈ Ts, w.before args s = true) (hin : ∀ w ∈ u_ws C T N, w ∈ Ts) (hown : s.vm.findClass own = some m.cls) (hH : zH D A τ fi fr ol s H) {i : Nat} (hk : τ.2.2.1 i = ci + 16) (hc : vwCl[ci]? = some (C, T, N)) (k : Nat) (hkN : k < N) (hsl : (zSl ci)[k]? = some true) (hlink : (Cond.fieldLink own index ref (T k).2.1 (T k).2.2.1).before args s = true) (hsame : ∀ x, s.fieldFound? (T k).1 (T k).2.1 (T k).2.2.1 = some x → s.fieldFound? ref (T k).2.1 (T k).2.2.1 = some x) (hdg : decode cc pc = .ok (.getfield index, 3))
    (hr : fr i k = none) (kk : W p l e R s m args below meth c H locs cells slots Q (F0 m (pc + 3) ls (.null :: rest))) : W p l e R s m args below meth c H locs cells slots Q (F0 m pc ls (.ref (τ.1 i) :: rest)) := zGet (D := D) hexec hb hts hin hown hH hk hc k hkN hsl hlink hsame hdg (by rw [hr]; rfl) kk
theorem zIaldN (hexec : p.tables.exec = Jvm.exec) (hb : c.code = cc) (hH : zH D A τ fi fr ol s H) {i : Nat} (hk : τ.2.2.1 i = 1) {n j : Nat} (hn : τ.2.2.2 i = n) (hj : j < n) (h31 : n ≤ 2147483647) {v : Int32} (hv : fi i j = v) (hdg : decode cc pc = .ok (.iaload, 1))
    (kk : W p l e R s m args below meth c H locs cells slots Q (F0 m (pc + 1) ls (.int v :: rest))) : W p l e R s m args below meth c H locs cells slots Q (F0 m pc ls (.int (nI j) :: .ref (τ.1 i) :: rest)) := by
  refine zIald (D := D) hexec hb hH hk hn (vp_in_nI hj (by omega)) hdg ?_
  rw [nI_clamp (by omega), hv]
  exact kk
theorem zBaldN (hexec : p.tables.exec = Jvm.exec) (hb : c.code = cc) (hH : zH D A τ fi fr ol s H) {i : Nat} (hk : τ.2.2.1 i = 2) {n j : Nat} (hn : τ.2.2.2 i = n) (hj : j < n) (h31 : n ≤ 2147483647) {v : Int32} (hv : fi i j = v) (hdg : decode cc pc = .ok (.baload, 1))
    (kk : W p l e R s m args below meth c H locs cells slots Q (F0 m (pc + 1) ls (.int v :: rest))) : W p l e R s m args below meth c H locs cells slots Q (F0 m pc ls (.int (nI j) :: .ref (τ.1 i) :: rest)) := by
  refine zBald (D := D) hexec hb hH hk hn (vp_in_nI hj (by omega)) hdg ?_
  rw [nI_clamp (by omega), hv]
  exact kk
theorem zZaldN (hexec : p.tables.exec = Jvm.exec) (hb : c.code = cc) (hH : zH D A τ fi fr ol s H) {i : Nat} (hk : τ.2.2.1 i = 3) {n j : Nat} (hn : τ.2.2.2 i = n) (hj : j < n) (h31 : n ≤ 2147483647) {v : Int32} (hv : fi i j = v) (hdg : decode cc pc = .ok (.baload, 1))
    (kk : W p l e R s m args below meth c H locs cells slots Q (F0 m (pc + 1) ls (.int v :: rest))) : W p l e R s m args below meth c H locs cells slots Q (F0 m pc ls (.int (nI j) :: .ref (τ.1 i) :: rest)) := by
  refine zZald (D := D) hexec hb hH hk hn (vp_in_nI hj (by omega)) hdg ?_
  rw [nI_clamp (by omega), hv]
  exact kk
theorem zIastN (hexec : p.tables.exec = Jvm.exec) (hb : c.code = cc) (hH : zH D A τ fi fr ol s H) (hS : va_S A H0 H locs) {i : Nat} (hk : τ.2.2.1 i = 1) {n j : Nat} (hn : τ.2.2.2 i = n) (hj : j < n) (h31 : n ≤ 2147483647) {x : Int32} (hdg : decode cc pc = .ok (.iastore, 1))
    (kk : ∀ (H1 : Heap) (locs1 : List Loc), zH D A τ (zu fi i j x) fr ol s H1 → va_S A H0 H1 locs1 → W p l e R s m args below meth c H1 locs1 cells slots Q (F0 m (pc + 1) ls rest)) : W p l e R s m args below meth c H locs cells slots Q (F0 m pc ls (.int x :: .int (nI j) :: .ref (τ.1 i) :: rest)) := by
  refine zIast (D := D) hexec hb hH hS hk hn (vp_in_nI hj (by omega)) hdg (fun H1 locs1 a b => kk H1 locs1 ?_ b)
  rw [nI_clamp (by omega)] at a
  exact a
theorem zBastN (hexec : p.tables.exec = Jvm.exec) (hb : c.code = cc) (hH : zH D A τ fi fr ol s H) (hS : va_S A H0 H locs) {i : Nat} (hk : τ.2.2.1 i = 2) {n j : Nat} (hn : τ.2.2.2 i = n) (hj : j < n) (h31 : n ≤ 2147483647) {x : Int32} (hdg : decode cc pc = .ok (.bastore, 1))
    (kk : ∀ (H1 : Heap) (locs1 : List Loc), zH D A τ (zu fi i j (vp_nar .byte x)) fr ol s H1 → va_S A H0 H1 locs1 → W p l e R s m args below meth c H1 locs1 cells slots Q (F0 m (pc + 1) ls rest)) : W p l e R s m args below meth c H locs cells slots Q (F0 m pc ls (.int x :: .int (nI j) :: .ref (τ.1 i) :: rest)) := by
  refine zBast (D := D) hexec hb hH hS hk hn (vp_in_nI hj (by omega)) hdg (fun H1 locs1 a b => kk H1 locs1 ?_ b)
  rw [nI_clamp (by omega)] at a
  exact a
theorem zZastN (hexec : p.tables.exec = Jvm.exec) (hb : c.code = cc) (hH : zH D A τ fi fr ol s H) (hS : va_S A H0 H locs) {i : Nat} (hk : τ.2.2.1 i = 3) {n j : Nat} (hn : τ.2.2.2 i = n) (hj : j < n) (h31 : n ≤ 2147483647) {x : Int32} (hdg : decode cc pc = .ok (.bastore, 1))
    (kk : ∀ (H1 : Heap) (locs1 : List Loc), zH D A τ (zu fi i j (vp_nar .boolean x)) fr ol s H1 → va_S A H0 H1 locs1 → W p l e R s m args below meth c H1 locs1 cells slots Q (F0 m (pc + 1) ls rest)) : W p l e R s m args below meth c H locs cells slots Q (F0 m pc ls (.int x :: .int (nI j) :: .ref (τ.1 i) :: rest)) := by
  refine zZast (D := D) hexec hb hH hS hk hn (vp_in_nI hj (by omega)) hdg (fun H1 locs1 a b => kk H1 locs1 ?_ b)
  rw [nI_clamp (by omega)] at a
  exact a
theorem zAaldN (hexec : p.tables.exec = Jvm.exec) (hb : c.code = cc) (hH : zH D A τ fi fr ol s H) {i : Nat} {t : Nat} {C : String} (hk : τ.2.2.1 i = t) (h5 : 5 ≤ t) (h16 : t < 16) (hC : zT t = .object C) {n j : Nat} (hn : τ.2.2.2 i = n) (hj : j < n) (h31 : n ≤ 2147483647) (hdg : decode cc pc = .ok (.aaload, 1))
    (kk : W p l e R s m args below meth c H locs cells slots Q (F0 m (pc + 1) ls (va_rf ((fr i j).map τ.1) :: rest))) : W p l e R s m args below meth c H locs cells slots Q (F0 m pc ls (.int (nI j) :: .ref (τ.1 i) :: rest)) := by
  refine zAald (D := D) hexec hb hH hk h5 h16 hC hn (vp_in_nI hj (by omega)) hdg ?_
  rw [nI_clamp (by omega)]
  exact kk
theorem zAaldS (hexec : p.tables.exec = Jvm.exec) (hb : c.code = cc) (hH : zH D A τ fi fr ol s H) {i : Nat} {t : Nat} {C : String} (hk : τ.2.2.1 i = t) (h5 : 5 ≤ t) (h16 : t < 16) (hC : zT t = .object C) {n j : Nat} (hn : τ.2.2.2 i = n) (hj : j < n) (h31 : n ≤ 2147483647) {r : Nat} (hr : fr i j = some r) (hdg : decode cc pc = .ok (.aaload, 1))
    (kk : W p l e R s m args below meth c H locs cells slots Q (F0 m (pc + 1) ls (.ref (τ.1 r) :: rest))) : W p l e R s m args below meth c H locs cells slots Q (F0 m pc ls (.int (nI j) :: .ref (τ.1 i) :: rest)) := by
  refine zAaldN (D := D) hexec hb hH hk h5 h16 hC hn hj h31 hdg ?_
  rw [hr]
  exact kk
theorem zAastS (hexec : p.tables.exec = Jvm.exec) (hb : c.code = cc) (hH : zH D A τ fi fr ol s H) (hS : va_S A H0 H locs) {i : Nat} {t ci r : Nat} {rr : vw_C} (hk : τ.2.2.1 i = t) (h5 : 5 ≤ t) (h16 : t < 16) (hC : zT t = .object rr.1) (hr : τ.2.2.1 r = ci + 16) (hcl : vwCl[ci]? = some rr) {n j : Nat} (hn : τ.2.2.2 i = n) (hj : j < n) (h31 : n ≤ 2147483647) (hdg : decode cc pc = .ok (.aastore, 1))
    (kk : ∀ (H1 : Heap) (locs1 : List Loc), zH D A τ fi (zur fr i j (some r)) ol s H1 → va_S A H0 H1 locs1 → W p l e R s m args below meth c H1 locs1 cells slots Q (F0 m (pc + 1) ls rest)) : W p l e R s m args below meth c H locs cells slots Q (F0 m pc ls (.ref (τ.1 r) :: .int (nI j) :: .ref (τ.1 i) :: rest)) := by
  refine zAast (D := D) hexec hb hH hS hk h5 h16 hC hr hcl hn (vp_in_nI hj (by omega)) hdg (fun H1 locs1 a b => kk H1 locs1 ?_ b)
  rw [nI_clamp (by omega)] at a
  exact a
end ZROW2
/-! ===== CONTRACTS OVER THE WORLD BY NUMBERS ===== -/
def zQc (D : va_G) (A : Nat → Prop) (sad : Nat → Nat) (τ : zTy) (fi : zFi) (fr : zFr) (ol : Int64) (U : State) : Prop := zG2 A sad U U.heap ∧ zH D A τ fi fr ol U U.heap ∧ ∀ q, U.heap.size ≤ q → A q
theorem zQc_bl {D : va_G} {A : Nat → Prop} {sad : Nat → Nat} {τ : zTy} {fi : zFi} {fr : zFr} {ol : Int64} {av : List Value} : FrameBlind (va_Pc av (zQc D A sad τ fi fr ol)) := fun a U g mk q => by
  obtain ⟨q0, qz, qH, qA⟩ := q
  exact ⟨q0, ⟨zG.call qz.1, zGx.moved (u := U) (U := U.calling g mk a) (Vm.Alike.refl U.vm) qz.2⟩, zH.moved (u := U) (U := U.calling g mk a) (Vm.Alike.refl U.vm) qH, qA⟩
theorem zQc_at {D : va_G} {A : Nat → Prop} {sad : Nat → Nat} {τ : zTy} {fi : zFi} {fr : zFr} {ol : Int64} {s : State} {H : Heap} {locs : List Loc} {av : List Value} (hz : zG2 A sad s s.heap) (hS : va_S A s.heap H locs) (hA : ∀ q, s.heap.size ≤ q → A q) (hH : zH D A τ fi fr ol s H) :
    ∀ U : State, U.heap = H → s.WarmedH U.vm → va_Pc av (zQc D A sad τ fi fr ol) av.toArray U := fun U hU hW =>
  ⟨rfl, by rw [hU]; exact ⟨zG.warm hW (hz.1.kept (fun a h1 h2 => hS.2.1 a h1 h2)), (hz.2.kept (fun a h1 h2 => hS.2.1 a h1 h2)).moved hW.alike⟩, by rw [hU]; exact hH.moved hW.alike, fun q h => hA q (Nat.le_trans (by rw [hU]; exact hS.1) h)⟩
theorem zMv {D : va_G} {A : Nat → Prop} {τ : zTy} {fi : zFi} {fr : zFr} {ol : Int64} {s t : State} {H1 : Heap} (ht : t.heap = H1) (hvm : s.vm.Alike t.vm) (h : zH D A τ fi fr ol t t.heap) : zH D A τ fi fr ol s H1 := by
  subst ht
  exact h.moved hvm.symm
theorem zEnd1 {D : va_G} {A : Nat → Prop} {τ : zTy} {fi : zFi} {fr : zFr} {ol : Int64} {s t : State} {H : Heap} (hH : zH D A τ fi fr ol s H) (ht : t.heap = H) (hW : s.WarmedH t.vm) : zH D A τ fi fr ol t t.heap := by
  rw [ht]
  exact hH.moved hW.alike
theorem zRecv {D : va_G} {A : Nat → Prop} {τ : zTy} {fi : zFi} {fr : zFr} {ol : Int64} {s : State} {H : Heap} (hH : zH D A τ fi fr ol s H) {i ci : Nat} (hk : τ.2.2.1 i = ci + 16) {q : vw_C} (hc : vwCl[ci]? = some q) : ∃ cell : Cell, H[τ.1 i]? = some cell ∧ cell.vm.isStatics = false ∧ s.vm.findClass q.1 = some cell.cls :=
  va_recv hH.2.1 (hH.one (i := i) (by omega)) hc (q0 := 0) (zAt0 (zE_obj hk))
/-! how much room is used up is told by the heap itself -/
def zRoom (s : State) (H : Heap) (k n : Nat) : Prop := H.size ≤ s.heap.size + k ∧ ((H.toList.drop s.heap.size).map (·.slots.size)).sum ≤ n
section ZK
variable {p : Program} {l : Launch} {e : Env} {R : Room} {s : State} {m : MethodId} {args : Array Value} {below : List Frame} {meth : Method} {c : Code} {H : Heap} {locs : List Loc} {cells slots : Nat} {Q : State → Prop} {g : JFrame}
theorem zKnow (k : zRoom s H cells slots → (∀ (a : Nat) (x : Cell), s.heap[a]? = some x → ∃ y : Cell, H[a]? = some y ∧ y.slots.size = x.slots.size) → W p l e R s m args below meth c H locs cells slots Q g) : W p l e R s m args below meth c H locs cells slots Q g := by
  intro T hT X
  have h := X.same
  refine k ⟨?_, ?_⟩ (fun a x hx => ?_) T hT X
  · rw [← hT]; exact h.2.2.1
  · rw [← hT]; exact h.2.2.2.2.1
  · obtain ⟨y, h1, -, h3, -⟩ := h.2.2.2.2.2 a x hx
    exact ⟨y, by rw [← hT]; exact h1, h3⟩
theorem zNarrow {k n : Nat} (h : zRoom s H k n) (kk : W p l e R s m args below meth c H locs k n Q g) : W p l e R s m args below meth c H locs cells slots Q g := by
  intro T hT X
  refine kk T hT { X with same := ?_ }
  have h0 := X.same
  exact ⟨h0.1, h0.2.1, by show T.heap.size ≤ _; rw [hT]; exact h.1, h0.2.2.2.1, by show ((T.heap.toList.drop s.heap.size).map (·.slots.size)).sum ≤ n; rw [hT]; exact h.2, h0.2.2.2.2.2⟩
end ZK
theorem zRoom.same {s : State} {H H1 : Heap} {k n : Nat} (h : zRoom s H k n) (hz : H1.size = H.size) (hs : ∀ (a : Nat) (x : Cell), H[a]? = some x → ∃ y : Cell, H1[a]? = some y ∧ y.slots.size = x.slots.size) : zRoom s H1 k n := by
  refine ⟨by rw [hz]; exact h.1, ?_⟩
  have e : H1.toList.map (·.slots.size) = H.toList.map (·.slots.size) := by
    apply List.ext_getElem?
    intro i
    rw [List.getElem?_map, List.getElem?_map, Array.getElem?_toList, Array.getElem?_toList]
    cases hx : H[i]? with
    | none =>
      have h1 : H.size ≤ i := Array.getElem?_eq_none_iff.mp hx
      have h2 : H1[i]? = none := Array.getElem?_eq_none_iff.mpr (by omega)
      rw [h2]
    | some x =>
      obtain ⟨y, h1, h2⟩ := hs i x hx
      rw [h1]
      simp [h2]
  rw [List.map_drop, e, ← List.map_drop]
  exact h.2
theorem zc_lt {x y : Int32} {a b : Int} (hx : x.toInt = a) (hy : y.toInt = b) (h : x < y) : a < b := by rw [← hx, ← hy]; exact Int32.lt_iff_toInt_lt.mp h
theorem zc_nlt {x y : Int32} {a b : Int} (hx : x.toInt = a) (hy : y.toInt = b) (h : ¬ x < y) : b ≤ a := by
  rw [← hx, ← hy]
  exact Int.not_lt.mp (fun q => h (Int32.lt_iff_toInt_lt.mpr q))
theorem zc_le {x y : Int32} {a b : Int} (hx : x.toInt = a) (hy : y.toInt = b) (h : x ≤ y) : a ≤ b := by rw [← hx, ← hy]; exact Int32.le_iff_toInt_le.mp h
theorem zc_nle {x y : Int32} {a b : Int} (hx : x.toInt = a) (hy : y.toInt = b) (h : ¬ x ≤ y) : b < a := by
  rw [← hx, ← hy]
  exact Int.not_le.mp (fun q => h (Int32.le_iff_toInt_le.mpr q))
theorem zc_eq {x y : Int32} {a b : Int} (hx : x.toInt = a) (hy : y.toInt = b) (h : x = y) : a = b := by rw [← hx, ← hy, h]
theorem zc_neq {x y : Int32} {a b : Int} (hx : x.toInt = a) (hy : y.toInt = b) (h : ¬ x = y) : a ≠ b := by
  rw [← hx, ← hy]
  exact fun q => h (Int32.toInt_inj.mp q)
theorem zI_dec {a k : Nat} {c : Int32} (h : k ≤ a) (hc : nI k + c = 0) : nI a + c = nI (a - k) := by
  have e : nI a = nI (a - k) + nI k := by rw [nI_add]; congr 1; omega
  rw [e, Int32.add_assoc, hc, Int32.add_zero]
theorem zThr {D : va_G} {A : Nat → Prop} {τ : zTy} {fi : zFi} {fr : zFr} {ol : Int64} {s t : State} {H : Heap} (hH : zH D A τ fi fr ol s H) (hvm : s.vm.Alike t.vm) (h2 : ∀ q : Nat, q < H.size → t.heap[q]? = H[q]?) : zH D A τ fi fr ol t t.heap := (hH.kept h2).moved hvm
theorem zOut {D : va_G} {A : Nat → Prop} {τ : zTy} {fi : zFi} {fr : zFr} {ol : Int64} {s t : State} {H : Heap} (hH : zH D A τ fi fr ol s H) (ht : t.heap = H) (hvm : s.vm.Alike t.vm) : zH D A τ fi fr ol t t.heap := by rw [ht]; exact hH.moved hvm
/-- what a number is -/
theorem zNat {x : Int32} (h1 : 0 ≤ x.toInt) : x = nI x.toInt.toNat := by
  apply Int32.toInt_inj.mp
  have := x.toInt_lt
  rw [nI_toInt (by omega)]
  omega
theorem zNatB {x : Int32} {n : Nat} (h1 : 0 ≤ x.toInt) (h2 : x.toInt < n) : ∃ t : Nat, t < n ∧ x = nI t := ⟨x.toInt.toNat, by omega, by
  apply Int32.toInt_inj.mp
  have := x.toInt_lt
  rw [nI_toInt (by omega)]
  omega⟩
section ZLP
variable {p : Program} {l : Launch} {e : Env} {R : Room} {s : State} {m : MethodId} {args : Array Value} {below : List Frame} {meth : Method} {c : Code} {Q : State → Prop} {pc : Nat} {st : List Value}
/-- a loop: a measure that falls -/
theorem zLp {σ : Type} {cells slots : Nat} (I : σ → Nat → Heap → List Loc → Array Slot → Prop) (x : σ) (k : Nat) {H : Heap} {locs : List Loc} {ls : Array Slot} (h0 : I x k H locs ls)
    (hs : ∀ k : Nat, (∀ k' : Nat, k' < k → ∀ (x : σ) (H : Heap) (locs : List Loc) (ls : Array Slot), I x k' H locs ls → W p l e R s m args below meth c H locs cells slots Q (F0 m pc ls st)) → ∀ (x : σ) (H : Heap) (locs : List Loc) (ls : Array Slot), I x k H locs ls → W p l e R s m args below meth c H locs cells slots Q (F0 m pc ls st)) : W p l e R s m args below meth c H locs cells slots Q (F0 m pc ls st) := by
  have key : ∀ (k : Nat) (x : σ) (H : Heap) (locs : List Loc) (ls : Array Slot), I x k H locs ls → W p l e R s m args below meth c H locs cells slots Q (F0 m pc ls st) := by
    intro k
    induction k using Nat.strongRecOn with
    | _ k ih => exact hs k ih
  exact key k x H locs ls h0
/-- ... with room that is used up on the way -/
theorem zLpC {σ : Type} (cs ss : σ → Nat) (I : σ → Nat → Heap → List Loc → Array Slot → Prop) (x : σ) (k : Nat) {cells slots : Nat} {H : Heap} {locs : List Loc} {ls : Array Slot} (hc : cells ≤ cs x) (hl : slots ≤ ss x) (h0 : I x k H locs ls)
    (hs : ∀ k : Nat, (∀ k' : Nat, k' < k → ∀ (x : σ) (H : Heap) (locs : List Loc) (ls : Array Slot), I x k' H locs ls → W p l e R s m args below meth c H locs (cs x) (ss x) Q (F0 m pc ls st)) → ∀ (x : σ) (H : Heap) (locs : List Loc) (ls : Array Slot), I x k H locs ls → W p l e R s m args below meth c H locs (cs x) (ss x) Q (F0 m pc ls st)) : W p l e R s m args below meth c H locs cells slots Q (F0 m pc ls st) := by
  have key : ∀ (k : Nat) (x : σ) (H : Heap) (locs : List Loc) (ls : Array Slot), I x k H locs ls → W p l e R s m args below meth c H locs (cs x) (ss x) Q (F0 m pc ls st) := by
    intro k
    induction k using Nat.strongRecOn with
    | _ k ih => exact hs k ih
  exact W.widen hc hl (key k x H locs ls h0)
end ZLP
section ZCUT
variable {p : Program} {l : Launch} {e : Env} {R : Room} {s : State} {m : MethodId} {args : Array Value} {below : List Frame} {meth : Method} {c : Code} {Q : State → Prop} {cells slots : Nat} {H0 : Heap} {locs0 : List Loc} {g : JFrame}
/-- a place at which several ways meet: it is walked once -/
theorem zCut {σ : Type} (J : Nat) (st : σ → List Value) (I : σ → Heap → List Loc → Array Slot → Prop) (hc : ∀ (x : σ) (H : Heap) (locs : List Loc) (ls : Array Slot), I x H locs ls → W p l e R s m args below meth c H locs cells slots Q (F0 m J ls (st x)))
    (k : (∀ (x : σ) (H : Heap) (locs : List Loc) (ls : Array Slot), I x H locs ls → W p l e R s m args below meth c H locs cells slots Q (F0 m J ls (st x))) → W p l e R s m args below meth c H0 locs0 cells slots Q g) : W p l e R s m args below meth c H0 locs0 cells slots Q g := k hc
end ZCUT
section ZSTA
variable {p : Program} {l : Launch} {e : Env} {R : Room} {s : State} {m : MethodId} {args : Array Value} {below : List Frame} {meth : Method} {c : Code} {H : Heap} {locs : List Loc} {cells slots : Nat} {Q : State → Prop} {cc : ByteArray} {pc : Nat} {ls : Array Slot} {rest : List Value} {A : Nat → Prop} {sad : Nat → Nat}
/-- a place of a static array -/
theorem zSti (hexec : p.tables.exec = Jvm.exec) (hb : c.code = cc) (hz : zG2 A sad s s.heap) (hS : va_S A s.heap H locs) {i : Nat} {q : String × String × List Int32} (hq : zSt[i]? = some q) {j : Nat} (hj : j < q.2.2.length) (hn : q.2.2.length ≤ 6) (hdg : decode cc pc = .ok (.iaload, 1))
    (kk : W p l e R s m args below meth c H locs cells slots Q (F0 m (pc + 1) ls (.int (q.2.2.getD j 0) :: rest))) : W p l e R s m args below meth c H locs cells slots Q (F0 m pc ls (.int (nI j) :: .ref (sad (20 + i)) :: rest)) :=
  va_ti hexec hb (hz.2.2 i q hq).2 hS (vp_in_nI hj (by omega)) (v := .int (q.2.2.getD j 0)) (by rw [nI_clamp (by omega)]) hdg kk
end ZSTA
theorem zCpn {f : zFi} {i j n a b : Nat} (h : ¬ (a = j ∧ b < n)) : (fun a b => if a = j ∧ b < n then f i b else f a b) a b = f a b := if_neg h
def zKT : List Nat := [27, 23, 2, 16, 8, 17, 8, 1, 1, 21, 1, 1, 21, 1, 1, 5, 6, 7, 20, 1, 1, 1, 25, 8, 3, 1, 1, 1, 4, 0, 28, 1, 1, 1, 1, 1, 1, 1, 1, 1, 1, 1, 1, 1, 1, 1, 1, 1, 1, 1, 1, 1, 1, 1, 1, 1, 1, 1, 1, 1, 1, 1, 1, 1, 1, 1, 1, 1, 1, 1, 1, 1, 1, 0, 0, 0, 0, 0, 0, 0, 0, 0, 0, 0, 0, 0, 0, 0, 0, 0, 0, 0, 0, 0, 0, 0, 0, 0, 0, 0]
def zKN : List Nat := [0, 0, 400, 0, 30, 0, 60, 60, 60, 0, 4, 30, 0, 4, 30, 512, 60, 300, 0, 16, 16, 792, 0, 10, 21, 6, 6, 6, 1, 0, 0, 30, 30, 30, 30, 30, 30, 120, 120, 120, 30, 60, 60, 60, 4, 4, 30, 400, 8, 8, 60, 60, 60, 60, 60, 480, 480, 480, 480, 480, 480, 480, 480, 480, 480, 300, 300, 300, 300, 30, 800, 10, 10240, 0, 0, 0, 0, 0, 0, 0, 0, 0, 0, 0, 0, 0, 0, 0, 0, 0, 0, 0, 0, 0, 0, 0, 0, 0, 0, 0]
def zFR : List (Nat × Nat × Nat) := [(0, 0, 1), (0, 1, 3), (0, 2, 5), (0, 3, 9), (0, 4, 12), (0, 5, 15), (0, 6, 16), (0, 7, 17), (0, 8, 18), (0, 9, 22), (1, 0, 2), (3, 0, 4), (5, 0, 6), (5, 1, 7), (5, 2, 8), (9, 0, 10), (9, 1, 11), (12, 0, 13), (12, 1, 14), (18, 0, 19), (18, 1, 20), (18, 2, 21), (22, 0, 23), (22, 2, 24), (22, 3, 25), (22, 4, 26), (22, 5, 27), (30, 3, 31), (30, 4, 32), (30, 5, 33), (30, 6, 34), (30, 7, 35), (30, 8, 36), (30, 9, 37), (30, 10, 38), (30, 11, 39), (30, 12, 40), (30, 14, 41), (30, 15, 42), (30, 16, 43), (30, 17, 44), (30, 18, 45), (30, 19, 46), (30, 20, 47), (30, 27, 48), (30, 28, 49), (30, 46, 50), (30, 47, 51), (30, 48, 52), (30, 49, 53), (30, 50, 54), (30, 51, 55), (30, 52, 56), (30, 53, 57), (30, 54, 58), (30, 55, 59), (30, 56, 60), (30, 57, 61), (30, 58, 62), (30, 59, 63), (30, 60, 64), (30, 62, 65), (30, 63, 66), (30, 64, 67), (30, 65, 68), (30, 66, 69), (30, 67, 70), (30, 69, 71), (30, 70, 72)]
def zFix (τ : zTy) (fr : zFr) : Prop := (∀ i, i < 100 → τ.2.2.1 i = zKT.getD i 0) ∧ (∀ i, i < 100 → τ.2.2.2 i = zKN.getD i 0) ∧ ∀ q ∈ zFR, fr q.1 q.2.1 = some q.2.2
theorem zk_0 {τ : zTy} {fr : zFr} (h : zFix τ fr) : τ.2.2.1 0 = 27 := h.1 0 (by decide)
theorem zk_1 {τ : zTy} {fr : zFr} (h : zFix τ fr) : τ.2.2.1 1 = 23 := h.1 1 (by decide)
theorem zk_2 {τ : zTy} {fr : zFr} (h : zFix τ fr) : τ.2.2.1 2 = 2 := h.1 2 (by decide)
theorem zn_2 {τ : zTy} {fr : zFr} (h : zFix τ fr) : τ.2.2.2 2 = 400 := h.2.1 2 (by decide)
theorem zk_3 {τ : zTy} {fr : zFr} (h : zFix τ fr) : τ.2.2.1 3 = 16 := h.1 3 (by decide)
theorem zk_4 {τ : zTy} {fr : zFr} (h : zFix τ fr) : τ.2.2.1 4 = 8 := h.1 4 (by decide)
theorem zn_4 {τ : zTy} {fr : zFr} (h : zFix τ fr) : τ.2.2.2 4 = 30 := h.2.1 4 (by decide)
theorem zk_5 {τ : zTy} {fr : zFr} (h : zFix τ fr) : τ.2.2.1 5 = 17 := h.1 5 (by decide)
theorem zk_6 {τ : zTy} {fr : zFr} (h : zFix τ fr) : τ.2.2.1 6 = 8 := h.1 6 (by decide)
theorem zn_6 {τ : zTy} {fr : zFr} (h : zFix τ fr) : τ.2.2.2 6 = 60 := h.2.1 6 (by decide)
theorem zk_7 {τ : zTy} {fr : zFr} (h : zFix τ fr) : τ.2.2.1 7 = 1 := h.1 7 (by decide)
theorem zn_7 {τ : zTy} {fr : zFr} (h : zFix τ fr) : τ.2.2.2 7 = 60 := h.2.1 7 (by decide)
theorem zk_8 {τ : zTy} {fr : zFr} (h : zFix τ fr) : τ.2.2.1 8 = 1 := h.1 8 (by decide)
theorem zn_8 {τ : zTy} {fr : zFr} (h : zFix τ fr) : τ.2.2.2 8 = 60 := h.2.1 8 (by decide)
theorem zk_9 {τ : zTy} {fr : zFr} (h : zFix τ fr) : τ.2.2.1 9 = 21 := h.1 9 (by decide)
theorem zk_10 {τ : zTy} {fr : zFr} (h : zFix τ fr) : τ.2.2.1 10 = 1 := h.1 10 (by decide)
theorem zn_10 {τ : zTy} {fr : zFr} (h : zFix τ fr) : τ.2.2.2 10 = 4 := h.2.1 10 (by decide)
theorem zk_11 {τ : zTy} {fr : zFr} (h : zFix τ fr) : τ.2.2.1 11 = 1 := h.1 11 (by decide)
theorem zn_11 {τ : zTy} {fr : zFr} (h : zFix τ fr) : τ.2.2.2 11 = 30 := h.2.1 11 (by decide)
theorem zk_12 {τ : zTy} {fr : zFr} (h : zFix τ fr) : τ.2.2.1 12 = 21 := h.1 12 (by decide)
theorem zk_13 {τ : zTy} {fr : zFr} (h : zFix τ fr) : τ.2.2.1 13 = 1 := h.1 13 (by decide)
theorem zn_13 {τ : zTy} {fr : zFr} (h : zFix τ fr) : τ.2.2.2 13 = 4 := h.2.1 13 (by decide)
theorem zk_14 {τ : zTy} {fr : zFr} (h : zFix τ fr) : τ.2.2.1 14 = 1 := h.1 14 (by decide)
theorem zn_14 {τ : zTy} {fr : zFr} (h : zFix τ fr) : τ.2.2.2 14 = 30 := h.2.1 14 (by decide)
theorem zk_15 {τ : zTy} {fr : zFr} (h : zFix τ fr) : τ.2.2.1 15 = 5 := h.1 15 (by decide)
theorem zn_15 {τ : zTy} {fr : zFr} (h : zFix τ fr) : τ.2.2.2 15 = 512 := h.2.1 15 (by decide)
theorem zk_16 {τ : zTy} {fr : zFr} (h : zFix τ fr) : τ.2.2.1 16 = 6 := h.1 16 (by decide)
theorem zn_16 {τ : zTy} {fr : zFr} (h : zFix τ fr) : τ.2.2.2 16 = 60 := h.2.1 16 (by decide)
theorem zk_17 {τ : zTy} {fr : zFr} (h : zFix τ fr) : τ.2.2.1 17 = 7 := h.1 17 (by decide)
theorem zn_17 {τ : zTy} {fr : zFr} (h : zFix τ fr) : τ.2.2.2 17 = 300 := h.2.1 17 (by decide)
theorem zk_18 {τ : zTy} {fr : zFr} (h : zFix τ fr) : τ.2.2.1 18 = 20 := h.1 18 (by decide)
theorem zk_19 {τ : zTy} {fr : zFr} (h : zFix τ fr) : τ.2.2.1 19 = 1 := h.1 19 (by decide)
theorem zn_19 {τ : zTy} {fr : zFr} (h : zFix τ fr) : τ.2.2.2 19 = 16 := h.2.1 19 (by decide)
theorem zk_20 {τ : zTy} {fr : zFr} (h : zFix τ fr) : τ.2.2.1 20 = 1 := h.1 20 (by decide)
theorem zn_20 {τ : zTy} {fr : zFr} (h : zFix τ fr) : τ.2.2.2 20 = 16 := h.2.1 20 (by decide)
theorem zk_21 {τ : zTy} {fr : zFr} (h : zFix τ fr) : τ.2.2.1 21 = 1 := h.1 21 (by decide)
theorem zn_21 {τ : zTy} {fr : zFr} (h : zFix τ fr) : τ.2.2.2 21 = 792 := h.2.1 21 (by decide)
theorem zk_22 {τ : zTy} {fr : zFr} (h : zFix τ fr) : τ.2.2.1 22 = 25 := h.1 22 (by decide)
theorem zk_23 {τ : zTy} {fr : zFr} (h : zFix τ fr) : τ.2.2.1 23 = 8 := h.1 23 (by decide)
theorem zn_23 {τ : zTy} {fr : zFr} (h : zFix τ fr) : τ.2.2.2 23 = 10 := h.2.1 23 (by decide)
theorem zk_24 {τ : zTy} {fr : zFr} (h : zFix τ fr) : τ.2.2.1 24 = 3 := h.1 24 (by decide)
theorem zn_24 {τ : zTy} {fr : zFr} (h : zFix τ fr) : τ.2.2.2 24 = 21 := h.2.1 24 (by decide)
theorem zk_25 {τ : zTy} {fr : zFr} (h : zFix τ fr) : τ.2.2.1 25 = 1 := h.1 25 (by decide)
theorem zn_25 {τ : zTy} {fr : zFr} (h : zFix τ fr) : τ.2.2.2 25 = 6 := h.2.1 25 (by decide)
theorem zk_26 {τ : zTy} {fr : zFr} (h : zFix τ fr) : τ.2.2.1 26 = 1 := h.1 26 (by decide)
theorem zn_26 {τ : zTy} {fr : zFr} (h : zFix τ fr) : τ.2.2.2 26 = 6 := h.2.1 26 (by decide)
theorem zk_27 {τ : zTy} {fr : zFr} (h : zFix τ fr) : τ.2.2.1 27 = 1 := h.1 27 (by decide)
theorem zn_27 {τ : zTy} {fr : zFr} (h : zFix τ fr) : τ.2.2.2 27 = 6 := h.2.1 27 (by decide)
theorem zk_28 {τ : zTy} {fr : zFr} (h : zFix τ fr) : τ.2.2.1 28 = 4 := h.1 28 (by decide)
theorem zn_28 {τ : zTy} {fr : zFr} (h : zFix τ fr) : τ.2.2.2 28 = 1 := h.2.1 28 (by decide)
theorem zk_30 {τ : zTy} {fr : zFr} (h : zFix τ fr) : τ.2.2.1 30 = 28 := h.1 30 (by decide)
theorem zk_31 {τ : zTy} {fr : zFr} (h : zFix τ fr) : τ.2.2.1 31 = 1 := h.1 31 (by decide)
theorem zn_31 {τ : zTy} {fr : zFr} (h : zFix τ fr) : τ.2.2.2 31 = 30 := h.2.1 31 (by decide)
theorem zk_32 {τ : zTy} {fr : zFr} (h : zFix τ fr) : τ.2.2.1 32 = 1 := h.1 32 (by decide)
theorem zn_32 {τ : zTy} {fr : zFr} (h : zFix τ fr) : τ.2.2.2 32 = 30 := h.2.1 32 (by decide)
theorem zk_33 {τ : zTy} {fr : zFr} (h : zFix τ fr) : τ.2.2.1 33 = 1 := h.1 33 (by decide)
theorem zn_33 {τ : zTy} {fr : zFr} (h : zFix τ fr) : τ.2.2.2 33 = 30 := h.2.1 33 (by decide)
theorem zk_34 {τ : zTy} {fr : zFr} (h : zFix τ fr) : τ.2.2.1 34 = 1 := h.1 34 (by decide)
theorem zn_34 {τ : zTy} {fr : zFr} (h : zFix τ fr) : τ.2.2.2 34 = 30 := h.2.1 34 (by decide)
theorem zk_35 {τ : zTy} {fr : zFr} (h : zFix τ fr) : τ.2.2.1 35 = 1 := h.1 35 (by decide)
theorem zn_35 {τ : zTy} {fr : zFr} (h : zFix τ fr) : τ.2.2.2 35 = 30 := h.2.1 35 (by decide)
theorem zk_36 {τ : zTy} {fr : zFr} (h : zFix τ fr) : τ.2.2.1 36 = 1 := h.1 36 (by decide)
theorem zn_36 {τ : zTy} {fr : zFr} (h : zFix τ fr) : τ.2.2.2 36 = 30 := h.2.1 36 (by decide)
theorem zk_37 {τ : zTy} {fr : zFr} (h : zFix τ fr) : τ.2.2.1 37 = 1 := h.1 37 (by decide)
theorem zn_37 {τ : zTy} {fr : zFr} (h : zFix τ fr) : τ.2.2.2 37 = 120 := h.2.1 37 (by decide)
theorem zk_38 {τ : zTy} {fr : zFr} (h : zFix τ fr) : τ.2.2.1 38 = 1 := h.1 38 (by decide)
theorem zn_38 {τ : zTy} {fr : zFr} (h : zFix τ fr) : τ.2.2.2 38 = 120 := h.2.1 38 (by decide)
theorem zk_39 {τ : zTy} {fr : zFr} (h : zFix τ fr) : τ.2.2.1 39 = 1 := h.1 39 (by decide)
theorem zn_39 {τ : zTy} {fr : zFr} (h : zFix τ fr) : τ.2.2.2 39 = 120 := h.2.1 39 (by decide)
theorem zk_40 {τ : zTy} {fr : zFr} (h : zFix τ fr) : τ.2.2.1 40 = 1 := h.1 40 (by decide)
theorem zn_40 {τ : zTy} {fr : zFr} (h : zFix τ fr) : τ.2.2.2 40 = 30 := h.2.1 40 (by decide)
theorem zk_41 {τ : zTy} {fr : zFr} (h : zFix τ fr) : τ.2.2.1 41 = 1 := h.1 41 (by decide)
theorem zn_41 {τ : zTy} {fr : zFr} (h : zFix τ fr) : τ.2.2.2 41 = 60 := h.2.1 41 (by decide)
theorem zk_42 {τ : zTy} {fr : zFr} (h : zFix τ fr) : τ.2.2.1 42 = 1 := h.1 42 (by decide)
theorem zn_42 {τ : zTy} {fr : zFr} (h : zFix τ fr) : τ.2.2.2 42 = 60 := h.2.1 42 (by decide)
theorem zk_43 {τ : zTy} {fr : zFr} (h : zFix τ fr) : τ.2.2.1 43 = 1 := h.1 43 (by decide)
theorem zn_43 {τ : zTy} {fr : zFr} (h : zFix τ fr) : τ.2.2.2 43 = 60 := h.2.1 43 (by decide)
theorem zk_44 {τ : zTy} {fr : zFr} (h : zFix τ fr) : τ.2.2.1 44 = 1 := h.1 44 (by decide)
theorem zn_44 {τ : zTy} {fr : zFr} (h : zFix τ fr) : τ.2.2.2 44 = 4 := h.2.1 44 (by decide)
theorem zk_45 {τ : zTy} {fr : zFr} (h : zFix τ fr) : τ.2.2.1 45 = 1 := h.1 45 (by decide)
theorem zn_45 {τ : zTy} {fr : zFr} (h : zFix τ fr) : τ.2.2.2 45 = 4 := h.2.1 45 (by decide)
theorem zk_46 {τ : zTy} {fr : zFr} (h : zFix τ fr) : τ.2.2.1 46 = 1 := h.1 46 (by decide)
theorem zn_46 {τ : zTy} {fr : zFr} (h : zFix τ fr) : τ.2.2.2 46 = 30 := h.2.1 46 (by decide)
theorem zk_47 {τ : zTy} {fr : zFr} (h : zFix τ fr) : τ.2.2.1 47 = 1 := h.1 47 (by decide)
theorem zn_47 {τ : zTy} {fr : zFr} (h : zFix τ fr) : τ.2.2.2 47 = 400 := h.2.1 47 (by decide)
theorem zk_48 {τ : zTy} {fr : zFr} (h : zFix τ fr) : τ.2.2.1 48 = 1 := h.1 48 (by decide)
theorem zn_48 {τ : zTy} {fr : zFr} (h : zFix τ fr) : τ.2.2.2 48 = 8 := h.2.1 48 (by decide)
theorem zk_49 {τ : zTy} {fr : zFr} (h : zFix τ fr) : τ.2.2.1 49 = 1 := h.1 49 (by decide)
theorem zn_49 {τ : zTy} {fr : zFr} (h : zFix τ fr) : τ.2.2.2 49 = 8 := h.2.1 49 (by decide)
theorem zk_50 {τ : zTy} {fr : zFr} (h : zFix τ fr) : τ.2.2.1 50 = 1 := h.1 50 (by decide)
theorem zn_50 {τ : zTy} {fr : zFr} (h : zFix τ fr) : τ.2.2.2 50 = 60 := h.2.1 50 (by decide)
theorem zk_51 {τ : zTy} {fr : zFr} (h : zFix τ fr) : τ.2.2.1 51 = 1 := h.1 51 (by decide)
theorem zn_51 {τ : zTy} {fr : zFr} (h : zFix τ fr) : τ.2.2.2 51 = 60 := h.2.1 51 (by decide)
theorem zk_52 {τ : zTy} {fr : zFr} (h : zFix τ fr) : τ.2.2.1 52 = 1 := h.1 52 (by decide)
theorem zn_52 {τ : zTy} {fr : zFr} (h : zFix τ fr) : τ.2.2.2 52 = 60 := h.2.1 52 (by decide)
theorem zk_53 {τ : zTy} {fr : zFr} (h : zFix τ fr) : τ.2.2.1 53 = 1 := h.1 53 (by decide)
theorem zn_53 {τ : zTy} {fr : zFr} (h : zFix τ fr) : τ.2.2.2 53 = 60 := h.2.1 53 (by decide)
theorem zk_54 {τ : zTy} {fr : zFr} (h : zFix τ fr) : τ.2.2.1 54 = 1 := h.1 54 (by decide)
theorem zn_54 {τ : zTy} {fr : zFr} (h : zFix τ fr) : τ.2.2.2 54 = 60 := h.2.1 54 (by decide)
theorem zk_55 {τ : zTy} {fr : zFr} (h : zFix τ fr) : τ.2.2.1 55 = 1 := h.1 55 (by decide)
theorem zn_55 {τ : zTy} {fr : zFr} (h : zFix τ fr) : τ.2.2.2 55 = 480 := h.2.1 55 (by decide)
theorem zk_56 {τ : zTy} {fr : zFr} (h : zFix τ fr) : τ.2.2.1 56 = 1 := h.1 56 (by decide)
theorem zn_56 {τ : zTy} {fr : zFr} (h : zFix τ fr) : τ.2.2.2 56 = 480 := h.2.1 56 (by decide)
theorem zk_57 {τ : zTy} {fr : zFr} (h : zFix τ fr) : τ.2.2.1 57 = 1 := h.1 57 (by decide)
theorem zn_57 {τ : zTy} {fr : zFr} (h : zFix τ fr) : τ.2.2.2 57 = 480 := h.2.1 57 (by decide)
theorem zk_58 {τ : zTy} {fr : zFr} (h : zFix τ fr) : τ.2.2.1 58 = 1 := h.1 58 (by decide)
theorem zn_58 {τ : zTy} {fr : zFr} (h : zFix τ fr) : τ.2.2.2 58 = 480 := h.2.1 58 (by decide)
theorem zk_59 {τ : zTy} {fr : zFr} (h : zFix τ fr) : τ.2.2.1 59 = 1 := h.1 59 (by decide)
theorem zn_59 {τ : zTy} {fr : zFr} (h : zFix τ fr) : τ.2.2.2 59 = 480 := h.2.1 59 (by decide)
theorem zk_60 {τ : zTy} {fr : zFr} (h : zFix τ fr) : τ.2.2.1 60 = 1 := h.1 60 (by decide)
theorem zn_60 {τ : zTy} {fr : zFr} (h : zFix τ fr) : τ.2.2.2 60 = 480 := h.2.1 60 (by decide)
theorem zk_61 {τ : zTy} {fr : zFr} (h : zFix τ fr) : τ.2.2.1 61 = 1 := h.1 61 (by decide)
theorem zn_61 {τ : zTy} {fr : zFr} (h : zFix τ fr) : τ.2.2.2 61 = 480 := h.2.1 61 (by decide)
theorem zk_62 {τ : zTy} {fr : zFr} (h : zFix τ fr) : τ.2.2.1 62 = 1 := h.1 62 (by decide)
theorem zn_62 {τ : zTy} {fr : zFr} (h : zFix τ fr) : τ.2.2.2 62 = 480 := h.2.1 62 (by decide)
theorem zk_63 {τ : zTy} {fr : zFr} (h : zFix τ fr) : τ.2.2.1 63 = 1 := h.1 63 (by decide)
theorem zn_63 {τ : zTy} {fr : zFr} (h : zFix τ fr) : τ.2.2.2 63 = 480 := h.2.1 63 (by decide)
theorem zk_64 {τ : zTy} {fr : zFr} (h : zFix τ fr) : τ.2.2.1 64 = 1 := h.1 64 (by decide)
theorem zn_64 {τ : zTy} {fr : zFr} (h : zFix τ fr) : τ.2.2.2 64 = 480 := h.2.1 64 (by decide)
theorem zk_65 {τ : zTy} {fr : zFr} (h : zFix τ fr) : τ.2.2.1 65 = 1 := h.1 65 (by decide)
theorem zn_65 {τ : zTy} {fr : zFr} (h : zFix τ fr) : τ.2.2.2 65 = 300 := h.2.1 65 (by decide)
theorem zk_66 {τ : zTy} {fr : zFr} (h : zFix τ fr) : τ.2.2.1 66 = 1 := h.1 66 (by decide)
theorem zn_66 {τ : zTy} {fr : zFr} (h : zFix τ fr) : τ.2.2.2 66 = 300 := h.2.1 66 (by decide)
theorem zk_67 {τ : zTy} {fr : zFr} (h : zFix τ fr) : τ.2.2.1 67 = 1 := h.1 67 (by decide)
theorem zn_67 {τ : zTy} {fr : zFr} (h : zFix τ fr) : τ.2.2.2 67 = 300 := h.2.1 67 (by decide)
theorem zk_68 {τ : zTy} {fr : zFr} (h : zFix τ fr) : τ.2.2.1 68 = 1 := h.1 68 (by decide)
theorem zn_68 {τ : zTy} {fr : zFr} (h : zFix τ fr) : τ.2.2.2 68 = 300 := h.2.1 68 (by decide)
theorem zk_69 {τ : zTy} {fr : zFr} (h : zFix τ fr) : τ.2.2.1 69 = 1 := h.1 69 (by decide)
theorem zn_69 {τ : zTy} {fr : zFr} (h : zFix τ fr) : τ.2.2.2 69 = 30 := h.2.1 69 (by decide)
theorem zk_70 {τ : zTy} {fr : zFr} (h : zFix τ fr) : τ.2.2.1 70 = 1 := h.1 70 (by decide)
theorem zn_70 {τ : zTy} {fr : zFr} (h : zFix τ fr) : τ.2.2.2 70 = 800 := h.2.1 70 (by decide)
theorem zk_71 {τ : zTy} {fr : zFr} (h : zFix τ fr) : τ.2.2.1 71 = 1 := h.1 71 (by decide)
theorem zn_71 {τ : zTy} {fr : zFr} (h : zFix τ fr) : τ.2.2.2 71 = 10 := h.2.1 71 (by decide)
theorem zk_72 {τ : zTy} {fr : zFr} (h : zFix τ fr) : τ.2.2.1 72 = 1 := h.1 72 (by decide)
theorem zn_72 {τ : zTy} {fr : zFr} (h : zFix τ fr) : τ.2.2.2 72 = 10240 := h.2.1 72 (by decide)
theorem zr_0_0 {τ : zTy} {fr : zFr} (h : zFix τ fr) : fr 0 0 = some 1 := h.2.2 (0, 0, 1) (List.mem_of_getElem? (i := 0) rfl)
theorem zr_0_1 {τ : zTy} {fr : zFr} (h : zFix τ fr) : fr 0 1 = some 3 := h.2.2 (0, 1, 3) (List.mem_of_getElem? (i := 1) rfl)
theorem zr_0_2 {τ : zTy} {fr : zFr} (h : zFix τ fr) : fr 0 2 = some 5 := h.2.2 (0, 2, 5) (List.mem_of_getElem? (i := 2) rfl)
theorem zr_0_3 {τ : zTy} {fr : zFr} (h : zFix τ fr) : fr 0 3 = some 9 := h.2.2 (0, 3, 9) (List.mem_of_getElem? (i := 3) rfl)
theorem zr_0_4 {τ : zTy} {fr : zFr} (h : zFix τ fr) : fr 0 4 = some 12 := h.2.2 (0, 4, 12) (List.mem_of_getElem? (i := 4) rfl)
theorem zr_0_5 {τ : zTy} {fr : zFr} (h : zFix τ fr) : fr 0 5 = some 15 := h.2.2 (0, 5, 15) (List.mem_of_getElem? (i := 5) rfl)
theorem zr_0_6 {τ : zTy} {fr : zFr} (h : zFix τ fr) : fr 0 6 = some 16 := h.2.2 (0, 6, 16) (List.mem_of_getElem? (i := 6) rfl)
theorem zr_0_7 {τ : zTy} {fr : zFr} (h : zFix τ fr) : fr 0 7 = some 17 := h.2.2 (0, 7, 17) (List.mem_of_getElem? (i := 7) rfl)
theorem zr_0_8 {τ : zTy} {fr : zFr} (h : zFix τ fr) : fr 0 8 = some 18 := h.2.2 (0, 8, 18) (List.mem_of_getElem? (i := 8) rfl)
theorem zr_0_9 {τ : zTy} {fr : zFr} (h : zFix τ fr) : fr 0 9 = some 22 := h.2.2 (0, 9, 22) (List.mem_of_getElem? (i := 9) rfl)
theorem zr_1_0 {τ : zTy} {fr : zFr} (h : zFix τ fr) : fr 1 0 = some 2 := h.2.2 (1, 0, 2) (List.mem_of_getElem? (i := 10) rfl)
theorem zr_3_0 {τ : zTy} {fr : zFr} (h : zFix τ fr) : fr 3 0 = some 4 := h.2.2 (3, 0, 4) (List.mem_of_getElem? (i := 11) rfl)
theorem zr_5_0 {τ : zTy} {fr : zFr} (h : zFix τ fr) : fr 5 0 = some 6 := h.2.2 (5, 0, 6) (List.mem_of_getElem? (i := 12) rfl)
theorem zr_5_1 {τ : zTy} {fr : zFr} (h : zFix τ fr) : fr 5 1 = some 7 := h.2.2 (5, 1, 7) (List.mem_of_getElem? (i := 13) rfl)
theorem zr_5_2 {τ : zTy} {fr : zFr} (h : zFix τ fr) : fr 5 2 = some 8 := h.2.2 (5, 2, 8) (List.mem_of_getElem? (i := 14) rfl)
theorem zr_9_0 {τ : zTy} {fr : zFr} (h : zFix τ fr) : fr 9 0 = some 10 := h.2.2 (9, 0, 10) (List.mem_of_getElem? (i := 15) rfl)
theorem zr_9_1 {τ : zTy} {fr : zFr} (h : zFix τ fr) : fr 9 1 = some 11 := h.2.2 (9, 1, 11) (List.mem_of_getElem? (i := 16) rfl)
theorem zr_12_0 {τ : zTy} {fr : zFr} (h : zFix τ fr) : fr 12 0 = some 13 := h.2.2 (12, 0, 13) (List.mem_of_getElem? (i := 17) rfl)
theorem zr_12_1 {τ : zTy} {fr : zFr} (h : zFix τ fr) : fr 12 1 = some 14 := h.2.2 (12, 1, 14) (List.mem_of_getElem? (i := 18) rfl)
theorem zr_18_0 {τ : zTy} {fr : zFr} (h : zFix τ fr) : fr 18 0 = some 19 := h.2.2 (18, 0, 19) (List.mem_of_getElem? (i := 19) rfl)
theorem zr_18_1 {τ : zTy} {fr : zFr} (h : zFix τ fr) : fr 18 1 = some 20 := h.2.2 (18, 1, 20) (List.mem_of_getElem? (i := 20) rfl)
theorem zr_18_2 {τ : zTy} {fr : zFr} (h : zFix τ fr) : fr 18 2 = some 21 := h.2.2 (18, 2, 21) (List.mem_of_getElem? (i := 21) rfl)
theorem zr_22_0 {τ : zTy} {fr : zFr} (h : zFix τ fr) : fr 22 0 = some 23 := h.2.2 (22, 0, 23) (List.mem_of_getElem? (i := 22) rfl)
theorem zr_22_2 {τ : zTy} {fr : zFr} (h : zFix τ fr) : fr 22 2 = some 24 := h.2.2 (22, 2, 24) (List.mem_of_getElem? (i := 23) rfl)
theorem zr_22_3 {τ : zTy} {fr : zFr} (h : zFix τ fr) : fr 22 3 = some 25 := h.2.2 (22, 3, 25) (List.mem_of_getElem? (i := 24) rfl)
theorem zr_22_4 {τ : zTy} {fr : zFr} (h : zFix τ fr) : fr 22 4 = some 26 := h.2.2 (22, 4, 26) (List.mem_of_getElem? (i := 25) rfl)
theorem zr_22_5 {τ : zTy} {fr : zFr} (h : zFix τ fr) : fr 22 5 = some 27 := h.2.2 (22, 5, 27) (List.mem_of_getElem? (i := 26) rfl)
theorem zr_30_3 {τ : zTy} {fr : zFr} (h : zFix τ fr) : fr 30 3 = some 31 := h.2.2 (30, 3, 31) (List.mem_of_getElem? (i := 27) rfl)
theorem zr_30_4 {τ : zTy} {fr : zFr} (h : zFix τ fr) : fr 30 4 = some 32 := h.2.2 (30, 4, 32) (List.mem_of_getElem? (i := 28) rfl)
theorem zr_30_5 {τ : zTy} {fr : zFr} (h : zFix τ fr) : fr 30 5 = some 33 := h.2.2 (30, 5, 33) (List.mem_of_getElem? (i := 29) rfl)
theorem zr_30_6 {τ : zTy} {fr : zFr} (h : zFix τ fr) : fr 30 6 = some 34 := h.2.2 (30, 6, 34) (List.mem_of_getElem? (i := 30) rfl)
theorem zr_30_7 {τ : zTy} {fr : zFr} (h : zFix τ fr) : fr 30 7 = some 35 := h.2.2 (30, 7, 35) (List.mem_of_getElem? (i := 31) rfl)
theorem zr_30_8 {τ : zTy} {fr : zFr} (h : zFix τ fr) : fr 30 8 = some 36 := h.2.2 (30, 8, 36) (List.mem_of_getElem? (i := 32) rfl)
theorem zr_30_9 {τ : zTy} {fr : zFr} (h : zFix τ fr) : fr 30 9 = some 37 := h.2.2 (30, 9, 37) (List.mem_of_getElem? (i := 33) rfl)
theorem zr_30_10 {τ : zTy} {fr : zFr} (h : zFix τ fr) : fr 30 10 = some 38 := h.2.2 (30, 10, 38) (List.mem_of_getElem? (i := 34) rfl)
theorem zr_30_11 {τ : zTy} {fr : zFr} (h : zFix τ fr) : fr 30 11 = some 39 := h.2.2 (30, 11, 39) (List.mem_of_getElem? (i := 35) rfl)
theorem zr_30_12 {τ : zTy} {fr : zFr} (h : zFix τ fr) : fr 30 12 = some 40 := h.2.2 (30, 12, 40) (List.mem_of_getElem? (i := 36) rfl)
theorem zr_30_14 {τ : zTy} {fr : zFr} (h : zFix τ fr) : fr 30 14 = some 41 := h.2.2 (30, 14, 41) (List.mem_of_getElem? (i := 37) rfl)
theorem zr_30_15 {τ : zTy} {fr : zFr} (h : zFix τ fr) : fr 30 15 = some 42 := h.2.2 (30, 15, 42) (List.mem_of_getElem? (i := 38) rfl)
theorem zr_30_16 {τ : zTy} {fr : zFr} (h : zFix τ fr) : fr 30 16 = some 43 := h.2.2 (30, 16, 43) (List.mem_of_getElem? (i := 39) rfl)
theorem zr_30_17 {τ : zTy} {fr : zFr} (h : zFix τ fr) : fr 30 17 = some 44 := h.2.2 (30, 17, 44) (List.mem_of_getElem? (i := 40) rfl)
theorem zr_30_18 {τ : zTy} {fr : zFr} (h : zFix τ fr) : fr 30 18 = some 45 := h.2.2 (30, 18, 45) (List.mem_of_getElem? (i := 41) rfl)
theorem zr_30_19 {τ : zTy} {fr : zFr} (h : zFix τ fr) : fr 30 19 = some 46 := h.2.2 (30, 19, 46) (List.mem_of_getElem? (i := 42) rfl)
theorem zr_30_20 {τ : zTy} {fr : zFr} (h : zFix τ fr) : fr 30 20 = some 47 := h.2.2 (30, 20, 47) (List.mem_of_getElem? (i := 43) rfl)
theorem zr_30_27 {τ : zTy} {fr : zFr} (h : zFix τ fr) : fr 30 27 = some 48 := h.2.2 (30, 27, 48) (List.mem_of_getElem? (i := 44) rfl)
theorem zr_30_28 {τ : zTy} {fr : zFr} (h : zFix τ fr) : fr 30 28 = some 49 := h.2.2 (30, 28, 49) (List.mem_of_getElem? (i := 45) rfl)
theorem zr_30_46 {τ : zTy} {fr : zFr} (h : zFix τ fr) : fr 30 46 = some 50 := h.2.2 (30, 46, 50) (List.mem_of_getElem? (i := 46) rfl)
theorem zr_30_47 {τ : zTy} {fr : zFr} (h : zFix τ fr) : fr 30 47 = some 51 := h.2.2 (30, 47, 51) (List.mem_of_getElem? (i := 47) rfl)
theorem zr_30_48 {τ : zTy} {fr : zFr} (h : zFix τ fr) : fr 30 48 = some 52 := h.2.2 (30, 48, 52) (List.mem_of_getElem? (i := 48) rfl)
theorem zr_30_49 {τ : zTy} {fr : zFr} (h : zFix τ fr) : fr 30 49 = some 53 := h.2.2 (30, 49, 53) (List.mem_of_getElem? (i := 49) rfl)
theorem zr_30_50 {τ : zTy} {fr : zFr} (h : zFix τ fr) : fr 30 50 = some 54 := h.2.2 (30, 50, 54) (List.mem_of_getElem? (i := 50) rfl)
theorem zr_30_51 {τ : zTy} {fr : zFr} (h : zFix τ fr) : fr 30 51 = some 55 := h.2.2 (30, 51, 55) (List.mem_of_getElem? (i := 51) rfl)
theorem zr_30_52 {τ : zTy} {fr : zFr} (h : zFix τ fr) : fr 30 52 = some 56 := h.2.2 (30, 52, 56) (List.mem_of_getElem? (i := 52) rfl)
theorem zr_30_53 {τ : zTy} {fr : zFr} (h : zFix τ fr) : fr 30 53 = some 57 := h.2.2 (30, 53, 57) (List.mem_of_getElem? (i := 53) rfl)
theorem zr_30_54 {τ : zTy} {fr : zFr} (h : zFix τ fr) : fr 30 54 = some 58 := h.2.2 (30, 54, 58) (List.mem_of_getElem? (i := 54) rfl)
theorem zr_30_55 {τ : zTy} {fr : zFr} (h : zFix τ fr) : fr 30 55 = some 59 := h.2.2 (30, 55, 59) (List.mem_of_getElem? (i := 55) rfl)
theorem zr_30_56 {τ : zTy} {fr : zFr} (h : zFix τ fr) : fr 30 56 = some 60 := h.2.2 (30, 56, 60) (List.mem_of_getElem? (i := 56) rfl)
theorem zr_30_57 {τ : zTy} {fr : zFr} (h : zFix τ fr) : fr 30 57 = some 61 := h.2.2 (30, 57, 61) (List.mem_of_getElem? (i := 57) rfl)
theorem zr_30_58 {τ : zTy} {fr : zFr} (h : zFix τ fr) : fr 30 58 = some 62 := h.2.2 (30, 58, 62) (List.mem_of_getElem? (i := 58) rfl)
theorem zr_30_59 {τ : zTy} {fr : zFr} (h : zFix τ fr) : fr 30 59 = some 63 := h.2.2 (30, 59, 63) (List.mem_of_getElem? (i := 59) rfl)
theorem zr_30_60 {τ : zTy} {fr : zFr} (h : zFix τ fr) : fr 30 60 = some 64 := h.2.2 (30, 60, 64) (List.mem_of_getElem? (i := 60) rfl)
theorem zr_30_62 {τ : zTy} {fr : zFr} (h : zFix τ fr) : fr 30 62 = some 65 := h.2.2 (30, 62, 65) (List.mem_of_getElem? (i := 61) rfl)
theorem zr_30_63 {τ : zTy} {fr : zFr} (h : zFix τ fr) : fr 30 63 = some 66 := h.2.2 (30, 63, 66) (List.mem_of_getElem? (i := 62) rfl)
theorem zr_30_64 {τ : zTy} {fr : zFr} (h : zFix τ fr) : fr 30 64 = some 67 := h.2.2 (30, 64, 67) (List.mem_of_getElem? (i := 63) rfl)
theorem zr_30_65 {τ : zTy} {fr : zFr} (h : zFix τ fr) : fr 30 65 = some 68 := h.2.2 (30, 65, 68) (List.mem_of_getElem? (i := 64) rfl)
theorem zr_30_66 {τ : zTy} {fr : zFr} (h : zFix τ fr) : fr 30 66 = some 69 := h.2.2 (30, 66, 69) (List.mem_of_getElem? (i := 65) rfl)
theorem zr_30_67 {τ : zTy} {fr : zFr} (h : zFix τ fr) : fr 30 67 = some 70 := h.2.2 (30, 67, 70) (List.mem_of_getElem? (i := 66) rfl)
theorem zr_30_69 {τ : zTy} {fr : zFr} (h : zFix τ fr) : fr 30 69 = some 71 := h.2.2 (30, 69, 71) (List.mem_of_getElem? (i := 67) rfl)
theorem zr_30_70 {τ : zTy} {fr : zFr} (h : zFix τ fr) : fr 30 70 = some 72 := h.2.2 (30, 70, 72) (List.mem_of_getElem? (i := 68) rfl)
theorem zFR_a : ∀ q ∈ zFR, q.1 < 100 ∧ (q.1 = 0 ∨ q.1 = 1 ∨ q.1 = 3 ∨ q.1 = 5 ∨ q.1 = 9 ∨ q.1 = 12 ∨ q.1 = 18 ∨ q.1 = 22 ∨ q.1 = 30) := by decide
theorem zFix.ur {τ : zTy} {fr : zFr} {i k : Nat} {v : Option Nat} (h : zFix τ fr) (hi : i ≠ 0 ∧ i ≠ 1 ∧ i ≠ 3 ∧ i ≠ 5 ∧ i ≠ 9 ∧ i ≠ 12 ∧ i ≠ 18 ∧ i ≠ 22 ∧ i ≠ 30) : zFix τ (zur fr i k v) := by
  refine ⟨h.1, h.2.1, fun q hq => ?_⟩
  have := zFR_a q hq
  rw [zur_n (fun e => by omega)]
  exact h.2.2 q hq
theorem zFix.up {τ : zTy} {fr : zFr} {i q t n : Nat} {cA : ClassId} (h : zFix τ fr) (hi : 100 ≤ i) : zFix (va_up τ.1 i q, va_up τ.2.1 i cA, va_up τ.2.2.1 i t, va_up τ.2.2.2 i n) (va_up fr i (fun _ => none)) := by
  refine ⟨fun j hj => ?_, fun j hj => ?_, fun q hq => ?_⟩
  · show va_up τ.2.2.1 i t j = _
    rw [va_up_ne _ _ (by omega)]; exact h.1 j hj
  · show va_up τ.2.2.2 i n j = _
    rw [va_up_ne _ _ (by omega)]; exact h.2.1 j hj
  · have := zFR_a q hq
    rw [va_up_ne _ _ (by omega)]; exact h.2.2 q hq
