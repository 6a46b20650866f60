/-! ===== ROWS OVER THE WORLD BY NUMBERS ===== -/
def zu (f : zFi) (i k : Nat) (v : Int32) : zFi := fun a b => if a = i ∧ b = k then v else f a b
def zur (f : zFr) (i k : Nat) (v : Option Nat) : zFr := fun a b => if a = i ∧ b = k then v else f a b
theorem zu_s {f : zFi} {i k : Nat} {v : Int32} : zu f i k v i k = v := by simp [zu]
theorem zu_n {f : zFi} {i k a b : Nat} {v : Int32} (h : ¬ (a = i ∧ b = k)) : zu f i k v a b = f a b := by simp [zu, h]
theorem zu_i {f : zFi} {i k a b : Nat} {v : Int32} (h : a ≠ i) : zu f i k v a b = f a b := by simp [zu, h]
theorem zu_r {f : zFi} {i k a : Nat} {v : Int32} (h : a ≠ i) : zu f i k v a = f a := by funext b; simp [zu, h]
theorem zur_s {f : zFr} {i k : Nat} {v : Option Nat} : zur f i k v i k = v := by simp [zur]
theorem zur_n {f : zFr} {i k a b : Nat} {v : Option Nat} (h : ¬ (a = i ∧ b = k)) : zur f i k v a b = f a b := by simp [zur, h]
theorem zur_r {f : zFr} {i k a : Nat} {v : Option Nat} (h : a ≠ i) : zur f i k v a = f a := by funext b; simp [zur, h]
theorem zu_row {f : zFi} {i k : Nat} {v : Int32} : zu f i k v i = fun q => if q = k then v else f i q := by funext q; simp [zu]
theorem zur_row {f : zFr} {i k : Nat} {v : Option Nat} : zur f i k v i = fun q => if q = k then v else f i q := by funext q; simp [zur]
theorem zur_cl {τ : zTy} {fr : zFr} {i k r : Nat} (h : zCl τ fr) (hr : τ.2.2.1 r ≠ 0) : zCl τ (zur fr i k (some r)) := by
  intro a b q ha hq
  by_cases hab : a = i ∧ b = k
  · obtain ⟨rfl, rfl⟩ := hab
    rw [zur_s] at hq
    cases hq
    exact hr
  · rw [zur_n hab] at hq
    exact h a b q ha hq
theorem zur_cln {τ : zTy} {fr : zFr} {i k : Nat} (h : zCl τ fr) : zCl τ (zur fr i k none) := by
  intro a b q ha hq
  by_cases hab : a = i ∧ b = k
  · obtain ⟨rfl, rfl⟩ := hab
    rw [zur_s] at hq
    cases hq
  · rw [zur_n hab] at hq
    exact h a b q ha hq
section ZROW
variable {p : Program} {l : Launch} {e : Env} {R : Room} {s : State} {m : MethodId} {args : Array Value} {below : List Frame} {meth : Method} {c : Code} {H : Heap} {locs : List Loc} {cells slots : Nat} {Q : State → Prop}
variable {cc : ByteArray} {pc : Nat} {ls : Array Slot} {rest : List Value} {D : va_G} {A : Nat → Prop} {H0 : Heap} {τ : zTy} {fi : zFi} {fr : zFr} {ol : Int64}
theorem zGet (hexec : p.tables.exec = Jvm.exec) (hb : c.code = cc) {own ref C : String} {T : u_T} {N ci index : Nat} {Ts : List Cond} (hts : ∀ w ∈ Ts, w.before args s = true) (hin : ∀ w ∈ u_ws C T N, w ∈ Ts) (hown : s.vm.findClass own = some m.cls) (hH : zH D A τ fi fr ol s H) {i : Nat} (hk : τ.2.2.1 i = ci + 16) (hc : vwCl[ci]? = some (C, T, N)) (k : Nat) (hkN : k < N) {b : Bool} (hsl : (zSl ci)[k]? = some b) (hlink : (Cond.fieldLink own index ref (T k).2.1 (T k).2.2.1).before args s = true) (hsame : ∀ x, s.fieldFound? (T k).1 (T k).2.1 (T k).2.2.1 = some x → s.fieldFound? ref (T k).2.1 (T k).2.2.1 = some x) (hdg : decode cc pc = .ok (.getfield index, 3))
    {v : Value} (hv : (if b then va_rf ((fr i k).map τ.1) else .int (fi i k)) = v) (kk : W p l e R s m args below meth c H locs cells slots Q (F0 m (pc + 3) ls (v :: rest))) : W p l e R s m args below meth c H locs cells slots Q (F0 m pc ls (.ref (τ.1 i) :: rest)) := by
  have hP := hH.one (i := i) (by omega)
  refine va_get (D := D) (ci := ci) (v := v) hexec hb hts hin hown hH.2.1 hP 0 (fs := zV τ.1 (fi i) (fr i) (zSl ci) 0) ?_ hc k hkN hlink hsame ?_ hdg kk
  · show some (τ.1 i, zE τ fi fr ol i) = _
    rw [zE_obj hk]
  · rw [zV_get _ 0 k b hsl, Nat.zero_add, hv]
theorem zPutI (hexec : p.tables.exec = Jvm.exec) (hb : c.code = cc) {own ref C : String} {T : u_T} {N ci index : Nat} {Ts : List Cond} (hts : ∀ w ∈ Ts, w.before args s = true) (hin : ∀ w ∈ u_ws C T N, w ∈ Ts) (ty0 : Nat → FieldType) (hty : ∀ k, k < N → parseFieldDescriptor (T k).2.2.1 = some (ty0 k)) (hnm : ∀ a, a < N → ∀ b, b < N → a ≠ b → (T a).2.1 ≠ (T b).2.1) (hown : s.vm.findClass own = some m.cls) (hH : zH D A τ fi fr ol s H) (hS : va_S A H0 H locs) {i : Nat} (hk : τ.2.2.1 i = ci + 16) (hc : vwCl[ci]? = some (C, T, N)) (k : Nat) (hkN : k < N) (hsl : (zSl ci)[k]? = some false) (hlink : (Cond.fieldLink own index ref (T k).2.1 (T k).2.2.1).before args s = true) (hsame : ∀ x, s.fieldFound? (T k).1 (T k).2.1 (T k).2.2.1 = some x → s.fieldFound? ref (T k).2.1 (T k).2.2.1 = some x) (hfin : (T k).2.2.2 = false) {ty : FieldType} {v : Int32} (hd : parseFieldDescriptor (T k).2.2.1 = some ty) (hn : narrow ty (.int v) = .int v) (hfit : fits ty (.int v) = true) (hdg : decode cc pc = .ok (.putfield index, 3))
    (kk : ∀ (H1 : Heap) (locs1 : List Loc), zH D A τ (zu fi i k v) fr ol s H1 → va_S A H0 H1 locs1 → W p l e R s m args below meth c H1 locs1 cells slots Q (F0 m (pc + 3) ls rest)) : W p l e R s m args below meth c H locs cells slots Q (F0 m pc ls (.int v :: .ref (τ.1 i) :: rest)) := by
  obtain ⟨ws, q, hP, hD, hq, -, hw⟩ := hH.wr (i := i) (by omega) (zu fi i k v) fr ol (fun j hj => zE_cg (zu_r hj) rfl) hH.2.2.2
  rw [zE_obj hk] at hq
  refine va_put (D := D) (ci := ci) (v := .int v) (ty := ty) hexec hb hts hin ty0 hty hnm hown hH.2.1 hP hD hS q hq hc k hkN hlink hsame hfin hd hn hfit (by rw [zV_len]; exact (List.getElem?_eq_some_iff.mp hsl).1) hdg (fun H1 locs1 a b c => kk H1 locs1 (hw H1 ?_ ?_) c)
  · rw [zE_obj hk, zu_row]; rw [zV_seti _ 0 k hsl, Nat.zero_add] at a; exact a
  · rw [zE_obj hk, zu_row]; rw [zV_seti _ 0 k hsl, Nat.zero_add] at b; exact b
theorem zPutR (hexec : p.tables.exec = Jvm.exec) (hb : c.code = cc) {own ref C : String} {T : u_T} {N ci index : Nat} {Ts : List Cond} (hts : ∀ w ∈ Ts, w.before args s = true) (hin : ∀ w ∈ u_ws C T N, w ∈ Ts) (ty0 : Nat → FieldType) (hty : ∀ k, k < N → parseFieldDescriptor (T k).2.2.1 = some (ty0 k)) (hnm : ∀ a, a < N → ∀ b, b < N → a ≠ b → (T a).2.1 ≠ (T b).2.1) (hown : s.vm.findClass own = some m.cls) (hH : zH D A τ fi fr ol s H) (hS : va_S A H0 H locs) {i : Nat} (hk : τ.2.2.1 i = ci + 16) (hc : vwCl[ci]? = some (C, T, N)) (k : Nat) (hkN : k < N) (hsl : (zSl ci)[k]? = some true) (hlink : (Cond.fieldLink own index ref (T k).2.1 (T k).2.2.1).before args s = true) (hsame : ∀ x, s.fieldFound? (T k).1 (T k).2.1 (T k).2.2.1 = some x → s.fieldFound? ref (T k).2.1 (T k).2.2.1 = some x) (hfin : (T k).2.2.2 = false) {ty : FieldType} {r : Nat} (hr : τ.2.2.1 r ≠ 0) (hd : parseFieldDescriptor (T k).2.2.1 = some ty) (hn : narrow ty (.ref (τ.1 r)) = .ref (τ.1 r)) (hfit : fits ty (.ref (τ.1 r)) = true) (hdg : decode cc pc = .ok (.putfield index, 3))
    (kk : ∀ (H1 : Heap) (locs1 : List Loc), zH D A τ fi (zur fr i k (some r)) ol s H1 → va_S A H0 H1 locs1 → W p l e R s m args below meth c H1 locs1 cells slots Q (F0 m (pc + 3) ls rest)) : W p l e R s m args below meth c H locs cells slots Q (F0 m pc ls (.ref (τ.1 r) :: .ref (τ.1 i) :: rest)) := by
  obtain ⟨ws, q, hP, hD, hq, -, hw⟩ := hH.wr (i := i) (by omega) fi (zur fr i k (some r)) ol (fun j hj => zE_cg rfl (zur_r hj)) (zur_cl hH.2.2.2 hr)
  rw [zE_obj hk] at hq
  have key : (zV τ.1 (fi i) (fr i) (zSl ci) 0).set k (.ref (τ.1 r)) = zV τ.1 (fi i) (fun q => if q = k then some r else fr i q) (zSl ci) 0 := by
    have := zV_setr (ad := τ.1) (fi := fi i) (fr := fr i) (r := some r) _ 0 k hsl
    rw [Nat.zero_add] at this
    exact this
  refine va_put (D := D) (ci := ci) (v := .ref (τ.1 r)) (ty := ty) hexec hb hts hin ty0 hty hnm hown hH.2.1 hP hD hS q hq hc k hkN hlink hsame hfin hd hn hfit (by rw [zV_len]; exact (List.getElem?_eq_some_iff.mp hsl).1) hdg (fun H1 locs1 a b c => kk H1 locs1 (hw H1 ?_ ?_) c)
  · rw [zE_obj hk, zur_row]; rw [key] at a; exact a
  · rw [zE_obj hk, zur_row]; rw [key] at b; exact b
theorem zPutFI (hexec : p.tables.exec = Jvm.exec) (hb : c.code = cc) {own ref C : String} {T : u_T} {N ci index : Nat} {Ts : List Cond} (hts : ∀ w ∈ Ts, w.before args s = true) (hin : ∀ w ∈ u_ws C T N, w ∈ Ts) (ty0 : Nat → FieldType) (hty : ∀ k, k < N → parseFieldDescriptor (T k).2.2.1 = some (ty0 k)) (hnm : ∀ a, a < N → ∀ b, b < N → a ≠ b → (T a).2.1 ≠ (T b).2.1) (hown : s.vm.findClass own = some m.cls) (hH : zH D A τ fi fr ol s H) (hS : va_S A H0 H locs) {i : Nat} (hk : τ.2.2.1 i = ci + 16) (hc : vwCl[ci]? = some (C, T, N)) (k : Nat) (hkN : k < N) (hsl : (zSl ci)[k]? = some false) (hlink : (Cond.fieldLink own index ref (T k).2.1 (T k).2.2.1).before args s = true) (hsame : ∀ x, s.fieldFound? (T k).1 (T k).2.1 (T k).2.2.1 = some x → s.fieldFound? ref (T k).2.1 (T k).2.2.1 = some x) (hfin : (T k).2.2.2 = true) (hin2 : meth.name = "<init>") (hdecl : (T k).1 = own) {ty : FieldType} {v : Int32} (hd : parseFieldDescriptor (T k).2.2.1 = some ty) (hn : narrow ty (.int v) = .int v) (hfit : fits ty (.int v) = true) (hdg : decode cc pc = .ok (.putfield index, 3))
    (kk : ∀ (H1 : Heap) (locs1 : List Loc), zH D A τ (zu fi i k v) fr ol s H1 → va_S A H0 H1 locs1 → W p l e R s m args below meth c H1 locs1 cells slots Q (F0 m (pc + 3) ls rest)) : W p l e R s m args below meth c H locs cells slots Q (F0 m pc ls (.int v :: .ref (τ.1 i) :: rest)) := by
  obtain ⟨ws, q, hP, hD, hq, -, hw⟩ := hH.wr (i := i) (by omega) (zu fi i k v) fr ol (fun j hj => zE_cg (zu_r hj) rfl) hH.2.2.2
  rw [zE_obj hk] at hq
  refine va_putF (D := D) (ci := ci) (v := .int v) (ty := ty) hexec hb hts hin ty0 hty hnm hown hH.2.1 hP hD hS q hq hc k hkN hlink hsame hfin hin2 hdecl hd hn hfit (by rw [zV_len]; exact (List.getElem?_eq_some_iff.mp hsl).1) hdg (fun H1 locs1 a b c => kk H1 locs1 (hw H1 ?_ ?_) c)
  · rw [zE_obj hk, zu_row]; rw [zV_seti _ 0 k hsl, Nat.zero_add] at a; exact a
  · rw [zE_obj hk, zu_row]; rw [zV_seti _ 0 k hsl, Nat.zero_add] at b; exact b
theorem zPutFR (hexec : p.tables.exec = Jvm.exec) (hb : c.code = cc) {own ref C : String} {T : u_T} {N ci index : Nat} {Ts : List Cond} (hts : ∀ w ∈ Ts, w.before args s = true) (hin : ∀ w ∈ u_ws C T N, w ∈ Ts) (ty0 : Nat → FieldType) (hty : ∀ k, k < N → parseFieldDescriptor (T k).2.2.1 = some (ty0 k)) (hnm : ∀ a, a < N → ∀ b, b < N → a ≠ b → (T a).2.1 ≠ (T b).2.1) (hown : s.vm.findClass own = some m.cls) (hH : zH D A τ fi fr ol s H) (hS : va_S A H0 H locs) {i : Nat} (hk : τ.2.2.1 i = ci + 16) (hc : vwCl[ci]? = some (C, T, N)) (k : Nat) (hkN : k < N) (hsl : (zSl ci)[k]? = some true) (hlink : (Cond.fieldLink own index ref (T k).2.1 (T k).2.2.1).before args s = true) (hsame : ∀ x, s.fieldFound? (T k).1 (T k).2.1 (T k).2.2.1 = some x → s.fieldFound? ref (T k).2.1 (T k).2.2.1 = some x) (hfin : (T k).2.2.2 = true) (hin2 : meth.name = "<init>") (hdecl : (T k).1 = own) {ty : FieldType} {r : Nat} (hr : τ.2.2.1 r ≠ 0) (hd : parseFieldDescriptor (T k).2.2.1 = some ty) (hn : narrow ty (.ref (τ.1 r)) = .ref (τ.1 r)) (hfit : fits ty (.ref (τ.1 r)) = true) (hdg : decode cc pc = .ok (.putfield index, 3))
    (kk : ∀ (H1 : Heap) (locs1 : List Loc), zH D A τ fi (zur fr i k (some r)) ol s H1 → va_S A H0 H1 locs1 → W p l e R s m args below meth c H1 locs1 cells slots Q (F0 m (pc + 3) ls rest)) : W p l e R s m args below meth c H locs cells slots Q (F0 m pc ls (.ref (τ.1 r) :: .ref (τ.1 i) :: rest)) := by
  obtain ⟨ws, q, hP, hD, hq, -, hw⟩ := hH.wr (i := i) (by omega) fi (zur fr i k (some r)) ol (fun j hj => zE_cg rfl (zur_r hj)) (zur_cl hH.2.2.2 hr)
  rw [zE_obj hk] at hq
  have key : (zV τ.1 (fi i) (fr i) (zSl ci) 0).set k (.ref (τ.1 r)) = zV τ.1 (fi i) (fun q => if q = k then some r else fr i q) (zSl ci) 0 := by
    have := zV_setr (ad := τ.1) (fi := fi i) (fr := fr i) (r := some r) _ 0 k hsl
    rw [Nat.zero_add] at this
    exact this
  refine va_putF (D := D) (ci := ci) (v := .ref (τ.1 r)) (ty := ty) hexec hb hts hin ty0 hty hnm hown hH.2.1 hP hD hS q hq hc k hkN hlink hsame hfin hin2 hdecl hd hn hfit (by rw [zV_len]; exact (List.getElem?_eq_some_iff.mp hsl).1) hdg (fun H1 locs1 a b c => kk H1 locs1 (hw H1 ?_ ?_) c)
  · rw [zE_obj hk, zur_row]; rw [key] at a; exact a
  · rw [zE_obj hk, zur_row]; rw [key] at b; exact b
theorem zAt0 {i : Nat} {e : va_E} (h : zE τ fi fr ol i = e) : [zW τ fi fr ol i][0]? = some (τ.1 i, e) := by
  show some (τ.1 i, zE τ fi fr ol i) = _
  rw [h]
theorem zIald (hexec : p.tables.exec = Jvm.exec) (hb : c.code = cc) (hH : zH D A τ fi fr ol s H) {i : Nat} (hk : τ.2.2.1 i = 1) {n : Nat} (hn : τ.2.2.2 i = n) {j : Int32} (hin : vp_in j n) (hdg : decode cc pc = .ok (.iaload, 1))
    (kk : W p l e R s m args below meth c H locs cells slots Q (F0 m (pc + 1) ls (.int (fi i j.toNatClampNeg) :: rest))) : W p l e R s m args below meth c H locs cells slots Q (F0 m pc ls (.int j :: .ref (τ.1 i) :: rest)) := by
  subst hn
  exact va_iald (D := D) hexec hb (hH.arr hk (by decide) (by decide)) (hH.one (i := i) (by omega)) 0 0 (zAt0 (zE_int (by omega))) rfl hin hdg kk
theorem zBald (hexec : p.tables.exec = Jvm.exec) (hb : c.code = cc) (hH : zH D A τ fi fr ol s H) {i : Nat} (hk : τ.2.2.1 i = 2) {n : Nat} (hn : τ.2.2.2 i = n) {j : Int32} (hin : vp_in j n) (hdg : decode cc pc = .ok (.baload, 1))
    (kk : W p l e R s m args below meth c H locs cells slots Q (F0 m (pc + 1) ls (.int (fi i j.toNatClampNeg) :: rest))) : W p l e R s m args below meth c H locs cells slots Q (F0 m pc ls (.int j :: .ref (τ.1 i) :: rest)) := by
  subst hn
  exact va_bald (D := D) hexec hb (hH.arr hk (by decide) (by decide)) (hH.one (i := i) (by omega)) 0 0 (zAt0 (zE_int (by omega))) rfl hin hdg kk
theorem zZald (hexec : p.tables.exec = Jvm.exec) (hb : c.code = cc) (hH : zH D A τ fi fr ol s H) {i : Nat} (hk : τ.2.2.1 i = 3) {n : Nat} (hn : τ.2.2.2 i = n) {j : Int32} (hin : vp_in j n) (hdg : decode cc pc = .ok (.baload, 1))
    (kk : W p l e R s m args below meth c H locs cells slots Q (F0 m (pc + 1) ls (.int (fi i j.toNatClampNeg) :: rest))) : W p l e R s m args below meth c H locs cells slots Q (F0 m pc ls (.int j :: .ref (τ.1 i) :: rest)) := by
  subst hn
  exact va_zald (D := D) hexec hb (hH.arr hk (by decide) (by decide)) (hH.one (i := i) (by omega)) 0 0 (zAt0 (zE_int (by omega))) rfl hin hdg kk
theorem zLald (hexec : p.tables.exec = Jvm.exec) (hb : c.code = cc) (hH : zH D A τ fi fr ol s H) {i : Nat} (hk : τ.2.2.1 i = 4) {n : Nat} (hn : τ.2.2.2 i = n) {j : Int32} (hin : vp_in j n) (hdg : decode cc pc = .ok (.laload, 1))
    (kk : W p l e R s m args below meth c H locs cells slots Q (F0 m (pc + 1) ls (.long ol :: rest))) : W p l e R s m args below meth c H locs cells slots Q (F0 m pc ls (.int j :: .ref (τ.1 i) :: rest)) := by
  subst hn
  exact va_lald (D := D) hexec hb (hH.arr hk (by decide) (by decide)) (hH.one (i := i) (by omega)) 0 0 (zAt0 (zE_long hk)) rfl hin hdg kk
theorem zAald (hexec : p.tables.exec = Jvm.exec) (hb : c.code = cc) (hH : zH D A τ fi fr ol s H) {i : Nat} {t : Nat} {C : String} (hk : τ.2.2.1 i = t) (h5 : 5 ≤ t) (h16 : t < 16) (hC : zT t = .object C) {n : Nat} (hn : τ.2.2.2 i = n) {j : Int32} (hin : vp_in j n) (hdg : decode cc pc = .ok (.aaload, 1))
    (kk : W p l e R s m args below meth c H locs cells slots Q (F0 m (pc + 1) ls (va_rf ((fr i j.toNatClampNeg).map τ.1) :: rest))) : W p l e R s m args below meth c H locs cells slots Q (F0 m pc ls (.int j :: .ref (τ.1 i) :: rest)) := by
  subst hn
  have hK := hH.arr hk (by omega) h16
  rw [hC] at hK
  exact va_aldq (D := D) hexec hb hK (hH.one (i := i) (by omega)) 0 0 (zAt0 (zE_ref (by omega) (by omega))) rfl hin hdg kk
theorem zu_upd {i j : Nat} {x : Int32} : upd (fi i) j x = zu fi i j x i := by
  funext q
  simp [zu, upd]
theorem zIast (hexec : p.tables.exec = Jvm.exec) (hb : c.code = cc) (hH : zH D A τ fi fr ol s H) (hS : va_S A H0 H locs) {i : Nat} (hk : τ.2.2.1 i = 1) {n : Nat} (hn : τ.2.2.2 i = n) {j x : Int32} (hin : vp_in j n) (hdg : decode cc pc = .ok (.iastore, 1))
    (kk : ∀ (H1 : Heap) (locs1 : List Loc), zH D A τ (zu fi i j.toNatClampNeg x) fr ol s H1 → va_S A H0 H1 locs1 → W p l e R s m args below meth c H1 locs1 cells slots Q (F0 m (pc + 1) ls rest)) : W p l e R s m args below meth c H locs cells slots Q (F0 m pc ls (.int x :: .int j :: .ref (τ.1 i) :: rest)) := by
  subst hn
  obtain ⟨ws, q, hP, hD, hq, -, hw⟩ := hH.wr (i := i) (by omega) (zu fi i j.toNatClampNeg x) fr ol (fun a ha => zE_cg (zu_r ha) rfl) hH.2.2.2
  rw [zE_int (by omega)] at hq
  refine va_iast (D := D) hexec hb (hH.arr hk (by decide) (by decide)) hP hD hS q 0 hq rfl hin hdg (fun H1 locs1 a b c => kk H1 locs1 (hw H1 ?_ ?_) c)
  · rw [zE_int (by omega)]; rw [zu_upd] at a; exact a
  · rw [zE_int (by omega)]; rw [zu_upd] at b; exact b
theorem zBast (hexec : p.tables.exec = Jvm.exec) (hb : c.code = cc) (hH : zH D A τ fi fr ol s H) (hS : va_S A H0 H locs) {i : Nat} (hk : τ.2.2.1 i = 2) {n : Nat} (hn : τ.2.2.2 i = n) {j x : Int32} (hin : vp_in j n) (hdg : decode cc pc = .ok (.bastore, 1))
    (kk : ∀ (H1 : Heap) (locs1 : List Loc), zH D A τ (zu fi i j.toNatClampNeg (vp_nar .byte x)) fr ol s H1 → va_S A H0 H1 locs1 → W p l e R s m args below meth c H1 locs1 cells slots Q (F0 m (pc + 1) ls rest)) : W p l e R s m args below meth c H locs cells slots Q (F0 m pc ls (.int x :: .int j :: .ref (τ.1 i) :: rest)) := by
  subst hn
  obtain ⟨ws, q, hP, hD, hq, -, hw⟩ := hH.wr (i := i) (by omega) (zu fi i j.toNatClampNeg (vp_nar .byte x)) fr ol (fun a ha => zE_cg (zu_r ha) rfl) hH.2.2.2
  rw [zE_int (by omega)] at hq
  refine va_bast (D := D) hexec hb (hH.arr hk (by decide) (by decide)) hP hD hS q 0 hq rfl hin hdg (fun H1 locs1 a b c => kk H1 locs1 (hw H1 ?_ ?_) c)
  · rw [zE_int (by omega)]; rw [zu_upd] at a; exact a
  · rw [zE_int (by omega)]; rw [zu_upd] at b; exact b
theorem zZast (hexec : p.tables.exec = Jvm.exec) (hb : c.code = cc) (hH : zH D A τ fi fr ol s H) (hS : va_S A H0 H locs) {i : Nat} (hk : τ.2.2.1 i = 3) {n : Nat} (hn : τ.2.2.2 i = n) {j x : Int32} (hin : vp_in j n) (hdg : decode cc pc = .ok (.bastore, 1))
    (kk : ∀ (H1 : Heap) (locs1 : List Loc), zH D A τ (zu fi i j.toNatClampNeg (vp_nar .boolean x)) fr ol s H1 → va_S A H0 H1 locs1 → W p l e R s m args below meth c H1 locs1 cells slots Q (F0 m (pc + 1) ls rest)) : W p l e R s m args below meth c H locs cells slots Q (F0 m pc ls (.int x :: .int j :: .ref (τ.1 i) :: rest)) := by
  subst hn
  obtain ⟨ws, q, hP, hD, hq, -, hw⟩ := hH.wr (i := i) (by omega) (zu fi i j.toNatClampNeg (vp_nar .boolean x)) fr ol (fun a ha => zE_cg (zu_r ha) rfl) hH.2.2.2
  rw [zE_int (by omega)] at hq
  refine va_zast (D := D) hexec hb (hH.arr hk (by decide) (by decide)) hP hD hS q 0 hq rfl hin hdg (fun H1 locs1 a b c => kk H1 locs1 (hw H1 ?_ ?_) c)
  · rw [zE_int (by omega)]; rw [zu_upd] at a; exact a
  · rw [zE_int (by omega)]; rw [zu_upd] at b; exact b
theorem zE_lc {ol' : Int64} {j : Nat} (h : τ.2.2.1 j ≠ 4) : zE τ fi fr ol' j = zE τ fi fr ol j := by
  unfold zE
  simp only [if_neg h]
theorem zLast (hexec : p.tables.exec = Jvm.exec) (hb : c.code = cc) (hH : zH D A τ fi fr ol s H) (hS : va_S A H0 H locs) {i : Nat} (hk : τ.2.2.1 i = 4) (hun : ∀ j, j ≠ i → τ.2.2.1 j ≠ 4) (hn : τ.2.2.2 i = 1) {x : Int64} (hdg : decode cc pc = .ok (.lastore, 1))
    (kk : ∀ (H1 : Heap) (locs1 : List Loc), zH D A τ fi fr x s H1 → va_S A H0 H1 locs1 → W p l e R s m args below meth c H1 locs1 cells slots Q (F0 m (pc + 1) ls rest)) : W p l e R s m args below meth c H locs cells slots Q (F0 m pc ls (.long x :: .int 0 :: .ref (τ.1 i) :: rest)) := by
  obtain ⟨ws, q, hP, hD, hq, -, hw⟩ := hH.wr (i := i) (by omega) fi fr x (fun a ha => zE_lc (hun a ha)) hH.2.2.2
  rw [zE_long hk, hn] at hq
  have hf : vp_updL (fun _ => ol) (0 : Int32).toNatClampNeg x = fun j => if j = 0 then x else ol := rfl
  have key : ∀ cA, vp_cell cA (1, .inr (.inl (fun j => if j = 0 then x else ol))) = vp_cell cA (1, .inr (.inl (fun _ => x))) := by
    intro cA
    rw [vp_cell_l, vp_cell_l]
    unfold arrV
    congr 1
  refine va_last (D := D) hexec hb (hH.arr hk (by decide) (by decide)) hP hD hS q 0 hq rfl (zIn (by decide) (by decide)) hdg (fun H1 locs1 a b c => kk H1 locs1 (hw H1 ?_ ?_) c)
  · rw [zE_long hk, hn]
    rw [hf] at a b
    intro k y hy
    by_cases hkq : k = q
    · subst hkq
      have hl := (List.getElem?_eq_some_iff.mp hq).1
      rw [List.getElem?_set_self hl] at hy
      cases hy
      have := a k _ (List.getElem?_set_self hl)
      show H1[τ.1 i]? = some (vp_cell _ _)
      rw [← key]
      exact this
    · rw [List.getElem?_set_ne (Ne.symm hkq)] at hy
      exact a k y (by rw [List.getElem?_set_ne (Ne.symm hkq)]; exact hy)
  · rw [zE_long hk, hn]
    exact hD.set hq
theorem zAast (hexec : p.tables.exec = Jvm.exec) (hb : c.code = cc) (hH : zH D A τ fi fr ol s H) (hS : va_S A H0 H locs) {i : Nat} {t ci r : Nat} {rr : vw_C} (hk : τ.2.2.1 i = t) (h5 : 5 ≤ t) (h16 : t < 16) (hC : zT t = .object rr.1) (hr : τ.2.2.1 r = ci + 16) (hcl : vwCl[ci]? = some rr) {n : Nat} (hn : τ.2.2.2 i = n) {j : Int32} (hin : vp_in j n) (hdg : decode cc pc = .ok (.aastore, 1))
    (kk : ∀ (H1 : Heap) (locs1 : List Loc), zH D A τ fi (zur fr i j.toNatClampNeg (some r)) ol s H1 → va_S A H0 H1 locs1 → W p l e R s m args below meth c H1 locs1 cells slots Q (F0 m (pc + 1) ls rest)) : W p l e R s m args below meth c H locs cells slots Q (F0 m pc ls (.ref (τ.1 r) :: .int j :: .ref (τ.1 i) :: rest)) := by
  subst hn
  have hK := hH.arr hk (by omega) h16
  rw [hC] at hK
  obtain ⟨ws, q, hP, hD, hq, hall, hw⟩ := hH.wr (i := i) (by omega) fi (zur fr i j.toNatClampNeg (some r)) ol (fun a ha => zE_cg rfl (zur_r ha)) (zur_cl hH.2.2.2 (by omega))
  obtain ⟨qk, hqk⟩ := hall r (by omega)
  rw [zE_ref (by omega) (by omega)] at hq
  rw [zE_obj hr] at hqk
  have key : va_up (fun j => (fr i j).map τ.1) j.toNatClampNeg (some (τ.1 r)) = fun x => (zur fr i j.toNatClampNeg (some r) i x).map τ.1 := by
    funext x
    by_cases hx : x = j.toNatClampNeg
    · subst hx; simp [va_up, zur]
    · simp [va_up, zur, hx]
  refine va_astq (D := D) hexec hb hK hP hD hS q 0 qk ci (r := rr) hq rfl hqk hcl hin hdg (fun H1 locs1 a b c => kk H1 locs1 (hw H1 ?_ ?_) c)
  · rw [zE_ref (by omega) (by omega)]; rw [key] at a; exact a
  · rw [zE_ref (by omega) (by omega)]; rw [key] at b; exact b
theorem zAastN (hexec : p.tables.exec = Jvm.exec) (hb : c.code = cc) (hH : zH D A τ fi fr ol s H) (hS : va_S A H0 H locs) {i : Nat} {t : Nat} {C : String} (hk : τ.2.2.1 i = t) (h5 : 5 ≤ t) (h16 : t < 16) (hC : zT t = .object C) {n : Nat} (hn : τ.2.2.2 i = n) {j : Int32} (hin : vp_in j n) (hdg : decode cc pc = .ok (.aastore, 1))
    (kk : ∀ (H1 : Heap) (locs1 : List Loc), zH D A τ fi (zur fr i j.toNatClampNeg none) ol s H1 → va_S A H0 H1 locs1 → W p l e R s m args below meth c H1 locs1 cells slots Q (F0 m (pc + 1) ls rest)) : W p l e R s m args below meth c H locs cells slots Q (F0 m pc ls (.null :: .int j :: .ref (τ.1 i) :: rest)) := by
  subst hn
  have hK := hH.arr hk (by omega) h16
  rw [hC] at hK
  obtain ⟨ws, q, hP, hD, hq, hall, hw⟩ := hH.wr (i := i) (by omega) fi (zur fr i j.toNatClampNeg none) ol (fun a ha => zE_cg rfl (zur_r ha)) (zur_cln hH.2.2.2)
  rw [zE_ref (by omega) (by omega)] at hq
  have key : va_up (fun j => (fr i j).map τ.1) j.toNatClampNeg none = fun x => (zur fr i j.toNatClampNeg none i x).map τ.1 := by
    funext x
    by_cases hx : x = j.toNatClampNeg
    · subst hx; simp [va_up, zur]
    · simp [va_up, zur, hx]
  refine va_astqN (D := D) hexec hb hK hP hD hS q 0 hq rfl hin hdg (fun H1 locs1 a b c => kk H1 locs1 (hw H1 ?_ ?_) c)
  · rw [zE_ref (by omega) (by omega)]; rw [key] at a; exact a
  · rw [zE_ref (by omega) (by omega)]; rw [key] at b; exact b
theorem zAlen (hexec : p.tables.exec = Jvm.exec) (hb : c.code = cc) (hH : zH D A τ fi fr ol s H) {i t : Nat} (hk : τ.2.2.1 i = t) (h0 : t ≠ 0) (h16 : t < 4) {n : Nat} (hn : τ.2.2.2 i = n) (hdg : decode cc pc = .ok (.arraylength, 1))
    (kk : W p l e R s m args below meth c H locs cells slots Q (F0 m (pc + 1) ls (.int (Int32.ofNat n) :: rest))) : W p l e R s m args below meth c H locs cells slots Q (F0 m pc ls (.ref (τ.1 i) :: rest)) := by
  subst hn
  exact va_alen (D := D) hexec hb (hH.arr hk h0 (by omega)) (hH.one (i := i) (by omega)) 0 0 (zAt0 (zE_int (by omega))) rfl rfl hdg kk
/-- new arrays of numbers; a: the number that the new cell gets -/
theorem zNewa (hexec : p.tables.exec = Jvm.exec) (hb : c.code = cc) {atype : ArrayType} (harr : (Cond.arrayClass (newarray.typeOf atype)).before args s = true) {t : Nat} (hty : newarray.typeOf atype = zT t) (h0 : t ≠ 0) (h4 : t < 4) (hdef : defaultValue (zT t) = .int 0) (hH : zH D A τ fi fr ol s H) (hS : va_S A H0 H locs) (hA : ∀ q, H0.size ≤ q → A q)
    {n : Int32} {N' : Nat} (a : Nat) (ha : τ.2.2.1 a = 0) (hn : ¬ n < 0) (hN : n.toNatClampNeg = N') (hbytes : N' * componentBytes (zT t) ≤ 536870912) (hcells : cells + 1 ≤ R.cells) (hslots : slots + N' ≤ R.slots) (hdg : decode cc pc = .ok (.newarray atype, 2))
    (kk : ∀ (q : Nat) (cA : ClassId) (H1 : Heap), zH D A (va_up τ.1 a q, va_up τ.2.1 a cA, va_up τ.2.2.1 a t, va_up τ.2.2.2 a N') (va_up fi a (fun _ => 0)) (va_up fr a (fun _ => none)) ol s H1 → va_S A H0 H1 locs →
      W p l e R s m args below meth c H1 locs (cells + 1) (slots + N') Q (F0 m (pc + 2) ls (.ref q :: rest))) : W p l e R s m args below meth c H locs cells slots Q (F0 m pc ls (.int n :: rest)) := by
  obtain ⟨ws, hP, hD, hw⟩ := hH.nw ha ol (Or.inl rfl)
  refine va_newa (D := D) (atype := atype) (a0 := (N', .inl (fun _ => 0))) (ty := zT t) hexec hb harr hty hH.2.1 hP hD hS hA (fun cA => by rw [vp_cell_i]; rw [hdef]) hn hN hbytes hcells hslots hdg (fun q cA H1 hK a1 b1 c1 => kk q cA H1 (hw H1 q t N' cA h0 (fun _ => hK.2 0 _ rfl) ?_ ?_) c1)
  · rw [zE_int (by show va_up τ.2.2.1 a t a < 4; rw [va_up_self]; exact h4)]
    simp only [va_up_self]
    exact a1
  · rw [zE_int (by show va_up τ.2.2.1 a t a < 4; rw [va_up_self]; exact h4)]
    simp only [va_up_self]
    exact b1
theorem zNewl (hexec : p.tables.exec = Jvm.exec) (hb : c.code = cc) (harr : (Cond.arrayClass (newarray.typeOf .long)).before args s = true) (hH : zH D A τ fi fr ol s H) (hS : va_S A H0 H locs) (hA : ∀ q, H0.size ≤ q → A q)
    (a : Nat) (ha : τ.2.2.1 a = 0) (ho : ∀ j, τ.2.2.1 j ≠ 4) (hcells : cells + 1 ≤ R.cells) (hslots : slots + 1 ≤ R.slots) (hdg : decode cc pc = .ok (.newarray .long, 2))
    (kk : ∀ (q : Nat) (cA : ClassId) (H1 : Heap), zH D A (va_up τ.1 a q, va_up τ.2.1 a cA, va_up τ.2.2.1 a 4, va_up τ.2.2.2 a 1) (va_up fi a (fun _ => 0)) (va_up fr a (fun _ => none)) 0 s H1 → va_S A H0 H1 locs →
      W p l e R s m args below meth c H1 locs (cells + 1) (slots + 1) Q (F0 m (pc + 2) ls (.ref q :: rest))) : W p l e R s m args below meth c H locs cells slots Q (F0 m pc ls (.int 1 :: rest)) := by
  obtain ⟨ws, hP, hD, hw⟩ := hH.nw ha 0 (Or.inr ho)
  refine va_newa (D := D) (atype := .long) (N' := 1) (a0 := (1, .inr (.inl (fun _ => 0)))) (ty := .long) hexec hb harr rfl hH.2.1 hP hD hS hA (fun cA => rfl) (by decide) (by decide) (by decide) hcells hslots hdg (fun q cA H1 hK a1 b1 c1 => kk q cA H1 (hw H1 q 4 1 cA (by decide) (fun _ => hK.2 0 _ rfl) ?_ ?_) c1)
  · rw [zE_long (by show va_up τ.2.2.1 a 4 a = 4; rw [va_up_self])]
    simp only [va_up_self]
    exact a1
  · rw [zE_long (by show va_up τ.2.2.1 a 4 a = 4; rw [va_up_self])]
    simp only [va_up_self]
    exact b1
theorem zNewq (hexec : p.tables.exec = Jvm.exec) (hb : c.code = cc) {own C : String} {index : Nat} (hown : s.vm.findClass own = some m.cls) (hclink : (Cond.classLink own index C).before args s = true) (hover : va_AO C s) {t : Nat} (hC : zT t = .object C) (h5 : 5 ≤ t) (h16 : t < 16) (hH : zH D A τ fi fr ol s H) (hS : va_S A H0 H locs) (hA : ∀ q, H0.size ≤ q → A q)
    {n : Int32} {N' : Nat} (a : Nat) (ha : τ.2.2.1 a = 0) (hn : ¬ n < 0) (hN : n.toNatClampNeg = N') (hbytes : N' * 4 ≤ 536870912) (hcells : cells + 1 ≤ R.cells) (hslots : slots + N' ≤ R.slots) (hdg : decode cc pc = .ok (.anewarray index, 3))
    (kk : ∀ (q : Nat) (cA : ClassId) (H1 : Heap), zH D A (va_up τ.1 a q, va_up τ.2.1 a cA, va_up τ.2.2.1 a t, va_up τ.2.2.2 a N') (va_up fi a (fun _ => 0)) (va_up fr a (fun _ => none)) ol s H1 → va_S A H0 H1 locs →
      W p l e R s m args below meth c H1 locs (cells + 1) (slots + N') Q (F0 m (pc + 3) ls (.ref q :: rest))) : W p l e R s m args below meth c H locs cells slots Q (F0 m pc ls (.int n :: rest)) := by
  obtain ⟨ws, hP, hD, hw⟩ := hH.nw ha ol (Or.inl rfl)
  refine va_newq (D := D) (C := C) hexec hb hown hclink hover hH.2.1 hP hD hS hA hn hN hbytes hcells hslots hdg (fun q cA H1 hK a1 b1 c1 => kk q cA H1 (hw H1 q t N' cA (by omega) (fun _ => by rw [hC]; exact hK.2 0 _ rfl) ?_ ?_) c1)
  · rw [zE_ref (by show 5 ≤ va_up τ.2.2.1 a t a; rw [va_up_self]; exact h5) (by show va_up τ.2.2.1 a t a < 16; rw [va_up_self]; exact h16)]
    simp only [va_up_self]
    exact a1
  · rw [zE_ref (by show 5 ≤ va_up τ.2.2.1 a t a; rw [va_up_self]; exact h5) (by show va_up τ.2.2.1 a t a < 16; rw [va_up_self]; exact h16)]
    simp only [va_up_self]
    exact b1
theorem zNew (hexec : p.tables.exec = Jvm.exec) (hb : c.code = cc) {own C : String} {T : u_T} {N ci index : Nat} {Ts : List Cond} (hts : ∀ w ∈ Ts, w.before args s = true) (hin : ∀ w ∈ u_ws C T N, w ∈ Ts) (ty : Nat → FieldType) (hty : ∀ k, k < N → parseFieldDescriptor (T k).2.2.1 = some (ty k)) (hown : s.vm.findClass own = some m.cls) (hcl : (Cond.classLink own index C).before args s = true) (hinst : (Cond.instantiable C N).before args s = true) (hini : (Cond.initialized C).before args s = true)
    (hH : zH D A τ fi fr ol s H) (hS : va_S A H0 H locs) (hA : ∀ q, H0.size ≤ q → A q) (hc : vwCl[ci]? = some (C, T, N)) (a : Nat) (ha : τ.2.2.1 a = 0) {fs : List Value} (hz : ∀ ad : Nat → Nat, zV ad (fun _ => 0) (fun _ => none) (zSl ci) 0 = fs) (hfs : ∀ j, j < N → defaultValue (ty j) = vp_V fs j) (hcells : cells + 1 ≤ R.cells) (hslots : slots + N ≤ R.slots) (hdg : decode cc pc = .ok (.new index, 3))
    (kk : ∀ (q : Nat) (cA : ClassId) (H1 : Heap), zH D A (va_up τ.1 a q, va_up τ.2.1 a cA, va_up τ.2.2.1 a (ci + 16), va_up τ.2.2.2 a 0) (va_up fi a (fun _ => 0)) (va_up fr a (fun _ => none)) ol s H1 → va_S A H0 H1 locs →
      W p l e R s m args below meth c H1 locs (cells + 1) (slots + N) Q (F0 m (pc + 3) ls (.ref q :: rest))) : W p l e R s m args below meth c H locs cells slots Q (F0 m pc ls rest) := by
  obtain ⟨ws, hP, hD, hw⟩ := hH.nw ha ol (Or.inl rfl)
  refine va_new (D := D) (ci := ci) (fs := fs) hexec hb hts hin ty hty hown hcl hinst hini hH.2.1 hP hD hS hA hc hfs hcells hslots hdg (fun q H1 a1 b1 c1 => kk q (τ.2.1 a) H1 (hw H1 q (ci + 16) 0 (τ.2.1 a) (by omega) (fun h => absurd h (by omega)) ?_ ?_) c1)
  · rw [zE_obj (ci := ci) (by show va_up τ.2.2.1 a (ci + 16) a = ci + 16; rw [va_up_self])]
    simp only [va_up_self]
    rw [hz]
    exact a1
  · rw [zE_obj (ci := ci) (by show va_up τ.2.2.1 a (ci + 16) a = ci + 16; rw [va_up_self])]
    simp only [va_up_self]
    rw [hz]
    exact b1
theorem zCopy (hexec : p.tables.exec = Jvm.exec) (hb : c.code = cc) (hml : c.maxLocals = ls.size) {own : String} {index : Nat} (hown : s.vm.findClass own = some m.cls) (hlink : (Cond.methodLink own index arraycopyName).before args s = true) (hnat : (Cond.native arraycopyName).before args s = true) (hstat : (Cond.static arraycopyName).before args s = true) (hini : (Cond.initialized "java/lang/System").before args s = true)
    (hH : zH D A τ fi fr ol s H) (hS : va_S A H0 H locs) {i j : Nat} (hij : i ≠ j) (hi : τ.2.2.1 i = 1) (hj : τ.2.2.1 j = 1) {n0 n1 : Nat} (hn0 : τ.2.2.2 i = n0) (hn1 : τ.2.2.2 j = n1)
    {n : Int32} {N' : Nat} (hn : n = nI N') (hN : N' < 2 ^ 31) (h4 : N' ≤ n0) (h5 : N' ≤ n1)
    (hframes : 1 ≤ R.frames) (hlocals : (rest.map fun v => v.category).sum + (nativeFrameWords "java/lang/System" "arraycopy" 5 + 11) ≤ R.locals) (hdg : decode cc pc = .ok (.invokestatic index, 3))
    (kk : ∀ (H1 : Heap) (locs1 : List Loc), zH D A τ (fun a b => if a = j ∧ b < N' then fi i b else fi a b) fr ol s H1 → va_S A H0 H1 locs1 → W p l e R s m args below meth c H1 locs1 cells slots Q (F0 m (pc + 3) ls rest)) : W p l e R s m args below meth c H locs cells slots Q (F0 m pc ls (.int n :: .int 0 :: .ref (τ.1 j) :: .int 0 :: .ref (τ.1 i) :: rest)) := by
  subst hn0
  subst hn1
  have hcl : n.toNatClampNeg = N' := by rw [hn]; exact nI_clamp hN
  obtain ⟨ws, q, hP, hD, hq, hall, hw⟩ := hH.wr (i := j) (by omega) (fun a b => if a = j ∧ b < N' then fi i b else fi a b) fr ol (fun a ha => zE_cg (by funext b; simp [ha]) rfl) hH.2.2.2
  obtain ⟨q0, hq0⟩ := hall i (by omega)
  rw [zE_int (by omega)] at hq hq0
  have hK : va_K D vwCl ([(τ.2.1 i, zT 1)] ++ [(τ.2.1 j, zT 1)]) s := va_K.app (hH.arr hi (by decide) (by decide)) (hH.arr hj (by decide) (by decide))
  have key : va_cpy (fi i) (fi j) (0 : Int32).toNatClampNeg (0 : Int32).toNatClampNeg n.toNatClampNeg = fun b => if j = j ∧ b < N' then fi i b else fi j b := by
    rw [hcl]
    funext b
    show va_cpy (fi i) (fi j) 0 0 N' b = _
    by_cases hb9 : b < N'
    · rw [pk_cpy_in (by omega) (by omega)]; simp [hb9]
    · rw [pk_cpy_out (by omega)]; simp [hb9]
  refine va_copyi (D := D) (ty := .int) hexec hb hml hown hlink hnat hstat hini hK hP hD hS q0 q 0 1 hq0 hq rfl rfl rfl (by decide) (by decide) (by rw [hn]; exact nI_pos hN) (by rw [hcl]; show 0 + N' ≤ _; omega) (by rw [hcl]; show 0 + N' ≤ _; omega) (fun _ _ => rfl) hframes hlocals hdg (fun H1 locs1 a b c => kk H1 locs1 (hw H1 ?_ ?_) c)
  · rw [zE_int (by omega)]; rw [key] at a; exact a
  · rw [zE_int (by omega)]; rw [key] at b; exact b
end ZROW
