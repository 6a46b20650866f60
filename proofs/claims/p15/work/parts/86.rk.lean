theorem zIt_mem {Ld : List Int32} {td : Nat} : ∀ (i : Nat) (d : Int32), d ∈ zIt Ld td i → d ∈ Ld := by
  intro i
  induction i with
  | zero => exact fun d h => h
  | succ i ih => exact fun d h => ih d (List.mem_filter.mp h).1
theorem zIt_gt {Ld : List Int32} {td : Nat} (h : ∀ d ∈ Ld, (td : Int) < d.toInt) : ∀ i, td + i ≤ 999 → ∀ d ∈ zIt Ld td i, ((td + i : Nat) : Int) < d.toInt := by
  intro i
  induction i with
  | zero => exact fun _ d hd => h d hd
  | succ i ih =>
    intro hi d hd
    obtain ⟨q1, q2⟩ := List.mem_filter.mp hd
    have q3 := ih (by omega) d q1
    have q4 : d ≠ nI (min (td + (i + 1)) 999) := of_decide_eq_true q2
    have q5 : d.toInt ≠ ((td + (i + 1) : Nat) : Int) := fun e => q4 (by
      apply Int32.toInt_inj.mp
      rw [nI_toInt (by omega), e, show min (td + (i + 1)) 999 = td + (i + 1) by omega])
    omega
theorem zIt_nil {td : Nat} : ∀ i, zIt [] td i = [] := by
  intro i
  induction i with
  | zero => rfl
  | succ i ih => show zFt (zIt [] td i) _ = []; rw [ih]; rfl
def zRk (fi : zFi) : Prop := ∃ c td, c ≤ 60 ∧ fi 5 3 = nI c ∧ fi 30 13 = nI c ∧ td ≤ 999 ∧ fi 0 15 = nI td ∧ ∀ j, j < c → fi 7 j = fi 42 j ∧ (td : Int) < (fi 7 j).toInt ∧ (fi 7 j).toInt ≤ 999
def zRd (i k : Nat) : Prop := (i = 5 ∧ k = 3) ∨ i = 7 ∨ i = 42 ∨ (i = 30 ∧ k = 13) ∨ (i = 0 ∧ k = 15)
section RK
variable {τ τ' : zTy} {fi f1 f2 : zFi} {fr r1 : zFr}
theorem zRk.cg (h : zRk fi) (hi : ∀ i k, zRd i k → f1 i k = fi i k) : zRk f1 := by
  obtain ⟨c, td, a1, a2, a3, a4, a5, a6⟩ := h
  refine ⟨c, td, a1, by rw [hi _ _ (by unfold zRd; omega)]; exact a2, by rw [hi _ _ (by unfold zRd; omega)]; exact a3, a4, by rw [hi _ _ (by unfold zRd; omega)]; exact a5, fun j hj => ?_⟩
  rw [hi 7 j (by unfold zRd; omega), hi 42 j (by unfold zRd; omega)]
  exact a6 j hj
theorem zBI.rk {x y j : Nat} (h : zBI τ fi fr 73 208 x y j) (ef : f1 = va_up fi 28 (fun _ => 0)) : zRk f1 := by
  have Z : ∀ i k, ¬ zXc i k → i ≠ 28 → f1 i k = nI 0 := fun i k q e => by rw [ef, va_up_ne _ _ e, h.2.2.2 i k q]; rfl
  exact ⟨0, 0, by omega, Z _ _ (by unfold zXc; omega) (by omega), Z _ _ (by unfold zXc; omega) (by omega), by omega, Z _ _ (by unfold zXc; omega) (by omega), fun j hj => absurd hj (by omega)⟩
theorem rk_coming {n nM c cM td tM : Nat} {k b x y z : Int32} {ol' : Int64} {P3 P4 P5 : Prop} (h : zRk fi) (hRl : fi 3 1 = nI n ∧ f1 30 2 = nI nM → n = nM) (hn : fi 3 1 = nI n) (hn3 : n ≤ 30) (hnM : f1 30 2 = nI nM) (hnM3 : nM ≤ 30) (hcc : fi 5 3 = nI c) (hc6 : c ≤ 60) (hcM : f1 30 13 = nI cM) (hcM6 : cM ≤ 60) (htd : fi 0 15 = nI td) (ht9 : td ≤ 999) (htM : tM = td)
    (hc : (∃ rv : Int32, k = nI 0 ∧ ol' = rv.toInt64 ∧ (∃ b, b < n ∧ x = nI b ∧ (((td : Nat) : Int) + 1 ≤ y.toInt ∧ y.toInt ≤ 999 ∧ 1 ≤ z.toInt ∧ z.toInt ≤ 10000) ∧ c < 60 ∧ rv = nI (c + 1) ∧ f1 = zu (zu (zu fi 7 c y) 8 c z) 5 3 (nI (c + 1)) ∧ r1 = zur fr 6 c (some (300 + b)))) ∨ (k = nI 1 ∧ f1 = fi ∧ r1 = fr ∧ P3) ∨ (k = nI 2 ∧ f1 = fi ∧ r1 = fr ∧ P4) ∨ (k = nI 3 ∧ f1 = fi ∧ r1 = fr ∧ P5))
    (h3 : P3 → ¬ (0 ≤ x.toInt ∧ x.toInt < (n : Int))) (h4 : P4 → (∃ b, b < n ∧ x = nI b) ∧ ¬ (((td : Nat) : Int) + 1 ≤ y.toInt ∧ y.toInt ≤ 999 ∧ 1 ≤ z.toInt ∧ z.toInt ≤ 10000)) (h5 : P5 → (∃ b, b < n ∧ x = nI b) ∧ (((td : Nat) : Int) + 1 ≤ y.toInt ∧ y.toInt ≤ 999 ∧ 1 ≤ z.toInt ∧ z.toInt ≤ 10000) ∧ c = 60)
    (hm : (∃ t, t < nM ∧ x = nI t ∧ (((tM : Nat) : Int) + 1 ≤ y.toInt ∧ y.toInt ≤ 999 ∧ 1 ≤ z.toInt ∧ z.toInt ≤ 10000) ∧ cM < 60 ∧ b = nI (cM + 1) ∧ f2 = zu (zu (zu (zu (zu f1 30 0 (nI 0)) 41 cM (nI t)) 42 cM y) 43 cM z) 30 13 (nI (cM + 1))) ∨ (¬ (0 ≤ x.toInt ∧ x.toInt < (nM : Int)) ∧ b = nI 0 ∧ f2 = zu f1 30 0 (nI 1)) ∨ ((∃ t, t < nM ∧ x = nI t) ∧ ¬ (((tM : Nat) : Int) + 1 ≤ y.toInt ∧ y.toInt ≤ 999 ∧ 1 ≤ z.toInt ∧ z.toInt ≤ 10000) ∧ b = nI 0 ∧ f2 = zu f1 30 0 (nI 2)) ∨ ((∃ t, t < nM ∧ x = nI t) ∧ (((tM : Nat) : Int) + 1 ≤ y.toInt ∧ y.toInt ≤ 999 ∧ 1 ≤ z.toInt ∧ z.toInt ≤ 10000) ∧ cM = 60 ∧ b = nI 0 ∧ f2 = zu f1 30 0 (nI 3))) : zRk f2 ∧ zEqv k b ol' f2 := by
  subst htM
  have h0 := h
  have en : n = nM := hRl ⟨hn, hnM⟩
  subst en
  obtain ⟨c', td', a1, a2, a3, a4, a5, a6⟩ := h
  have ec : c' = c := zNi (by omega) (by omega) (a2.symm.trans hcc)
  subst ec
  have et : td' = tM := zNi (by omega) (by omega) (a5.symm.trans htd)
  subst et
  have hM : f1 30 13 = fi 30 13 := by
    rcases hc with ⟨rv, -, -, t, -, -, -, -, -, e, -⟩ | ⟨-, rfl, -⟩ | ⟨-, rfl, -⟩ | ⟨-, rfl, -⟩
    · rw [e, zu_n (by omega), zu_n (by omega), zu_n (by omega)]
    all_goals rfl
  have ecM : cM = c' := zNi (by omega) (by omega) (hcM.symm.trans (hM.trans a3))
  subst ecM
  have low : ∀ t, t < n → x = nI t → 0 ≤ x.toInt ∧ x.toInt < (n : Int) := fun t p q => by rw [q, nI_toInt (by omega)]; omega
  have kp : ∀ v, f2 = zu f1 30 0 (nI v) → f1 = fi → zRk f2 := fun v e e' => by
    subst e'
    exact h0.cg (fun i k q => by unfold zRd at q; rw [e, zu_n (by omega)])
  rcases hc with ⟨rv, e1, e2, t, c1, c2, c3, c4, c5, e, -⟩ | ⟨e1, e, -, p3⟩ | ⟨e1, e, -, p4⟩ | ⟨e1, e, -, p5⟩
  · rcases hm with ⟨t', m1, m2, m3, m4, m5, m6⟩ | ⟨m1, -⟩ | ⟨-, m1, -⟩ | ⟨-, -, m1, -⟩
    · have F : ∀ a b, ¬ ((a = 30 ∧ (b = 0 ∨ b = 13)) ∨ a = 41 ∨ (a = 42 ∧ b = cM) ∨ a = 43 ∨ (a = 7 ∧ b = cM) ∨ a = 8 ∨ (a = 5 ∧ b = 3)) → f2 a b = fi a b := fun a b q => by rw [m6, zu_n (by omega), zu_n (by omega), zu_n (by omega), zu_n (by omega), zu_n (by omega), e, zu_n (by omega), zu_n (by omega), zu_n (by omega)]
      have e7 : f2 7 cM = y := by rw [m6, zu_n (by omega), zu_n (by omega), zu_n (by omega), zu_n (by omega), zu_n (by omega), e, zu_n (by omega), zu_n (by omega), zu_s]
      have e42 : f2 42 cM = y := by rw [m6, zu_n (by omega), zu_n (by omega), zu_s]
      refine ⟨⟨cM + 1, td', by omega, by rw [m6, zu_n (by omega), zu_n (by omega), zu_n (by omega), zu_n (by omega), zu_n (by omega), e, zu_s], by rw [m6, zu_s], a4, by rw [F _ _ (by omega)]; exact a5, fun j hj => ?_⟩, by rw [e1, m6, zu_n (by omega), zu_n (by omega), zu_n (by omega), zu_n (by omega), zu_s], fun _ => by rw [e2, c5, m5]⟩
      by_cases q : j = cM
      · subst q
        rw [e7, e42]
        exact ⟨rfl, by omega, by omega⟩
      · rw [F 7 j (by omega), F 42 j (by omega)]
        exact a6 j (by omega)
    · exact absurd (low t c1 c2) m1
    · exact absurd c3 m1
    · omega
  · rcases hm with ⟨t', m1, m2, -⟩ | ⟨-, -, m2⟩ | ⟨⟨t', m1, m2⟩, -⟩ | ⟨⟨t', m1, m2⟩, -⟩
    · exact absurd (low t' m1 m2) (h3 p3)
    · exact ⟨kp 1 m2 e, zEqv.no (by omega) e1 m2⟩
    · exact absurd (low t' m1 m2) (h3 p3)
    · exact absurd (low t' m1 m2) (h3 p3)
  · obtain ⟨⟨t, q1, q2⟩, q3⟩ := h4 p4
    rcases hm with ⟨t', m1, m2, m3, -⟩ | ⟨m1, -⟩ | ⟨-, -, -, m2⟩ | ⟨-, m1, -⟩
    · exact absurd m3 q3
    · exact absurd (low t q1 q2) m1
    · exact ⟨kp 2 m2 e, zEqv.no (by omega) e1 m2⟩
    · exact absurd m1 q3
  · obtain ⟨⟨t, q1, q2⟩, q3, q4⟩ := h5 p5
    rcases hm with ⟨t', m1, m2, m3, m4, -⟩ | ⟨m1, -⟩ | ⟨-, m1, -⟩ | ⟨-, -, -, -, m2⟩
    · omega
    · exact absurd (low t q1 q2) m1
    · exact absurd q3 m1
    · exact ⟨kp 3 m2 e, zEqv.no (by omega) e1 m2⟩
theorem rk_days {n c cM td tM : Nat} {k x : Int32} {P1 : Int32 → Prop} {P2 : Nat → Prop} {P3 : Prop} (h : zRk fi) (hcc : fi 5 3 = nI c) (hc6 : c ≤ 60) (htd : fi 0 15 = nI td) (ht9 : td ≤ 999) (hcM : f1 30 13 = nI cM) (hcM6 : cM ≤ 60) (htM : tM = td)
    (hc : (∃ rv : Int32, k = nI 0 ∧ P1 rv ∧ (∃ b, b ≤ 100 ∧ x = nI b ∧ (∃ c2, zCm f1 r1 n c2) ∧ zDy n τ fi fr τ' f1 r1 ∧ zFix τ' r1 ∧ (∃ k, k ≤ 16 ∧ f1 18 3 = nI k) ∧ (∃ s2, zSn τ' f1 r1 s2) ∧ rv = nI (min (td + b) 999) ∧ f1 0 15 = nI (min (td + b) 999) ∧ ∃ i8, min (td + i8) 999 = min (td + b) 999 ∧ ∀ Ld : List Int32, Ld.length = c → zLs fi 7 Ld → zLs f1 7 (zIt Ld td i8) ∧ f1 5 3 = nI (zIt Ld td i8).length)) ∨ (k = nI 1 ∧ τ' = τ ∧ f1 = fi ∧ r1 = fr ∧ P3)) (h3 : P3 → ¬ (0 ≤ x.toInt ∧ x.toInt ≤ 100))
    (hm : ∃ t2, (((0 ≤ x.toInt ∧ x.toInt ≤ 100) ∧ t2 = min (tM + x.toInt.toNat) 999) ∨ (¬ (0 ≤ x.toInt ∧ x.toInt ≤ 100) ∧ t2 = tM)) ∧ (∀ Ld : List Int32, Ld.length = cM → zLs f1 42 Ld → zLs f2 42 (zIt Ld tM (t2 - tM)) ∧ f2 30 13 = nI (zIt Ld tM (t2 - tM)).length) ∧ ∀ a b, (a = 5 ∧ b = 3) ∨ a = 7 ∨ (a = 0 ∧ b = 15) → f2 a b = f1 a b) : zRk f2 := by
  subst htM
  obtain ⟨c', td', a1, a2, a3, a4, a5, a6⟩ := h
  have ec : c' = c := zNi (by omega) (by omega) (a2.symm.trans hcc)
  subst ec
  have et : td' = tM := zNi (by omega) (by omega) (a5.symm.trans htd)
  subst et
  obtain ⟨t2, m1, m2, F⟩ := hm
  obtain ⟨Ld, hLd⟩ : ∃ Ld : List Int32, Ld = (List.range c').map (fi 7) := ⟨_, rfl⟩
  have l1 : Ld.length = c' := by rw [hLd]; simp
  have l2 : ∀ j, j < c' → Ld.getD j 0 = fi 7 j := fun j hj => by rw [hLd]; simp [List.getD_eq_getElem?_getD, hj]
  have l3 : zLs fi 7 Ld := fun j hj => (l2 j (by omega)).symm
  have l4 : ∀ d ∈ Ld, (td' : Int) < d.toInt ∧ d.toInt ≤ 999 := fun d hd => by
    rw [hLd] at hd
    obtain ⟨j, q1, q2⟩ := List.mem_map.mp hd
    rw [← q2]
    exact (a6 j (List.mem_range.mp q1)).2
  have hM : (∀ j, f1 42 j = fi 42 j) ∧ f1 30 13 = fi 30 13 := by
    rcases hc with ⟨rv, -, -, b, -, -, -, w, -⟩ | ⟨-, -, rfl, -⟩
    · exact ⟨fun j => w.2.1 _ _ (by omega), w.2.1 _ _ (by omega)⟩
    · exact ⟨fun _ => rfl, rfl⟩
  have ecM : cM = c' := zNi (by omega) (by omega) (hcM.symm.trans (hM.2.trans a3))
  subst ecM
  obtain ⟨n1, n2⟩ := m2 Ld l1 (fun j hj => by rw [hM.1, ← (a6 j (by omega)).1]; exact l3 j hj)
  have fin : ∀ i, zLs f1 7 (zIt Ld td' i) → f1 5 3 = nI (zIt Ld td' i).length → zIt Ld td' i = zIt Ld td' (t2 - td') → td' ≤ t2 → t2 ≤ 999 → f1 0 15 = nI t2 → zRk f2 := fun i p1 p2 p3 p4 p5 p6 => by
    rw [p3] at p1 p2
    have gt := zIt_gt (fun d hd => (l4 d hd).1) (t2 - td') (by omega)
    have hle : (zIt Ld td' (t2 - td')).length ≤ cM := by
      have : ∀ i, (zIt Ld td' i).length ≤ Ld.length := by
        intro i
        induction i with
        | zero => exact Nat.le_refl _
        | succ i ih => exact Nat.le_trans (List.length_filter_le _ _) ih
      rw [← l1]; exact this _
    refine ⟨(zIt Ld td' (t2 - td')).length, t2, by omega, by rw [F _ _ (by omega)]; exact p2, n2, p5, by rw [F _ _ (by omega)]; exact p6, fun j hj => ?_⟩
    have e1 := p1 j hj
    have e2 := n1 j hj
    have e3 : (zIt Ld td' (t2 - td')).getD j 0 ∈ zIt Ld td' (t2 - td') := by
      rw [List.getD_eq_getElem?_getD, List.getElem?_eq_getElem hj]
      exact List.getElem_mem hj
    rw [F 7 j (by omega), e1, e2]
    refine ⟨rfl, ?_, (l4 _ (zIt_mem _ _ e3)).2⟩
    have := gt _ e3
    rw [show td' + (t2 - td') = t2 by omega] at this
    exact this
  rcases hc with ⟨rv, -, -, b, b1, b2, -, -, -, -, -, -, w6, i8, w7, w8⟩ | ⟨-, -, rfl, -, p3⟩
  · have hx : x.toInt = (b : Int) := by rw [b2, nI_toInt (by omega)]
    obtain ⟨w9, w10⟩ := w8 Ld l1 l3
    rcases m1 with ⟨-, m1⟩ | ⟨m1, -⟩
    · have e5 : t2 = min (td' + b) 999 := by rw [m1, hx]; rfl
      refine fin i8 w9 w10 ?_ (by omega) (by omega) (by rw [e5]; exact w6)
      by_cases q : t2 < 999
      · rw [show i8 = t2 - td' by omega]
      · by_cases q2 : td' < 999
        · rw [zIt_cap q2 i8 (by omega), show t2 - td' = 999 - td' by omega]
        · have : Ld = [] := by
            apply List.eq_nil_iff_forall_not_mem.mpr
            intro d hd
            have := l4 d hd
            omega
          rw [this, zIt_nil, zIt_nil]
    · exact absurd ⟨by omega, by omega⟩ m1
  · rcases m1 with ⟨m1, -⟩ | ⟨-, m1⟩
    · exact absurd m1 (h3 p3)
    · subst m1
      refine fin 0 l3 (by rw [hcc, ← l1]; rfl) (by rw [show t2 - t2 = 0 by omega]) (by omega) (by omega) htd
theorem ck_feed {L : Nat} {r : Int32} {R : Prop} (hw : (L + 20 ≤ 400 ∧ r = nI (L + 20) ∧ f1 1 1 = nI (L + 20) ∧ (∀ i, i ≠ 1 → i ≠ 2 → f1 i = fi i) ∧ R) ∨ (400 < L + 20 ∧ r = -1 ∧ f1 = fi)) : ∀ i k, zRd i k → f1 i k = fi i k := fun i k q => by
  unfold zRd at q
  rcases hw with ⟨-, -, -, a4, -⟩ | ⟨-, -, rfl⟩
  · rw [a4 i (by omega) (by omega)]
  · rfl
theorem ck_end {L : Nat} {r x : Int32} (hw : (r = 1 ∧ 0 ≤ x.toInt ∧ x.toInt ≤ L ∧ f1 = zu fi 1 1 x) ∨ (r = 0 ∧ ¬ (0 ≤ x.toInt ∧ x.toInt ≤ L) ∧ f1 = fi)) : ∀ i k, zRd i k → f1 i k = fi i k := fun i k q => by
  unfold zRd at q
  rcases hw with ⟨-, -, -, e⟩ | ⟨-, -, rfl⟩
  · rw [e, zu_n (by omega)]
  · rfl
theorem ck_rules {r : Int32} {P1 : Int32 → Prop} {P3 P4 : Prop} (hw : (∃ rv : Int32, r = nI 0 ∧ P1 rv ∧ (f1 1 1 = nI 0 ∧ ∀ i k, ¬ (i = 1 ∨ i = 10 ∨ i = 11 ∨ i = 13 ∨ i = 14 ∨ (i = 0 ∧ k = 14)) → f1 i k = fi i k)) ∨ (r = nI 1 ∧ P3 ∧ (P4 ∧ f1 1 1 = nI 0 ∧ ∀ i k, ¬ (i = 1 ∨ i = 10 ∨ i = 11 ∨ i = 13 ∨ i = 14 ∨ (i = 0 ∧ k = 14)) → f1 i k = fi i k))) : ∀ i k, zRd i k → f1 i k = fi i k := fun i k q => by
  unfold zRd at q
  rcases hw with ⟨rv, -, -, -, F⟩ | ⟨-, -, -, -, F⟩ <;> exact F i k (by omega)
theorem ck_letter {n o d : Nat} {r : Int32} {P1 : Int32 → Prop} {P3 P4 P5 P6 : Prop} (ho : o ≤ 60) (hd : d ≤ 512) (hw : (∃ rv : Int32, r = nI 0 ∧ P1 rv ∧ ((o < 60 ∧ rv = nI o ∧ zLo τ fi fr n o d τ' f1 r1) ∨ (d < 512 ∧ zLd τ fi fr d τ' f1 r1))) ∨ (r = nI 1 ∧ P3 ∧ (P4 ∧ zLg τ fi fr d τ' f1 r1)) ∨ (r = nI 2 ∧ P5 ∧ (P6 ∧ zLg τ fi fr d τ' f1 r1))) : ∀ i k, zRd i k → f1 i k = fi i k := fun i k q => by
  unfold zRd at q
  rcases hw with ⟨rv, -, -, ⟨-, -, e⟩ | ⟨-, e⟩⟩ | ⟨-, -, -, e⟩ | ⟨-, -, -, e⟩
  · exact e.2.2.2.2.2.1 i k (by omega)
  · exact e.2.2.2.2.1 i k (by omega)
  · exact e.2.2.2.2.1 i k (by omega)
  · exact e.2.2.2.2.1 i k (by omega)
theorem ck_settle {n o d : Nat} {r x : Int32} {P1 : Int32 → Prop} {P3 P4 P5 : Prop} (ho : o ≤ 60) (hw : (∃ rv : Int32, r = nI 0 ∧ P1 rv ∧ ((τ' = τ ∧ r1 = fr ∧ ((∃ b, b < d ∧ x = nI b ∧ f1 = zu fi (3000 + b) 9 (nI 0)) ∨ f1 = fi)) ∨ (∃ b, b < d ∧ x = nI b ∧ rv = nI o ∧ zNO τ (zu fi (3000 + b) 9 (nI 0)) fr n o τ' f1 r1))) ∨ (r = nI 1 ∧ τ' = τ ∧ f1 = fi ∧ r1 = fr ∧ P3) ∨ (r = nI 2 ∧ τ' = τ ∧ f1 = fi ∧ r1 = fr ∧ P4) ∨ (r = nI 3 ∧ τ' = τ ∧ f1 = fi ∧ r1 = fr ∧ P5)) : ∀ i k, zRd i k → f1 i k = fi i k := fun i k q => by
  unfold zRd at q
  rcases hw with ⟨rv, -, -, ⟨-, -, ⟨b, -, -, e⟩ | rfl⟩ | ⟨b, -, -, -, e⟩⟩ | ⟨-, -, rfl, -, -⟩ | ⟨-, -, rfl, -, -⟩ | ⟨-, -, rfl, -, -⟩
  · rw [e, zu_n (by omega)]
  · rfl
  · rw [e.2.2.2.1 i k (by omega), zu_n (by omega)]
  all_goals rfl
theorem ck_back {r : Int32} {P3 P4 : Prop} (hw : (∃ rv : Int32, r = nI 0 ∧ (∀ i k, ¬ ((1000 ≤ i ∧ i < 1480 ∧ 3 ≤ k) ∨ (300 ≤ i ∧ i < 330 ∧ k = 5) ∨ (500 ≤ i ∧ i < 560 ∧ k = 4)) → f1 i k = fi i k)) ∨ (r = nI 1 ∧ f1 = fi ∧ P3) ∨ (r = nI 2 ∧ f1 = fi ∧ P4)) : ∀ i k, zRd i k → f1 i k = fi i k := fun i k q => by
  unfold zRd at q
  rcases hw with ⟨rv, -, F⟩ | ⟨-, rfl, -⟩ | ⟨-, rfl, -⟩
  · exact F i k (by omega)
  all_goals rfl
theorem ck_thing {n : Nat} {r x1 x2 x3 x4 : Int32} {P1 : Int32 → Prop} {P2 P3 P4 : Prop} (hw : (∃ rv : Int32, r = nI 0 ∧ P1 rv ∧ (n < 30 ∧ P2 ∧ rv = nI n ∧ zAdd τ fi fr n x1 x2 x3 x4 τ' f1 r1)) ∨ (r = nI 1 ∧ τ' = τ ∧ f1 = fi ∧ r1 = fr ∧ P3) ∨ (r = nI 2 ∧ τ' = τ ∧ f1 = fi ∧ r1 = fr ∧ P4)) : ∀ i k, zRd i k → f1 i k = fi i k := fun i k q => by
  unfold zRd at q
  rcases hw with ⟨rv, -, -, -, -, -, e⟩ | ⟨-, -, rfl, -⟩ | ⟨-, -, rfl, -⟩
  · exact e.2.2.2.1 i k (by omega)
  all_goals rfl
theorem ck_price {n : Nat} {r x y z w : Int32} {P1 : Int32 → Prop} {P2 P3 P4 P5 : Prop} (hw : (∃ rv : Int32, r = nI 0 ∧ P1 rv ∧ (∃ t k, t < n ∧ x = nI t ∧ P2 ∧ fi (300 + t) 6 = nI k ∧ k < 4 ∧ rv = nI (k + 1) ∧ f1 = zu (zu (zu (zu fi (340 + t) k y) (380 + t) k z) (420 + t) k w) (300 + t) 6 (nI (k + 1)))) ∨ (r = nI 1 ∧ f1 = fi ∧ P3) ∨ (r = nI 2 ∧ f1 = fi ∧ P4) ∨ (r = nI 3 ∧ f1 = fi ∧ P5)) : ∀ i k, zRd i k → f1 i k = fi i k := fun i k q => by
  unfold zRd at q
  rcases hw with ⟨rv, -, -, t, k, -, -, -, -, -, -, e⟩ | ⟨-, rfl, -⟩ | ⟨-, rfl, -⟩ | ⟨-, rfl, -⟩
  · rw [e, zu_n (by omega), zu_n (by omega), zu_n (by omega), zu_n (by omega)]
  all_goals rfl
theorem ck_pick {n p : Nat} {r x : Int32} {P1 : Int32 → Prop} {P2 P3 : Nat → Prop} {P5 : Prop} (hw : (∃ rv : Int32, r = nI 0 ∧ P1 rv ∧ (∃ b, b < n ∧ x = nI b ∧ ((rv = -1 ∧ f1 = fi ∧ r1 = fr ∧ P2 b) ∨ (p < 10 ∧ P3 b ∧ rv = nI (p + 1) ∧ f1 = zu fi 22 1 (nI (p + 1)) ∧ r1 = zur fr 23 p (some (300 + b)))))) ∨ (r = nI 1 ∧ f1 = fi ∧ r1 = fr ∧ P5)) : ∀ i k, zRd i k → f1 i k = fi i k := fun i k q => by
  unfold zRd at q
  rcases hw with ⟨rv, -, -, b, -, -, ⟨-, rfl, -⟩ | ⟨-, -, -, e, -⟩⟩ | ⟨-, rfl, -⟩
  · rfl
  · rw [e, zu_n (by omega)]
  · rfl
theorem mk_thing {n : Nat} {r x1 x2 x3 x4 : Int32} {P : Prop} (hw : (P ∧ n < 30 ∧ r = nI n ∧ f1 = zu (zu (zu (zu (zu (zu (zu (zu fi 30 0 (nI 0)) 31 n x1) 32 n x2) 33 n x3) 34 n x4) 35 n (nI 0)) 36 n (nI 0)) 30 2 (nI (n + 1))) ∨ (¬ P ∧ r = nI 0 ∧ f1 = zu fi 30 0 (nI 1)) ∨ (P ∧ n = 30 ∧ r = nI 0 ∧ f1 = zu fi 30 0 (nI 2))) : ∀ i k, zRd i k → f1 i k = fi i k := fun i k q => by
  unfold zRd at q
  rcases hw with ⟨-, -, -, e⟩ | ⟨-, -, e⟩ | ⟨-, -, -, e⟩
  · rw [e, zu_n (by omega), zu_n (by omega), zu_n (by omega), zu_n (by omega), zu_n (by omega), zu_n (by omega), zu_n (by omega), zu_n (by omega)]
  · rw [e, zu_n (by omega)]
  · rw [e, zu_n (by omega)]
theorem mx_coming {n c : Nat} {x y z r : Int32} {P : Prop} (hM : zMc fi n c) (hz : P → 1 ≤ z.toInt ∧ z.toInt ≤ 10000) (hw : (∃ t, t < n ∧ x = nI t ∧ P ∧ c < 60 ∧ r = nI (c + 1) ∧ f1 = zu (zu (zu (zu (zu fi 30 0 (nI 0)) 41 c (nI t)) 42 c y) 43 c z) 30 13 (nI (c + 1))) ∨ (¬ (0 ≤ x.toInt ∧ x.toInt < (n : Int)) ∧ r = nI 0 ∧ f1 = zu fi 30 0 (nI 1)) ∨ ((∃ t, t < n ∧ x = nI t) ∧ ¬ P ∧ r = nI 0 ∧ f1 = zu fi 30 0 (nI 2)) ∨ ((∃ t, t < n ∧ x = nI t) ∧ P ∧ c = 60 ∧ r = nI 0 ∧ f1 = zu fi 30 0 (nI 3))) : (∃ k, k ≤ c + 1 ∧ zMc f1 n k) ∧ ∀ a b, ¬ (a = 41 ∨ a = 42 ∨ a = 43 ∨ (a = 30 ∧ (b = 0 ∨ b = 13))) → f1 a b = fi a b := by
  have kp : ∀ v, f1 = zu fi 30 0 (nI v) → (∃ k, k ≤ c + 1 ∧ zMc f1 n k) ∧ ∀ a b, ¬ (a = 41 ∨ a = 42 ∨ a = 43 ∨ (a = 30 ∧ (b = 0 ∨ b = 13))) → f1 a b = fi a b := fun v e => ⟨⟨c, by omega, hM.ci (fun i k q => by rw [e, zu_n (by omega)])⟩, fun a b q => by rw [e, zu_n (by omega)]⟩
  rcases hw with ⟨t, a1, -, a2, a3, -, e⟩ | ⟨-, -, e⟩ | ⟨-, -, -, e⟩ | ⟨-, -, -, -, e⟩
  · obtain ⟨z1, z2⟩ := hz a2
    obtain ⟨k8, q1, q2⟩ := zNatB (x := z) (n := 10001) (by omega) (by omega)
    exact ⟨⟨c + 1, by omega, hM.add a3 a1 (by rw [e, zu_s]) (by rw [e, zu_n (by omega), zu_n (by omega), zu_n (by omega), zu_s]) ⟨k8, by omega, by rw [e, zu_n (by omega), zu_s]; exact q2⟩ (fun i j h8 h => by rw [e, zu_n (by omega), zu_n (by omega), zu_n (by omega), zu_n (by omega), zu_n (by omega)])⟩, fun a b q => by rw [e, zu_n (by omega), zu_n (by omega), zu_n (by omega), zu_n (by omega), zu_n (by omega)]⟩
  · exact kp 1 e
  · exact kp 2 e
  · exact kp 3 e
end RK
