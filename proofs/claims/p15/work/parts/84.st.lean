theorem zBI.no4 {τ : zTy} {fi : zFi} {fr : zFr} {x y j : Nat} (h : zBI τ fi fr 73 208 x y j) : ∀ i, τ.2.2.1 i ≠ 4 := fun i => by
  by_cases hi : (i < 73 ∧ i ≠ 28 ∧ i ≠ 29) ∨ (200 ≤ i ∧ i < 208)
  · rw [(h.1 i hi).1]
    have k1 : ∀ k : Fin 100, k.val ≠ 28 → zkt k.val ≠ 4 := by decide
    have k2 : ∀ k : Fin 8, zkt (200 + k.val) ≠ 4 := by decide
    rcases hi with hi | hi
    · exact k1 ⟨i, by omega⟩ hi.2.1
    · have h9 := k2 ⟨i - 200, by omega⟩
      rw [show 200 + (⟨i - 200, by omega⟩ : Fin 8).val = i by show 200 + (i - 200) = i; omega] at h9
      exact h9
  · rw [(h.2.1 i hi).1]; decide
theorem zFR_d : ∀ q ∈ zFR, q.1 ≠ 28 ∧ ((q.1 = 0 ∧ q.2.1 < 10) ∨ (0 < q.1 ∧ q.1 < 30) ∨ (q.1 = 30 ∧ 0 < 30 ∧ q.2.1 < 71)) := by decide +kernel
theorem zkt_c : ∀ i : Fin 100, i.val ≠ 28 → zkt i.val = zKT.getD i.val 0 ∧ zkn i.val = zKN.getD i.val 0 ∧ ((i.val = 29 ∨ 73 ≤ i.val) → zKT.getD i.val 0 = 0 ∧ zKN.getD i.val 0 = 0) := by decide
/-- behind the constructors all that stays true holds -/
theorem zBI.start {τ τ' : zTy} {fi fi' : zFi} {fr fr' : zFr} (h : zBI τ fi fr 73 208 10 30 71) (hk : τ'.2.2.1 28 = 4) (hn : τ'.2.2.2 28 = 1) (hb : ∀ j, j ≠ 28 → τ'.2.2.1 j = τ.2.2.1 j ∧ τ'.2.2.2 j = τ.2.2.2 j) (ef : fi' = va_up fi 28 (fun _ => 0)) (eg : fr' = va_up fr 28 (fun _ => none)) (hOt : ∀ t, t < 30 → fi 40 t = -1) : zA τ' fi' fr' 0 0 0 := by
  have n4 := h.no4
  obtain ⟨h1, h2, h3, h4⟩ := h
  have z0 : (0 : Int32) = nI 0 := rfl
  have Z : ∀ i k, ¬ zXc i k → fi' i k = nI 0 := fun i k q => by
    by_cases e : i = 28
    · subst e; rw [ef, va_up_self]; rfl
    · rw [ef, va_up_ne _ _ e, h4 i k q]; rfl
  have D : ∀ i, 100 ≤ i → ¬ (200 ≤ i ∧ i < 208) → τ'.2.2.1 i = 0 := fun i a b => by rw [(hb i (by omega)).1]; exact (h2 i (by omega)).1
  have Q : ∀ i, 200 ≤ i → i < 208 → τ'.2.2.1 i = zkt i ∧ τ'.2.2.2 i = zkn i := fun i a b => by rw [(hb i (by omega)).1, (hb i (by omega)).2]; exact h1 i (by omega)
  have G : ∀ q ∈ zFRa, q.1 ≠ 28 → ((q.1 = 0 ∧ q.2.1 < 10) ∨ (0 < q.1 ∧ q.1 < 30) ∨ (q.1 = 30 ∧ 0 < 30 ∧ q.2.1 < 71)) → fr' q.1 q.2.1 = some q.2.2 := fun q a b c => by rw [eg, va_up_ne _ _ b]; exact h3 q a c
  refine ⟨⟨fun i hi => ?_, fun i hi => ?_, fun q hq => ?_⟩, fun i hi => ?_, ⟨⟨0, 0, 0, 0, 0, 0, ⟨by omega, Z _ _ (by unfold zXc; omega), fun t ht => absurd ht (by omega), fun t a b => ⟨D _ (by omega) (by omega), D _ (by omega) (by omega), D _ (by omega) (by omega), D _ (by omega) (by omega)⟩⟩, ⟨by omega, Z _ _ (by unfold zXc; omega), fun t ht => absurd ht (by omega)⟩, ⟨by omega, Z _ _ (by unfold zXc; omega), fun t ht => absurd ht (by omega), fun k a b => ⟨D _ (by omega) (by omega), D _ (by omega) (by omega), fun j hj => D _ (by omega) (by omega)⟩⟩, ⟨by omega, Z _ _ (by unfold zXc; omega), fun t ht => absurd ht (by omega), fun k a b => ⟨D _ (by omega) (by omega), D _ (by omega) (by omega), D _ (by omega) (by omega)⟩⟩, ⟨by omega, Z _ _ (by unfold zXc; omega), fun t ht => absurd ht (by omega), fun k a b => D _ (by omega) (by omega)⟩, ⟨by omega, Z _ _ (by unfold zXc; omega), fun t ht => absurd ht (by omega)⟩, 0, by omega, Z _ _ (by unfold zXc; omega)⟩, 0, by omega, Z _ _ (by unfold zXc; omega)⟩, ⟨by omega, Z _ _ (by unfold zXc; omega)⟩, ⟨by omega, Z _ _ (by unfold zXc; omega)⟩, ?_⟩
  · by_cases e : i = 28
    · subst e; rw [hk]; rfl
    · obtain ⟨a1, a2, a3⟩ := zkt_c ⟨i, hi⟩ e
      rw [(hb i e).1]
      by_cases c : i < 73 ∧ i ≠ 29
      · rw [(h1 i (by omega)).1]; exact a1
      · rw [(h2 i (by omega)).1]; exact (a3 (by show i = 29 ∨ 73 ≤ i; omega)).1.symm
  · by_cases e : i = 28
    · subst e; rw [hn]; rfl
    · obtain ⟨a1, a2, a3⟩ := zkt_c ⟨i, hi⟩ e
      rw [(hb i e).2]
      by_cases c : i < 73 ∧ i ≠ 29
      · rw [(h1 i (by omega)).2]; exact a2
      · rw [(h2 i (by omega)).2]; exact (a3 (by show i = 29 ∨ 73 ≤ i; omega)).2.symm
  · exact G q (List.mem_append_left _ hq) (zFR_d q hq).1 (zFR_d q hq).2
  · rw [(hb i (by omega)).1]; exact n4 i
  · refine ⟨0, 0, 0, 0, 64, 0, 0, 0, 0, 0, ⟨by omega, Z _ _ (by unfold zXc; omega), fun t ht => absurd ht (by omega)⟩, ⟨by omega, Z _ _ (by unfold zXc; omega), fun t ht => absurd ht (by omega)⟩, fun t ht => Or.inl (by rw [ef, va_up_ne _ _ (by omega)]; exact hOt t ht), ⟨by omega, Z _ _ (by unfold zXc; omega), fun t ht => absurd ht (by omega)⟩, ⟨by omega, by omega, Z _ _ (by unfold zXc; omega), ⟨⟨(Q 200 (by omega) (by omega)).1.trans (by decide), (Q 200 (by omega) (by omega)).2.trans (by decide)⟩, ⟨(Q 201 (by omega) (by omega)).1.trans (by decide), (Q 201 (by omega) (by omega)).2.trans (by decide)⟩, ⟨(Q 202 (by omega) (by omega)).1.trans (by decide), (Q 202 (by omega) (by omega)).2.trans (by decide)⟩, ⟨(Q 203 (by omega) (by omega)).1.trans (by decide), (Q 203 (by omega) (by omega)).2.trans (by decide)⟩, ⟨(Q 204 (by omega) (by omega)).1.trans (by decide), (Q 204 (by omega) (by omega)).2.trans (by decide)⟩, ⟨(Q 205 (by omega) (by omega)).1.trans (by decide), (Q 205 (by omega) (by omega)).2.trans (by decide)⟩, ⟨(Q 206 (by omega) (by omega)).1.trans (by decide), (Q 206 (by omega) (by omega)).2.trans (by decide)⟩, ⟨(Q 207 (by omega) (by omega)).1.trans (by decide), (Q 207 (by omega) (by omega)).2.trans (by decide)⟩⟩, ⟨G (30, 37, 200) (by decide +kernel) (by decide) (by decide), G (30, 38, 201) (by decide +kernel) (by decide) (by decide), G (30, 39, 202) (by decide +kernel) (by decide) (by decide), G (30, 40, 203) (by decide +kernel) (by decide) (by decide), G (30, 41, 204) (by decide +kernel) (by decide) (by decide), G (30, 42, 205) (by decide +kernel) (by decide) (by decide), G (30, 43, 206) (by decide +kernel) (by decide) (by decide), G (30, 44, 207) (by decide +kernel) (by decide) (by decide)⟩, fun t ht => absurd ht (by omega), fun k a b j hj => D _ (by omega) (by omega)⟩, by omega, ⟨by omega, Z _ _ (by unfold zXc; omega), fun t ht => absurd ht (by omega)⟩, ⟨by omega, Z _ _ (by unfold zXc; omega)⟩, ⟨by omega, Z _ _ (by unfold zXc; omega)⟩, fun t ht => ⟨0, by omega, Z _ _ (by unfold zXc; omega)⟩, by omega⟩
