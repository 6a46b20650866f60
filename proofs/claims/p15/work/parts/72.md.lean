/-- a sum over the things -/
def zSum (kf : Nat → Nat) : Nat → Nat
  | 0 => 0
  | n + 1 => zSum kf n + kf n
theorem zSum_cg {f g : Nat → Nat} : ∀ {n : Nat}, (∀ j, j < n → f j = g j) → zSum f n = zSum g n
  | 0, _ => rfl
  | n + 1, h => by
    show zSum f n + f n = zSum g n + g n
    rw [zSum_cg (n := n) (fun j hj => h j (by omega)), h n (by omega)]
theorem zSum_up {f : Nat → Nat} {t v : Nat} : ∀ {n : Nat}, t < n → zSum (fun j => if j = t then f j + v else f j) n = zSum f n + v
  | 0, h => absurd h (by omega)
  | n + 1, h => by
    show zSum (fun j => if j = t then f j + v else f j) n + (if n = t then f n + v else f n) = zSum f n + f n + v
    by_cases hn : n = t
    · rw [if_pos hn, zSum_cg (f := fun j => if j = t then f j + v else f j) (g := f) (fun j hj => if_neg (by omega))]
      omega
    · rw [if_neg hn, zSum_up (n := n) (by omega)]
      omega
theorem zSum_le {f g : Nat → Nat} : ∀ {n : Nat}, (∀ j, f j ≤ g j) → zSum f n ≤ zSum g n
  | 0, _ => Nat.le_refl _
  | n + 1, h => Nat.add_le_add (zSum_le (n := n) h) (h n)
theorem zSum_add {f g h : Nat → Nat} : ∀ {n : Nat}, (∀ j, f j + g j = h j) → zSum f n + zSum g n = zSum h n
  | 0, _ => rfl
  | n + 1, q => by
    show zSum f n + f n + (zSum g n + g n) = zSum h n + h n
    rw [← zSum_add (n := n) q, ← q n]
    omega
theorem zSum_0 : ∀ n : Nat, zSum (fun _ => 0) n = 0
  | 0 => rfl
  | n + 1 => by show zSum (fun _ => 0) n + 0 = 0; rw [zSum_0 n]
/-- the pieces of things heavier than h, and of those as heavy -/
def zHv (fi : zFi) (kf : Nat → Nat) (h n : Nat) : Nat := zSum (fun t => if (h : Int) < (fi 32 t).toInt then kf t else 0) n
def zHe (fi : zFi) (kf : Nat → Nat) (h n : Nat) : Nat := zSum (fun t => if (fi 32 t).toInt = (h : Int) then kf t else 0) n
theorem zHv_st {fi : zFi} {kf : Nat → Nat} {h n : Nat} (h1 : 1 ≤ h) : zHv fi kf h n + zHe fi kf h n = zHv fi kf (h - 1) n := zSum_add (fun j => by
  by_cases a : (h : Int) < (fi 32 j).toInt
  · rw [if_pos a, if_neg (by omega), if_pos (by omega)]; omega
  · rw [if_neg a]
    by_cases b : (fi 32 j).toInt = (h : Int)
    · rw [if_pos b, if_pos (by omega)]; omega
    · rw [if_neg b, if_neg (by omega)])
theorem zHv_le {fi : zFi} {kf : Nat → Nat} {h n : Nat} : zHv fi kf h n ≤ zSum kf n := zSum_le (fun j => by by_cases a : (h : Int) < (fi 32 j).toInt; (rw [if_pos a]; exact Nat.le_refl _); (rw [if_neg a]; exact Nat.zero_le _))
theorem zHe_y {fi : zFi} {kf : Nat → Nat} {h i k : Nat} (e : k = zHe fi kf h i) (c : (fi 32 i).toInt = (h : Int)) : k + kf i = zHe fi kf h (i + 1) := by
  show _ = zSum _ i + (if (fi 32 i).toInt = (h : Int) then kf i else 0)
  rw [if_pos c, e]; rfl
theorem zHe_n {fi : zFi} {kf : Nat → Nat} {h i k : Nat} (e : k = zHe fi kf h i) (c : ¬ (fi 32 i).toInt = (h : Int)) : k + 0 = zHe fi kf h (i + 1) := by
  show _ = zSum _ i + (if (fi 32 i).toInt = (h : Int) then kf i else 0)
  rw [if_neg c, e]; rfl
/-- the pieces by things -/
def zKf (fi : zFi) (n : Nat) (kf : Nat → Nat) : Prop := ∀ t, t < n → fi 69 t = nI (kf t)
theorem zKf.ci {fi fi' : zFi} {n : Nat} {kf : Nat → Nat} (h : zKf fi n kf) (hi : ∀ i k, i = 69 → fi' i k = fi i k) : zKf fi' n kf := fun t q => by rw [hi 69 t rfl]; exact h t q
theorem zKf.set {fi fi' : zFi} {n t x : Nat} {kf : Nat → Nat} (h : zKf fi n kf) (e : fi' = zu fi 69 t (nI (kf t + x))) : zKf fi' n (fun j => if j = t then kf j + x else kf j) := fun j q => by
  by_cases hj : j = t
  · subst hj
    show fi' 69 j = nI (if j = j then kf j + x else kf j)
    rw [if_pos rfl, e, zu_s]
  · show fi' 69 j = nI (if j = t then kf j + x else kf j)
    rw [if_neg hj, e, zu_n (by omega)]; exact h j q
/-- the stock -/
def zMs (fi : zFi) (Bd : Nat) : Prop := ∀ t, t < 30 → ∃ k, k ≤ Bd ∧ fi 35 t = nI k
theorem zMs.ci {fi fi' : zFi} {Bd : Nat} (h : zMs fi Bd) (hi : ∀ i k, i = 35 → fi' i k = fi i k) : zMs fi' Bd := fun t q => by rw [hi 35 t rfl]; exact h t q
theorem zMs.mono {fi : zFi} {B1 B2 : Nat} (h : zMs fi B1) (hb : B1 ≤ B2) : zMs fi B2 := fun t q => by obtain ⟨k, a, b⟩ := h t q; exact ⟨k, by omega, b⟩
theorem zMs.set {fi fi' : zFi} {B1 B2 t v : Nat} (h : zMs fi B1) (e : fi' = zu fi 35 t (nI v)) (hb : B1 ≤ B2) (hv : v ≤ B2) : zMs fi' B2 := fun j q => by
  by_cases hj : j = t
  · subst hj; exact ⟨v, hv, by rw [e, zu_s]⟩
  · obtain ⟨k, a, b⟩ := h j q
    exact ⟨k, by omega, by rw [e, zu_n (by omega)]; exact b⟩
/-- an order's wants have changed -/
theorem zMo.upd {fi fi' : zFi} {n o q w : Nat} (h : zMo fi n o) (hw : w ≤ 8) (h54 : fi 54 q = nI w) (hq : ∀ j, j < w → zMw fi' n (8 * q + j)) (h45 : fi' 30 45 = fi 30 45) (h54' : ∀ b, fi' 54 b = fi 54 b) (ho : ∀ a b, 55 ≤ a → a ≤ 64 → (b < 8 * q ∨ 8 * q + 8 ≤ b) → fi' a b = fi a b) : zMo fi' n o := by
  obtain ⟨h1, h2, h3⟩ := h
  refine ⟨h1, by rw [h45]; exact h2, fun p hp => ?_⟩
  by_cases hpq : p = q
  · subst hpq; exact ⟨w, hw, by rw [h54']; exact h54, hq⟩
  · obtain ⟨w2, a1, a2, a3⟩ := h3 p hp
    exact ⟨w2, a1, by rw [h54']; exact a2, fun j hj => (a3 j hj).ci (Nat.le_refl _) (fun a b c => ho a _ b c (by omega))⟩
theorem zMo.want {fi : zFi} {n o q w j : Nat} (h : zMo fi n o) (hq : q < o) (hw : w ≤ 8) (h54 : fi 54 q = nI w) (hj : j < w) : zMw fi n (8 * q + j) := by
  obtain ⟨w2, a1, a2, a3⟩ := h.2.2 q hq
  have e : w2 = w := by
    have h9 := congrArg Int32.toInt (a2.symm.trans h54)
    rw [nI_toInt (by omega), nI_toInt (by omega)] at h9
    omega
  exact a3 j (by omega)
set_option maxHeartbeats 4000000 in
set_option maxRecDepth 100000 in
/-- left -/
theorem m_leftV (l : Launch) (hl0 : l.stackTraces = false) (D : va_G) (A : Nat → Prop) (sad : Nat → Nat) (τ : zTy) (fi : zFi) (fr : zFr) (ol : Int64) (hF : zFix τ fr) (i : Nat) (hi4 : i < 480) (qm sa sp sc : Nat) (e56 : fi 56 i = nI qm) (e58 : fi 58 i = nI sa) (e59 : fi 59 i = nI sp) (e60 : fi 60 i = nI sc) (hle : sa + sp + sc ≤ qm) : Met l yX12_left wsX12_left ({ frames := 0, cells := 0, slots := 0, locals := 0 }) (va_Pc [.ref (τ.1 30), .int (nI i)] (zQc D A sad τ fi fr ol)) (va_Qi (fun (r : Int32) (u : Unit) => r = nI (qm - (sa + sp + sc))) (fun (u : Unit) (t : State) => zH D A τ fi fr ol t t.heap) A) 0 0 A := by
  refine Met.ofW (cc := cX12_left) (maxL := 2) (ret := (some .int)) (by decide) rfl ?_
  intro p9 e9 s m args below meth c9 s₁ B hml hv
  obtain ⟨rfl, hz, hH, hA⟩ := hv
  have hx := B.exec
  have hb := B.bytes
  have hr := B.returns
  have hts := atoms_spec (ws := wsX12_left) B.pre
  have hown : s.vm.findClass RX12 = some m.cls := findClass_of_methodNamed B.named
  have hlocks := B.notSynchronized
  have hS : va_S A s.heap s.heap [] := va_S.rf
  have hl := lv_entry ([.ref (τ.1 30), .int (nI i)]) (n := 2) (Nat.le_of_ble_eq_true rfl)
  rw [lg_entry_eq]
  generalize (lg_sl ([.ref (τ.1 30), .int (nI i)]) ++ List.replicate (2 - (lg_sl ([.ref (τ.1 30), .int (nI i)])).length) Slot.unset).toArray = ls at hl ⊢
  have hl : lv_has ls 2 [(0, .ref (τ.1 30)), (1, .int (nI i))] := hl
  have hiX12 : ∀ w ∈ u_ws RX12 TX12 71, w ∈ wsX12_left := fun _ h => List.mem_cons_of_mem _ (List.mem_append_right _ h)
  have hw1 := hts (.fieldLink RX12 114 "PostHouseModel" "wantMany" "[I") (by decide +kernel)
  have hw2 := hts (.fieldLink RX12 120 "PostHouseModel" "wantSent" "[I") (by decide +kernel)
  have hw3 := hts (.fieldLink RX12 123 "PostHouseModel" "wantPlaced" "[I") (by decide +kernel)
  have hw4 := hts (.fieldLink RX12 126 "PostHouseModel" "wantCancelled" "[I") (by decide +kernel)
  refine lv_aload_n hx hb dX12_left_0 rfl (lv_at hl 0 rfl) ?_
  refine zGetR (D := D) (ci := 12) (C := RX12) (T := TX12) (N := 71) hx hb hts hiX12 hown hH (zk_30 hF) rfl 52 (by decide) rfl hw1 (fun _ h9 => h9) dX12_left_1 (zr_30_52 hF) ?_
  refine lv_iload_n hx hb dX12_left_4 rfl (lv_at hl 1 rfl) ?_
  refine zIaldN (D := D) hx hb hH (zk_56 hF) (zn_56 hF) (by omega) (by omega) e56 dX12_left_5 ?_
  refine lv_aload_n hx hb dX12_left_6 rfl (lv_at hl 0 rfl) ?_
  refine zGetR (D := D) (ci := 12) (C := RX12) (T := TX12) (N := 71) hx hb hts hiX12 hown hH (zk_30 hF) rfl 54 (by decide) rfl hw2 (fun _ h9 => h9) dX12_left_7 (zr_30_54 hF) ?_
  refine lv_iload_n hx hb dX12_left_10 rfl (lv_at hl 1 rfl) ?_
  refine zIaldN (D := D) hx hb hH (zk_58 hF) (zn_58 hF) (by omega) (by omega) e58 dX12_left_11 ?_
  refine lv_isub hx hb dX12_left_12 ?_
  refine lv_topi (fun v101 ev101 => ?_)
  obtain rfl : v101 = nI (qm - sa) := ev101.trans (pk_sub (by omega))
  refine lv_aload_n hx hb dX12_left_13 rfl (lv_at hl 0 rfl) ?_
  refine zGetR (D := D) (ci := 12) (C := RX12) (T := TX12) (N := 71) hx hb hts hiX12 hown hH (zk_30 hF) rfl 55 (by decide) rfl hw3 (fun _ h9 => h9) dX12_left_14 (zr_30_55 hF) ?_
  refine lv_iload_n hx hb dX12_left_17 rfl (lv_at hl 1 rfl) ?_
  refine zIaldN (D := D) hx hb hH (zk_59 hF) (zn_59 hF) (by omega) (by omega) e59 dX12_left_18 ?_
  refine lv_isub hx hb dX12_left_19 ?_
  refine lv_topi (fun v102 ev102 => ?_)
  obtain rfl : v102 = nI ((qm - sa) - sp) := ev102.trans (pk_sub (by omega))
  refine lv_aload_n hx hb dX12_left_20 rfl (lv_at hl 0 rfl) ?_
  refine zGetR (D := D) (ci := 12) (C := RX12) (T := TX12) (N := 71) hx hb hts hiX12 hown hH (zk_30 hF) rfl 56 (by decide) rfl hw4 (fun _ h9 => h9) dX12_left_21 (zr_30_56 hF) ?_
  refine lv_iload_n hx hb dX12_left_24 rfl (lv_at hl 1 rfl) ?_
  refine zIaldN (D := D) hx hb hH (zk_60 hF) (zn_60 hF) (by omega) (by omega) e60 dX12_left_25 ?_
  refine lv_isub hx hb dX12_left_26 ?_
  refine lv_topi (fun v103 ev103 => ?_)
  obtain rfl : v103 = nI (((qm - sa) - sp) - sc) := ev103.trans (pk_sub (by omega))
  refine W.widen (k := 0) (n := 0) (by decide) (by decide) ?_
  exact W.iret (v := nI (((qm - sa) - sp) - sc)) hx hb hr (fun t9 ht9 hW9 => ⟨⟨nI (((qm - sa) - sp) - sc), (), rfl, by rw [show ((qm - sa) - sp) - sc = qm - (sa + sp + sc) by omega], zEnd1 hH ht9 hW9⟩, hS.F ht9⟩) hS.2.2 dX12_left_27
set_option maxHeartbeats 4000000 in
set_option maxRecDepth 100000 in
/-- parcels -/
theorem m_parcels (l : Launch) (hl0 : l.stackTraces = false) (D : va_G) (A : Nat → Prop) (sad : Nat → Nat) (τ : zTy) (fi : zFi) (fr : zFr) (ol : Int64) (hF : zFix τ fr) (n : Nat) (hMt : zMt fi n) (kf : Nat → Nat) (hKf : zKf fi n kf) (hsm : zSum kf n ≤ 792) : Met l yX12_parcels wsX12_parcels ({ frames := 0, cells := 0, slots := 0, locals := 0 }) (va_Pc [.ref (τ.1 30)] (zQc D A sad τ fi fr ol)) (va_Qi (fun (r : Int32) (u : zFi) => ∀ a b, ¬ (a = 70) → u a b = fi a b) (fun (u : zFi) (t : State) => zH D A τ u fr ol t t.heap) A) 0 0 A := by
  refine Met.ofW (cc := cX12_parcels) (maxL := 6) (ret := (some .int)) (by decide) rfl ?_
  intro p9 e9 s m args below meth c9 s₁ B hml hv
  obtain ⟨rfl, hz, hH, hA⟩ := hv
  have hx := B.exec
  have hb := B.bytes
  have hr := B.returns
  have hts := atoms_spec (ws := wsX12_parcels) B.pre
  have hown : s.vm.findClass RX12 = some m.cls := findClass_of_methodNamed B.named
  have hlocks := B.notSynchronized
  have hS : va_S A s.heap s.heap [] := va_S.rf
  have hl := lv_entry ([.ref (τ.1 30)]) (n := 6) (Nat.le_of_ble_eq_true rfl)
  rw [lg_entry_eq]
  generalize (lg_sl ([.ref (τ.1 30)]) ++ List.replicate (6 - (lg_sl ([.ref (τ.1 30)])).length) Slot.unset).toArray = ls at hl ⊢
  have hl : lv_has ls 6 [(0, .ref (τ.1 30))] := hl
  have hm30 := hMt.1
  have hiX12 : ∀ w ∈ u_ws RX12 TX12 71, w ∈ wsX12_parcels := fun _ h => List.mem_cons_of_mem _ (List.mem_append_right _ h)
  have hw1 := hts (.fieldLink RX12 168 "PostHouseModel" "things" "I") (by decide +kernel)
  have hw2 := hts (.fieldLink RX12 156 "PostHouseModel" "parcel" "[I") (by decide +kernel)
  have hw3 := hts (.fieldLink RX12 13 "PostHouseModel" "weight" "[I") (by decide +kernel)
  have hw4 := hts (.fieldLink RX12 153 "PostHouseModel" "piecesOf" "[I") (by decide +kernel)
  refine lv_iconst (v := nI 0) hx hb dX12_parcels_0 (by decide) ?_
  refine lv_istore_n (lv' := [(1, .int (nI 0)), (0, .ref (τ.1 30))]) hx hb dX12_parcels_1 rfl hl (by decide) rfl (fun ls hl => ?_)
  refine lv_sipush (v := nI 2000) hx hb dX12_parcels_2 (by decide) ?_
  refine lv_istore_n (lv' := [(2, .int (nI 2000)), (1, .int (nI 0)), (0, .ref (τ.1 30))]) hx hb dX12_parcels_5 rfl hl (by decide) rfl (fun ls hl => ?_)
  refine zLp (σ := Nat × Nat × zFi) (fun x9 k9 H locs ls => (fun (hv : Nat) (cc : Nat) (f : zFi) => k9 = hv ∧ (hv ≤ 2000 ∧ cc ≤ zHv fi kf hv n ∧ ∀ a b, ¬ (a = 70) → f a b = fi a b) ∧ zH D A τ f fr ol s H ∧ va_S A s.heap H locs ∧ lv_has ls 6 [(0, .ref (τ.1 30)), (1, .int (nI cc)), (2, .int (nI hv))]) x9.1 x9.2.1 x9.2.2) (2000, 0, fi) (2000) (show 2000 = 2000 ∧ (2000 ≤ 2000 ∧ 0 ≤ zHv fi kf 2000 n ∧ ∀ a b, ¬ (a = 70) → fi a b = fi a b) ∧ zH D A τ fi fr ol s _ ∧ va_S A s.heap _ _ ∧ lv_has _ 6 [(0, .ref (τ.1 30)), (1, .int (nI 0)), (2, .int (nI 2000))] from ⟨rfl, ⟨Nat.le_refl _, Nat.zero_le _, fun _ _ _ => rfl⟩, hH, hS, lv_sub hl [2, 1, 0] rfl⟩) (fun k9 ih x9 H locs ls hv9 => ?_)
  obtain ⟨hv, cc, f⟩ := x9
  have hv9 : k9 = hv ∧ (hv ≤ 2000 ∧ cc ≤ zHv fi kf hv n ∧ ∀ a b, ¬ (a = 70) → f a b = fi a b) ∧ zH D A τ f fr ol s H ∧ va_S A s.heap H locs ∧ lv_has ls 6 [(0, .ref (τ.1 30)), (1, .int (nI cc)), (2, .int (nI hv))] := hv9
  obtain ⟨hkih101, hv9, hH, hS, hl⟩ := hv9
  obtain ⟨h1, hc, hfr⟩ := hv9
  have ih101 := ih
  clear ih
  have p2 : f 30 2 = nI n := by rw [hfr _ _ (by omega)]; exact hMt.2.1
  refine lv_iload_n hx hb dX12_parcels_6 rfl (lv_at hl 2 rfl) ?_
  refine lv_if_le (tgt := 133) hx hb dX12_parcels_7 (by decide) (fun c102 => ?_) (fun c102 => ?_)
  · have zc102 := c102
    replace zc102 := zc_le (nI_toInt (by omega)) ((by decide : (0 : Int32).toInt = 0)) zc102
    refine lv_iload_n hx hb dX12_parcels_133 rfl (lv_at hl 1 rfl) ?_
    refine W.widen (k := 0) (n := 0) (by decide) (by decide) ?_
    exact W.iret (v := nI cc) hx hb hr (fun t9 ht9 hW9 => ⟨⟨nI cc, f, rfl, hfr, zEnd1 hH ht9 hW9⟩, hS.F ht9⟩) hS.2.2 dX12_parcels_134
  · have zc102 := c102
    replace zc102 := zc_nle (nI_toInt (by omega)) ((by decide : (0 : Int32).toInt = 0)) zc102
    refine lv_iconst (v := nI 0) hx hb dX12_parcels_10 (by decide) ?_
    refine lv_istore_n (lv' := [(3, .int (nI 0)), (0, .ref (τ.1 30)), (1, .int (nI cc)), (2, .int (nI hv))]) hx hb dX12_parcels_11 rfl hl (by decide) rfl (fun ls hl => ?_)
    refine lv_iconst (v := nI 0) hx hb dX12_parcels_12 (by decide) ?_
    refine lv_istore (lv' := [(4, .int (nI 0)), (3, .int (nI 0)), (0, .ref (τ.1 30)), (1, .int (nI cc)), (2, .int (nI hv))]) hx hb dX12_parcels_13 hl (by decide) rfl (fun ls hl => ?_)
    refine zLp (σ := Nat × Nat) (fun x9 k9 H locs ls => (fun (i4 : Nat) (mm : Nat) => k9 = n - i4 ∧ (i4 ≤ n ∧ mm = zHe fi kf hv i4) ∧ zH D A τ f fr ol s H ∧ va_S A s.heap H locs ∧ lv_has ls 6 [(0, .ref (τ.1 30)), (1, .int (nI cc)), (2, .int (nI hv)), (3, .int (nI mm)), (4, .int (nI i4))]) x9.1 x9.2) (0, 0) (n - 0) (show n - 0 = n - 0 ∧ (0 ≤ n ∧ 0 = zHe fi kf hv 0) ∧ zH D A τ f fr ol s _ ∧ va_S A s.heap _ _ ∧ lv_has _ 6 [(0, .ref (τ.1 30)), (1, .int (nI cc)), (2, .int (nI hv)), (3, .int (nI 0)), (4, .int (nI 0))] from ⟨rfl, ⟨Nat.zero_le _, rfl⟩, hH, hS, lv_sub hl [2, 3, 4, 1, 0] rfl⟩) (fun k9 ih x9 H locs ls hv9 => ?_)
    obtain ⟨i4, mm⟩ := x9
    have hv9 : k9 = n - i4 ∧ (i4 ≤ n ∧ mm = zHe fi kf hv i4) ∧ zH D A τ f fr ol s H ∧ va_S A s.heap H locs ∧ lv_has ls 6 [(0, .ref (τ.1 30)), (1, .int (nI cc)), (2, .int (nI hv)), (3, .int (nI mm)), (4, .int (nI i4))] := hv9
    obtain ⟨hkih103, hv9, hH, hS, hl⟩ := hv9
    obtain ⟨h4, hmm⟩ := hv9
    have ih103 := ih
    clear ih
    refine lv_iload hx hb dX12_parcels_15 (lv_at hl 4 rfl) ?_
    refine lv_aload_n hx hb dX12_parcels_17 rfl (lv_at hl 0 rfl) ?_
    refine zGetI (D := D) (ci := 12) (C := RX12) (T := TX12) (N := 71) hx hb hts hiX12 hown hH (zk_30 hF) rfl 2 (by decide) rfl hw1 (fun _ h9 => h9) dX12_parcels_18 p2 ?_
    refine lv_icmp_ge (tgt := 55) hx hb dX12_parcels_21 (by decide) (fun c104 => ?_) (fun c104 => ?_)
    · have zc104 := c104
      replace zc104 := zc_le (nI_toInt (by omega)) (nI_toInt (by omega)) zc104
      have hin : i4 = n := by omega
      have hst : zHv fi kf hv n + mm = zHv fi kf (hv - 1) n := by rw [hmm, hin]; exact zHv_st (by omega)
      have hle : zHv fi kf (hv - 1) n ≤ 792 := Nat.le_trans zHv_le hsm
      refine lv_iconst (v := nI 0) hx hb dX12_parcels_55 (by decide) ?_
      refine lv_istore (lv' := [(4, .int (nI 0)), (0, .ref (τ.1 30)), (1, .int (nI cc)), (2, .int (nI hv)), (3, .int (nI mm))]) hx hb dX12_parcels_56 hl (by decide) rfl (fun ls hl => ?_)
      refine zLp (σ := Nat × Nat × zFi) (fun x9 k9 H locs ls => (fun (i5 : Nat) (c5 : Nat) (f5 : zFi) => k9 = mm - i5 ∧ (i5 ≤ mm ∧ c5 ≤ zHv fi kf hv n + i5 ∧ ∀ a b, ¬ (a = 70) → f5 a b = fi a b) ∧ zH D A τ f5 fr ol s H ∧ va_S A s.heap H locs ∧ lv_has ls 6 [(0, .ref (τ.1 30)), (1, .int (nI c5)), (2, .int (nI hv)), (3, .int (nI mm)), (4, .int (nI i5))]) x9.1 x9.2.1 x9.2.2) (0, cc, f) (mm - 0) (show mm - 0 = mm - 0 ∧ (0 ≤ mm ∧ cc ≤ zHv fi kf hv n + 0 ∧ ∀ a b, ¬ (a = 70) → f a b = fi a b) ∧ zH D A τ f fr ol s _ ∧ va_S A s.heap _ _ ∧ lv_has _ 6 [(0, .ref (τ.1 30)), (1, .int (nI cc)), (2, .int (nI hv)), (3, .int (nI mm)), (4, .int (nI 0))] from ⟨rfl, ⟨Nat.zero_le _, by omega, hfr⟩, hH, hS, lv_sub hl [1, 2, 3, 4, 0] rfl⟩) (fun k9 ih x9 H locs ls hv9 => ?_)
      obtain ⟨i5, c5, f5⟩ := x9
      have hv9 : k9 = mm - i5 ∧ (i5 ≤ mm ∧ c5 ≤ zHv fi kf hv n + i5 ∧ ∀ a b, ¬ (a = 70) → f5 a b = fi a b) ∧ zH D A τ f5 fr ol s H ∧ va_S A s.heap H locs ∧ lv_has ls 6 [(0, .ref (τ.1 30)), (1, .int (nI c5)), (2, .int (nI hv)), (3, .int (nI mm)), (4, .int (nI i5))] := hv9
      obtain ⟨hkih105, hv9, hH, hS, hl⟩ := hv9
      obtain ⟨h5, hc5, hfr5⟩ := hv9
      have ih105 := ih
      clear ih
      refine lv_iload hx hb dX12_parcels_58 (lv_at hl 4 rfl) ?_
      refine lv_iload_n hx hb dX12_parcels_60 rfl (lv_at hl 3 rfl) ?_
      refine lv_icmp_ge (tgt := 127) hx hb dX12_parcels_61 (by decide) (fun c106 => ?_) (fun c106 => ?_)
      · have zc106 := c106
        replace zc106 := zc_le (nI_toInt (by omega)) (nI_toInt (by omega)) zc106
        refine lv_iinc (v := nI (hv - 1)) (lv' := [(2, .int (nI (hv - 1))), (0, .ref (τ.1 30)), (1, .int (nI c5)), (3, .int (nI mm)), (4, .int (nI i5))]) hx hb dX12_parcels_127 hl (k := 2) rfl (zI_dec (k := 1) (by omega) (by decide)) (by decide) rfl (fun ls hl => ?_)
        refine lv_goto (tgt := 6) hx hb dX12_parcels_130 (by decide) ?_
        exact ih101 ((hv - 1)) (by omega) (hv - 1, c5, f5) _ _ _ (show (hv - 1) = (hv - 1) ∧ ((hv - 1) ≤ 2000 ∧ c5 ≤ zHv fi kf (hv - 1) n ∧ ∀ a b, ¬ (a = 70) → f5 a b = fi a b) ∧ zH D A τ f5 fr ol s _ ∧ va_S A s.heap _ _ ∧ lv_has _ 6 [(0, .ref (τ.1 30)), (1, .int (nI c5)), (2, .int (nI (hv - 1)))] from ⟨rfl, ⟨by omega, by omega, hfr5⟩, hH, hS, lv_sub hl [1, 2, 0] rfl⟩)
      · have zc106 := c106
        replace zc106 := zc_nle (nI_toInt (by omega)) (nI_toInt (by omega)) zc106
        refine lv_iconst (v := nI 0) hx hb dX12_parcels_64 (by decide) ?_
        refine lv_istore (lv' := [(5, .int (nI 0)), (0, .ref (τ.1 30)), (1, .int (nI c5)), (2, .int (nI hv)), (3, .int (nI mm)), (4, .int (nI i5))]) hx hb dX12_parcels_65 hl (by decide) rfl (fun ls hl => ?_)
        refine zLp (σ := Nat) (fun x9 k9 H locs ls => (fun (p5 : Nat) => k9 = c5 - p5 ∧ (p5 ≤ c5) ∧ zH D A τ f5 fr ol s H ∧ va_S A s.heap H locs ∧ lv_has ls 6 [(0, .ref (τ.1 30)), (1, .int (nI c5)), (2, .int (nI hv)), (3, .int (nI mm)), (4, .int (nI i5)), (5, .int (nI p5))]) x9) 0 (c5 - 0) (show c5 - 0 = c5 - 0 ∧ (0 ≤ c5) ∧ zH D A τ f5 fr ol s _ ∧ va_S A s.heap _ _ ∧ lv_has _ 6 [(0, .ref (τ.1 30)), (1, .int (nI c5)), (2, .int (nI hv)), (3, .int (nI mm)), (4, .int (nI i5)), (5, .int (nI 0))] from ⟨rfl, Nat.zero_le _, hH, hS, lv_sub hl [1, 2, 3, 4, 5, 0] rfl⟩) (fun k9 ih x9 H locs ls hv9 => ?_)
        generalize x9 = p5 at hv9
        have hv9 : k9 = c5 - p5 ∧ (p5 ≤ c5) ∧ zH D A τ f5 fr ol s H ∧ va_S A s.heap H locs ∧ lv_has ls 6 [(0, .ref (τ.1 30)), (1, .int (nI c5)), (2, .int (nI hv)), (3, .int (nI mm)), (4, .int (nI i5)), (5, .int (nI p5))] := hv9
        obtain ⟨hkih107, hv9, hH, hS, hl⟩ := hv9
        obtain h6 := hv9
        have ih107 := ih
        clear ih
        refine lv_iload hx hb dX12_parcels_67 (lv_at hl 5 rfl) ?_
        refine lv_iload_n hx hb dX12_parcels_69 rfl (lv_at hl 1 rfl) ?_
        refine lv_icmp_ge (tgt := 94) hx hb dX12_parcels_70 (by decide) (fun c108 => ?_) (fun c108 => ?_)
        · have zc108 := c108
          replace zc108 := zc_le (nI_toInt (by omega)) (nI_toInt (by omega)) zc108
          refine lv_iload hx hb dX12_parcels_94 (lv_at hl 5 rfl) ?_
          refine lv_iload_n hx hb dX12_parcels_96 rfl (lv_at hl 1 rfl) ?_
          refine lv_icmp_ne (tgt := 110) hx hb dX12_parcels_97 (by decide) (fun c109 => ?_) (fun c109 => ?_)
          · have zc109 := c109
            replace zc109 := zc_neq (nI_toInt (by omega)) (nI_toInt (by omega)) zc109
            refine lv_aload_n hx hb dX12_parcels_110 rfl (lv_at hl 0 rfl) ?_
            refine zGetR (D := D) (ci := 12) (C := RX12) (T := TX12) (N := 71) hx hb hts hiX12 hown hH (zk_30 hF) rfl 67 (by decide) rfl hw2 (fun _ h9 => h9) dX12_parcels_111 (zr_30_67 hF) ?_
            refine lv_iload hx hb dX12_parcels_114 (lv_at hl 5 rfl) ?_
            refine lv_dup2_11 hx hb dX12_parcels_116 rfl rfl ?_
            refine zIaldN (D := D) hx hb hH (zk_70 hF) (zn_70 hF) (by omega) (by omega) rfl dX12_parcels_117 ?_
            refine lv_iload_n hx hb dX12_parcels_118 rfl (lv_at hl 2 rfl) ?_
            refine lv_iadd hx hb dX12_parcels_119 ?_
            refine lv_topi (fun v110 ev110 => ?_)
            refine zIastN (D := D) hx hb hH hS (zk_70 hF) (zn_70 hF) (by omega) (by omega) dX12_parcels_120 (fun H locs hH hS => ?_)
            obtain ⟨f111, ef111⟩ : ∃ f9 : zFi, f9 = zu f5 70 p5 v110 := ⟨_, rfl⟩
            rw [← ef111] at hH
            have q112 : f111 70 p5 = v110 := by rw [ef111]; exact zu_s
            refine lv_iinc (v := nI (i5 + 1)) (lv' := [(4, .int (nI (i5 + 1))), (0, .ref (τ.1 30)), (1, .int (nI c5)), (2, .int (nI hv)), (3, .int (nI mm)), (5, .int (nI p5))]) hx hb dX12_parcels_121 hl (k := 4) rfl (by rw [show (Int32.ofInt 1 : Int32) = nI 1 from by decide, nI_add]) (by decide) rfl (fun ls hl => ?_)
            refine lv_goto (tgt := 58) hx hb dX12_parcels_124 (by decide) ?_
            exact ih105 (mm - (i5 + 1)) (by omega) (i5 + 1, c5, f111) _ _ _ (show mm - (i5 + 1) = mm - (i5 + 1) ∧ ((i5 + 1) ≤ mm ∧ c5 ≤ zHv fi kf hv n + (i5 + 1) ∧ ∀ a b, ¬ (a = 70) → f111 a b = fi a b) ∧ zH D A τ f111 fr ol s _ ∧ va_S A s.heap _ _ ∧ lv_has _ 6 [(0, .ref (τ.1 30)), (1, .int (nI c5)), (2, .int (nI hv)), (3, .int (nI mm)), (4, .int (nI (i5 + 1)))] from ⟨rfl, ⟨by omega, by omega, fun a b h => by rw [ef111, zu_n (by omega)]; exact hfr5 a b h⟩, hH, hS, lv_sub hl [1, 2, 3, 4, 0] rfl⟩)
          · have zc109 := c109
            replace zc109 := zc_eq (nI_toInt (by omega)) (nI_toInt (by omega)) zc109
            refine lv_aload_n hx hb dX12_parcels_100 rfl (lv_at hl 0 rfl) ?_
            refine zGetR (D := D) (ci := 12) (C := RX12) (T := TX12) (N := 71) hx hb hts hiX12 hown hH (zk_30 hF) rfl 67 (by decide) rfl hw2 (fun _ h9 => h9) dX12_parcels_101 (zr_30_67 hF) ?_
            refine lv_iload_n hx hb dX12_parcels_104 rfl (lv_at hl 1 rfl) ?_
            refine lv_iconst (v := nI 0) hx hb dX12_parcels_105 (by decide) ?_
            refine zIastN (D := D) hx hb hH hS (zk_70 hF) (zn_70 hF) (by omega) (by omega) dX12_parcels_106 (fun H locs hH hS => ?_)
            obtain ⟨f113, ef113⟩ : ∃ f9 : zFi, f9 = zu f5 70 c5 (nI 0) := ⟨_, rfl⟩
            rw [← ef113] at hH
            have q114 : f113 70 c5 = nI 0 := by rw [ef113]; exact zu_s
            refine lv_iinc (v := nI (c5 + 1)) (lv' := [(1, .int (nI (c5 + 1))), (0, .ref (τ.1 30)), (2, .int (nI hv)), (3, .int (nI mm)), (4, .int (nI i5)), (5, .int (nI p5))]) hx hb dX12_parcels_107 hl (k := 1) rfl (by rw [show (Int32.ofInt 1 : Int32) = nI 1 from by decide, nI_add]) (by decide) rfl (fun ls hl => ?_)
            refine lv_aload_n hx hb dX12_parcels_110 rfl (lv_at hl 1 rfl) ?_
            refine zGetR (D := D) (ci := 12) (C := RX12) (T := TX12) (N := 71) hx hb hts hiX12 hown hH (zk_30 hF) rfl 67 (by decide) rfl hw2 (fun _ h9 => h9) dX12_parcels_111 (zr_30_67 hF) ?_
            refine lv_iload hx hb dX12_parcels_114 (lv_at hl 5 rfl) ?_
            refine lv_dup2_11 hx hb dX12_parcels_116 rfl rfl ?_
            refine zIaldN (D := D) hx hb hH (zk_70 hF) (zn_70 hF) (by omega) (by omega) rfl dX12_parcels_117 ?_
            refine lv_iload_n hx hb dX12_parcels_118 rfl (lv_at hl 2 rfl) ?_
            refine lv_iadd hx hb dX12_parcels_119 ?_
            refine lv_topi (fun v115 ev115 => ?_)
            refine zIastN (D := D) hx hb hH hS (zk_70 hF) (zn_70 hF) (by omega) (by omega) dX12_parcels_120 (fun H locs hH hS => ?_)
            obtain ⟨f116, ef116⟩ : ∃ f9 : zFi, f9 = zu f113 70 p5 v115 := ⟨_, rfl⟩
            rw [← ef116] at hH
            have q117 : f116 70 p5 = v115 := by rw [ef116]; exact zu_s
            refine lv_iinc (v := nI (i5 + 1)) (lv' := [(4, .int (nI (i5 + 1))), (1, .int (nI (c5 + 1))), (0, .ref (τ.1 30)), (2, .int (nI hv)), (3, .int (nI mm)), (5, .int (nI p5))]) hx hb dX12_parcels_121 hl (k := 4) rfl (by rw [show (Int32.ofInt 1 : Int32) = nI 1 from by decide, nI_add]) (by decide) rfl (fun ls hl => ?_)
            refine lv_goto (tgt := 58) hx hb dX12_parcels_124 (by decide) ?_
            exact ih105 (mm - (i5 + 1)) (by omega) (i5 + 1, c5 + 1, f116) _ _ _ (show mm - (i5 + 1) = mm - (i5 + 1) ∧ ((i5 + 1) ≤ mm ∧ (c5 + 1) ≤ zHv fi kf hv n + (i5 + 1) ∧ ∀ a b, ¬ (a = 70) → f116 a b = fi a b) ∧ zH D A τ f116 fr ol s _ ∧ va_S A s.heap _ _ ∧ lv_has _ 6 [(0, .ref (τ.1 30)), (1, .int (nI (c5 + 1))), (2, .int (nI hv)), (3, .int (nI mm)), (4, .int (nI (i5 + 1)))] from ⟨rfl, ⟨by omega, by omega, fun a b h => by rw [ef116, zu_n (by omega), ef113, zu_n (by omega)]; exact hfr5 a b h⟩, hH, hS, lv_sub hl [2, 1, 3, 4, 0] rfl⟩)
        · have zc108 := c108
          replace zc108 := zc_nle (nI_toInt (by omega)) (nI_toInt (by omega)) zc108
          refine lv_aload_n hx hb dX12_parcels_73 rfl (lv_at hl 0 rfl) ?_
          refine zGetR (D := D) (ci := 12) (C := RX12) (T := TX12) (N := 71) hx hb hts hiX12 hown hH (zk_30 hF) rfl 67 (by decide) rfl hw2 (fun _ h9 => h9) dX12_parcels_74 (zr_30_67 hF) ?_
          refine lv_iload hx hb dX12_parcels_77 (lv_at hl 5 rfl) ?_
          refine zIaldN (D := D) hx hb hH (zk_70 hF) (zn_70 hF) (by omega) (by omega) rfl dX12_parcels_79 ?_
          refine lv_iload_n hx hb dX12_parcels_80 rfl (lv_at hl 2 rfl) ?_
          refine lv_iadd hx hb dX12_parcels_81 ?_
          refine lv_topi (fun v118 ev118 => ?_)
          refine lv_sipush (v := nI 2000) hx hb dX12_parcels_82 (by decide) ?_
          refine lv_icmp_le (tgt := 94) hx hb dX12_parcels_85 (by decide) (fun c119 => ?_) (fun c119 => ?_)
          · have zc119 := c119
            replace zc119 := zc_le (rfl) (nI_toInt (by omega)) zc119
            refine lv_iload hx hb dX12_parcels_94 (lv_at hl 5 rfl) ?_
            refine lv_iload_n hx hb dX12_parcels_96 rfl (lv_at hl 1 rfl) ?_
            refine lv_icmp_ne (tgt := 110) hx hb dX12_parcels_97 (by decide) (fun c120 => ?_) (fun c120 => ?_)
            · have zc120 := c120
              replace zc120 := zc_neq (nI_toInt (by omega)) (nI_toInt (by omega)) zc120
              refine lv_aload_n hx hb dX12_parcels_110 rfl (lv_at hl 0 rfl) ?_
              refine zGetR (D := D) (ci := 12) (C := RX12) (T := TX12) (N := 71) hx hb hts hiX12 hown hH (zk_30 hF) rfl 67 (by decide) rfl hw2 (fun _ h9 => h9) dX12_parcels_111 (zr_30_67 hF) ?_
              refine lv_iload hx hb dX12_parcels_114 (lv_at hl 5 rfl) ?_
              refine lv_dup2_11 hx hb dX12_parcels_116 rfl rfl ?_
              refine zIaldN (D := D) hx hb hH (zk_70 hF) (zn_70 hF) (by omega) (by omega) rfl dX12_parcels_117 ?_
              refine lv_iload_n hx hb dX12_parcels_118 rfl (lv_at hl 2 rfl) ?_
              refine lv_iadd hx hb dX12_parcels_119 ?_
              refine lv_topi (fun v121 ev121 => ?_)
              refine zIastN (D := D) hx hb hH hS (zk_70 hF) (zn_70 hF) (by omega) (by omega) dX12_parcels_120 (fun H locs hH hS => ?_)
              obtain ⟨f122, ef122⟩ : ∃ f9 : zFi, f9 = zu f5 70 p5 v121 := ⟨_, rfl⟩
              rw [← ef122] at hH
              have q123 : f122 70 p5 = v121 := by rw [ef122]; exact zu_s
              refine lv_iinc (v := nI (i5 + 1)) (lv' := [(4, .int (nI (i5 + 1))), (0, .ref (τ.1 30)), (1, .int (nI c5)), (2, .int (nI hv)), (3, .int (nI mm)), (5, .int (nI p5))]) hx hb dX12_parcels_121 hl (k := 4) rfl (by rw [show (Int32.ofInt 1 : Int32) = nI 1 from by decide, nI_add]) (by decide) rfl (fun ls hl => ?_)
              refine lv_goto (tgt := 58) hx hb dX12_parcels_124 (by decide) ?_
              exact ih105 (mm - (i5 + 1)) (by omega) (i5 + 1, c5, f122) _ _ _ (show mm - (i5 + 1) = mm - (i5 + 1) ∧ ((i5 + 1) ≤ mm ∧ c5 ≤ zHv fi kf hv n + (i5 + 1) ∧ ∀ a b, ¬ (a = 70) → f122 a b = fi a b) ∧ zH D A τ f122 fr ol s _ ∧ va_S A s.heap _ _ ∧ lv_has _ 6 [(0, .ref (τ.1 30)), (1, .int (nI c5)), (2, .int (nI hv)), (3, .int (nI mm)), (4, .int (nI (i5 + 1)))] from ⟨rfl, ⟨by omega, by omega, fun a b h => by rw [ef122, zu_n (by omega)]; exact hfr5 a b h⟩, hH, hS, lv_sub hl [1, 2, 3, 4, 0] rfl⟩)
            · have zc120 := c120
              replace zc120 := zc_eq (nI_toInt (by omega)) (nI_toInt (by omega)) zc120
              refine lv_aload_n hx hb dX12_parcels_100 rfl (lv_at hl 0 rfl) ?_
              refine zGetR (D := D) (ci := 12) (C := RX12) (T := TX12) (N := 71) hx hb hts hiX12 hown hH (zk_30 hF) rfl 67 (by decide) rfl hw2 (fun _ h9 => h9) dX12_parcels_101 (zr_30_67 hF) ?_
              refine lv_iload_n hx hb dX12_parcels_104 rfl (lv_at hl 1 rfl) ?_
              refine lv_iconst (v := nI 0) hx hb dX12_parcels_105 (by decide) ?_
              refine zIastN (D := D) hx hb hH hS (zk_70 hF) (zn_70 hF) (by omega) (by omega) dX12_parcels_106 (fun H locs hH hS => ?_)
              obtain ⟨f124, ef124⟩ : ∃ f9 : zFi, f9 = zu f5 70 c5 (nI 0) := ⟨_, rfl⟩
              rw [← ef124] at hH
              have q125 : f124 70 c5 = nI 0 := by rw [ef124]; exact zu_s
              refine lv_iinc (v := nI (c5 + 1)) (lv' := [(1, .int (nI (c5 + 1))), (0, .ref (τ.1 30)), (2, .int (nI hv)), (3, .int (nI mm)), (4, .int (nI i5)), (5, .int (nI p5))]) hx hb dX12_parcels_107 hl (k := 1) rfl (by rw [show (Int32.ofInt 1 : Int32) = nI 1 from by decide, nI_add]) (by decide) rfl (fun ls hl => ?_)
              refine lv_aload_n hx hb dX12_parcels_110 rfl (lv_at hl 1 rfl) ?_
              refine zGetR (D := D) (ci := 12) (C := RX12) (T := TX12) (N := 71) hx hb hts hiX12 hown hH (zk_30 hF) rfl 67 (by decide) rfl hw2 (fun _ h9 => h9) dX12_parcels_111 (zr_30_67 hF) ?_
              refine lv_iload hx hb dX12_parcels_114 (lv_at hl 5 rfl) ?_
              refine lv_dup2_11 hx hb dX12_parcels_116 rfl rfl ?_
              refine zIaldN (D := D) hx hb hH (zk_70 hF) (zn_70 hF) (by omega) (by omega) rfl dX12_parcels_117 ?_
              refine lv_iload_n hx hb dX12_parcels_118 rfl (lv_at hl 2 rfl) ?_
              refine lv_iadd hx hb dX12_parcels_119 ?_
              refine lv_topi (fun v126 ev126 => ?_)
              refine zIastN (D := D) hx hb hH hS (zk_70 hF) (zn_70 hF) (by omega) (by omega) dX12_parcels_120 (fun H locs hH hS => ?_)
              obtain ⟨f127, ef127⟩ : ∃ f9 : zFi, f9 = zu f124 70 p5 v126 := ⟨_, rfl⟩
              rw [← ef127] at hH
              have q128 : f127 70 p5 = v126 := by rw [ef127]; exact zu_s
              refine lv_iinc (v := nI (i5 + 1)) (lv' := [(4, .int (nI (i5 + 1))), (1, .int (nI (c5 + 1))), (0, .ref (τ.1 30)), (2, .int (nI hv)), (3, .int (nI mm)), (5, .int (nI p5))]) hx hb dX12_parcels_121 hl (k := 4) rfl (by rw [show (Int32.ofInt 1 : Int32) = nI 1 from by decide, nI_add]) (by decide) rfl (fun ls hl => ?_)
              refine lv_goto (tgt := 58) hx hb dX12_parcels_124 (by decide) ?_
              exact ih105 (mm - (i5 + 1)) (by omega) (i5 + 1, c5 + 1, f127) _ _ _ (show mm - (i5 + 1) = mm - (i5 + 1) ∧ ((i5 + 1) ≤ mm ∧ (c5 + 1) ≤ zHv fi kf hv n + (i5 + 1) ∧ ∀ a b, ¬ (a = 70) → f127 a b = fi a b) ∧ zH D A τ f127 fr ol s _ ∧ va_S A s.heap _ _ ∧ lv_has _ 6 [(0, .ref (τ.1 30)), (1, .int (nI (c5 + 1))), (2, .int (nI hv)), (3, .int (nI mm)), (4, .int (nI (i5 + 1)))] from ⟨rfl, ⟨by omega, by omega, fun a b h => by rw [ef127, zu_n (by omega), ef124, zu_n (by omega)]; exact hfr5 a b h⟩, hH, hS, lv_sub hl [2, 1, 3, 4, 0] rfl⟩)
          · have zc119 := c119
            replace zc119 := zc_nle (rfl) (nI_toInt (by omega)) zc119
            refine lv_iinc (v := nI (p5 + 1)) (lv' := [(5, .int (nI (p5 + 1))), (0, .ref (τ.1 30)), (1, .int (nI c5)), (2, .int (nI hv)), (3, .int (nI mm)), (4, .int (nI i5))]) hx hb dX12_parcels_88 hl (k := 5) rfl (by rw [show (Int32.ofInt 1 : Int32) = nI 1 from by decide, nI_add]) (by decide) rfl (fun ls hl => ?_)
            refine lv_goto (tgt := 67) hx hb dX12_parcels_91 (by decide) ?_
            exact ih107 (c5 - (p5 + 1)) (by omega) (p5 + 1) _ _ _ (show c5 - (p5 + 1) = c5 - (p5 + 1) ∧ ((p5 + 1) ≤ c5) ∧ zH D A τ f5 fr ol s _ ∧ va_S A s.heap _ _ ∧ lv_has _ 6 [(0, .ref (τ.1 30)), (1, .int (nI c5)), (2, .int (nI hv)), (3, .int (nI mm)), (4, .int (nI i5)), (5, .int (nI (p5 + 1)))] from ⟨rfl, (by omega), hH, hS, lv_sub hl [1, 2, 3, 4, 5, 0] rfl⟩)
    · have zc104 := c104
      replace zc104 := zc_nle (nI_toInt (by omega)) (nI_toInt (by omega)) zc104
      refine lv_iload_n hx hb dX12_parcels_24 rfl (lv_at hl 3 rfl) ?_
      refine lv_aload_n hx hb dX12_parcels_25 rfl (lv_at hl 0 rfl) ?_
      refine zGetR (D := D) (ci := 12) (C := RX12) (T := TX12) (N := 71) hx hb hts hiX12 hown hH (zk_30 hF) rfl 4 (by decide) rfl hw3 (fun _ h9 => h9) dX12_parcels_26 (zr_30_4 hF) ?_
      refine lv_iload hx hb dX12_parcels_29 (lv_at hl 4 rfl) ?_
      refine zIaldN (D := D) hx hb hH (zk_32 hF) (zn_32 hF) (by omega) (by omega) rfl dX12_parcels_31 ?_
      refine lv_iload_n hx hb dX12_parcels_32 rfl (lv_at hl 2 rfl) ?_
      refine lv_icmp_ne (tgt := 46) hx hb dX12_parcels_33 (by decide) (fun c129 => ?_) (fun c129 => ?_)
      · have zc129 := c129
        replace zc129 := zc_neq (rfl) (nI_toInt (by omega)) zc129
        refine lv_iconst (v := nI 0) hx hb dX12_parcels_46 (by decide) ?_
        refine lv_iadd hx hb dX12_parcels_47 ?_
        refine lv_topi (fun v130 ev130 => ?_)
        obtain rfl : v130 = nI (mm + 0) := ev130.trans (nI_add _ _)
        refine lv_istore_n (lv' := [(3, .int (nI (mm + 0))), (0, .ref (τ.1 30)), (1, .int (nI cc)), (2, .int (nI hv)), (4, .int (nI i4))]) hx hb dX12_parcels_48 rfl hl (by decide) rfl (fun ls hl => ?_)
        refine lv_iinc (v := nI (i4 + 1)) (lv' := [(4, .int (nI (i4 + 1))), (3, .int (nI (mm + 0))), (0, .ref (τ.1 30)), (1, .int (nI cc)), (2, .int (nI hv))]) hx hb dX12_parcels_49 hl (k := 4) rfl (by rw [show (Int32.ofInt 1 : Int32) = nI 1 from by decide, nI_add]) (by decide) rfl (fun ls hl => ?_)
        refine lv_goto (tgt := 15) hx hb dX12_parcels_52 (by decide) ?_
        exact ih103 (n - (i4 + 1)) (by omega) (i4 + 1, mm + 0) _ _ _ (show n - (i4 + 1) = n - (i4 + 1) ∧ ((i4 + 1) ≤ n ∧ (mm + 0) = zHe fi kf hv (i4 + 1)) ∧ zH D A τ f fr ol s _ ∧ va_S A s.heap _ _ ∧ lv_has _ 6 [(0, .ref (τ.1 30)), (1, .int (nI cc)), (2, .int (nI hv)), (3, .int (nI (mm + 0))), (4, .int (nI (i4 + 1)))] from ⟨rfl, ⟨by omega, zHe_n hmm (by rw [← hfr 32 i4 (by omega)]; exact zc129)⟩, hH, hS, lv_sub hl [2, 3, 4, 1, 0] rfl⟩)
      · have zc129 := c129
        replace zc129 := zc_eq (rfl) (nI_toInt (by omega)) zc129
        have p69 : f 69 i4 = nI (kf i4) := by rw [hfr _ _ (by omega)]; exact hKf i4 (by omega)
        refine lv_aload_n hx hb dX12_parcels_36 rfl (lv_at hl 0 rfl) ?_
        refine zGetR (D := D) (ci := 12) (C := RX12) (T := TX12) (N := 71) hx hb hts hiX12 hown hH (zk_30 hF) rfl 66 (by decide) rfl hw4 (fun _ h9 => h9) dX12_parcels_37 (zr_30_66 hF) ?_
        refine lv_iload hx hb dX12_parcels_40 (lv_at hl 4 rfl) ?_
        refine zIaldN (D := D) hx hb hH (zk_69 hF) (zn_69 hF) (by omega) (by omega) p69 dX12_parcels_42 ?_
        refine lv_goto (tgt := 47) hx hb dX12_parcels_43 (by decide) ?_
        refine lv_iadd hx hb dX12_parcels_47 ?_
        refine lv_topi (fun v131 ev131 => ?_)
        obtain rfl : v131 = nI (mm + kf i4) := ev131.trans (nI_add _ _)
        refine lv_istore_n (lv' := [(3, .int (nI (mm + kf i4))), (0, .ref (τ.1 30)), (1, .int (nI cc)), (2, .int (nI hv)), (4, .int (nI i4))]) hx hb dX12_parcels_48 rfl hl (by decide) rfl (fun ls hl => ?_)
        refine lv_iinc (v := nI (i4 + 1)) (lv' := [(4, .int (nI (i4 + 1))), (3, .int (nI (mm + kf i4))), (0, .ref (τ.1 30)), (1, .int (nI cc)), (2, .int (nI hv))]) hx hb dX12_parcels_49 hl (k := 4) rfl (by rw [show (Int32.ofInt 1 : Int32) = nI 1 from by decide, nI_add]) (by decide) rfl (fun ls hl => ?_)
        refine lv_goto (tgt := 15) hx hb dX12_parcels_52 (by decide) ?_
        exact ih103 (n - (i4 + 1)) (by omega) (i4 + 1, mm + kf i4) _ _ _ (show n - (i4 + 1) = n - (i4 + 1) ∧ ((i4 + 1) ≤ n ∧ (mm + kf i4) = zHe fi kf hv (i4 + 1)) ∧ zH D A τ f fr ol s _ ∧ va_S A s.heap _ _ ∧ lv_has _ 6 [(0, .ref (τ.1 30)), (1, .int (nI cc)), (2, .int (nI hv)), (3, .int (nI (mm + kf i4))), (4, .int (nI (i4 + 1)))] from ⟨rfl, ⟨by omega, zHe_y hmm (by rw [← hfr 32 i4 (by omega)]; exact zc129)⟩, hH, hS, lv_sub hl [2, 3, 4, 1, 0] rfl⟩)
set_option maxHeartbeats 4000000 in
set_option maxRecDepth 100000 in
/-- serve -/
theorem m_serve (l : Launch) (hl0 : l.stackTraces = false) (D : va_G) (A : Nat → Prop) (sad : Nat → Nat) (τ : zTy) (fi : zFi) (fr : zFr) (ol : Int64) (hF : zFix τ fr) (n : Nat) (hMt : zMt fi n) (o : Nat) (hMo : zMo fi n o) (hMx : zMx fi n) (Bd : Nat) (hMs : zMs fi Bd) (hBd : Bd ≤ 2000000000) (sn : Nat) (hsn : fi 30 61 = nI sn) (hs3 : sn ≤ 300) (q : Nat) (hq : q < o) : Met l yX12_serve wsX12_serve ({ frames := 1, cells := 0, slots := 0, locals := 25 }) (va_Pc [.ref (τ.1 30), .int (nI q)] (zQc D A sad τ fi fr ol)) (va_Qv (fun (u : zFi) => zMo u n o ∧ zMs u Bd ∧ (∃ s2, s2 ≤ 300 ∧ u 30 61 = nI s2) ∧ ∀ a b, ¬ (a = 35 ∨ a = 52 ∨ (58 ≤ a ∧ a ≤ 60) ∨ a = 63 ∨ a = 64 ∨ (65 ≤ a ∧ a ≤ 70) ∨ (a = 30 ∧ b = 61)) → u a b = fi a b) (fun (u : zFi) (t : State) => zH D A τ u fr ol t t.heap) A) 0 0 A := by
  refine Met.ofW (cc := cX12_serve) (maxL := 8) (ret := none) (by decide) rfl ?_
  intro p9 e9 s m args below meth c9 s₁ B hml hv
  obtain ⟨rfl, hz, hH, hA⟩ := hv
  have hx := B.exec
  have hb := B.bytes
  have hr := B.returns
  have hts := atoms_spec (ws := wsX12_serve) B.pre
  have hown : s.vm.findClass RX12 = some m.cls := findClass_of_methodNamed B.named
  have hlocks := B.notSynchronized
  have hS : va_S A s.heap s.heap [] := va_S.rf
  have hl := lv_entry ([.ref (τ.1 30), .int (nI q)]) (n := 8) (Nat.le_of_ble_eq_true rfl)
  rw [lg_entry_eq]
  generalize (lg_sl ([.ref (τ.1 30), .int (nI q)]) ++ List.replicate (8 - (lg_sl ([.ref (τ.1 30), .int (nI q)])).length) Slot.unset).toArray = ls at hl ⊢
  have hl : lv_has ls 8 [(0, .ref (τ.1 30)), (1, .int (nI q))] := hl
  have hm30 := hMt.1
  have ho60 := hMo.1
  have hMt0 := hMt
  have hMo0 := hMo
  have hMs0 := hMs
  obtain ⟨wn, hwn8, h54, hwq0⟩ := hMo.2.2 q hq
  have hiX12 : ∀ w ∈ u_ws RX12 TX12 71, w ∈ wsX12_serve := fun _ h => List.mem_cons_of_mem _ (List.mem_append_right _ h)
  have hw1 := hts (.fieldLink RX12 168 "PostHouseModel" "things" "I") (by decide +kernel)
  have hw2 := hts (.fieldLink RX12 108 "PostHouseModel" "wants" "[I") (by decide +kernel)
  have hw3 := hts (.fieldLink RX12 342 "PostHouseModel" "sendings" "I") (by decide +kernel)
  have hw4 := hts (.fieldLink RX12 141 "PostHouseModel" "sendingOrder" "[I") (by decide +kernel)
  have hw5 := hts (.fieldLink RX12 144 "PostHouseModel" "sendingDay" "[I") (by decide +kernel)
  have hw6 := hts (.fieldLink RX12 200 "PostHouseModel" "today" "I") (by decide +kernel)
  have hw7 := hts (.fieldLink RX12 147 "PostHouseModel" "sendingPieces" "[I") (by decide +kernel)
  have hw8 := hts (.fieldLink RX12 150 "PostHouseModel" "sendingParcels" "[I") (by decide +kernel)
  have hw9 := hts (.fieldLink RX12 111 "PostHouseModel" "wantThing" "[I") (by decide +kernel)
  have hw10 := hts (.fieldLink RX12 22 "PostHouseModel" "stock" "[I") (by decide +kernel)
  have hw11 := hts (.fieldLink RX12 120 "PostHouseModel" "wantSent" "[I") (by decide +kernel)
  have hw12 := hts (.fieldLink RX12 153 "PostHouseModel" "piecesOf" "[I") (by decide +kernel)
  have hw13 := hts (.fieldLink RX12 96 "PostHouseModel" "orderDay" "[I") (by decide +kernel)
  have hw14 := hts (.fieldLink RX12 49 "PostHouseModel" "rule" "[I") (by decide +kernel)
  have hw15 := hts (.fieldLink RX12 37 "PostHouseModel" "other" "[I") (by decide +kernel)
  have hw16 := hts (.fieldLink RX12 126 "PostHouseModel" "wantCancelled" "[I") (by decide +kernel)
  have hw17 := hts (.fieldLink RX12 102 "PostHouseModel" "orderCredit" "[I") (by decide +kernel)
  have hw18 := hts (.fieldLink RX12 117 "PostHouseModel" "wantPrice" "[I") (by decide +kernel)
  have hw19 := hts (.fieldLink RX12 123 "PostHouseModel" "wantPlaced" "[I") (by decide +kernel)
  have hw20 := hts (.fieldLink RX12 138 "PostHouseModel" "wantOther" "[I") (by decide +kernel)
  have hw21 := hts (.fieldLink RX12 135 "PostHouseModel" "wantDay" "[I") (by decide +kernel)
  refine lv_iconst (v := nI 0) hx hb dX12_serve_0 (by decide) ?_
  refine lv_istore_n (lv' := [(2, .int (nI 0)), (0, .ref (τ.1 30)), (1, .int (nI q))]) hx hb dX12_serve_1 rfl hl (by decide) rfl (fun ls hl => ?_)
  refine zLp (σ := Nat × zFi) (fun x9 k9 H locs ls => (fun (i0 : Nat) (f0 : zFi) => k9 = n - i0 ∧ (i0 ≤ n ∧ (∀ t, t < i0 → f0 69 t = nI 0) ∧ ∀ a b, ¬ (a = 69) → f0 a b = fi a b) ∧ zH D A τ f0 fr ol s H ∧ va_S A s.heap H locs ∧ lv_has ls 8 [(0, .ref (τ.1 30)), (1, .int (nI q)), (2, .int (nI i0))]) x9.1 x9.2) (0, fi) (n - 0) (show n - 0 = n - 0 ∧ (0 ≤ n ∧ (∀ t, t < 0 → fi 69 t = nI 0) ∧ ∀ a b, ¬ (a = 69) → fi a b = fi a b) ∧ zH D A τ fi fr ol s _ ∧ va_S A s.heap _ _ ∧ lv_has _ 8 [(0, .ref (τ.1 30)), (1, .int (nI q)), (2, .int (nI 0))] from ⟨rfl, ⟨Nat.zero_le _, fun t h => absurd h (by omega), fun _ _ _ => rfl⟩, hH, hS, lv_sub hl [1, 2, 0] rfl⟩) (fun k9 ih x9 H locs ls hv9 => ?_)
  obtain ⟨i0, f0⟩ := x9
  have hv9 : k9 = n - i0 ∧ (i0 ≤ n ∧ (∀ t, t < i0 → f0 69 t = nI 0) ∧ ∀ a b, ¬ (a = 69) → f0 a b = fi a b) ∧ zH D A τ f0 fr ol s H ∧ va_S A s.heap H locs ∧ lv_has ls 8 [(0, .ref (τ.1 30)), (1, .int (nI q)), (2, .int (nI i0))] := hv9
  obtain ⟨hkih101, hv9, hH, hS, hl⟩ := hv9
  obtain ⟨h0, hz0, hfr0⟩ := hv9
  have ih101 := ih
  clear ih
  have p2 : f0 30 2 = nI n := by rw [hfr0 _ _ (by omega)]; exact hMt0.2.1
  have p54 : f0 54 q = nI wn := by rw [hfr0 _ _ (by omega)]; exact h54
  refine lv_iload_n hx hb dX12_serve_2 rfl (lv_at hl 2 rfl) ?_
  refine lv_aload_n hx hb dX12_serve_3 rfl (lv_at hl 0 rfl) ?_
  refine zGetI (D := D) (ci := 12) (C := RX12) (T := TX12) (N := 71) hx hb hts hiX12 hown hH (zk_30 hF) rfl 2 (by decide) rfl hw1 (fun _ h9 => h9) dX12_serve_4 p2 ?_
  refine lv_icmp_ge (tgt := 23) hx hb dX12_serve_7 (by decide) (fun c102 => ?_) (fun c102 => ?_)
  · have zc102 := c102
    replace zc102 := zc_le (nI_toInt (by omega)) (nI_toInt (by omega)) zc102
    refine lv_iconst (v := nI 0) hx hb dX12_serve_23 (by decide) ?_
    refine lv_istore_n (lv' := [(2, .int (nI 0)), (0, .ref (τ.1 30)), (1, .int (nI q))]) hx hb dX12_serve_24 rfl hl (by decide) rfl (fun ls hl => ?_)
    refine lv_bipush (v := nI 8) hx hb dX12_serve_25 (by decide) ?_
    refine lv_iload_n hx hb dX12_serve_27 rfl (lv_at hl 2 rfl) ?_
    refine lv_imul hx hb dX12_serve_28 ?_
    refine lv_topi (fun v103 ev103 => ?_)
    obtain rfl : v103 = nI (8 * q) := ev103.trans (pk_mul _ _)
    refine lv_istore_n (lv' := [(3, .int (nI (8 * q))), (2, .int (nI 0)), (0, .ref (τ.1 30)), (1, .int (nI q))]) hx hb dX12_serve_29 rfl hl (by decide) rfl (fun ls hl => ?_)
    refine zLp (σ := Nat × Int32 × (Nat → Nat) × zFi) (fun x9 k9 H locs ls => (fun (i : Nat) (pp : Int32) (kf : Nat → Nat) (f : zFi) => k9 = 8 * q + wn - i ∧ (8 * q ≤ i ∧ i ≤ 8 * q + wn ∧ zKf f n kf ∧ zSum kf n ≤ 99 * (i - 8 * q) ∧ (∀ j, j < wn → zMw f n (8 * q + j)) ∧ zMs f Bd ∧ (∀ a b, 55 ≤ a → a ≤ 64 → (b < 8 * q ∨ 8 * q + 8 ≤ b) → f a b = fi a b) ∧ f 30 61 = fi 30 61 ∧ ∀ a b, ¬ (a = 35 ∨ a = 52 ∨ (58 ≤ a ∧ a ≤ 60) ∨ a = 63 ∨ a = 64 ∨ (65 ≤ a ∧ a ≤ 70) ∨ (a = 30 ∧ b = 61)) → f a b = fi a b) ∧ zH D A τ f fr ol s H ∧ va_S A s.heap H locs ∧ lv_has ls 8 [(0, .ref (τ.1 30)), (1, .int (nI q)), (2, .int pp), (3, .int (nI i))]) x9.1 x9.2.1 x9.2.2.1 x9.2.2.2) (8 * q, nI 0, (fun _ => 0), f0) (8 * q + wn - (8 * q)) (show 8 * q + wn - (8 * q) = 8 * q + wn - (8 * q) ∧ (8 * q ≤ (8 * q) ∧ (8 * q) ≤ 8 * q + wn ∧ zKf f0 n ((fun _ => 0)) ∧ zSum ((fun _ => 0)) n ≤ 99 * ((8 * q) - 8 * q) ∧ (∀ j, j < wn → zMw f0 n (8 * q + j)) ∧ zMs f0 Bd ∧ (∀ a b, 55 ≤ a → a ≤ 64 → (b < 8 * q ∨ 8 * q + 8 ≤ b) → f0 a b = fi a b) ∧ f0 30 61 = fi 30 61 ∧ ∀ a b, ¬ (a = 35 ∨ a = 52 ∨ (58 ≤ a ∧ a ≤ 60) ∨ a = 63 ∨ a = 64 ∨ (65 ≤ a ∧ a ≤ 70) ∨ (a = 30 ∧ b = 61)) → f0 a b = fi a b) ∧ zH D A τ f0 fr ol s _ ∧ va_S A s.heap _ _ ∧ lv_has _ 8 [(0, .ref (τ.1 30)), (1, .int (nI q)), (2, .int (nI 0)), (3, .int (nI (8 * q)))] from ⟨rfl, ⟨Nat.le_refl _, by omega, fun t h => hz0 t (by omega), by rw [zSum_0]; exact Nat.zero_le _, fun j h => (hwq0 j h).ci (Nat.le_refl _) (fun a h8 h9 => hfr0 _ _ (by omega)), zMs.ci hMs0 (fun i9 k9 h9 => hfr0 _ _ (by omega)), fun a b h7 h8 h9 => hfr0 _ _ (by omega), hfr0 _ _ (by omega), fun a b h => hfr0 a b (by omega)⟩, hH, hS, lv_sub hl [2, 3, 1, 0] rfl⟩) (fun k9 ih x9 H locs ls hv9 => ?_)
    obtain ⟨i, pp, kf, f⟩ := x9
    have hv9 : k9 = 8 * q + wn - i ∧ (8 * q ≤ i ∧ i ≤ 8 * q + wn ∧ zKf f n kf ∧ zSum kf n ≤ 99 * (i - 8 * q) ∧ (∀ j, j < wn → zMw f n (8 * q + j)) ∧ zMs f Bd ∧ (∀ a b, 55 ≤ a → a ≤ 64 → (b < 8 * q ∨ 8 * q + 8 ≤ b) → f a b = fi a b) ∧ f 30 61 = fi 30 61 ∧ ∀ a b, ¬ (a = 35 ∨ a = 52 ∨ (58 ≤ a ∧ a ≤ 60) ∨ a = 63 ∨ a = 64 ∨ (65 ≤ a ∧ a ≤ 70) ∨ (a = 30 ∧ b = 61)) → f a b = fi a b) ∧ zH D A τ f fr ol s H ∧ va_S A s.heap H locs ∧ lv_has ls 8 [(0, .ref (τ.1 30)), (1, .int (nI q)), (2, .int pp), (3, .int (nI i))] := hv9
    obtain ⟨hkih104, hv9, hH, hS, hl⟩ := hv9
    obtain ⟨h1, h2, hKf, hsm, hwq, hMs, hout, hfs, hfr⟩ := hv9
    have ih104 := ih
    clear ih
    have hMt := zMt.ci (fi' := f) hMt0 (fun i9 k9 h9 => hfr i9 k9 (by omega))
    have p2 := hMt.2.1
    have p54 : f 54 q = nI wn := by rw [hfr _ _ (by omega)]; exact h54
    have p61 : f 30 61 = nI sn := by rw [hfs]; exact hsn
    refine lv_iload_n hx hb dX12_serve_30 rfl (lv_at hl 3 rfl) ?_
    refine lv_bipush (v := nI 8) hx hb dX12_serve_31 (by decide) ?_
    refine lv_iload_n hx hb dX12_serve_33 rfl (lv_at hl 1 rfl) ?_
    refine lv_imul hx hb dX12_serve_34 ?_
    refine lv_topi (fun v105 ev105 => ?_)
    obtain rfl : v105 = nI (8 * q) := ev105.trans (pk_mul _ _)
    refine lv_aload_n hx hb dX12_serve_35 rfl (lv_at hl 0 rfl) ?_
    refine zGetR (D := D) (ci := 12) (C := RX12) (T := TX12) (N := 71) hx hb hts hiX12 hown hH (zk_30 hF) rfl 50 (by decide) rfl hw2 (fun _ h9 => h9) dX12_serve_36 (zr_30_50 hF) ?_
    refine lv_iload_n hx hb dX12_serve_39 rfl (lv_at hl 1 rfl) ?_
    refine zIaldN (D := D) hx hb hH (zk_54 hF) (zn_54 hF) (by omega) (by omega) p54 dX12_serve_40 ?_
    refine lv_iadd hx hb dX12_serve_41 ?_
    refine lv_topi (fun v106 ev106 => ?_)
    obtain rfl : v106 = nI (8 * q + wn) := ev106.trans (nI_add _ _)
    refine lv_icmp_ge (tgt := 298) hx hb dX12_serve_42 (by decide) (fun c107 => ?_) (fun c107 => ?_)
    · have zc107 := c107
      replace zc107 := zc_le (nI_toInt (by omega)) (nI_toInt (by omega)) zc107
      have hMo := zMo.upd hMo0 hwn8 h54 hwq (hfr _ _ (by omega)) (fun b => hfr _ _ (by omega)) hout
      refine lv_iload_n hx hb dX12_serve_298 rfl (lv_at hl 2 rfl) ?_
      refine lv_if_eq (tgt := 312) hx hb dX12_serve_299 (by decide) (fun c108 => ?_) (fun c108 => ?_)
      · have zc108 := c108
        replace zc108 := zc_eq (rfl) ((by decide : (0 : Int32).toInt = 0)) zc108
        refine W.widen (k := 0) (n := 0) (by decide) (by decide) ?_
        exact W.vret hx hb hr (fun t9 ht9 hW9 => ⟨⟨f, rfl, ⟨hMo, hMs, ⟨sn, by omega, p61⟩, fun a b h => hfr a b (by omega)⟩, zEnd1 hH ht9 hW9⟩, hS.F ht9⟩) hS.2.2 dX12_serve_312
      · have zc108 := c108
        replace zc108 := zc_neq (rfl) ((by decide : (0 : Int32).toInt = 0)) zc108
        refine lv_aload_n hx hb dX12_serve_302 rfl (lv_at hl 0 rfl) ?_
        refine zGetI (D := D) (ci := 12) (C := RX12) (T := TX12) (N := 71) hx hb hts hiX12 hown hH (zk_30 hF) rfl 61 (by decide) rfl hw3 (fun _ h9 => h9) dX12_serve_303 p61 ?_
        refine lv_sipush (v := nI 300) hx hb dX12_serve_306 (by decide) ?_
        refine lv_icmp_ne (tgt := 313) hx hb dX12_serve_309 (by decide) (fun c109 => ?_) (fun c109 => ?_)
        · have zc109 := c109
          replace zc109 := zc_neq (nI_toInt (by omega)) (nI_toInt (by omega)) zc109
          refine lv_aload_n hx hb dX12_serve_313 rfl (lv_at hl 0 rfl) ?_
          refine zGetR (D := D) (ci := 12) (C := RX12) (T := TX12) (N := 71) hx hb hts hiX12 hown hH (zk_30 hF) rfl 62 (by decide) rfl hw4 (fun _ h9 => h9) dX12_serve_314 (zr_30_62 hF) ?_
          refine lv_aload_n hx hb dX12_serve_317 rfl (lv_at hl 0 rfl) ?_
          refine zGetI (D := D) (ci := 12) (C := RX12) (T := TX12) (N := 71) hx hb hts hiX12 hown hH (zk_30 hF) rfl 61 (by decide) rfl hw3 (fun _ h9 => h9) dX12_serve_318 p61 ?_
          refine lv_iload_n hx hb dX12_serve_321 rfl (lv_at hl 1 rfl) ?_
          refine zIastN (D := D) hx hb hH hS (zk_65 hF) (zn_65 hF) (by omega) (by omega) dX12_serve_322 (fun H locs hH hS => ?_)
          obtain ⟨f110, ef110⟩ : ∃ f9 : zFi, f9 = zu f 65 sn (nI q) := ⟨_, rfl⟩
          rw [← ef110] at hH
          have q111 : f110 30 2 = nI n := by rw [ef110, zu_n (fun h9 => absurd h9.1 (by decide))]; exact p2
          have q112 : f110 54 q = nI wn := by rw [ef110, zu_n (fun h9 => absurd h9.1 (by decide))]; exact p54
          have q113 : f110 30 61 = nI sn := by rw [ef110, zu_n (fun h9 => absurd h9.1 (by decide))]; exact p61
          have q114 : f110 65 sn = nI q := by rw [ef110]; exact zu_s
          have hMs := zMs.ci (fi' := f110) hMs (fun i9 k9 h9 => by rw [ef110]; exact zu_n (by omega))
          have hKf := zKf.ci (fi' := f110) hKf (fun i9 k9 h9 => by rw [ef110]; exact zu_n (by omega))
          have hMo := zMo.ci (fi' := f110) hMo (fun i9 k9 h9 => by rw [ef110]; exact zu_n (by omega))
          have hMt := zMt.ci (fi' := f110) hMt (fun i9 k9 h9 => by rw [ef110]; exact zu_n (by omega))
          refine lv_aload_n hx hb dX12_serve_323 rfl (lv_at hl 0 rfl) ?_
          refine zGetR (D := D) (ci := 12) (C := RX12) (T := TX12) (N := 71) hx hb hts hiX12 hown hH (zk_30 hF) rfl 63 (by decide) rfl hw5 (fun _ h9 => h9) dX12_serve_324 (zr_30_63 hF) ?_
          refine lv_aload_n hx hb dX12_serve_327 rfl (lv_at hl 0 rfl) ?_
          refine zGetI (D := D) (ci := 12) (C := RX12) (T := TX12) (N := 71) hx hb hts hiX12 hown hH (zk_30 hF) rfl 61 (by decide) rfl hw3 (fun _ h9 => h9) dX12_serve_328 q113 ?_
          refine lv_aload_n hx hb dX12_serve_331 rfl (lv_at hl 0 rfl) ?_
          refine zGetI (D := D) (ci := 12) (C := RX12) (T := TX12) (N := 71) hx hb hts hiX12 hown hH (zk_30 hF) rfl 1 (by decide) rfl hw6 (fun _ h9 => h9) dX12_serve_332 rfl ?_
          refine zIastN (D := D) hx hb hH hS (zk_66 hF) (zn_66 hF) (by omega) (by omega) dX12_serve_335 (fun H locs hH hS => ?_)
          obtain ⟨f115, ef115⟩ : ∃ f9 : zFi, f9 = zu f110 66 sn (f110 30 1) := ⟨_, rfl⟩
          rw [← ef115] at hH
          have q116 : f115 30 2 = nI n := by rw [ef115, zu_n (fun h9 => absurd h9.1 (by decide))]; exact q111
          have q117 : f115 54 q = nI wn := by rw [ef115, zu_n (fun h9 => absurd h9.1 (by decide))]; exact q112
          have q118 : f115 30 61 = nI sn := by rw [ef115, zu_n (fun h9 => absurd h9.1 (by decide))]; exact q113
          have q119 : f115 65 sn = nI q := by rw [ef115, zu_n (fun h9 => absurd h9.1 (by decide))]; exact q114
          have q120 : f115 66 sn = f110 30 1 := by rw [ef115]; exact zu_s
          have hMs := zMs.ci (fi' := f115) hMs (fun i9 k9 h9 => by rw [ef115]; exact zu_n (by omega))
          have hKf := zKf.ci (fi' := f115) hKf (fun i9 k9 h9 => by rw [ef115]; exact zu_n (by omega))
          have hMo := zMo.ci (fi' := f115) hMo (fun i9 k9 h9 => by rw [ef115]; exact zu_n (by omega))
          have hMt := zMt.ci (fi' := f115) hMt (fun i9 k9 h9 => by rw [ef115]; exact zu_n (by omega))
          refine lv_aload_n hx hb dX12_serve_336 rfl (lv_at hl 0 rfl) ?_
          refine zGetR (D := D) (ci := 12) (C := RX12) (T := TX12) (N := 71) hx hb hts hiX12 hown hH (zk_30 hF) rfl 64 (by decide) rfl hw7 (fun _ h9 => h9) dX12_serve_337 (zr_30_64 hF) ?_
          refine lv_aload_n hx hb dX12_serve_340 rfl (lv_at hl 0 rfl) ?_
          refine zGetI (D := D) (ci := 12) (C := RX12) (T := TX12) (N := 71) hx hb hts hiX12 hown hH (zk_30 hF) rfl 61 (by decide) rfl hw3 (fun _ h9 => h9) dX12_serve_341 q118 ?_
          refine lv_iload_n hx hb dX12_serve_344 rfl (lv_at hl 2 rfl) ?_
          refine zIastN (D := D) hx hb hH hS (zk_67 hF) (zn_67 hF) (by omega) (by omega) dX12_serve_345 (fun H locs hH hS => ?_)
          obtain ⟨f121, ef121⟩ : ∃ f9 : zFi, f9 = zu f115 67 sn pp := ⟨_, rfl⟩
          rw [← ef121] at hH
          have q122 : f121 30 2 = nI n := by rw [ef121, zu_n (fun h9 => absurd h9.1 (by decide))]; exact q116
          have q123 : f121 54 q = nI wn := by rw [ef121, zu_n (fun h9 => absurd h9.1 (by decide))]; exact q117
          have q124 : f121 30 61 = nI sn := by rw [ef121, zu_n (fun h9 => absurd h9.1 (by decide))]; exact q118
          have q125 : f121 65 sn = nI q := by rw [ef121, zu_n (fun h9 => absurd h9.1 (by decide))]; exact q119
          have q126 : f121 66 sn = f110 30 1 := by rw [ef121, zu_n (fun h9 => absurd h9.1 (by decide))]; exact q120
          have q127 : f121 67 sn = pp := by rw [ef121]; exact zu_s
          have hMs := zMs.ci (fi' := f121) hMs (fun i9 k9 h9 => by rw [ef121]; exact zu_n (by omega))
          have hKf := zKf.ci (fi' := f121) hKf (fun i9 k9 h9 => by rw [ef121]; exact zu_n (by omega))
          have hMo := zMo.ci (fi' := f121) hMo (fun i9 k9 h9 => by rw [ef121]; exact zu_n (by omega))
          have hMt := zMt.ci (fi' := f121) hMt (fun i9 k9 h9 => by rw [ef121]; exact zu_n (by omega))
          refine lv_aload_n hx hb dX12_serve_346 rfl (lv_at hl 0 rfl) ?_
          refine zGetR (D := D) (ci := 12) (C := RX12) (T := TX12) (N := 71) hx hb hts hiX12 hown hH (zk_30 hF) rfl 65 (by decide) rfl hw8 (fun _ h9 => h9) dX12_serve_347 (zr_30_65 hF) ?_
          refine lv_aload_n hx hb dX12_serve_350 rfl (lv_at hl 0 rfl) ?_
          refine zGetI (D := D) (ci := 12) (C := RX12) (T := TX12) (N := 71) hx hb hts hiX12 hown hH (zk_30 hF) rfl 61 (by decide) rfl hw3 (fun _ h9 => h9) dX12_serve_351 q124 ?_
          refine lv_aload_n hx hb dX12_serve_354 rfl (lv_at hl 0 rfl) ?_
          refine va_calli (va_runV (As := []) (rest := [.int (nI sn), .ref (τ.1 68)]) ⟨hx, hb, hml, hown, hts⟩ (m_parcels l hl0 D A sad τ f121 fr ol hF n hMt kf hKf (by omega)) (cwV 0 hts gX12_serve_X12_parcels rfl rfl rfl (by decide +kernel) ⟨Nat.le_of_ble_eq_true rfl, Nat.le_of_ble_eq_true rfl⟩) ⟨zQc_bl, zRecv hH (zk_30 hF) rfl, zQc_at hz hS hA hH⟩ rfl rfl hl.1 rfl (lv_room (Nat.le_of_ble_eq_true rfl)) dX12_serve_355 ⟨Nat.le_of_ble_eq_true rfl, Nat.le_of_ble_eq_true rfl⟩) hS (fun q _ h => h) (fun q h => h) (fun r128 u9 t9 H1 locs ht9 hvm9 hw hB hz1 hk1 hS => ?_)
          have hH := zMv ht9 hvm9 hB
          clear hB
          generalize u9 = f129 at hw hH
          generalize H1 = H at hH hS ⊢
          have hf130 := hw
          clear hw
          have q131 : f129 30 2 = nI n := by rw [hf130 30 2 (by omega)]; exact q122
          have q132 : f129 54 q = nI wn := by rw [hf130 54 q (by omega)]; exact q123
          have q133 : f129 30 61 = nI sn := by rw [hf130 30 61 (by omega)]; exact q124
          have q134 : f129 65 sn = nI q := by rw [hf130 65 sn (by omega)]; exact q125
          have q135 : f129 66 sn = f110 30 1 := by rw [hf130 66 sn (by omega)]; exact q126
          have q136 : f129 67 sn = pp := by rw [hf130 67 sn (by omega)]; exact q127
          have hMs := zMs.ci (fi' := f129) hMs (fun i9 k9 h9 => hf130 i9 k9 (by omega))
          have hMo := zMo.ci (fi' := f129) hMo (fun i9 k9 h9 => hf130 i9 k9 (by omega))
          have hMt := zMt.ci (fi' := f129) hMt (fun i9 k9 h9 => hf130 i9 k9 (by omega))
          refine zIastN (D := D) hx hb hH hS (zk_68 hF) (zn_68 hF) (by omega) (by omega) dX12_serve_358 (fun H locs hH hS => ?_)
          obtain ⟨f137, ef137⟩ : ∃ f9 : zFi, f9 = zu f129 68 sn r128 := ⟨_, rfl⟩
          rw [← ef137] at hH
          have q138 : f137 30 2 = nI n := by rw [ef137, zu_n (fun h9 => absurd h9.1 (by decide))]; exact q131
          have q139 : f137 54 q = nI wn := by rw [ef137, zu_n (fun h9 => absurd h9.1 (by decide))]; exact q132
          have q140 : f137 30 61 = nI sn := by rw [ef137, zu_n (fun h9 => absurd h9.1 (by decide))]; exact q133
          have q141 : f137 65 sn = nI q := by rw [ef137, zu_n (fun h9 => absurd h9.1 (by decide))]; exact q134
          have q142 : f137 66 sn = f110 30 1 := by rw [ef137, zu_n (fun h9 => absurd h9.1 (by decide))]; exact q135
          have q143 : f137 67 sn = pp := by rw [ef137, zu_n (fun h9 => absurd h9.1 (by decide))]; exact q136
          have q144 : f137 68 sn = r128 := by rw [ef137]; exact zu_s
          have hMs := zMs.ci (fi' := f137) hMs (fun i9 k9 h9 => by rw [ef137]; exact zu_n (by omega))
          have hMo := zMo.ci (fi' := f137) hMo (fun i9 k9 h9 => by rw [ef137]; exact zu_n (by omega))
          have hMt := zMt.ci (fi' := f137) hMt (fun i9 k9 h9 => by rw [ef137]; exact zu_n (by omega))
          refine lv_aload_n hx hb dX12_serve_359 rfl (lv_at hl 0 rfl) ?_
          refine lv_dup hx hb dX12_serve_360 rfl ?_
          refine zGetI (D := D) (ci := 12) (C := RX12) (T := TX12) (N := 71) hx hb hts hiX12 hown hH (zk_30 hF) rfl 61 (by decide) rfl hw3 (fun _ h9 => h9) dX12_serve_361 q140 ?_
          refine lv_iconst (v := nI 1) hx hb dX12_serve_364 (by decide) ?_
          refine lv_iadd hx hb dX12_serve_365 ?_
          refine lv_topi (fun v145 ev145 => ?_)
          obtain rfl : v145 = nI (sn + 1) := ev145.trans (nI_add _ _)
          refine zPutI (D := D) (ci := 12) (ty := .int) (C := RX12) (T := TX12) (N := 71) hx hb hts hiX12 tyX12 tyX12_ok nmX12 hown hH hS (zk_30 hF) rfl 61 (by decide) rfl hw3 (fun _ h9 => h9) rfl (by decide +kernel) rfl rfl dX12_serve_366 (fun H locs hH hS => ?_)
          obtain ⟨f146, ef146⟩ : ∃ f9 : zFi, f9 = zu f137 30 61 (nI (sn + 1)) := ⟨_, rfl⟩
          rw [← ef146] at hH
          have q147 : f146 30 2 = nI n := by rw [ef146, zu_n (fun h9 => absurd h9.2 (by decide))]; exact q138
          have q148 : f146 54 q = nI wn := by rw [ef146, zu_n (fun h9 => absurd h9.1 (by decide))]; exact q139
          have q149 : f146 65 sn = nI q := by rw [ef146, zu_n (fun h9 => absurd h9.1 (by decide))]; exact q141
          have q150 : f146 66 sn = f110 30 1 := by rw [ef146, zu_n (fun h9 => absurd h9.1 (by decide))]; exact q142
          have q151 : f146 67 sn = pp := by rw [ef146, zu_n (fun h9 => absurd h9.1 (by decide))]; exact q143
          have q152 : f146 68 sn = r128 := by rw [ef146, zu_n (fun h9 => absurd h9.1 (by decide))]; exact q144
          have q153 : f146 30 61 = nI (sn + 1) := by rw [ef146]; exact zu_s
          have hMs := zMs.ci (fi' := f146) hMs (fun i9 k9 h9 => by rw [ef146]; exact zu_n (by omega))
          have hMo := zMo.ci (fi' := f146) hMo (fun i9 k9 h9 => by rw [ef146]; exact zu_n (by omega))
          have hMt := zMt.ci (fi' := f146) hMt (fun i9 k9 h9 => by rw [ef146]; exact zu_n (by omega))
          refine W.widen (k := 0) (n := 0) (by decide) (by decide) ?_
          exact W.vret hx hb hr (fun t9 ht9 hW9 => ⟨⟨f146, rfl, ⟨hMo, hMs, ⟨sn + 1, by omega, q153⟩, fun a b h => by rw [ef146, zu_n (by omega), ef137, zu_n (by omega), hf130 a b (by omega), ef121, zu_n (by omega), ef115, zu_n (by omega), ef110, zu_n (by omega)]; exact hfr a b (by omega)⟩, zEnd1 hH ht9 hW9⟩, hS.F ht9⟩) hS.2.2 dX12_serve_369
        · have zc109 := c109
          replace zc109 := zc_eq (nI_toInt (by omega)) (nI_toInt (by omega)) zc109
          refine W.widen (k := 0) (n := 0) (by decide) (by decide) ?_
          exact W.vret hx hb hr (fun t9 ht9 hW9 => ⟨⟨f, rfl, ⟨hMo, hMs, ⟨sn, by omega, p61⟩, fun a b h => hfr a b (by omega)⟩, zEnd1 hH ht9 hW9⟩, hS.F ht9⟩) hS.2.2 dX12_serve_312
    · have zc107 := c107
      replace zc107 := zc_nle (nI_toInt (by omega)) (nI_toInt (by omega)) zc107
      have hwv7 := hwq (i - 8 * q) (by omega)
      rw [show 8 * q + (i - 8 * q) = i by omega] at hwv7
      obtain ⟨⟨t, ht, e55⟩, qm, sa, sp, sc, pb, ⟨e56, e58, e59, e60, e62⟩, b1, b2, b3, b4, b5⟩ := hwv7
      obtain ⟨st, hst, e35⟩ := hMs t (by omega)
      obtain ⟨lf, hlf⟩ : ∃ lf : Nat, lf = qm - (sa + sp + sc) := ⟨_, rfl⟩
      refine lv_aload_n hx hb dX12_serve_45 rfl (lv_at hl 0 rfl) ?_
      refine zGetR (D := D) (ci := 12) (C := RX12) (T := TX12) (N := 71) hx hb hts hiX12 hown hH (zk_30 hF) rfl 51 (by decide) rfl hw9 (fun _ h9 => h9) dX12_serve_46 (zr_30_51 hF) ?_
      refine lv_iload_n hx hb dX12_serve_49 rfl (lv_at hl 3 rfl) ?_
      refine zIaldN (D := D) hx hb hH (zk_55 hF) (zn_55 hF) (by omega) (by omega) e55 dX12_serve_50 ?_
      refine lv_istore (lv' := [(4, .int (nI t)), (0, .ref (τ.1 30)), (1, .int (nI q)), (2, .int pp), (3, .int (nI i))]) hx hb dX12_serve_51 hl (by decide) rfl (fun ls hl => ?_)
      refine lv_aload_n hx hb dX12_serve_53 rfl (lv_at hl 1 rfl) ?_
      refine lv_iload_n hx hb dX12_serve_54 rfl (lv_at hl 4 rfl) ?_
      refine va_calli (va_runV (As := [.int (nI i)]) (rest := []) ⟨hx, hb, hml, hown, hts⟩ (m_leftV l hl0 D A sad τ f fr ol hF i (by omega) qm sa sp sc e56 e58 e59 e60 (by omega)) (cwV 1 hts gX12_serve_X12_left rfl rfl rfl (by decide +kernel) ⟨Nat.le_of_ble_eq_true rfl, Nat.le_of_ble_eq_true rfl⟩) ⟨zQc_bl, zRecv hH (zk_30 hF) rfl, zQc_at hz hS hA hH⟩ rfl rfl hl.1 rfl (lv_room (Nat.le_of_ble_eq_true rfl)) dX12_serve_55 ⟨Nat.le_of_ble_eq_true rfl, Nat.le_of_ble_eq_true rfl⟩) hS (fun q _ h => h) (fun q h => h) (fun r154 u9 t9 H1 locs ht9 hvm9 hw hB hz1 hk1 hS => ?_)
      have hH := zMv ht9 hvm9 hB
      generalize H1 = H at hH hS ⊢
      obtain rfl : r154 = nI lf := hw.trans (by rw [hlf])
      refine lv_aload_n hx hb dX12_serve_58 rfl (lv_at hl 1 rfl) ?_
      refine zGetR (D := D) (ci := 12) (C := RX12) (T := TX12) (N := 71) hx hb hts hiX12 hown hH (zk_30 hF) rfl 7 (by decide) rfl hw10 (fun _ h9 => h9) dX12_serve_59 (zr_30_7 hF) ?_
      refine lv_iload hx hb dX12_serve_62 (lv_at hl 0 rfl) ?_
      refine zIaldN (D := D) hx hb hH (zk_35 hF) (zn_35 hF) (by omega) (by omega) e35 dX12_serve_64 ?_
      refine lv_icmp_ge (tgt := 76) hx hb dX12_serve_65 (by decide) (fun c155 => ?_) (fun c155 => ?_)
      · have zc155 := c155
        replace zc155 := zc_le (nI_toInt (by omega)) (nI_toInt (by omega)) zc155
        refine lv_aload_n hx hb dX12_serve_76 rfl (lv_at hl 1 rfl) ?_
        refine zGetR (D := D) (ci := 12) (C := RX12) (T := TX12) (N := 71) hx hb hts hiX12 hown hH (zk_30 hF) rfl 7 (by decide) rfl hw10 (fun _ h9 => h9) dX12_serve_77 (zr_30_7 hF) ?_
        refine lv_iload hx hb dX12_serve_80 (lv_at hl 0 rfl) ?_
        refine zIaldN (D := D) hx hb hH (zk_35 hF) (zn_35 hF) (by omega) (by omega) e35 dX12_serve_82 ?_
        refine lv_istore (lv' := [(5, .int (nI st)), (4, .int (nI t)), (0, .ref (τ.1 30)), (1, .int (nI q)), (2, .int pp), (3, .int (nI i))]) hx hb dX12_serve_83 hl (by decide) rfl (fun ls hl => ?_)
        refine lv_aload_n hx hb dX12_serve_85 rfl (lv_at hl 2 rfl) ?_
        refine zGetR (D := D) (ci := 12) (C := RX12) (T := TX12) (N := 71) hx hb hts hiX12 hown hH (zk_30 hF) rfl 7 (by decide) rfl hw10 (fun _ h9 => h9) dX12_serve_86 (zr_30_7 hF) ?_
        refine lv_iload hx hb dX12_serve_89 (lv_at hl 1 rfl) ?_
        refine lv_dup2_11 hx hb dX12_serve_91 rfl rfl ?_
        refine zIaldN (D := D) hx hb hH (zk_35 hF) (zn_35 hF) (by omega) (by omega) e35 dX12_serve_92 ?_
        refine lv_iload hx hb dX12_serve_93 (lv_at hl 0 rfl) ?_
        refine lv_isub hx hb dX12_serve_95 ?_
        refine lv_topi (fun v156 ev156 => ?_)
        obtain rfl : v156 = nI (st - st) := ev156.trans (pk_sub (by omega))
        refine zIastN (D := D) hx hb hH hS (zk_35 hF) (zn_35 hF) (by omega) (by omega) dX12_serve_96 (fun H locs hH hS => ?_)
        obtain ⟨f157, ef157⟩ : ∃ f9 : zFi, f9 = zu f 35 t (nI (st - st)) := ⟨_, rfl⟩
        rw [← ef157] at hH
        have q158 : f157 30 2 = nI n := by rw [ef157, zu_n (fun h9 => absurd h9.1 (by decide))]; exact p2
        have q159 : f157 54 q = nI wn := by rw [ef157, zu_n (fun h9 => absurd h9.1 (by decide))]; exact p54
        have q160 : f157 30 61 = nI sn := by rw [ef157, zu_n (fun h9 => absurd h9.1 (by decide))]; exact p61
        have q161 : f157 55 i = nI t := by rw [ef157, zu_n (fun h9 => absurd h9.1 (by decide))]; exact e55
        have q162 : f157 56 i = nI qm := by rw [ef157, zu_n (fun h9 => absurd h9.1 (by decide))]; exact e56
        have q163 : f157 58 i = nI sa := by rw [ef157, zu_n (fun h9 => absurd h9.1 (by decide))]; exact e58
        have q164 : f157 59 i = nI sp := by rw [ef157, zu_n (fun h9 => absurd h9.1 (by decide))]; exact e59
        have q165 : f157 60 i = nI sc := by rw [ef157, zu_n (fun h9 => absurd h9.1 (by decide))]; exact e60
        have q166 : f157 62 i = nI pb := by rw [ef157, zu_n (fun h9 => absurd h9.1 (by decide))]; exact e62
        have q167 : f157 35 t = nI (st - st) := by rw [ef157]; exact zu_s
        have hMs := zMs.set (v := st - st) hMs ef157 (Nat.le_refl _) (by omega)
        have hKf := zKf.ci (fi' := f157) hKf (fun i9 k9 h9 => by rw [ef157]; exact zu_n (by omega))
        refine lv_aload_n hx hb dX12_serve_97 rfl (lv_at hl 2 rfl) ?_
        refine zGetR (D := D) (ci := 12) (C := RX12) (T := TX12) (N := 71) hx hb hts hiX12 hown hH (zk_30 hF) rfl 54 (by decide) rfl hw11 (fun _ h9 => h9) dX12_serve_98 (zr_30_54 hF) ?_
        refine lv_iload_n hx hb dX12_serve_101 rfl (lv_at hl 5 rfl) ?_
        refine lv_dup2_11 hx hb dX12_serve_102 rfl rfl ?_
        refine zIaldN (D := D) hx hb hH (zk_58 hF) (zn_58 hF) (by omega) (by omega) q163 dX12_serve_103 ?_
        refine lv_iload hx hb dX12_serve_104 (lv_at hl 0 rfl) ?_
        refine lv_iadd hx hb dX12_serve_106 ?_
        refine lv_topi (fun v168 ev168 => ?_)
        obtain rfl : v168 = nI (sa + st) := ev168.trans (nI_add _ _)
        refine zIastN (D := D) hx hb hH hS (zk_58 hF) (zn_58 hF) (by omega) (by omega) dX12_serve_107 (fun H locs hH hS => ?_)
        obtain ⟨f169, ef169⟩ : ∃ f9 : zFi, f9 = zu f157 58 i (nI (sa + st)) := ⟨_, rfl⟩
        rw [← ef169] at hH
        have q170 : f169 30 2 = nI n := by rw [ef169, zu_n (fun h9 => absurd h9.1 (by decide))]; exact q158
        have q171 : f169 54 q = nI wn := by rw [ef169, zu_n (fun h9 => absurd h9.1 (by decide))]; exact q159
        have q172 : f169 30 61 = nI sn := by rw [ef169, zu_n (fun h9 => absurd h9.1 (by decide))]; exact q160
        have q173 : f169 55 i = nI t := by rw [ef169, zu_n (fun h9 => absurd h9.1 (by decide))]; exact q161
        have q174 : f169 56 i = nI qm := by rw [ef169, zu_n (fun h9 => absurd h9.1 (by decide))]; exact q162
        have q175 : f169 59 i = nI sp := by rw [ef169, zu_n (fun h9 => absurd h9.1 (by decide))]; exact q164
        have q176 : f169 60 i = nI sc := by rw [ef169, zu_n (fun h9 => absurd h9.1 (by decide))]; exact q165
        have q177 : f169 62 i = nI pb := by rw [ef169, zu_n (fun h9 => absurd h9.1 (by decide))]; exact q166
        have q178 : f169 35 t = nI (st - st) := by rw [ef169, zu_n (fun h9 => absurd h9.1 (by decide))]; exact q167
        have q179 : f169 58 i = nI (sa + st) := by rw [ef169]; exact zu_s
        have hMs := zMs.ci (fi' := f169) hMs (fun i9 k9 h9 => by rw [ef169]; exact zu_n (by omega))
        have hKf := zKf.ci (fi' := f169) hKf (fun i9 k9 h9 => by rw [ef169]; exact zu_n (by omega))
        refine lv_aload_n hx hb dX12_serve_108 rfl (lv_at hl 2 rfl) ?_
        refine zGetR (D := D) (ci := 12) (C := RX12) (T := TX12) (N := 71) hx hb hts hiX12 hown hH (zk_30 hF) rfl 66 (by decide) rfl hw12 (fun _ h9 => h9) dX12_serve_109 (zr_30_66 hF) ?_
        refine lv_iload hx hb dX12_serve_112 (lv_at hl 1 rfl) ?_
        refine lv_dup2_11 hx hb dX12_serve_114 rfl rfl ?_
        refine zIaldN (D := D) hx hb hH (zk_69 hF) (zn_69 hF) (by omega) (by omega) (hKf t ht) dX12_serve_115 ?_
        refine lv_iload hx hb dX12_serve_116 (lv_at hl 0 rfl) ?_
        refine lv_iadd hx hb dX12_serve_118 ?_
        refine lv_topi (fun v180 ev180 => ?_)
        obtain rfl : v180 = nI (kf t + st) := ev180.trans (nI_add _ _)
        refine zIastN (D := D) hx hb hH hS (zk_69 hF) (zn_69 hF) (by omega) (by omega) dX12_serve_119 (fun H locs hH hS => ?_)
        obtain ⟨f181, ef181⟩ : ∃ f9 : zFi, f9 = zu f169 69 t (nI (kf t + st)) := ⟨_, rfl⟩
        rw [← ef181] at hH
        have q182 : f181 30 2 = nI n := by rw [ef181, zu_n (fun h9 => absurd h9.1 (by decide))]; exact q170
        have q183 : f181 54 q = nI wn := by rw [ef181, zu_n (fun h9 => absurd h9.1 (by decide))]; exact q171
        have q184 : f181 30 61 = nI sn := by rw [ef181, zu_n (fun h9 => absurd h9.1 (by decide))]; exact q172
        have q185 : f181 55 i = nI t := by rw [ef181, zu_n (fun h9 => absurd h9.1 (by decide))]; exact q173
        have q186 : f181 56 i = nI qm := by rw [ef181, zu_n (fun h9 => absurd h9.1 (by decide))]; exact q174
        have q187 : f181 59 i = nI sp := by rw [ef181, zu_n (fun h9 => absurd h9.1 (by decide))]; exact q175
        have q188 : f181 60 i = nI sc := by rw [ef181, zu_n (fun h9 => absurd h9.1 (by decide))]; exact q176
        have q189 : f181 62 i = nI pb := by rw [ef181, zu_n (fun h9 => absurd h9.1 (by decide))]; exact q177
        have q190 : f181 35 t = nI (st - st) := by rw [ef181, zu_n (fun h9 => absurd h9.1 (by decide))]; exact q178
        have q191 : f181 58 i = nI (sa + st) := by rw [ef181, zu_n (fun h9 => absurd h9.1 (by decide))]; exact q179
        have q192 : f181 69 t = nI (kf t + st) := by rw [ef181]; exact zu_s
        have hMs := zMs.ci (fi' := f181) hMs (fun i9 k9 h9 => by rw [ef181]; exact zu_n (by omega))
        have hKf := zKf.set (t := t) (x := st) hKf ef181
        obtain ⟨kf1, ekf1⟩ : ∃ k9 : Nat → Nat, k9 = (fun j => if j = t then kf j + st else kf j) := ⟨_, rfl⟩
        rw [← ekf1] at hKf
        have skf1 : zSum kf1 n = zSum kf n + st := by rw [ekf1]; exact zSum_up (by omega)
        refine lv_iload_n hx hb dX12_serve_120 rfl (lv_at hl 4 rfl) ?_
        refine lv_iload hx hb dX12_serve_121 (lv_at hl 0 rfl) ?_
        refine lv_iadd hx hb dX12_serve_123 ?_
        refine lv_topi (fun v193 ev193 => ?_)
        refine lv_istore_n (lv' := [(2, .int v193), (5, .int (nI st)), (4, .int (nI t)), (0, .ref (τ.1 30)), (1, .int (nI q)), (3, .int (nI i))]) hx hb dX12_serve_124 rfl hl (by decide) rfl (fun ls hl => ?_)
        refine lv_iload hx hb dX12_serve_125 (lv_at hl 1 rfl) ?_
        refine lv_if_le (tgt := 140) hx hb dX12_serve_127 (by decide) (fun c194 => ?_) (fun c194 => ?_)
        · have zc194 := c194
          replace zc194 := zc_le (nI_toInt (by omega)) ((by decide : (0 : Int32).toInt = 0)) zc194
          refine lv_aload_n hx hb dX12_serve_140 rfl (lv_at hl 3 rfl) ?_
          refine lv_iload_n hx hb dX12_serve_141 rfl (lv_at hl 5 rfl) ?_
          refine va_calli (va_runV (As := [.int (nI i)]) (rest := []) ⟨hx, hb, hml, hown, hts⟩ (m_leftV l hl0 D A sad τ f181 fr ol hF i (by omega) qm (sa + st) sp sc q186 q191 q187 q188 (by omega)) (cwV 1 hts gX12_serve_X12_left rfl rfl rfl (by decide +kernel) ⟨Nat.le_of_ble_eq_true rfl, Nat.le_of_ble_eq_true rfl⟩) ⟨zQc_bl, zRecv hH (zk_30 hF) rfl, zQc_at hz hS hA hH⟩ rfl rfl hl.1 rfl (lv_room (Nat.le_of_ble_eq_true rfl)) dX12_serve_142 ⟨Nat.le_of_ble_eq_true rfl, Nat.le_of_ble_eq_true rfl⟩) hS (fun q _ h => h) (fun q h => h) (fun r195 u9 t9 H1 locs ht9 hvm9 hw hB hz1 hk1 hS => ?_)
          have hH := zMv ht9 hvm9 hB
          generalize H1 = H at hH hS ⊢
          obtain ⟨sl, hsl⟩ : ∃ sl : Nat, sl = qm - ((sa + st) + sp + sc) := ⟨_, rfl⟩
          obtain rfl : r195 = nI sl := hw.trans (by rw [hsl])
          refine lv_istore (lv' := [(6, .int (nI sl)), (2, .int v193), (5, .int (nI st)), (4, .int (nI t)), (0, .ref (τ.1 30)), (1, .int (nI q)), (3, .int (nI i))]) hx hb dX12_serve_145 hl (by decide) rfl (fun ls hl => ?_)
          refine lv_iload hx hb dX12_serve_147 (lv_at hl 0 rfl) ?_
          refine lv_if_eq (tgt := 292) hx hb dX12_serve_149 (by decide) (fun c196 => ?_) (fun c196 => ?_)
          · have zc196 := c196
            replace zc196 := zc_eq (nI_toInt (by omega)) ((by decide : (0 : Int32).toInt = 0)) zc196
            refine lv_iinc (v := nI (i + 1)) (lv' := [(3, .int (nI (i + 1))), (6, .int (nI sl)), (2, .int v193), (5, .int (nI st)), (4, .int (nI t)), (0, .ref (τ.1 30)), (1, .int (nI q))]) hx hb dX12_serve_292 hl (k := 6) rfl (by rw [show (Int32.ofInt 1 : Int32) = nI 1 from by decide, nI_add]) (by decide) rfl (fun ls hl => ?_)
            refine lv_goto (tgt := 30) hx hb dX12_serve_295 (by decide) ?_
            have hzw : zMw f181 n i := ⟨⟨t, ht, q185⟩, qm, sa + st, sp, sc, pb, ⟨q186, q191, q187, q188, q189⟩, b1, b2, by omega, by omega, by rcases b5 with h9 | ⟨t3, h91, h92⟩; (exact Or.inl h9); exact Or.inr ⟨t3, h91, by rw [ef181, zu_n (by omega), ef169, zu_n (by omega), ef157, zu_n (by omega)]; exact h92⟩⟩
            exact ih104 (8 * q + wn - (i + 1)) (by omega) (i + 1, v193, kf1, f181) _ _ _ (show 8 * q + wn - (i + 1) = 8 * q + wn - (i + 1) ∧ (8 * q ≤ (i + 1) ∧ (i + 1) ≤ 8 * q + wn ∧ zKf f181 n kf1 ∧ zSum kf1 n ≤ 99 * ((i + 1) - 8 * q) ∧ (∀ j, j < wn → zMw f181 n (8 * q + j)) ∧ zMs f181 Bd ∧ (∀ a b, 55 ≤ a → a ≤ 64 → (b < 8 * q ∨ 8 * q + 8 ≤ b) → f181 a b = fi a b) ∧ f181 30 61 = fi 30 61 ∧ ∀ a b, ¬ (a = 35 ∨ a = 52 ∨ (58 ≤ a ∧ a ≤ 60) ∨ a = 63 ∨ a = 64 ∨ (65 ≤ a ∧ a ≤ 70) ∨ (a = 30 ∧ b = 61)) → f181 a b = fi a b) ∧ zH D A τ f181 fr ol s _ ∧ va_S A s.heap _ _ ∧ lv_has _ 8 [(0, .ref (τ.1 30)), (1, .int (nI q)), (2, .int v193), (3, .int (nI (i + 1)))] from ⟨rfl, ⟨by omega, by omega, hKf, by omega, fun j h => by by_cases h7 : 8 * q + j = i; (rw [h7]; exact hzw); exact (hwq j h).ci (Nat.le_refl _) (fun a h8 h9 => by rw [ef181, zu_n (by omega), ef169, zu_n (by omega), ef157, zu_n (by omega)]), hMs, fun a b h7 h8 h9 => by rw [ef181, zu_n (by omega), ef169, zu_n (by omega), ef157, zu_n (by omega)]; exact hout a b h7 h8 h9, by rw [ef181, zu_n (by omega), ef169, zu_n (by omega), ef157, zu_n (by omega)]; exact hfs, fun a b h => by rw [ef181, zu_n (by omega), ef169, zu_n (by omega), ef157, zu_n (by omega)]; exact hfr a b h⟩, hH, hS, lv_sub hl [5, 6, 2, 0] rfl⟩)
          · have zc196 := c196
            replace zc196 := zc_neq (nI_toInt (by omega)) ((by decide : (0 : Int32).toInt = 0)) zc196
            refine lv_aload_n hx hb dX12_serve_152 rfl (lv_at hl 4 rfl) ?_
            refine zGetI (D := D) (ci := 12) (C := RX12) (T := TX12) (N := 71) hx hb hts hiX12 hown hH (zk_30 hF) rfl 1 (by decide) rfl hw6 (fun _ h9 => h9) dX12_serve_153 rfl ?_
            refine lv_aload_n hx hb dX12_serve_156 rfl (lv_at hl 4 rfl) ?_
            refine zGetR (D := D) (ci := 12) (C := RX12) (T := TX12) (N := 71) hx hb hts hiX12 hown hH (zk_30 hF) rfl 46 (by decide) rfl hw13 (fun _ h9 => h9) dX12_serve_157 (zr_30_46 hF) ?_
            refine lv_iload_n hx hb dX12_serve_160 rfl (lv_at hl 5 rfl) ?_
            refine zIaldN (D := D) hx hb hH (zk_50 hF) (zn_50 hF) (by omega) (by omega) rfl dX12_serve_161 ?_
            refine lv_isub hx hb dX12_serve_162 ?_
            refine lv_topi (fun v197 ev197 => ?_)
            refine lv_aload_n hx hb dX12_serve_163 rfl (lv_at hl 4 rfl) ?_
            refine zGetR (D := D) (ci := 12) (C := RX12) (T := TX12) (N := 71) hx hb hts hiX12 hown hH (zk_30 hF) rfl 17 (by decide) rfl hw14 (fun _ h9 => h9) dX12_serve_164 (zr_30_17 hF) ?_
            refine lv_iconst (v := nI 0) hx hb dX12_serve_167 (by decide) ?_
            refine zIaldN (D := D) hx hb hH (zk_44 hF) (zn_44 hF) (by omega) (by omega) rfl dX12_serve_168 ?_
            refine lv_icmp_gt (tgt := 175) hx hb dX12_serve_169 (by decide) (fun c198 => ?_) (fun c198 => ?_)
            · have zc198 := c198
              replace zc198 := zc_lt (rfl) (rfl) zc198
              refine lv_aload_n hx hb dX12_serve_175 rfl (lv_at hl 4 rfl) ?_
              refine zGetR (D := D) (ci := 12) (C := RX12) (T := TX12) (N := 71) hx hb hts hiX12 hown hH (zk_30 hF) rfl 12 (by decide) rfl hw15 (fun _ h9 => h9) dX12_serve_176 (zr_30_12 hF) ?_
              refine lv_iload hx hb dX12_serve_179 (lv_at hl 3 rfl) ?_
              refine zIaldN (D := D) hx hb hH (zk_40 hF) (zn_40 hF) (by omega) (by omega) rfl dX12_serve_181 ?_
              have h40 : f181 40 t = fi 40 t := by rw [ef181, zu_n (by omega), ef169, zu_n (by omega), ef157, zu_n (by omega)]; exact hfr _ _ (by omega)
              rcases hMx t (by omega) with h41 | ⟨t2, ht2, h41⟩
              · rw [h40, h41]
                refine lv_istore (lv' := [(7, .int ((-1))), (6, .int (nI sl)), (2, .int v193), (5, .int (nI st)), (4, .int (nI t)), (0, .ref (τ.1 30)), (1, .int (nI q)), (3, .int (nI i))]) hx hb dX12_serve_182 hl (by decide) rfl (fun ls hl => ?_)
                refine lv_iload hx hb dX12_serve_184 (lv_at hl 0 rfl) ?_
                refine lv_iconst (v := (-1)) hx hb dX12_serve_186 (by decide) ?_
                refine lv_icmp_eq (tgt := 263) hx hb dX12_serve_187 (by decide) (fun c199 => ?_) (fun c199 => absurd (by decide) c199)
                refine lv_aload_n hx hb dX12_serve_263 rfl (lv_at hl 5 rfl) ?_
                refine zGetR (D := D) (ci := 12) (C := RX12) (T := TX12) (N := 71) hx hb hts hiX12 hown hH (zk_30 hF) rfl 56 (by decide) rfl hw16 (fun _ h9 => h9) dX12_serve_264 (zr_30_56 hF) ?_
                refine lv_iload_n hx hb dX12_serve_267 rfl (lv_at hl 7 rfl) ?_
                refine lv_dup2_11 hx hb dX12_serve_268 rfl rfl ?_
                refine zIaldN (D := D) hx hb hH (zk_60 hF) (zn_60 hF) (by omega) (by omega) q188 dX12_serve_269 ?_
                refine lv_iload hx hb dX12_serve_270 (lv_at hl 1 rfl) ?_
                refine lv_iadd hx hb dX12_serve_272 ?_
                refine lv_topi (fun v200 ev200 => ?_)
                obtain rfl : v200 = nI (sc + sl) := ev200.trans (nI_add _ _)
                refine zIastN (D := D) hx hb hH hS (zk_60 hF) (zn_60 hF) (by omega) (by omega) dX12_serve_273 (fun H locs hH hS => ?_)
                obtain ⟨f201, ef201⟩ : ∃ f9 : zFi, f9 = zu f181 60 i (nI (sc + sl)) := ⟨_, rfl⟩
                rw [← ef201] at hH
                have q202 : f201 30 2 = nI n := by rw [ef201, zu_n (fun h9 => absurd h9.1 (by decide))]; exact q182
                have q203 : f201 54 q = nI wn := by rw [ef201, zu_n (fun h9 => absurd h9.1 (by decide))]; exact q183
                have q204 : f201 30 61 = nI sn := by rw [ef201, zu_n (fun h9 => absurd h9.1 (by decide))]; exact q184
                have q205 : f201 55 i = nI t := by rw [ef201, zu_n (fun h9 => absurd h9.1 (by decide))]; exact q185
                have q206 : f201 56 i = nI qm := by rw [ef201, zu_n (fun h9 => absurd h9.1 (by decide))]; exact q186
                have q207 : f201 59 i = nI sp := by rw [ef201, zu_n (fun h9 => absurd h9.1 (by decide))]; exact q187
                have q208 : f201 62 i = nI pb := by rw [ef201, zu_n (fun h9 => absurd h9.1 (by decide))]; exact q189
                have q209 : f201 35 t = nI (st - st) := by rw [ef201, zu_n (fun h9 => absurd h9.1 (by decide))]; exact q190
                have q210 : f201 58 i = nI (sa + st) := by rw [ef201, zu_n (fun h9 => absurd h9.1 (by decide))]; exact q191
                have q211 : f201 69 t = nI (kf t + st) := by rw [ef201, zu_n (fun h9 => absurd h9.1 (by decide))]; exact q192
                have q212 : f201 60 i = nI (sc + sl) := by rw [ef201]; exact zu_s
                have hMs := zMs.ci (fi' := f201) hMs (fun i9 k9 h9 => by rw [ef201]; exact zu_n (by omega))
                have hKf := zKf.ci (fi' := f201) hKf (fun i9 k9 h9 => by rw [ef201]; exact zu_n (by omega))
                refine lv_aload_n hx hb dX12_serve_274 rfl (lv_at hl 5 rfl) ?_
                refine zGetR (D := D) (ci := 12) (C := RX12) (T := TX12) (N := 71) hx hb hts hiX12 hown hH (zk_30 hF) rfl 48 (by decide) rfl hw17 (fun _ h9 => h9) dX12_serve_275 (zr_30_48 hF) ?_
                refine lv_iload_n hx hb dX12_serve_278 rfl (lv_at hl 6 rfl) ?_
                refine lv_dup2_11 hx hb dX12_serve_279 rfl rfl ?_
                refine zIaldN (D := D) hx hb hH (zk_52 hF) (zn_52 hF) (by omega) (by omega) rfl dX12_serve_280 ?_
                refine lv_iload hx hb dX12_serve_281 (lv_at hl 1 rfl) ?_
                refine lv_aload_n hx hb dX12_serve_283 rfl (lv_at hl 5 rfl) ?_
                refine zGetR (D := D) (ci := 12) (C := RX12) (T := TX12) (N := 71) hx hb hts hiX12 hown hH (zk_30 hF) rfl 53 (by decide) rfl hw18 (fun _ h9 => h9) dX12_serve_284 (zr_30_53 hF) ?_
                refine lv_iload_n hx hb dX12_serve_287 rfl (lv_at hl 7 rfl) ?_
                refine zIaldN (D := D) hx hb hH (zk_57 hF) (zn_57 hF) (by omega) (by omega) rfl dX12_serve_288 ?_
                refine lv_imul hx hb dX12_serve_289 ?_
                refine lv_topi (fun v213 ev213 => ?_)
                refine lv_iadd hx hb dX12_serve_290 ?_
                refine lv_topi (fun v214 ev214 => ?_)
                refine zIastN (D := D) hx hb hH hS (zk_52 hF) (zn_52 hF) (by omega) (by omega) dX12_serve_291 (fun H locs hH hS => ?_)
                obtain ⟨f215, ef215⟩ : ∃ f9 : zFi, f9 = zu f201 52 q v214 := ⟨_, rfl⟩
                rw [← ef215] at hH
                have q216 : f215 30 2 = nI n := by rw [ef215, zu_n (fun h9 => absurd h9.1 (by decide))]; exact q202
                have q217 : f215 54 q = nI wn := by rw [ef215, zu_n (fun h9 => absurd h9.1 (by decide))]; exact q203
                have q218 : f215 30 61 = nI sn := by rw [ef215, zu_n (fun h9 => absurd h9.1 (by decide))]; exact q204
                have q219 : f215 55 i = nI t := by rw [ef215, zu_n (fun h9 => absurd h9.1 (by decide))]; exact q205
                have q220 : f215 56 i = nI qm := by rw [ef215, zu_n (fun h9 => absurd h9.1 (by decide))]; exact q206
                have q221 : f215 59 i = nI sp := by rw [ef215, zu_n (fun h9 => absurd h9.1 (by decide))]; exact q207
                have q222 : f215 62 i = nI pb := by rw [ef215, zu_n (fun h9 => absurd h9.1 (by decide))]; exact q208
                have q223 : f215 35 t = nI (st - st) := by rw [ef215, zu_n (fun h9 => absurd h9.1 (by decide))]; exact q209
                have q224 : f215 58 i = nI (sa + st) := by rw [ef215, zu_n (fun h9 => absurd h9.1 (by decide))]; exact q210
                have q225 : f215 69 t = nI (kf t + st) := by rw [ef215, zu_n (fun h9 => absurd h9.1 (by decide))]; exact q211
                have q226 : f215 60 i = nI (sc + sl) := by rw [ef215, zu_n (fun h9 => absurd h9.1 (by decide))]; exact q212
                have q227 : f215 52 q = v214 := by rw [ef215]; exact zu_s
                have hMs := zMs.ci (fi' := f215) hMs (fun i9 k9 h9 => by rw [ef215]; exact zu_n (by omega))
                have hKf := zKf.ci (fi' := f215) hKf (fun i9 k9 h9 => by rw [ef215]; exact zu_n (by omega))
                refine lv_iinc (v := nI (i + 1)) (lv' := [(3, .int (nI (i + 1))), (7, .int ((-1))), (6, .int (nI sl)), (2, .int v193), (5, .int (nI st)), (4, .int (nI t)), (0, .ref (τ.1 30)), (1, .int (nI q))]) hx hb dX12_serve_292 hl (k := 7) rfl (by rw [show (Int32.ofInt 1 : Int32) = nI 1 from by decide, nI_add]) (by decide) rfl (fun ls hl => ?_)
                refine lv_goto (tgt := 30) hx hb dX12_serve_295 (by decide) ?_
                have hzw : zMw f215 n i := ⟨⟨t, ht, q219⟩, qm, sa + st, sp, sc + sl, pb, ⟨q220, q224, q221, q226, q222⟩, b1, b2, by omega, by omega, by rcases b5 with h9 | ⟨t3, h91, h92⟩; (exact Or.inl h9); exact Or.inr ⟨t3, h91, by rw [ef215, zu_n (by omega), ef201, zu_n (by omega), ef181, zu_n (by omega), ef169, zu_n (by omega), ef157, zu_n (by omega)]; exact h92⟩⟩
                exact ih104 (8 * q + wn - (i + 1)) (by omega) (i + 1, v193, kf1, f215) _ _ _ (show 8 * q + wn - (i + 1) = 8 * q + wn - (i + 1) ∧ (8 * q ≤ (i + 1) ∧ (i + 1) ≤ 8 * q + wn ∧ zKf f215 n kf1 ∧ zSum kf1 n ≤ 99 * ((i + 1) - 8 * q) ∧ (∀ j, j < wn → zMw f215 n (8 * q + j)) ∧ zMs f215 Bd ∧ (∀ a b, 55 ≤ a → a ≤ 64 → (b < 8 * q ∨ 8 * q + 8 ≤ b) → f215 a b = fi a b) ∧ f215 30 61 = fi 30 61 ∧ ∀ a b, ¬ (a = 35 ∨ a = 52 ∨ (58 ≤ a ∧ a ≤ 60) ∨ a = 63 ∨ a = 64 ∨ (65 ≤ a ∧ a ≤ 70) ∨ (a = 30 ∧ b = 61)) → f215 a b = fi a b) ∧ zH D A τ f215 fr ol s _ ∧ va_S A s.heap _ _ ∧ lv_has _ 8 [(0, .ref (τ.1 30)), (1, .int (nI q)), (2, .int v193), (3, .int (nI (i + 1)))] from ⟨rfl, ⟨by omega, by omega, hKf, by omega, fun j h => by by_cases h7 : 8 * q + j = i; (rw [h7]; exact hzw); exact (hwq j h).ci (Nat.le_refl _) (fun a h8 h9 => by rw [ef215, zu_n (by omega), ef201, zu_n (by omega), ef181, zu_n (by omega), ef169, zu_n (by omega), ef157, zu_n (by omega)]), hMs, fun a b h7 h8 h9 => by rw [ef215, zu_n (by omega), ef201, zu_n (by omega), ef181, zu_n (by omega), ef169, zu_n (by omega), ef157, zu_n (by omega)]; exact hout a b h7 h8 h9, by rw [ef215, zu_n (by omega), ef201, zu_n (by omega), ef181, zu_n (by omega), ef169, zu_n (by omega), ef157, zu_n (by omega)]; exact hfs, fun a b h => by rw [ef215, zu_n (by omega), ef201, zu_n (by omega), ef181, zu_n (by omega), ef169, zu_n (by omega), ef157, zu_n (by omega)]; exact hfr a b h⟩, hH, hS, lv_sub hl [6, 7, 3, 0] rfl⟩)
              · rw [h40, h41]
                refine lv_istore (lv' := [(7, .int (nI t2)), (6, .int (nI sl)), (2, .int v193), (5, .int (nI st)), (4, .int (nI t)), (0, .ref (τ.1 30)), (1, .int (nI q)), (3, .int (nI i))]) hx hb dX12_serve_182 hl (by decide) rfl (fun ls hl => ?_)
                refine lv_iload hx hb dX12_serve_184 (lv_at hl 0 rfl) ?_
                refine lv_iconst (v := (-1)) hx hb dX12_serve_186 (by decide) ?_
                refine lv_icmp_eq (tgt := 263) hx hb dX12_serve_187 (by decide) (fun c228 => False.elim (by have zc228 := zc_eq (nI_toInt (by omega)) ((by decide : ((-1) : Int32).toInt = (-1))) c228; omega)) (fun c228 => ?_)
                obtain ⟨s2, hs2, e35b⟩ := hMs t2 (by omega)
                refine lv_aload_n hx hb dX12_serve_190 rfl (lv_at hl 5 rfl) ?_
                refine zGetR (D := D) (ci := 12) (C := RX12) (T := TX12) (N := 71) hx hb hts hiX12 hown hH (zk_30 hF) rfl 7 (by decide) rfl hw10 (fun _ h9 => h9) dX12_serve_191 (zr_30_7 hF) ?_
                refine lv_iload hx hb dX12_serve_194 (lv_at hl 0 rfl) ?_
                refine zIaldN (D := D) hx hb hH (zk_35 hF) (zn_35 hF) (by omega) (by omega) e35b dX12_serve_196 ?_
                refine lv_iload hx hb dX12_serve_197 (lv_at hl 1 rfl) ?_
                refine lv_icmp_lt (tgt := 263) hx hb dX12_serve_199 (by decide) (fun c229 => ?_) (fun c229 => ?_)
                · have zc229 := c229
                  replace zc229 := zc_lt (nI_toInt (by omega)) (nI_toInt (by omega)) zc229
                  refine lv_aload_n hx hb dX12_serve_263 rfl (lv_at hl 5 rfl) ?_
                  refine zGetR (D := D) (ci := 12) (C := RX12) (T := TX12) (N := 71) hx hb hts hiX12 hown hH (zk_30 hF) rfl 56 (by decide) rfl hw16 (fun _ h9 => h9) dX12_serve_264 (zr_30_56 hF) ?_
                  refine lv_iload_n hx hb dX12_serve_267 rfl (lv_at hl 7 rfl) ?_
                  refine lv_dup2_11 hx hb dX12_serve_268 rfl rfl ?_
                  refine zIaldN (D := D) hx hb hH (zk_60 hF) (zn_60 hF) (by omega) (by omega) q188 dX12_serve_269 ?_
                  refine lv_iload hx hb dX12_serve_270 (lv_at hl 1 rfl) ?_
                  refine lv_iadd hx hb dX12_serve_272 ?_
                  refine lv_topi (fun v230 ev230 => ?_)
                  obtain rfl : v230 = nI (sc + sl) := ev230.trans (nI_add _ _)
                  refine zIastN (D := D) hx hb hH hS (zk_60 hF) (zn_60 hF) (by omega) (by omega) dX12_serve_273 (fun H locs hH hS => ?_)
                  obtain ⟨f231, ef231⟩ : ∃ f9 : zFi, f9 = zu f181 60 i (nI (sc + sl)) := ⟨_, rfl⟩
                  rw [← ef231] at hH
                  have q232 : f231 30 2 = nI n := by rw [ef231, zu_n (fun h9 => absurd h9.1 (by decide))]; exact q182
                  have q233 : f231 54 q = nI wn := by rw [ef231, zu_n (fun h9 => absurd h9.1 (by decide))]; exact q183
                  have q234 : f231 30 61 = nI sn := by rw [ef231, zu_n (fun h9 => absurd h9.1 (by decide))]; exact q184
                  have q235 : f231 55 i = nI t := by rw [ef231, zu_n (fun h9 => absurd h9.1 (by decide))]; exact q185
                  have q236 : f231 56 i = nI qm := by rw [ef231, zu_n (fun h9 => absurd h9.1 (by decide))]; exact q186
                  have q237 : f231 59 i = nI sp := by rw [ef231, zu_n (fun h9 => absurd h9.1 (by decide))]; exact q187
                  have q238 : f231 62 i = nI pb := by rw [ef231, zu_n (fun h9 => absurd h9.1 (by decide))]; exact q189
                  have q239 : f231 35 t = nI (st - st) := by rw [ef231, zu_n (fun h9 => absurd h9.1 (by decide))]; exact q190
                  have q240 : f231 58 i = nI (sa + st) := by rw [ef231, zu_n (fun h9 => absurd h9.1 (by decide))]; exact q191
                  have q241 : f231 69 t = nI (kf t + st) := by rw [ef231, zu_n (fun h9 => absurd h9.1 (by decide))]; exact q192
                  have q242 : f231 35 t2 = nI s2 := by rw [ef231, zu_n (fun h9 => absurd h9.1 (by decide))]; exact e35b
                  have q243 : f231 60 i = nI (sc + sl) := by rw [ef231]; exact zu_s
                  have hMs := zMs.ci (fi' := f231) hMs (fun i9 k9 h9 => by rw [ef231]; exact zu_n (by omega))
                  have hKf := zKf.ci (fi' := f231) hKf (fun i9 k9 h9 => by rw [ef231]; exact zu_n (by omega))
                  refine lv_aload_n hx hb dX12_serve_274 rfl (lv_at hl 5 rfl) ?_
                  refine zGetR (D := D) (ci := 12) (C := RX12) (T := TX12) (N := 71) hx hb hts hiX12 hown hH (zk_30 hF) rfl 48 (by decide) rfl hw17 (fun _ h9 => h9) dX12_serve_275 (zr_30_48 hF) ?_
                  refine lv_iload_n hx hb dX12_serve_278 rfl (lv_at hl 6 rfl) ?_
                  refine lv_dup2_11 hx hb dX12_serve_279 rfl rfl ?_
                  refine zIaldN (D := D) hx hb hH (zk_52 hF) (zn_52 hF) (by omega) (by omega) rfl dX12_serve_280 ?_
                  refine lv_iload hx hb dX12_serve_281 (lv_at hl 1 rfl) ?_
                  refine lv_aload_n hx hb dX12_serve_283 rfl (lv_at hl 5 rfl) ?_
                  refine zGetR (D := D) (ci := 12) (C := RX12) (T := TX12) (N := 71) hx hb hts hiX12 hown hH (zk_30 hF) rfl 53 (by decide) rfl hw18 (fun _ h9 => h9) dX12_serve_284 (zr_30_53 hF) ?_
                  refine lv_iload_n hx hb dX12_serve_287 rfl (lv_at hl 7 rfl) ?_
                  refine zIaldN (D := D) hx hb hH (zk_57 hF) (zn_57 hF) (by omega) (by omega) rfl dX12_serve_288 ?_
                  refine lv_imul hx hb dX12_serve_289 ?_
                  refine lv_topi (fun v244 ev244 => ?_)
                  refine lv_iadd hx hb dX12_serve_290 ?_
                  refine lv_topi (fun v245 ev245 => ?_)
                  refine zIastN (D := D) hx hb hH hS (zk_52 hF) (zn_52 hF) (by omega) (by omega) dX12_serve_291 (fun H locs hH hS => ?_)
                  obtain ⟨f246, ef246⟩ : ∃ f9 : zFi, f9 = zu f231 52 q v245 := ⟨_, rfl⟩
                  rw [← ef246] at hH
                  have q247 : f246 30 2 = nI n := by rw [ef246, zu_n (fun h9 => absurd h9.1 (by decide))]; exact q232
                  have q248 : f246 54 q = nI wn := by rw [ef246, zu_n (fun h9 => absurd h9.1 (by decide))]; exact q233
                  have q249 : f246 30 61 = nI sn := by rw [ef246, zu_n (fun h9 => absurd h9.1 (by decide))]; exact q234
                  have q250 : f246 55 i = nI t := by rw [ef246, zu_n (fun h9 => absurd h9.1 (by decide))]; exact q235
                  have q251 : f246 56 i = nI qm := by rw [ef246, zu_n (fun h9 => absurd h9.1 (by decide))]; exact q236
                  have q252 : f246 59 i = nI sp := by rw [ef246, zu_n (fun h9 => absurd h9.1 (by decide))]; exact q237
                  have q253 : f246 62 i = nI pb := by rw [ef246, zu_n (fun h9 => absurd h9.1 (by decide))]; exact q238
                  have q254 : f246 35 t = nI (st - st) := by rw [ef246, zu_n (fun h9 => absurd h9.1 (by decide))]; exact q239
                  have q255 : f246 58 i = nI (sa + st) := by rw [ef246, zu_n (fun h9 => absurd h9.1 (by decide))]; exact q240
                  have q256 : f246 69 t = nI (kf t + st) := by rw [ef246, zu_n (fun h9 => absurd h9.1 (by decide))]; exact q241
                  have q257 : f246 35 t2 = nI s2 := by rw [ef246, zu_n (fun h9 => absurd h9.1 (by decide))]; exact q242
                  have q258 : f246 60 i = nI (sc + sl) := by rw [ef246, zu_n (fun h9 => absurd h9.1 (by decide))]; exact q243
                  have q259 : f246 52 q = v245 := by rw [ef246]; exact zu_s
                  have hMs := zMs.ci (fi' := f246) hMs (fun i9 k9 h9 => by rw [ef246]; exact zu_n (by omega))
                  have hKf := zKf.ci (fi' := f246) hKf (fun i9 k9 h9 => by rw [ef246]; exact zu_n (by omega))
                  refine lv_iinc (v := nI (i + 1)) (lv' := [(3, .int (nI (i + 1))), (7, .int (nI t2)), (6, .int (nI sl)), (2, .int v193), (5, .int (nI st)), (4, .int (nI t)), (0, .ref (τ.1 30)), (1, .int (nI q))]) hx hb dX12_serve_292 hl (k := 7) rfl (by rw [show (Int32.ofInt 1 : Int32) = nI 1 from by decide, nI_add]) (by decide) rfl (fun ls hl => ?_)
                  refine lv_goto (tgt := 30) hx hb dX12_serve_295 (by decide) ?_
                  have hzw : zMw f246 n i := ⟨⟨t, ht, q250⟩, qm, sa + st, sp, sc + sl, pb, ⟨q251, q255, q252, q258, q253⟩, b1, b2, by omega, by omega, by rcases b5 with h9 | ⟨t3, h91, h92⟩; (exact Or.inl h9); exact Or.inr ⟨t3, h91, by rw [ef246, zu_n (by omega), ef231, zu_n (by omega), ef181, zu_n (by omega), ef169, zu_n (by omega), ef157, zu_n (by omega)]; exact h92⟩⟩
                  exact ih104 (8 * q + wn - (i + 1)) (by omega) (i + 1, v193, kf1, f246) _ _ _ (show 8 * q + wn - (i + 1) = 8 * q + wn - (i + 1) ∧ (8 * q ≤ (i + 1) ∧ (i + 1) ≤ 8 * q + wn ∧ zKf f246 n kf1 ∧ zSum kf1 n ≤ 99 * ((i + 1) - 8 * q) ∧ (∀ j, j < wn → zMw f246 n (8 * q + j)) ∧ zMs f246 Bd ∧ (∀ a b, 55 ≤ a → a ≤ 64 → (b < 8 * q ∨ 8 * q + 8 ≤ b) → f246 a b = fi a b) ∧ f246 30 61 = fi 30 61 ∧ ∀ a b, ¬ (a = 35 ∨ a = 52 ∨ (58 ≤ a ∧ a ≤ 60) ∨ a = 63 ∨ a = 64 ∨ (65 ≤ a ∧ a ≤ 70) ∨ (a = 30 ∧ b = 61)) → f246 a b = fi a b) ∧ zH D A τ f246 fr ol s _ ∧ va_S A s.heap _ _ ∧ lv_has _ 8 [(0, .ref (τ.1 30)), (1, .int (nI q)), (2, .int v193), (3, .int (nI (i + 1)))] from ⟨rfl, ⟨by omega, by omega, hKf, by omega, fun j h => by by_cases h7 : 8 * q + j = i; (rw [h7]; exact hzw); exact (hwq j h).ci (Nat.le_refl _) (fun a h8 h9 => by rw [ef246, zu_n (by omega), ef231, zu_n (by omega), ef181, zu_n (by omega), ef169, zu_n (by omega), ef157, zu_n (by omega)]), hMs, fun a b h7 h8 h9 => by rw [ef246, zu_n (by omega), ef231, zu_n (by omega), ef181, zu_n (by omega), ef169, zu_n (by omega), ef157, zu_n (by omega)]; exact hout a b h7 h8 h9, by rw [ef246, zu_n (by omega), ef231, zu_n (by omega), ef181, zu_n (by omega), ef169, zu_n (by omega), ef157, zu_n (by omega)]; exact hfs, fun a b h => by rw [ef246, zu_n (by omega), ef231, zu_n (by omega), ef181, zu_n (by omega), ef169, zu_n (by omega), ef157, zu_n (by omega)]; exact hfr a b h⟩, hH, hS, lv_sub hl [6, 7, 3, 0] rfl⟩)
                · have zc229 := c229
                  replace zc229 := zc_nlt (nI_toInt (by omega)) (nI_toInt (by omega)) zc229
                  refine lv_aload_n hx hb dX12_serve_202 rfl (lv_at hl 5 rfl) ?_
                  refine zGetR (D := D) (ci := 12) (C := RX12) (T := TX12) (N := 71) hx hb hts hiX12 hown hH (zk_30 hF) rfl 7 (by decide) rfl hw10 (fun _ h9 => h9) dX12_serve_203 (zr_30_7 hF) ?_
                  refine lv_iload hx hb dX12_serve_206 (lv_at hl 0 rfl) ?_
                  refine lv_dup2_11 hx hb dX12_serve_208 rfl rfl ?_
                  refine zIaldN (D := D) hx hb hH (zk_35 hF) (zn_35 hF) (by omega) (by omega) e35b dX12_serve_209 ?_
                  refine lv_iload hx hb dX12_serve_210 (lv_at hl 1 rfl) ?_
                  refine lv_isub hx hb dX12_serve_212 ?_
                  refine lv_topi (fun v260 ev260 => ?_)
                  obtain rfl : v260 = nI (s2 - sl) := ev260.trans (pk_sub (by omega))
                  refine zIastN (D := D) hx hb hH hS (zk_35 hF) (zn_35 hF) (by omega) (by omega) dX12_serve_213 (fun H locs hH hS => ?_)
                  obtain ⟨f261, ef261⟩ : ∃ f9 : zFi, f9 = zu f181 35 t2 (nI (s2 - sl)) := ⟨_, rfl⟩
                  rw [← ef261] at hH
                  have q262 : f261 30 2 = nI n := by rw [ef261, zu_n (fun h9 => absurd h9.1 (by decide))]; exact q182
                  have q263 : f261 54 q = nI wn := by rw [ef261, zu_n (fun h9 => absurd h9.1 (by decide))]; exact q183
                  have q264 : f261 30 61 = nI sn := by rw [ef261, zu_n (fun h9 => absurd h9.1 (by decide))]; exact q184
                  have q265 : f261 55 i = nI t := by rw [ef261, zu_n (fun h9 => absurd h9.1 (by decide))]; exact q185
                  have q266 : f261 56 i = nI qm := by rw [ef261, zu_n (fun h9 => absurd h9.1 (by decide))]; exact q186
                  have q267 : f261 59 i = nI sp := by rw [ef261, zu_n (fun h9 => absurd h9.1 (by decide))]; exact q187
                  have q268 : f261 60 i = nI sc := by rw [ef261, zu_n (fun h9 => absurd h9.1 (by decide))]; exact q188
                  have q269 : f261 62 i = nI pb := by rw [ef261, zu_n (fun h9 => absurd h9.1 (by decide))]; exact q189
                  have q270 : f261 58 i = nI (sa + st) := by rw [ef261, zu_n (fun h9 => absurd h9.1 (by decide))]; exact q191
                  have q271 : f261 69 t = nI (kf t + st) := by rw [ef261, zu_n (fun h9 => absurd h9.1 (by decide))]; exact q192
                  have q272 : f261 35 t2 = nI (s2 - sl) := by rw [ef261]; exact zu_s
                  have hMs := zMs.set (v := s2 - sl) hMs ef261 (Nat.le_refl _) (by omega)
                  have hKf := zKf.ci (fi' := f261) hKf (fun i9 k9 h9 => by rw [ef261]; exact zu_n (by omega))
                  refine lv_aload_n hx hb dX12_serve_214 rfl (lv_at hl 5 rfl) ?_
                  refine zGetR (D := D) (ci := 12) (C := RX12) (T := TX12) (N := 71) hx hb hts hiX12 hown hH (zk_30 hF) rfl 55 (by decide) rfl hw19 (fun _ h9 => h9) dX12_serve_215 (zr_30_55 hF) ?_
                  refine lv_iload_n hx hb dX12_serve_218 rfl (lv_at hl 7 rfl) ?_
                  refine lv_dup2_11 hx hb dX12_serve_219 rfl rfl ?_
                  refine zIaldN (D := D) hx hb hH (zk_59 hF) (zn_59 hF) (by omega) (by omega) q267 dX12_serve_220 ?_
                  refine lv_iload hx hb dX12_serve_221 (lv_at hl 1 rfl) ?_
                  refine lv_iadd hx hb dX12_serve_223 ?_
                  refine lv_topi (fun v273 ev273 => ?_)
                  obtain rfl : v273 = nI (sp + sl) := ev273.trans (nI_add _ _)
                  refine zIastN (D := D) hx hb hH hS (zk_59 hF) (zn_59 hF) (by omega) (by omega) dX12_serve_224 (fun H locs hH hS => ?_)
                  obtain ⟨f274, ef274⟩ : ∃ f9 : zFi, f9 = zu f261 59 i (nI (sp + sl)) := ⟨_, rfl⟩
                  rw [← ef274] at hH
                  have q275 : f274 30 2 = nI n := by rw [ef274, zu_n (fun h9 => absurd h9.1 (by decide))]; exact q262
                  have q276 : f274 54 q = nI wn := by rw [ef274, zu_n (fun h9 => absurd h9.1 (by decide))]; exact q263
                  have q277 : f274 30 61 = nI sn := by rw [ef274, zu_n (fun h9 => absurd h9.1 (by decide))]; exact q264
                  have q278 : f274 55 i = nI t := by rw [ef274, zu_n (fun h9 => absurd h9.1 (by decide))]; exact q265
                  have q279 : f274 56 i = nI qm := by rw [ef274, zu_n (fun h9 => absurd h9.1 (by decide))]; exact q266
                  have q280 : f274 60 i = nI sc := by rw [ef274, zu_n (fun h9 => absurd h9.1 (by decide))]; exact q268
                  have q281 : f274 62 i = nI pb := by rw [ef274, zu_n (fun h9 => absurd h9.1 (by decide))]; exact q269
                  have q282 : f274 58 i = nI (sa + st) := by rw [ef274, zu_n (fun h9 => absurd h9.1 (by decide))]; exact q270
                  have q283 : f274 69 t = nI (kf t + st) := by rw [ef274, zu_n (fun h9 => absurd h9.1 (by decide))]; exact q271
                  have q284 : f274 35 t2 = nI (s2 - sl) := by rw [ef274, zu_n (fun h9 => absurd h9.1 (by decide))]; exact q272
                  have q285 : f274 59 i = nI (sp + sl) := by rw [ef274]; exact zu_s
                  have hMs := zMs.ci (fi' := f274) hMs (fun i9 k9 h9 => by rw [ef274]; exact zu_n (by omega))
                  have hKf := zKf.ci (fi' := f274) hKf (fun i9 k9 h9 => by rw [ef274]; exact zu_n (by omega))
                  refine lv_aload_n hx hb dX12_serve_225 rfl (lv_at hl 5 rfl) ?_
                  refine zGetR (D := D) (ci := 12) (C := RX12) (T := TX12) (N := 71) hx hb hts hiX12 hown hH (zk_30 hF) rfl 60 (by decide) rfl hw20 (fun _ h9 => h9) dX12_serve_226 (zr_30_60 hF) ?_
                  refine lv_iload_n hx hb dX12_serve_229 rfl (lv_at hl 7 rfl) ?_
                  refine lv_iload hx hb dX12_serve_230 (lv_at hl 0 rfl) ?_
                  refine zIastN (D := D) hx hb hH hS (zk_64 hF) (zn_64 hF) (by omega) (by omega) dX12_serve_232 (fun H locs hH hS => ?_)
                  obtain ⟨f286, ef286⟩ : ∃ f9 : zFi, f9 = zu f274 64 i (nI t2) := ⟨_, rfl⟩
                  rw [← ef286] at hH
                  have q287 : f286 30 2 = nI n := by rw [ef286, zu_n (fun h9 => absurd h9.1 (by decide))]; exact q275
                  have q288 : f286 54 q = nI wn := by rw [ef286, zu_n (fun h9 => absurd h9.1 (by decide))]; exact q276
                  have q289 : f286 30 61 = nI sn := by rw [ef286, zu_n (fun h9 => absurd h9.1 (by decide))]; exact q277
                  have q290 : f286 55 i = nI t := by rw [ef286, zu_n (fun h9 => absurd h9.1 (by decide))]; exact q278
                  have q291 : f286 56 i = nI qm := by rw [ef286, zu_n (fun h9 => absurd h9.1 (by decide))]; exact q279
                  have q292 : f286 60 i = nI sc := by rw [ef286, zu_n (fun h9 => absurd h9.1 (by decide))]; exact q280
                  have q293 : f286 62 i = nI pb := by rw [ef286, zu_n (fun h9 => absurd h9.1 (by decide))]; exact q281
                  have q294 : f286 58 i = nI (sa + st) := by rw [ef286, zu_n (fun h9 => absurd h9.1 (by decide))]; exact q282
                  have q295 : f286 69 t = nI (kf t + st) := by rw [ef286, zu_n (fun h9 => absurd h9.1 (by decide))]; exact q283
                  have q296 : f286 35 t2 = nI (s2 - sl) := by rw [ef286, zu_n (fun h9 => absurd h9.1 (by decide))]; exact q284
                  have q297 : f286 59 i = nI (sp + sl) := by rw [ef286, zu_n (fun h9 => absurd h9.1 (by decide))]; exact q285
                  have q298 : f286 64 i = nI t2 := by rw [ef286]; exact zu_s
                  have hMs := zMs.ci (fi' := f286) hMs (fun i9 k9 h9 => by rw [ef286]; exact zu_n (by omega))
                  have hKf := zKf.ci (fi' := f286) hKf (fun i9 k9 h9 => by rw [ef286]; exact zu_n (by omega))
                  refine lv_aload_n hx hb dX12_serve_233 rfl (lv_at hl 5 rfl) ?_
                  refine zGetR (D := D) (ci := 12) (C := RX12) (T := TX12) (N := 71) hx hb hts hiX12 hown hH (zk_30 hF) rfl 59 (by decide) rfl hw21 (fun _ h9 => h9) dX12_serve_234 (zr_30_59 hF) ?_
                  refine lv_iload_n hx hb dX12_serve_237 rfl (lv_at hl 7 rfl) ?_
                  refine lv_aload_n hx hb dX12_serve_238 rfl (lv_at hl 5 rfl) ?_
                  refine zGetI (D := D) (ci := 12) (C := RX12) (T := TX12) (N := 71) hx hb hts hiX12 hown hH (zk_30 hF) rfl 1 (by decide) rfl hw6 (fun _ h9 => h9) dX12_serve_239 rfl ?_
                  refine zIastN (D := D) hx hb hH hS (zk_63 hF) (zn_63 hF) (by omega) (by omega) dX12_serve_242 (fun H locs hH hS => ?_)
                  obtain ⟨f299, ef299⟩ : ∃ f9 : zFi, f9 = zu f286 63 i (f286 30 1) := ⟨_, rfl⟩
                  rw [← ef299] at hH
                  have q300 : f299 30 2 = nI n := by rw [ef299, zu_n (fun h9 => absurd h9.1 (by decide))]; exact q287
                  have q301 : f299 54 q = nI wn := by rw [ef299, zu_n (fun h9 => absurd h9.1 (by decide))]; exact q288
                  have q302 : f299 30 61 = nI sn := by rw [ef299, zu_n (fun h9 => absurd h9.1 (by decide))]; exact q289
                  have q303 : f299 55 i = nI t := by rw [ef299, zu_n (fun h9 => absurd h9.1 (by decide))]; exact q290
                  have q304 : f299 56 i = nI qm := by rw [ef299, zu_n (fun h9 => absurd h9.1 (by decide))]; exact q291
                  have q305 : f299 60 i = nI sc := by rw [ef299, zu_n (fun h9 => absurd h9.1 (by decide))]; exact q292
                  have q306 : f299 62 i = nI pb := by rw [ef299, zu_n (fun h9 => absurd h9.1 (by decide))]; exact q293
                  have q307 : f299 58 i = nI (sa + st) := by rw [ef299, zu_n (fun h9 => absurd h9.1 (by decide))]; exact q294
                  have q308 : f299 69 t = nI (kf t + st) := by rw [ef299, zu_n (fun h9 => absurd h9.1 (by decide))]; exact q295
                  have q309 : f299 35 t2 = nI (s2 - sl) := by rw [ef299, zu_n (fun h9 => absurd h9.1 (by decide))]; exact q296
                  have q310 : f299 59 i = nI (sp + sl) := by rw [ef299, zu_n (fun h9 => absurd h9.1 (by decide))]; exact q297
                  have q311 : f299 64 i = nI t2 := by rw [ef299, zu_n (fun h9 => absurd h9.1 (by decide))]; exact q298
                  have q312 : f299 63 i = f286 30 1 := by rw [ef299]; exact zu_s
                  have hMs := zMs.ci (fi' := f299) hMs (fun i9 k9 h9 => by rw [ef299]; exact zu_n (by omega))
                  have hKf := zKf.ci (fi' := f299) hKf (fun i9 k9 h9 => by rw [ef299]; exact zu_n (by omega))
                  refine lv_aload_n hx hb dX12_serve_243 rfl (lv_at hl 5 rfl) ?_
                  refine zGetR (D := D) (ci := 12) (C := RX12) (T := TX12) (N := 71) hx hb hts hiX12 hown hH (zk_30 hF) rfl 66 (by decide) rfl hw12 (fun _ h9 => h9) dX12_serve_244 (zr_30_66 hF) ?_
                  refine lv_iload hx hb dX12_serve_247 (lv_at hl 0 rfl) ?_
                  refine lv_dup2_11 hx hb dX12_serve_249 rfl rfl ?_
                  refine zIaldN (D := D) hx hb hH (zk_69 hF) (zn_69 hF) (by omega) (by omega) (hKf t2 ht2) dX12_serve_250 ?_
                  refine lv_iload hx hb dX12_serve_251 (lv_at hl 1 rfl) ?_
                  refine lv_iadd hx hb dX12_serve_253 ?_
                  refine lv_topi (fun v313 ev313 => ?_)
                  obtain rfl : v313 = nI (kf1 t2 + sl) := ev313.trans (nI_add _ _)
                  refine zIastN (D := D) hx hb hH hS (zk_69 hF) (zn_69 hF) (by omega) (by omega) dX12_serve_254 (fun H locs hH hS => ?_)
                  obtain ⟨f314, ef314⟩ : ∃ f9 : zFi, f9 = zu f299 69 t2 (nI (kf1 t2 + sl)) := ⟨_, rfl⟩
                  rw [← ef314] at hH
                  have q315 : f314 30 2 = nI n := by rw [ef314, zu_n (fun h9 => absurd h9.1 (by decide))]; exact q300
                  have q316 : f314 54 q = nI wn := by rw [ef314, zu_n (fun h9 => absurd h9.1 (by decide))]; exact q301
                  have q317 : f314 30 61 = nI sn := by rw [ef314, zu_n (fun h9 => absurd h9.1 (by decide))]; exact q302
                  have q318 : f314 55 i = nI t := by rw [ef314, zu_n (fun h9 => absurd h9.1 (by decide))]; exact q303
                  have q319 : f314 56 i = nI qm := by rw [ef314, zu_n (fun h9 => absurd h9.1 (by decide))]; exact q304
                  have q320 : f314 60 i = nI sc := by rw [ef314, zu_n (fun h9 => absurd h9.1 (by decide))]; exact q305
                  have q321 : f314 62 i = nI pb := by rw [ef314, zu_n (fun h9 => absurd h9.1 (by decide))]; exact q306
                  have q322 : f314 58 i = nI (sa + st) := by rw [ef314, zu_n (fun h9 => absurd h9.1 (by decide))]; exact q307
                  have q323 : f314 35 t2 = nI (s2 - sl) := by rw [ef314, zu_n (fun h9 => absurd h9.1 (by decide))]; exact q309
                  have q324 : f314 59 i = nI (sp + sl) := by rw [ef314, zu_n (fun h9 => absurd h9.1 (by decide))]; exact q310
                  have q325 : f314 64 i = nI t2 := by rw [ef314, zu_n (fun h9 => absurd h9.1 (by decide))]; exact q311
                  have q326 : f314 63 i = f286 30 1 := by rw [ef314, zu_n (fun h9 => absurd h9.1 (by decide))]; exact q312
                  have q327 : f314 69 t2 = nI (kf1 t2 + sl) := by rw [ef314]; exact zu_s
                  have hMs := zMs.ci (fi' := f314) hMs (fun i9 k9 h9 => by rw [ef314]; exact zu_n (by omega))
                  have hKf := zKf.set (t := t2) (x := sl) hKf ef314
                  obtain ⟨kf2, ekf2⟩ : ∃ k9 : Nat → Nat, k9 = (fun j => if j = t2 then kf1 j + sl else kf1 j) := ⟨_, rfl⟩
                  rw [← ekf2] at hKf
                  have skf2 : zSum kf2 n = zSum kf1 n + sl := by rw [ekf2]; exact zSum_up (by omega)
                  refine lv_iload_n hx hb dX12_serve_255 rfl (lv_at hl 2 rfl) ?_
                  refine lv_iload hx hb dX12_serve_256 (lv_at hl 1 rfl) ?_
                  refine lv_iadd hx hb dX12_serve_258 ?_
                  refine lv_topi (fun v328 ev328 => ?_)
                  refine lv_istore_n (lv' := [(2, .int v328), (7, .int (nI t2)), (6, .int (nI sl)), (5, .int (nI st)), (4, .int (nI t)), (0, .ref (τ.1 30)), (1, .int (nI q)), (3, .int (nI i))]) hx hb dX12_serve_259 rfl hl (by decide) rfl (fun ls hl => ?_)
                  refine lv_goto (tgt := 292) hx hb dX12_serve_260 (by decide) ?_
                  refine lv_iinc (v := nI (i + 1)) (lv' := [(3, .int (nI (i + 1))), (2, .int v328), (7, .int (nI t2)), (6, .int (nI sl)), (5, .int (nI st)), (4, .int (nI t)), (0, .ref (τ.1 30)), (1, .int (nI q))]) hx hb dX12_serve_292 hl (k := 7) rfl (by rw [show (Int32.ofInt 1 : Int32) = nI 1 from by decide, nI_add]) (by decide) rfl (fun ls hl => ?_)
                  refine lv_goto (tgt := 30) hx hb dX12_serve_295 (by decide) ?_
                  have hzw : zMw f314 n i := ⟨⟨t, ht, q318⟩, qm, sa + st, sp + sl, sc, pb, ⟨q319, q322, q324, q320, q321⟩, b1, b2, by omega, by omega, Or.inr ⟨t2, ht2, q325⟩⟩
                  exact ih104 (8 * q + wn - (i + 1)) (by omega) (i + 1, v328, kf2, f314) _ _ _ (show 8 * q + wn - (i + 1) = 8 * q + wn - (i + 1) ∧ (8 * q ≤ (i + 1) ∧ (i + 1) ≤ 8 * q + wn ∧ zKf f314 n kf2 ∧ zSum kf2 n ≤ 99 * ((i + 1) - 8 * q) ∧ (∀ j, j < wn → zMw f314 n (8 * q + j)) ∧ zMs f314 Bd ∧ (∀ a b, 55 ≤ a → a ≤ 64 → (b < 8 * q ∨ 8 * q + 8 ≤ b) → f314 a b = fi a b) ∧ f314 30 61 = fi 30 61 ∧ ∀ a b, ¬ (a = 35 ∨ a = 52 ∨ (58 ≤ a ∧ a ≤ 60) ∨ a = 63 ∨ a = 64 ∨ (65 ≤ a ∧ a ≤ 70) ∨ (a = 30 ∧ b = 61)) → f314 a b = fi a b) ∧ zH D A τ f314 fr ol s _ ∧ va_S A s.heap _ _ ∧ lv_has _ 8 [(0, .ref (τ.1 30)), (1, .int (nI q)), (2, .int v328), (3, .int (nI (i + 1)))] from ⟨rfl, ⟨by omega, by omega, hKf, by omega, fun j h => by by_cases h7 : 8 * q + j = i; (rw [h7]; exact hzw); exact (hwq j h).ci (Nat.le_refl _) (fun a h8 h9 => by rw [ef314, zu_n (by omega), ef299, zu_n (by omega), ef286, zu_n (by omega), ef274, zu_n (by omega), ef261, zu_n (by omega), ef181, zu_n (by omega), ef169, zu_n (by omega), ef157, zu_n (by omega)]), hMs, fun a b h7 h8 h9 => by rw [ef314, zu_n (by omega), ef299, zu_n (by omega), ef286, zu_n (by omega), ef274, zu_n (by omega), ef261, zu_n (by omega), ef181, zu_n (by omega), ef169, zu_n (by omega), ef157, zu_n (by omega)]; exact hout a b h7 h8 h9, by rw [ef314, zu_n (by omega), ef299, zu_n (by omega), ef286, zu_n (by omega), ef274, zu_n (by omega), ef261, zu_n (by omega), ef181, zu_n (by omega), ef169, zu_n (by omega), ef157, zu_n (by omega)]; exact hfs, fun a b h => by rw [ef314, zu_n (by omega), ef299, zu_n (by omega), ef286, zu_n (by omega), ef274, zu_n (by omega), ef261, zu_n (by omega), ef181, zu_n (by omega), ef169, zu_n (by omega), ef157, zu_n (by omega)]; exact hfr a b h⟩, hH, hS, lv_sub hl [6, 7, 1, 0] rfl⟩)
            · have zc198 := c198
              replace zc198 := zc_nlt (rfl) (rfl) zc198
              refine lv_goto (tgt := 292) hx hb dX12_serve_172 (by decide) ?_
              refine lv_iinc (v := nI (i + 1)) (lv' := [(3, .int (nI (i + 1))), (6, .int (nI sl)), (2, .int v193), (5, .int (nI st)), (4, .int (nI t)), (0, .ref (τ.1 30)), (1, .int (nI q))]) hx hb dX12_serve_292 hl (k := 6) rfl (by rw [show (Int32.ofInt 1 : Int32) = nI 1 from by decide, nI_add]) (by decide) rfl (fun ls hl => ?_)
              refine lv_goto (tgt := 30) hx hb dX12_serve_295 (by decide) ?_
              have hzw : zMw f181 n i := ⟨⟨t, ht, q185⟩, qm, sa + st, sp, sc, pb, ⟨q186, q191, q187, q188, q189⟩, b1, b2, by omega, by omega, by rcases b5 with h9 | ⟨t3, h91, h92⟩; (exact Or.inl h9); exact Or.inr ⟨t3, h91, by rw [ef181, zu_n (by omega), ef169, zu_n (by omega), ef157, zu_n (by omega)]; exact h92⟩⟩
              exact ih104 (8 * q + wn - (i + 1)) (by omega) (i + 1, v193, kf1, f181) _ _ _ (show 8 * q + wn - (i + 1) = 8 * q + wn - (i + 1) ∧ (8 * q ≤ (i + 1) ∧ (i + 1) ≤ 8 * q + wn ∧ zKf f181 n kf1 ∧ zSum kf1 n ≤ 99 * ((i + 1) - 8 * q) ∧ (∀ j, j < wn → zMw f181 n (8 * q + j)) ∧ zMs f181 Bd ∧ (∀ a b, 55 ≤ a → a ≤ 64 → (b < 8 * q ∨ 8 * q + 8 ≤ b) → f181 a b = fi a b) ∧ f181 30 61 = fi 30 61 ∧ ∀ a b, ¬ (a = 35 ∨ a = 52 ∨ (58 ≤ a ∧ a ≤ 60) ∨ a = 63 ∨ a = 64 ∨ (65 ≤ a ∧ a ≤ 70) ∨ (a = 30 ∧ b = 61)) → f181 a b = fi a b) ∧ zH D A τ f181 fr ol s _ ∧ va_S A s.heap _ _ ∧ lv_has _ 8 [(0, .ref (τ.1 30)), (1, .int (nI q)), (2, .int v193), (3, .int (nI (i + 1)))] from ⟨rfl, ⟨by omega, by omega, hKf, by omega, fun j h => by by_cases h7 : 8 * q + j = i; (rw [h7]; exact hzw); exact (hwq j h).ci (Nat.le_refl _) (fun a h8 h9 => by rw [ef181, zu_n (by omega), ef169, zu_n (by omega), ef157, zu_n (by omega)]), hMs, fun a b h7 h8 h9 => by rw [ef181, zu_n (by omega), ef169, zu_n (by omega), ef157, zu_n (by omega)]; exact hout a b h7 h8 h9, by rw [ef181, zu_n (by omega), ef169, zu_n (by omega), ef157, zu_n (by omega)]; exact hfs, fun a b h => by rw [ef181, zu_n (by omega), ef169, zu_n (by omega), ef157, zu_n (by omega)]; exact hfr a b h⟩, hH, hS, lv_sub hl [5, 6, 2, 0] rfl⟩)
        · have zc194 := c194
          replace zc194 := zc_nle (nI_toInt (by omega)) ((by decide : (0 : Int32).toInt = 0)) zc194
          refine lv_aload_n hx hb dX12_serve_130 rfl (lv_at hl 3 rfl) ?_
          refine zGetR (D := D) (ci := 12) (C := RX12) (T := TX12) (N := 71) hx hb hts hiX12 hown hH (zk_30 hF) rfl 59 (by decide) rfl hw21 (fun _ h9 => h9) dX12_serve_131 (zr_30_59 hF) ?_
          refine lv_iload_n hx hb dX12_serve_134 rfl (lv_at hl 5 rfl) ?_
          refine lv_aload_n hx hb dX12_serve_135 rfl (lv_at hl 3 rfl) ?_
          refine zGetI (D := D) (ci := 12) (C := RX12) (T := TX12) (N := 71) hx hb hts hiX12 hown hH (zk_30 hF) rfl 1 (by decide) rfl hw6 (fun _ h9 => h9) dX12_serve_136 rfl ?_
          refine zIastN (D := D) hx hb hH hS (zk_63 hF) (zn_63 hF) (by omega) (by omega) dX12_serve_139 (fun H locs hH hS => ?_)
          obtain ⟨f329, ef329⟩ : ∃ f9 : zFi, f9 = zu f181 63 i (f181 30 1) := ⟨_, rfl⟩
          rw [← ef329] at hH
          have q330 : f329 30 2 = nI n := by rw [ef329, zu_n (fun h9 => absurd h9.1 (by decide))]; exact q182
          have q331 : f329 54 q = nI wn := by rw [ef329, zu_n (fun h9 => absurd h9.1 (by decide))]; exact q183
          have q332 : f329 30 61 = nI sn := by rw [ef329, zu_n (fun h9 => absurd h9.1 (by decide))]; exact q184
          have q333 : f329 55 i = nI t := by rw [ef329, zu_n (fun h9 => absurd h9.1 (by decide))]; exact q185
          have q334 : f329 56 i = nI qm := by rw [ef329, zu_n (fun h9 => absurd h9.1 (by decide))]; exact q186
          have q335 : f329 59 i = nI sp := by rw [ef329, zu_n (fun h9 => absurd h9.1 (by decide))]; exact q187
          have q336 : f329 60 i = nI sc := by rw [ef329, zu_n (fun h9 => absurd h9.1 (by decide))]; exact q188
          have q337 : f329 62 i = nI pb := by rw [ef329, zu_n (fun h9 => absurd h9.1 (by decide))]; exact q189
          have q338 : f329 35 t = nI (st - st) := by rw [ef329, zu_n (fun h9 => absurd h9.1 (by decide))]; exact q190
          have q339 : f329 58 i = nI (sa + st) := by rw [ef329, zu_n (fun h9 => absurd h9.1 (by decide))]; exact q191
          have q340 : f329 69 t = nI (kf t + st) := by rw [ef329, zu_n (fun h9 => absurd h9.1 (by decide))]; exact q192
          have q341 : f329 63 i = f181 30 1 := by rw [ef329]; exact zu_s
          have hMs := zMs.ci (fi' := f329) hMs (fun i9 k9 h9 => by rw [ef329]; exact zu_n (by omega))
          have hKf := zKf.ci (fi' := f329) hKf (fun i9 k9 h9 => by rw [ef329]; exact zu_n (by omega))
          refine lv_aload_n hx hb dX12_serve_140 rfl (lv_at hl 3 rfl) ?_
          refine lv_iload_n hx hb dX12_serve_141 rfl (lv_at hl 5 rfl) ?_
          refine va_calli (va_runV (As := [.int (nI i)]) (rest := []) ⟨hx, hb, hml, hown, hts⟩ (m_leftV l hl0 D A sad τ f329 fr ol hF i (by omega) qm (sa + st) sp sc q334 q339 q335 q336 (by omega)) (cwV 1 hts gX12_serve_X12_left rfl rfl rfl (by decide +kernel) ⟨Nat.le_of_ble_eq_true rfl, Nat.le_of_ble_eq_true rfl⟩) ⟨zQc_bl, zRecv hH (zk_30 hF) rfl, zQc_at hz hS hA hH⟩ rfl rfl hl.1 rfl (lv_room (Nat.le_of_ble_eq_true rfl)) dX12_serve_142 ⟨Nat.le_of_ble_eq_true rfl, Nat.le_of_ble_eq_true rfl⟩) hS (fun q _ h => h) (fun q h => h) (fun r342 u9 t9 H1 locs ht9 hvm9 hw hB hz1 hk1 hS => ?_)
          have hH := zMv ht9 hvm9 hB
          generalize H1 = H at hH hS ⊢
          obtain ⟨sl, hsl⟩ : ∃ sl : Nat, sl = qm - ((sa + st) + sp + sc) := ⟨_, rfl⟩
          obtain rfl : r342 = nI sl := hw.trans (by rw [hsl])
          refine lv_istore (lv' := [(6, .int (nI sl)), (2, .int v193), (5, .int (nI st)), (4, .int (nI t)), (0, .ref (τ.1 30)), (1, .int (nI q)), (3, .int (nI i))]) hx hb dX12_serve_145 hl (by decide) rfl (fun ls hl => ?_)
          refine lv_iload hx hb dX12_serve_147 (lv_at hl 0 rfl) ?_
          refine lv_if_eq (tgt := 292) hx hb dX12_serve_149 (by decide) (fun c343 => ?_) (fun c343 => ?_)
          · have zc343 := c343
            replace zc343 := zc_eq (nI_toInt (by omega)) ((by decide : (0 : Int32).toInt = 0)) zc343
            refine lv_iinc (v := nI (i + 1)) (lv' := [(3, .int (nI (i + 1))), (6, .int (nI sl)), (2, .int v193), (5, .int (nI st)), (4, .int (nI t)), (0, .ref (τ.1 30)), (1, .int (nI q))]) hx hb dX12_serve_292 hl (k := 6) rfl (by rw [show (Int32.ofInt 1 : Int32) = nI 1 from by decide, nI_add]) (by decide) rfl (fun ls hl => ?_)
            refine lv_goto (tgt := 30) hx hb dX12_serve_295 (by decide) ?_
            have hzw : zMw f329 n i := ⟨⟨t, ht, q333⟩, qm, sa + st, sp, sc, pb, ⟨q334, q339, q335, q336, q337⟩, b1, b2, by omega, by omega, by rcases b5 with h9 | ⟨t3, h91, h92⟩; (exact Or.inl h9); exact Or.inr ⟨t3, h91, by rw [ef329, zu_n (by omega), ef181, zu_n (by omega), ef169, zu_n (by omega), ef157, zu_n (by omega)]; exact h92⟩⟩
            exact ih104 (8 * q + wn - (i + 1)) (by omega) (i + 1, v193, kf1, f329) _ _ _ (show 8 * q + wn - (i + 1) = 8 * q + wn - (i + 1) ∧ (8 * q ≤ (i + 1) ∧ (i + 1) ≤ 8 * q + wn ∧ zKf f329 n kf1 ∧ zSum kf1 n ≤ 99 * ((i + 1) - 8 * q) ∧ (∀ j, j < wn → zMw f329 n (8 * q + j)) ∧ zMs f329 Bd ∧ (∀ a b, 55 ≤ a → a ≤ 64 → (b < 8 * q ∨ 8 * q + 8 ≤ b) → f329 a b = fi a b) ∧ f329 30 61 = fi 30 61 ∧ ∀ a b, ¬ (a = 35 ∨ a = 52 ∨ (58 ≤ a ∧ a ≤ 60) ∨ a = 63 ∨ a = 64 ∨ (65 ≤ a ∧ a ≤ 70) ∨ (a = 30 ∧ b = 61)) → f329 a b = fi a b) ∧ zH D A τ f329 fr ol s _ ∧ va_S A s.heap _ _ ∧ lv_has _ 8 [(0, .ref (τ.1 30)), (1, .int (nI q)), (2, .int v193), (3, .int (nI (i + 1)))] from ⟨rfl, ⟨by omega, by omega, hKf, by omega, fun j h => by by_cases h7 : 8 * q + j = i; (rw [h7]; exact hzw); exact (hwq j h).ci (Nat.le_refl _) (fun a h8 h9 => by rw [ef329, zu_n (by omega), ef181, zu_n (by omega), ef169, zu_n (by omega), ef157, zu_n (by omega)]), hMs, fun a b h7 h8 h9 => by rw [ef329, zu_n (by omega), ef181, zu_n (by omega), ef169, zu_n (by omega), ef157, zu_n (by omega)]; exact hout a b h7 h8 h9, by rw [ef329, zu_n (by omega), ef181, zu_n (by omega), ef169, zu_n (by omega), ef157, zu_n (by omega)]; exact hfs, fun a b h => by rw [ef329, zu_n (by omega), ef181, zu_n (by omega), ef169, zu_n (by omega), ef157, zu_n (by omega)]; exact hfr a b h⟩, hH, hS, lv_sub hl [5, 6, 2, 0] rfl⟩)
          · have zc343 := c343
            replace zc343 := zc_neq (nI_toInt (by omega)) ((by decide : (0 : Int32).toInt = 0)) zc343
            refine lv_aload_n hx hb dX12_serve_152 rfl (lv_at hl 4 rfl) ?_
            refine zGetI (D := D) (ci := 12) (C := RX12) (T := TX12) (N := 71) hx hb hts hiX12 hown hH (zk_30 hF) rfl 1 (by decide) rfl hw6 (fun _ h9 => h9) dX12_serve_153 rfl ?_
            refine lv_aload_n hx hb dX12_serve_156 rfl (lv_at hl 4 rfl) ?_
            refine zGetR (D := D) (ci := 12) (C := RX12) (T := TX12) (N := 71) hx hb hts hiX12 hown hH (zk_30 hF) rfl 46 (by decide) rfl hw13 (fun _ h9 => h9) dX12_serve_157 (zr_30_46 hF) ?_
            refine lv_iload_n hx hb dX12_serve_160 rfl (lv_at hl 5 rfl) ?_
            refine zIaldN (D := D) hx hb hH (zk_50 hF) (zn_50 hF) (by omega) (by omega) rfl dX12_serve_161 ?_
            refine lv_isub hx hb dX12_serve_162 ?_
            refine lv_topi (fun v344 ev344 => ?_)
            refine lv_aload_n hx hb dX12_serve_163 rfl (lv_at hl 4 rfl) ?_
            refine zGetR (D := D) (ci := 12) (C := RX12) (T := TX12) (N := 71) hx hb hts hiX12 hown hH (zk_30 hF) rfl 17 (by decide) rfl hw14 (fun _ h9 => h9) dX12_serve_164 (zr_30_17 hF) ?_
            refine lv_iconst (v := nI 0) hx hb dX12_serve_167 (by decide) ?_
            refine zIaldN (D := D) hx hb hH (zk_44 hF) (zn_44 hF) (by omega) (by omega) rfl dX12_serve_168 ?_
            refine lv_icmp_gt (tgt := 175) hx hb dX12_serve_169 (by decide) (fun c345 => ?_) (fun c345 => ?_)
            · have zc345 := c345
              replace zc345 := zc_lt (rfl) (rfl) zc345
              refine lv_aload_n hx hb dX12_serve_175 rfl (lv_at hl 4 rfl) ?_
              refine zGetR (D := D) (ci := 12) (C := RX12) (T := TX12) (N := 71) hx hb hts hiX12 hown hH (zk_30 hF) rfl 12 (by decide) rfl hw15 (fun _ h9 => h9) dX12_serve_176 (zr_30_12 hF) ?_
              refine lv_iload hx hb dX12_serve_179 (lv_at hl 3 rfl) ?_
              refine zIaldN (D := D) hx hb hH (zk_40 hF) (zn_40 hF) (by omega) (by omega) rfl dX12_serve_181 ?_
              have h40 : f329 40 t = fi 40 t := by rw [ef329, zu_n (by omega), ef181, zu_n (by omega), ef169, zu_n (by omega), ef157, zu_n (by omega)]; exact hfr _ _ (by omega)
              rcases hMx t (by omega) with h41 | ⟨t2, ht2, h41⟩
              · rw [h40, h41]
                refine lv_istore (lv' := [(7, .int ((-1))), (6, .int (nI sl)), (2, .int v193), (5, .int (nI st)), (4, .int (nI t)), (0, .ref (τ.1 30)), (1, .int (nI q)), (3, .int (nI i))]) hx hb dX12_serve_182 hl (by decide) rfl (fun ls hl => ?_)
                refine lv_iload hx hb dX12_serve_184 (lv_at hl 0 rfl) ?_
                refine lv_iconst (v := (-1)) hx hb dX12_serve_186 (by decide) ?_
                refine lv_icmp_eq (tgt := 263) hx hb dX12_serve_187 (by decide) (fun c346 => ?_) (fun c346 => absurd (by decide) c346)
                refine lv_aload_n hx hb dX12_serve_263 rfl (lv_at hl 5 rfl) ?_
                refine zGetR (D := D) (ci := 12) (C := RX12) (T := TX12) (N := 71) hx hb hts hiX12 hown hH (zk_30 hF) rfl 56 (by decide) rfl hw16 (fun _ h9 => h9) dX12_serve_264 (zr_30_56 hF) ?_
                refine lv_iload_n hx hb dX12_serve_267 rfl (lv_at hl 7 rfl) ?_
                refine lv_dup2_11 hx hb dX12_serve_268 rfl rfl ?_
                refine zIaldN (D := D) hx hb hH (zk_60 hF) (zn_60 hF) (by omega) (by omega) q336 dX12_serve_269 ?_
                refine lv_iload hx hb dX12_serve_270 (lv_at hl 1 rfl) ?_
                refine lv_iadd hx hb dX12_serve_272 ?_
                refine lv_topi (fun v347 ev347 => ?_)
                obtain rfl : v347 = nI (sc + sl) := ev347.trans (nI_add _ _)
                refine zIastN (D := D) hx hb hH hS (zk_60 hF) (zn_60 hF) (by omega) (by omega) dX12_serve_273 (fun H locs hH hS => ?_)
                obtain ⟨f348, ef348⟩ : ∃ f9 : zFi, f9 = zu f329 60 i (nI (sc + sl)) := ⟨_, rfl⟩
                rw [← ef348] at hH
                have q349 : f348 30 2 = nI n := by rw [ef348, zu_n (fun h9 => absurd h9.1 (by decide))]; exact q330
                have q350 : f348 54 q = nI wn := by rw [ef348, zu_n (fun h9 => absurd h9.1 (by decide))]; exact q331
                have q351 : f348 30 61 = nI sn := by rw [ef348, zu_n (fun h9 => absurd h9.1 (by decide))]; exact q332
                have q352 : f348 55 i = nI t := by rw [ef348, zu_n (fun h9 => absurd h9.1 (by decide))]; exact q333
                have q353 : f348 56 i = nI qm := by rw [ef348, zu_n (fun h9 => absurd h9.1 (by decide))]; exact q334
                have q354 : f348 59 i = nI sp := by rw [ef348, zu_n (fun h9 => absurd h9.1 (by decide))]; exact q335
                have q355 : f348 62 i = nI pb := by rw [ef348, zu_n (fun h9 => absurd h9.1 (by decide))]; exact q337
                have q356 : f348 35 t = nI (st - st) := by rw [ef348, zu_n (fun h9 => absurd h9.1 (by decide))]; exact q338
                have q357 : f348 58 i = nI (sa + st) := by rw [ef348, zu_n (fun h9 => absurd h9.1 (by decide))]; exact q339
                have q358 : f348 69 t = nI (kf t + st) := by rw [ef348, zu_n (fun h9 => absurd h9.1 (by decide))]; exact q340
                have q359 : f348 63 i = f181 30 1 := by rw [ef348, zu_n (fun h9 => absurd h9.1 (by decide))]; exact q341
                have q360 : f348 60 i = nI (sc + sl) := by rw [ef348]; exact zu_s
                have hMs := zMs.ci (fi' := f348) hMs (fun i9 k9 h9 => by rw [ef348]; exact zu_n (by omega))
                have hKf := zKf.ci (fi' := f348) hKf (fun i9 k9 h9 => by rw [ef348]; exact zu_n (by omega))
                refine lv_aload_n hx hb dX12_serve_274 rfl (lv_at hl 5 rfl) ?_
                refine zGetR (D := D) (ci := 12) (C := RX12) (T := TX12) (N := 71) hx hb hts hiX12 hown hH (zk_30 hF) rfl 48 (by decide) rfl hw17 (fun _ h9 => h9) dX12_serve_275 (zr_30_48 hF) ?_
                refine lv_iload_n hx hb dX12_serve_278 rfl (lv_at hl 6 rfl) ?_
                refine lv_dup2_11 hx hb dX12_serve_279 rfl rfl ?_
                refine zIaldN (D := D) hx hb hH (zk_52 hF) (zn_52 hF) (by omega) (by omega) rfl dX12_serve_280 ?_
                refine lv_iload hx hb dX12_serve_281 (lv_at hl 1 rfl) ?_
                refine lv_aload_n hx hb dX12_serve_283 rfl (lv_at hl 5 rfl) ?_
                refine zGetR (D := D) (ci := 12) (C := RX12) (T := TX12) (N := 71) hx hb hts hiX12 hown hH (zk_30 hF) rfl 53 (by decide) rfl hw18 (fun _ h9 => h9) dX12_serve_284 (zr_30_53 hF) ?_
                refine lv_iload_n hx hb dX12_serve_287 rfl (lv_at hl 7 rfl) ?_
                refine zIaldN (D := D) hx hb hH (zk_57 hF) (zn_57 hF) (by omega) (by omega) rfl dX12_serve_288 ?_
                refine lv_imul hx hb dX12_serve_289 ?_
                refine lv_topi (fun v361 ev361 => ?_)
                refine lv_iadd hx hb dX12_serve_290 ?_
                refine lv_topi (fun v362 ev362 => ?_)
                refine zIastN (D := D) hx hb hH hS (zk_52 hF) (zn_52 hF) (by omega) (by omega) dX12_serve_291 (fun H locs hH hS => ?_)
                obtain ⟨f363, ef363⟩ : ∃ f9 : zFi, f9 = zu f348 52 q v362 := ⟨_, rfl⟩
                rw [← ef363] at hH
                have q364 : f363 30 2 = nI n := by rw [ef363, zu_n (fun h9 => absurd h9.1 (by decide))]; exact q349
                have q365 : f363 54 q = nI wn := by rw [ef363, zu_n (fun h9 => absurd h9.1 (by decide))]; exact q350
                have q366 : f363 30 61 = nI sn := by rw [ef363, zu_n (fun h9 => absurd h9.1 (by decide))]; exact q351
                have q367 : f363 55 i = nI t := by rw [ef363, zu_n (fun h9 => absurd h9.1 (by decide))]; exact q352
                have q368 : f363 56 i = nI qm := by rw [ef363, zu_n (fun h9 => absurd h9.1 (by decide))]; exact q353
                have q369 : f363 59 i = nI sp := by rw [ef363, zu_n (fun h9 => absurd h9.1 (by decide))]; exact q354
                have q370 : f363 62 i = nI pb := by rw [ef363, zu_n (fun h9 => absurd h9.1 (by decide))]; exact q355
                have q371 : f363 35 t = nI (st - st) := by rw [ef363, zu_n (fun h9 => absurd h9.1 (by decide))]; exact q356
                have q372 : f363 58 i = nI (sa + st) := by rw [ef363, zu_n (fun h9 => absurd h9.1 (by decide))]; exact q357
                have q373 : f363 69 t = nI (kf t + st) := by rw [ef363, zu_n (fun h9 => absurd h9.1 (by decide))]; exact q358
                have q374 : f363 63 i = f181 30 1 := by rw [ef363, zu_n (fun h9 => absurd h9.1 (by decide))]; exact q359
                have q375 : f363 60 i = nI (sc + sl) := by rw [ef363, zu_n (fun h9 => absurd h9.1 (by decide))]; exact q360
                have q376 : f363 52 q = v362 := by rw [ef363]; exact zu_s
                have hMs := zMs.ci (fi' := f363) hMs (fun i9 k9 h9 => by rw [ef363]; exact zu_n (by omega))
                have hKf := zKf.ci (fi' := f363) hKf (fun i9 k9 h9 => by rw [ef363]; exact zu_n (by omega))
                refine lv_iinc (v := nI (i + 1)) (lv' := [(3, .int (nI (i + 1))), (7, .int ((-1))), (6, .int (nI sl)), (2, .int v193), (5, .int (nI st)), (4, .int (nI t)), (0, .ref (τ.1 30)), (1, .int (nI q))]) hx hb dX12_serve_292 hl (k := 7) rfl (by rw [show (Int32.ofInt 1 : Int32) = nI 1 from by decide, nI_add]) (by decide) rfl (fun ls hl => ?_)
                refine lv_goto (tgt := 30) hx hb dX12_serve_295 (by decide) ?_
                have hzw : zMw f363 n i := ⟨⟨t, ht, q367⟩, qm, sa + st, sp, sc + sl, pb, ⟨q368, q372, q369, q375, q370⟩, b1, b2, by omega, by omega, by rcases b5 with h9 | ⟨t3, h91, h92⟩; (exact Or.inl h9); exact Or.inr ⟨t3, h91, by rw [ef363, zu_n (by omega), ef348, zu_n (by omega), ef329, zu_n (by omega), ef181, zu_n (by omega), ef169, zu_n (by omega), ef157, zu_n (by omega)]; exact h92⟩⟩
                exact ih104 (8 * q + wn - (i + 1)) (by omega) (i + 1, v193, kf1, f363) _ _ _ (show 8 * q + wn - (i + 1) = 8 * q + wn - (i + 1) ∧ (8 * q ≤ (i + 1) ∧ (i + 1) ≤ 8 * q + wn ∧ zKf f363 n kf1 ∧ zSum kf1 n ≤ 99 * ((i + 1) - 8 * q) ∧ (∀ j, j < wn → zMw f363 n (8 * q + j)) ∧ zMs f363 Bd ∧ (∀ a b, 55 ≤ a → a ≤ 64 → (b < 8 * q ∨ 8 * q + 8 ≤ b) → f363 a b = fi a b) ∧ f363 30 61 = fi 30 61 ∧ ∀ a b, ¬ (a = 35 ∨ a = 52 ∨ (58 ≤ a ∧ a ≤ 60) ∨ a = 63 ∨ a = 64 ∨ (65 ≤ a ∧ a ≤ 70) ∨ (a = 30 ∧ b = 61)) → f363 a b = fi a b) ∧ zH D A τ f363 fr ol s _ ∧ va_S A s.heap _ _ ∧ lv_has _ 8 [(0, .ref (τ.1 30)), (1, .int (nI q)), (2, .int v193), (3, .int (nI (i + 1)))] from ⟨rfl, ⟨by omega, by omega, hKf, by omega, fun j h => by by_cases h7 : 8 * q + j = i; (rw [h7]; exact hzw); exact (hwq j h).ci (Nat.le_refl _) (fun a h8 h9 => by rw [ef363, zu_n (by omega), ef348, zu_n (by omega), ef329, zu_n (by omega), ef181, zu_n (by omega), ef169, zu_n (by omega), ef157, zu_n (by omega)]), hMs, fun a b h7 h8 h9 => by rw [ef363, zu_n (by omega), ef348, zu_n (by omega), ef329, zu_n (by omega), ef181, zu_n (by omega), ef169, zu_n (by omega), ef157, zu_n (by omega)]; exact hout a b h7 h8 h9, by rw [ef363, zu_n (by omega), ef348, zu_n (by omega), ef329, zu_n (by omega), ef181, zu_n (by omega), ef169, zu_n (by omega), ef157, zu_n (by omega)]; exact hfs, fun a b h => by rw [ef363, zu_n (by omega), ef348, zu_n (by omega), ef329, zu_n (by omega), ef181, zu_n (by omega), ef169, zu_n (by omega), ef157, zu_n (by omega)]; exact hfr a b h⟩, hH, hS, lv_sub hl [6, 7, 3, 0] rfl⟩)
              · rw [h40, h41]
                refine lv_istore (lv' := [(7, .int (nI t2)), (6, .int (nI sl)), (2, .int v193), (5, .int (nI st)), (4, .int (nI t)), (0, .ref (τ.1 30)), (1, .int (nI q)), (3, .int (nI i))]) hx hb dX12_serve_182 hl (by decide) rfl (fun ls hl => ?_)
                refine lv_iload hx hb dX12_serve_184 (lv_at hl 0 rfl) ?_
                refine lv_iconst (v := (-1)) hx hb dX12_serve_186 (by decide) ?_
                refine lv_icmp_eq (tgt := 263) hx hb dX12_serve_187 (by decide) (fun c377 => False.elim (by have zc377 := zc_eq (nI_toInt (by omega)) ((by decide : ((-1) : Int32).toInt = (-1))) c377; omega)) (fun c377 => ?_)
                obtain ⟨s2, hs2, e35b⟩ := hMs t2 (by omega)
                refine lv_aload_n hx hb dX12_serve_190 rfl (lv_at hl 5 rfl) ?_
                refine zGetR (D := D) (ci := 12) (C := RX12) (T := TX12) (N := 71) hx hb hts hiX12 hown hH (zk_30 hF) rfl 7 (by decide) rfl hw10 (fun _ h9 => h9) dX12_serve_191 (zr_30_7 hF) ?_
                refine lv_iload hx hb dX12_serve_194 (lv_at hl 0 rfl) ?_
                refine zIaldN (D := D) hx hb hH (zk_35 hF) (zn_35 hF) (by omega) (by omega) e35b dX12_serve_196 ?_
                refine lv_iload hx hb dX12_serve_197 (lv_at hl 1 rfl) ?_
                refine lv_icmp_lt (tgt := 263) hx hb dX12_serve_199 (by decide) (fun c378 => ?_) (fun c378 => ?_)
                · have zc378 := c378
                  replace zc378 := zc_lt (nI_toInt (by omega)) (nI_toInt (by omega)) zc378
                  refine lv_aload_n hx hb dX12_serve_263 rfl (lv_at hl 5 rfl) ?_
                  refine zGetR (D := D) (ci := 12) (C := RX12) (T := TX12) (N := 71) hx hb hts hiX12 hown hH (zk_30 hF) rfl 56 (by decide) rfl hw16 (fun _ h9 => h9) dX12_serve_264 (zr_30_56 hF) ?_
                  refine lv_iload_n hx hb dX12_serve_267 rfl (lv_at hl 7 rfl) ?_
                  refine lv_dup2_11 hx hb dX12_serve_268 rfl rfl ?_
                  refine zIaldN (D := D) hx hb hH (zk_60 hF) (zn_60 hF) (by omega) (by omega) q336 dX12_serve_269 ?_
                  refine lv_iload hx hb dX12_serve_270 (lv_at hl 1 rfl) ?_
                  refine lv_iadd hx hb dX12_serve_272 ?_
                  refine lv_topi (fun v379 ev379 => ?_)
                  obtain rfl : v379 = nI (sc + sl) := ev379.trans (nI_add _ _)
                  refine zIastN (D := D) hx hb hH hS (zk_60 hF) (zn_60 hF) (by omega) (by omega) dX12_serve_273 (fun H locs hH hS => ?_)
                  obtain ⟨f380, ef380⟩ : ∃ f9 : zFi, f9 = zu f329 60 i (nI (sc + sl)) := ⟨_, rfl⟩
                  rw [← ef380] at hH
                  have q381 : f380 30 2 = nI n := by rw [ef380, zu_n (fun h9 => absurd h9.1 (by decide))]; exact q330
                  have q382 : f380 54 q = nI wn := by rw [ef380, zu_n (fun h9 => absurd h9.1 (by decide))]; exact q331
                  have q383 : f380 30 61 = nI sn := by rw [ef380, zu_n (fun h9 => absurd h9.1 (by decide))]; exact q332
                  have q384 : f380 55 i = nI t := by rw [ef380, zu_n (fun h9 => absurd h9.1 (by decide))]; exact q333
                  have q385 : f380 56 i = nI qm := by rw [ef380, zu_n (fun h9 => absurd h9.1 (by decide))]; exact q334
                  have q386 : f380 59 i = nI sp := by rw [ef380, zu_n (fun h9 => absurd h9.1 (by decide))]; exact q335
                  have q387 : f380 62 i = nI pb := by rw [ef380, zu_n (fun h9 => absurd h9.1 (by decide))]; exact q337
                  have q388 : f380 35 t = nI (st - st) := by rw [ef380, zu_n (fun h9 => absurd h9.1 (by decide))]; exact q338
                  have q389 : f380 58 i = nI (sa + st) := by rw [ef380, zu_n (fun h9 => absurd h9.1 (by decide))]; exact q339
                  have q390 : f380 69 t = nI (kf t + st) := by rw [ef380, zu_n (fun h9 => absurd h9.1 (by decide))]; exact q340
                  have q391 : f380 63 i = f181 30 1 := by rw [ef380, zu_n (fun h9 => absurd h9.1 (by decide))]; exact q341
                  have q392 : f380 35 t2 = nI s2 := by rw [ef380, zu_n (fun h9 => absurd h9.1 (by decide))]; exact e35b
                  have q393 : f380 60 i = nI (sc + sl) := by rw [ef380]; exact zu_s
                  have hMs := zMs.ci (fi' := f380) hMs (fun i9 k9 h9 => by rw [ef380]; exact zu_n (by omega))
                  have hKf := zKf.ci (fi' := f380) hKf (fun i9 k9 h9 => by rw [ef380]; exact zu_n (by omega))
                  refine lv_aload_n hx hb dX12_serve_274 rfl (lv_at hl 5 rfl) ?_
                  refine zGetR (D := D) (ci := 12) (C := RX12) (T := TX12) (N := 71) hx hb hts hiX12 hown hH (zk_30 hF) rfl 48 (by decide) rfl hw17 (fun _ h9 => h9) dX12_serve_275 (zr_30_48 hF) ?_
                  refine lv_iload_n hx hb dX12_serve_278 rfl (lv_at hl 6 rfl) ?_
                  refine lv_dup2_11 hx hb dX12_serve_279 rfl rfl ?_
                  refine zIaldN (D := D) hx hb hH (zk_52 hF) (zn_52 hF) (by omega) (by omega) rfl dX12_serve_280 ?_
                  refine lv_iload hx hb dX12_serve_281 (lv_at hl 1 rfl) ?_
                  refine lv_aload_n hx hb dX12_serve_283 rfl (lv_at hl 5 rfl) ?_
                  refine zGetR (D := D) (ci := 12) (C := RX12) (T := TX12) (N := 71) hx hb hts hiX12 hown hH (zk_30 hF) rfl 53 (by decide) rfl hw18 (fun _ h9 => h9) dX12_serve_284 (zr_30_53 hF) ?_
                  refine lv_iload_n hx hb dX12_serve_287 rfl (lv_at hl 7 rfl) ?_
                  refine zIaldN (D := D) hx hb hH (zk_57 hF) (zn_57 hF) (by omega) (by omega) rfl dX12_serve_288 ?_
                  refine lv_imul hx hb dX12_serve_289 ?_
                  refine lv_topi (fun v394 ev394 => ?_)
                  refine lv_iadd hx hb dX12_serve_290 ?_
                  refine lv_topi (fun v395 ev395 => ?_)
                  refine zIastN (D := D) hx hb hH hS (zk_52 hF) (zn_52 hF) (by omega) (by omega) dX12_serve_291 (fun H locs hH hS => ?_)
                  obtain ⟨f396, ef396⟩ : ∃ f9 : zFi, f9 = zu f380 52 q v395 := ⟨_, rfl⟩
                  rw [← ef396] at hH
                  have q397 : f396 30 2 = nI n := by rw [ef396, zu_n (fun h9 => absurd h9.1 (by decide))]; exact q381
                  have q398 : f396 54 q = nI wn := by rw [ef396, zu_n (fun h9 => absurd h9.1 (by decide))]; exact q382
                  have q399 : f396 30 61 = nI sn := by rw [ef396, zu_n (fun h9 => absurd h9.1 (by decide))]; exact q383
                  have q400 : f396 55 i = nI t := by rw [ef396, zu_n (fun h9 => absurd h9.1 (by decide))]; exact q384
                  have q401 : f396 56 i = nI qm := by rw [ef396, zu_n (fun h9 => absurd h9.1 (by decide))]; exact q385
                  have q402 : f396 59 i = nI sp := by rw [ef396, zu_n (fun h9 => absurd h9.1 (by decide))]; exact q386
                  have q403 : f396 62 i = nI pb := by rw [ef396, zu_n (fun h9 => absurd h9.1 (by decide))]; exact q387
                  have q404 : f396 35 t = nI (st - st) := by rw [ef396, zu_n (fun h9 => absurd h9.1 (by decide))]; exact q388
                  have q405 : f396 58 i = nI (sa + st) := by rw [ef396, zu_n (fun h9 => absurd h9.1 (by decide))]; exact q389
                  have q406 : f396 69 t = nI (kf t + st) := by rw [ef396, zu_n (fun h9 => absurd h9.1 (by decide))]; exact q390
                  have q407 : f396 63 i = f181 30 1 := by rw [ef396, zu_n (fun h9 => absurd h9.1 (by decide))]; exact q391
                  have q408 : f396 35 t2 = nI s2 := by rw [ef396, zu_n (fun h9 => absurd h9.1 (by decide))]; exact q392
                  have q409 : f396 60 i = nI (sc + sl) := by rw [ef396, zu_n (fun h9 => absurd h9.1 (by decide))]; exact q393
                  have q410 : f396 52 q = v395 := by rw [ef396]; exact zu_s
                  have hMs := zMs.ci (fi' := f396) hMs (fun i9 k9 h9 => by rw [ef396]; exact zu_n (by omega))
                  have hKf := zKf.ci (fi' := f396) hKf (fun i9 k9 h9 => by rw [ef396]; exact zu_n (by omega))
                  refine lv_iinc (v := nI (i + 1)) (lv' := [(3, .int (nI (i + 1))), (7, .int (nI t2)), (6, .int (nI sl)), (2, .int v193), (5, .int (nI st)), (4, .int (nI t)), (0, .ref (τ.1 30)), (1, .int (nI q))]) hx hb dX12_serve_292 hl (k := 7) rfl (by rw [show (Int32.ofInt 1 : Int32) = nI 1 from by decide, nI_add]) (by decide) rfl (fun ls hl => ?_)
                  refine lv_goto (tgt := 30) hx hb dX12_serve_295 (by decide) ?_
                  have hzw : zMw f396 n i := ⟨⟨t, ht, q400⟩, qm, sa + st, sp, sc + sl, pb, ⟨q401, q405, q402, q409, q403⟩, b1, b2, by omega, by omega, by rcases b5 with h9 | ⟨t3, h91, h92⟩; (exact Or.inl h9); exact Or.inr ⟨t3, h91, by rw [ef396, zu_n (by omega), ef380, zu_n (by omega), ef329, zu_n (by omega), ef181, zu_n (by omega), ef169, zu_n (by omega), ef157, zu_n (by omega)]; exact h92⟩⟩
                  exact ih104 (8 * q + wn - (i + 1)) (by omega) (i + 1, v193, kf1, f396) _ _ _ (show 8 * q + wn - (i + 1) = 8 * q + wn - (i + 1) ∧ (8 * q ≤ (i + 1) ∧ (i + 1) ≤ 8 * q + wn ∧ zKf f396 n kf1 ∧ zSum kf1 n ≤ 99 * ((i + 1) - 8 * q) ∧ (∀ j, j < wn → zMw f396 n (8 * q + j)) ∧ zMs f396 Bd ∧ (∀ a b, 55 ≤ a → a ≤ 64 → (b < 8 * q ∨ 8 * q + 8 ≤ b) → f396 a b = fi a b) ∧ f396 30 61 = fi 30 61 ∧ ∀ a b, ¬ (a = 35 ∨ a = 52 ∨ (58 ≤ a ∧ a ≤ 60) ∨ a = 63 ∨ a = 64 ∨ (65 ≤ a ∧ a ≤ 70) ∨ (a = 30 ∧ b = 61)) → f396 a b = fi a b) ∧ zH D A τ f396 fr ol s _ ∧ va_S A s.heap _ _ ∧ lv_has _ 8 [(0, .ref (τ.1 30)), (1, .int (nI q)), (2, .int v193), (3, .int (nI (i + 1)))] from ⟨rfl, ⟨by omega, by omega, hKf, by omega, fun j h => by by_cases h7 : 8 * q + j = i; (rw [h7]; exact hzw); exact (hwq j h).ci (Nat.le_refl _) (fun a h8 h9 => by rw [ef396, zu_n (by omega), ef380, zu_n (by omega), ef329, zu_n (by omega), ef181, zu_n (by omega), ef169, zu_n (by omega), ef157, zu_n (by omega)]), hMs, fun a b h7 h8 h9 => by rw [ef396, zu_n (by omega), ef380, zu_n (by omega), ef329, zu_n (by omega), ef181, zu_n (by omega), ef169, zu_n (by omega), ef157, zu_n (by omega)]; exact hout a b h7 h8 h9, by rw [ef396, zu_n (by omega), ef380, zu_n (by omega), ef329, zu_n (by omega), ef181, zu_n (by omega), ef169, zu_n (by omega), ef157, zu_n (by omega)]; exact hfs, fun a b h => by rw [ef396, zu_n (by omega), ef380, zu_n (by omega), ef329, zu_n (by omega), ef181, zu_n (by omega), ef169, zu_n (by omega), ef157, zu_n (by omega)]; exact hfr a b h⟩, hH, hS, lv_sub hl [6, 7, 3, 0] rfl⟩)
                · have zc378 := c378
                  replace zc378 := zc_nlt (nI_toInt (by omega)) (nI_toInt (by omega)) zc378
                  refine lv_aload_n hx hb dX12_serve_202 rfl (lv_at hl 5 rfl) ?_
                  refine zGetR (D := D) (ci := 12) (C := RX12) (T := TX12) (N := 71) hx hb hts hiX12 hown hH (zk_30 hF) rfl 7 (by decide) rfl hw10 (fun _ h9 => h9) dX12_serve_203 (zr_30_7 hF) ?_
                  refine lv_iload hx hb dX12_serve_206 (lv_at hl 0 rfl) ?_
                  refine lv_dup2_11 hx hb dX12_serve_208 rfl rfl ?_
                  refine zIaldN (D := D) hx hb hH (zk_35 hF) (zn_35 hF) (by omega) (by omega) e35b dX12_serve_209 ?_
                  refine lv_iload hx hb dX12_serve_210 (lv_at hl 1 rfl) ?_
                  refine lv_isub hx hb dX12_serve_212 ?_
                  refine lv_topi (fun v411 ev411 => ?_)
                  obtain rfl : v411 = nI (s2 - sl) := ev411.trans (pk_sub (by omega))
                  refine zIastN (D := D) hx hb hH hS (zk_35 hF) (zn_35 hF) (by omega) (by omega) dX12_serve_213 (fun H locs hH hS => ?_)
                  obtain ⟨f412, ef412⟩ : ∃ f9 : zFi, f9 = zu f329 35 t2 (nI (s2 - sl)) := ⟨_, rfl⟩
                  rw [← ef412] at hH
                  have q413 : f412 30 2 = nI n := by rw [ef412, zu_n (fun h9 => absurd h9.1 (by decide))]; exact q330
                  have q414 : f412 54 q = nI wn := by rw [ef412, zu_n (fun h9 => absurd h9.1 (by decide))]; exact q331
                  have q415 : f412 30 61 = nI sn := by rw [ef412, zu_n (fun h9 => absurd h9.1 (by decide))]; exact q332
                  have q416 : f412 55 i = nI t := by rw [ef412, zu_n (fun h9 => absurd h9.1 (by decide))]; exact q333
                  have q417 : f412 56 i = nI qm := by rw [ef412, zu_n (fun h9 => absurd h9.1 (by decide))]; exact q334
                  have q418 : f412 59 i = nI sp := by rw [ef412, zu_n (fun h9 => absurd h9.1 (by decide))]; exact q335
                  have q419 : f412 60 i = nI sc := by rw [ef412, zu_n (fun h9 => absurd h9.1 (by decide))]; exact q336
                  have q420 : f412 62 i = nI pb := by rw [ef412, zu_n (fun h9 => absurd h9.1 (by decide))]; exact q337
                  have q421 : f412 58 i = nI (sa + st) := by rw [ef412, zu_n (fun h9 => absurd h9.1 (by decide))]; exact q339
                  have q422 : f412 69 t = nI (kf t + st) := by rw [ef412, zu_n (fun h9 => absurd h9.1 (by decide))]; exact q340
                  have q423 : f412 63 i = f181 30 1 := by rw [ef412, zu_n (fun h9 => absurd h9.1 (by decide))]; exact q341
                  have q424 : f412 35 t2 = nI (s2 - sl) := by rw [ef412]; exact zu_s
                  have hMs := zMs.set (v := s2 - sl) hMs ef412 (Nat.le_refl _) (by omega)
                  have hKf := zKf.ci (fi' := f412) hKf (fun i9 k9 h9 => by rw [ef412]; exact zu_n (by omega))
                  refine lv_aload_n hx hb dX12_serve_214 rfl (lv_at hl 5 rfl) ?_
                  refine zGetR (D := D) (ci := 12) (C := RX12) (T := TX12) (N := 71) hx hb hts hiX12 hown hH (zk_30 hF) rfl 55 (by decide) rfl hw19 (fun _ h9 => h9) dX12_serve_215 (zr_30_55 hF) ?_
                  refine lv_iload_n hx hb dX12_serve_218 rfl (lv_at hl 7 rfl) ?_
                  refine lv_dup2_11 hx hb dX12_serve_219 rfl rfl ?_
                  refine zIaldN (D := D) hx hb hH (zk_59 hF) (zn_59 hF) (by omega) (by omega) q418 dX12_serve_220 ?_
                  refine lv_iload hx hb dX12_serve_221 (lv_at hl 1 rfl) ?_
                  refine lv_iadd hx hb dX12_serve_223 ?_
                  refine lv_topi (fun v425 ev425 => ?_)
                  obtain rfl : v425 = nI (sp + sl) := ev425.trans (nI_add _ _)
                  refine zIastN (D := D) hx hb hH hS (zk_59 hF) (zn_59 hF) (by omega) (by omega) dX12_serve_224 (fun H locs hH hS => ?_)
                  obtain ⟨f426, ef426⟩ : ∃ f9 : zFi, f9 = zu f412 59 i (nI (sp + sl)) := ⟨_, rfl⟩
                  rw [← ef426] at hH
                  have q427 : f426 30 2 = nI n := by rw [ef426, zu_n (fun h9 => absurd h9.1 (by decide))]; exact q413
                  have q428 : f426 54 q = nI wn := by rw [ef426, zu_n (fun h9 => absurd h9.1 (by decide))]; exact q414
                  have q429 : f426 30 61 = nI sn := by rw [ef426, zu_n (fun h9 => absurd h9.1 (by decide))]; exact q415
                  have q430 : f426 55 i = nI t := by rw [ef426, zu_n (fun h9 => absurd h9.1 (by decide))]; exact q416
                  have q431 : f426 56 i = nI qm := by rw [ef426, zu_n (fun h9 => absurd h9.1 (by decide))]; exact q417
                  have q432 : f426 60 i = nI sc := by rw [ef426, zu_n (fun h9 => absurd h9.1 (by decide))]; exact q419
                  have q433 : f426 62 i = nI pb := by rw [ef426, zu_n (fun h9 => absurd h9.1 (by decide))]; exact q420
                  have q434 : f426 58 i = nI (sa + st) := by rw [ef426, zu_n (fun h9 => absurd h9.1 (by decide))]; exact q421
                  have q435 : f426 69 t = nI (kf t + st) := by rw [ef426, zu_n (fun h9 => absurd h9.1 (by decide))]; exact q422
                  have q436 : f426 63 i = f181 30 1 := by rw [ef426, zu_n (fun h9 => absurd h9.1 (by decide))]; exact q423
                  have q437 : f426 35 t2 = nI (s2 - sl) := by rw [ef426, zu_n (fun h9 => absurd h9.1 (by decide))]; exact q424
                  have q438 : f426 59 i = nI (sp + sl) := by rw [ef426]; exact zu_s
                  have hMs := zMs.ci (fi' := f426) hMs (fun i9 k9 h9 => by rw [ef426]; exact zu_n (by omega))
                  have hKf := zKf.ci (fi' := f426) hKf (fun i9 k9 h9 => by rw [ef426]; exact zu_n (by omega))
                  refine lv_aload_n hx hb dX12_serve_225 rfl (lv_at hl 5 rfl) ?_
                  refine zGetR (D := D) (ci := 12) (C := RX12) (T := TX12) (N := 71) hx hb hts hiX12 hown hH (zk_30 hF) rfl 60 (by decide) rfl hw20 (fun _ h9 => h9) dX12_serve_226 (zr_30_60 hF) ?_
                  refine lv_iload_n hx hb dX12_serve_229 rfl (lv_at hl 7 rfl) ?_
                  refine lv_iload hx hb dX12_serve_230 (lv_at hl 0 rfl) ?_
                  refine zIastN (D := D) hx hb hH hS (zk_64 hF) (zn_64 hF) (by omega) (by omega) dX12_serve_232 (fun H locs hH hS => ?_)
                  obtain ⟨f439, ef439⟩ : ∃ f9 : zFi, f9 = zu f426 64 i (nI t2) := ⟨_, rfl⟩
                  rw [← ef439] at hH
                  have q440 : f439 30 2 = nI n := by rw [ef439, zu_n (fun h9 => absurd h9.1 (by decide))]; exact q427
                  have q441 : f439 54 q = nI wn := by rw [ef439, zu_n (fun h9 => absurd h9.1 (by decide))]; exact q428
                  have q442 : f439 30 61 = nI sn := by rw [ef439, zu_n (fun h9 => absurd h9.1 (by decide))]; exact q429
                  have q443 : f439 55 i = nI t := by rw [ef439, zu_n (fun h9 => absurd h9.1 (by decide))]; exact q430
                  have q444 : f439 56 i = nI qm := by rw [ef439, zu_n (fun h9 => absurd h9.1 (by decide))]; exact q431
                  have q445 : f439 60 i = nI sc := by rw [ef439, zu_n (fun h9 => absurd h9.1 (by decide))]; exact q432
                  have q446 : f439 62 i = nI pb := by rw [ef439, zu_n (fun h9 => absurd h9.1 (by decide))]; exact q433
                  have q447 : f439 58 i = nI (sa + st) := by rw [ef439, zu_n (fun h9 => absurd h9.1 (by decide))]; exact q434
                  have q448 : f439 69 t = nI (kf t + st) := by rw [ef439, zu_n (fun h9 => absurd h9.1 (by decide))]; exact q435
                  have q449 : f439 63 i = f181 30 1 := by rw [ef439, zu_n (fun h9 => absurd h9.1 (by decide))]; exact q436
                  have q450 : f439 35 t2 = nI (s2 - sl) := by rw [ef439, zu_n (fun h9 => absurd h9.1 (by decide))]; exact q437
                  have q451 : f439 59 i = nI (sp + sl) := by rw [ef439, zu_n (fun h9 => absurd h9.1 (by decide))]; exact q438
                  have q452 : f439 64 i = nI t2 := by rw [ef439]; exact zu_s
                  have hMs := zMs.ci (fi' := f439) hMs (fun i9 k9 h9 => by rw [ef439]; exact zu_n (by omega))
                  have hKf := zKf.ci (fi' := f439) hKf (fun i9 k9 h9 => by rw [ef439]; exact zu_n (by omega))
                  refine lv_aload_n hx hb dX12_serve_233 rfl (lv_at hl 5 rfl) ?_
                  refine zGetR (D := D) (ci := 12) (C := RX12) (T := TX12) (N := 71) hx hb hts hiX12 hown hH (zk_30 hF) rfl 59 (by decide) rfl hw21 (fun _ h9 => h9) dX12_serve_234 (zr_30_59 hF) ?_
                  refine lv_iload_n hx hb dX12_serve_237 rfl (lv_at hl 7 rfl) ?_
                  refine lv_aload_n hx hb dX12_serve_238 rfl (lv_at hl 5 rfl) ?_
                  refine zGetI (D := D) (ci := 12) (C := RX12) (T := TX12) (N := 71) hx hb hts hiX12 hown hH (zk_30 hF) rfl 1 (by decide) rfl hw6 (fun _ h9 => h9) dX12_serve_239 rfl ?_
                  refine zIastN (D := D) hx hb hH hS (zk_63 hF) (zn_63 hF) (by omega) (by omega) dX12_serve_242 (fun H locs hH hS => ?_)
                  obtain ⟨f453, ef453⟩ : ∃ f9 : zFi, f9 = zu f439 63 i (f439 30 1) := ⟨_, rfl⟩
                  rw [← ef453] at hH
                  have q454 : f453 30 2 = nI n := by rw [ef453, zu_n (fun h9 => absurd h9.1 (by decide))]; exact q440
                  have q455 : f453 54 q = nI wn := by rw [ef453, zu_n (fun h9 => absurd h9.1 (by decide))]; exact q441
                  have q456 : f453 30 61 = nI sn := by rw [ef453, zu_n (fun h9 => absurd h9.1 (by decide))]; exact q442
                  have q457 : f453 55 i = nI t := by rw [ef453, zu_n (fun h9 => absurd h9.1 (by decide))]; exact q443
                  have q458 : f453 56 i = nI qm := by rw [ef453, zu_n (fun h9 => absurd h9.1 (by decide))]; exact q444
                  have q459 : f453 60 i = nI sc := by rw [ef453, zu_n (fun h9 => absurd h9.1 (by decide))]; exact q445
                  have q460 : f453 62 i = nI pb := by rw [ef453, zu_n (fun h9 => absurd h9.1 (by decide))]; exact q446
                  have q461 : f453 58 i = nI (sa + st) := by rw [ef453, zu_n (fun h9 => absurd h9.1 (by decide))]; exact q447
                  have q462 : f453 69 t = nI (kf t + st) := by rw [ef453, zu_n (fun h9 => absurd h9.1 (by decide))]; exact q448
                  have q463 : f453 35 t2 = nI (s2 - sl) := by rw [ef453, zu_n (fun h9 => absurd h9.1 (by decide))]; exact q450
                  have q464 : f453 59 i = nI (sp + sl) := by rw [ef453, zu_n (fun h9 => absurd h9.1 (by decide))]; exact q451
                  have q465 : f453 64 i = nI t2 := by rw [ef453, zu_n (fun h9 => absurd h9.1 (by decide))]; exact q452
                  have q466 : f453 63 i = f439 30 1 := by rw [ef453]; exact zu_s
                  have hMs := zMs.ci (fi' := f453) hMs (fun i9 k9 h9 => by rw [ef453]; exact zu_n (by omega))
                  have hKf := zKf.ci (fi' := f453) hKf (fun i9 k9 h9 => by rw [ef453]; exact zu_n (by omega))
                  refine lv_aload_n hx hb dX12_serve_243 rfl (lv_at hl 5 rfl) ?_
                  refine zGetR (D := D) (ci := 12) (C := RX12) (T := TX12) (N := 71) hx hb hts hiX12 hown hH (zk_30 hF) rfl 66 (by decide) rfl hw12 (fun _ h9 => h9) dX12_serve_244 (zr_30_66 hF) ?_
                  refine lv_iload hx hb dX12_serve_247 (lv_at hl 0 rfl) ?_
                  refine lv_dup2_11 hx hb dX12_serve_249 rfl rfl ?_
                  refine zIaldN (D := D) hx hb hH (zk_69 hF) (zn_69 hF) (by omega) (by omega) (hKf t2 ht2) dX12_serve_250 ?_
                  refine lv_iload hx hb dX12_serve_251 (lv_at hl 1 rfl) ?_
                  refine lv_iadd hx hb dX12_serve_253 ?_
                  refine lv_topi (fun v467 ev467 => ?_)
                  obtain rfl : v467 = nI (kf1 t2 + sl) := ev467.trans (nI_add _ _)
                  refine zIastN (D := D) hx hb hH hS (zk_69 hF) (zn_69 hF) (by omega) (by omega) dX12_serve_254 (fun H locs hH hS => ?_)
                  obtain ⟨f468, ef468⟩ : ∃ f9 : zFi, f9 = zu f453 69 t2 (nI (kf1 t2 + sl)) := ⟨_, rfl⟩
                  rw [← ef468] at hH
                  have q469 : f468 30 2 = nI n := by rw [ef468, zu_n (fun h9 => absurd h9.1 (by decide))]; exact q454
                  have q470 : f468 54 q = nI wn := by rw [ef468, zu_n (fun h9 => absurd h9.1 (by decide))]; exact q455
                  have q471 : f468 30 61 = nI sn := by rw [ef468, zu_n (fun h9 => absurd h9.1 (by decide))]; exact q456
                  have q472 : f468 55 i = nI t := by rw [ef468, zu_n (fun h9 => absurd h9.1 (by decide))]; exact q457
                  have q473 : f468 56 i = nI qm := by rw [ef468, zu_n (fun h9 => absurd h9.1 (by decide))]; exact q458
                  have q474 : f468 60 i = nI sc := by rw [ef468, zu_n (fun h9 => absurd h9.1 (by decide))]; exact q459
                  have q475 : f468 62 i = nI pb := by rw [ef468, zu_n (fun h9 => absurd h9.1 (by decide))]; exact q460
                  have q476 : f468 58 i = nI (sa + st) := by rw [ef468, zu_n (fun h9 => absurd h9.1 (by decide))]; exact q461
                  have q477 : f468 35 t2 = nI (s2 - sl) := by rw [ef468, zu_n (fun h9 => absurd h9.1 (by decide))]; exact q463
                  have q478 : f468 59 i = nI (sp + sl) := by rw [ef468, zu_n (fun h9 => absurd h9.1 (by decide))]; exact q464
                  have q479 : f468 64 i = nI t2 := by rw [ef468, zu_n (fun h9 => absurd h9.1 (by decide))]; exact q465
                  have q480 : f468 63 i = f439 30 1 := by rw [ef468, zu_n (fun h9 => absurd h9.1 (by decide))]; exact q466
                  have q481 : f468 69 t2 = nI (kf1 t2 + sl) := by rw [ef468]; exact zu_s
                  have hMs := zMs.ci (fi' := f468) hMs (fun i9 k9 h9 => by rw [ef468]; exact zu_n (by omega))
                  have hKf := zKf.set (t := t2) (x := sl) hKf ef468
                  obtain ⟨kf2, ekf2⟩ : ∃ k9 : Nat → Nat, k9 = (fun j => if j = t2 then kf1 j + sl else kf1 j) := ⟨_, rfl⟩
                  rw [← ekf2] at hKf
                  have skf2 : zSum kf2 n = zSum kf1 n + sl := by rw [ekf2]; exact zSum_up (by omega)
                  refine lv_iload_n hx hb dX12_serve_255 rfl (lv_at hl 2 rfl) ?_
                  refine lv_iload hx hb dX12_serve_256 (lv_at hl 1 rfl) ?_
                  refine lv_iadd hx hb dX12_serve_258 ?_
                  refine lv_topi (fun v482 ev482 => ?_)
                  refine lv_istore_n (lv' := [(2, .int v482), (7, .int (nI t2)), (6, .int (nI sl)), (5, .int (nI st)), (4, .int (nI t)), (0, .ref (τ.1 30)), (1, .int (nI q)), (3, .int (nI i))]) hx hb dX12_serve_259 rfl hl (by decide) rfl (fun ls hl => ?_)
                  refine lv_goto (tgt := 292) hx hb dX12_serve_260 (by decide) ?_
                  refine lv_iinc (v := nI (i + 1)) (lv' := [(3, .int (nI (i + 1))), (2, .int v482), (7, .int (nI t2)), (6, .int (nI sl)), (5, .int (nI st)), (4, .int (nI t)), (0, .ref (τ.1 30)), (1, .int (nI q))]) hx hb dX12_serve_292 hl (k := 7) rfl (by rw [show (Int32.ofInt 1 : Int32) = nI 1 from by decide, nI_add]) (by decide) rfl (fun ls hl => ?_)
                  refine lv_goto (tgt := 30) hx hb dX12_serve_295 (by decide) ?_
                  have hzw : zMw f468 n i := ⟨⟨t, ht, q472⟩, qm, sa + st, sp + sl, sc, pb, ⟨q473, q476, q478, q474, q475⟩, b1, b2, by omega, by omega, Or.inr ⟨t2, ht2, q479⟩⟩
                  exact ih104 (8 * q + wn - (i + 1)) (by omega) (i + 1, v482, kf2, f468) _ _ _ (show 8 * q + wn - (i + 1) = 8 * q + wn - (i + 1) ∧ (8 * q ≤ (i + 1) ∧ (i + 1) ≤ 8 * q + wn ∧ zKf f468 n kf2 ∧ zSum kf2 n ≤ 99 * ((i + 1) - 8 * q) ∧ (∀ j, j < wn → zMw f468 n (8 * q + j)) ∧ zMs f468 Bd ∧ (∀ a b, 55 ≤ a → a ≤ 64 → (b < 8 * q ∨ 8 * q + 8 ≤ b) → f468 a b = fi a b) ∧ f468 30 61 = fi 30 61 ∧ ∀ a b, ¬ (a = 35 ∨ a = 52 ∨ (58 ≤ a ∧ a ≤ 60) ∨ a = 63 ∨ a = 64 ∨ (65 ≤ a ∧ a ≤ 70) ∨ (a = 30 ∧ b = 61)) → f468 a b = fi a b) ∧ zH D A τ f468 fr ol s _ ∧ va_S A s.heap _ _ ∧ lv_has _ 8 [(0, .ref (τ.1 30)), (1, .int (nI q)), (2, .int v482), (3, .int (nI (i + 1)))] from ⟨rfl, ⟨by omega, by omega, hKf, by omega, fun j h => by by_cases h7 : 8 * q + j = i; (rw [h7]; exact hzw); exact (hwq j h).ci (Nat.le_refl _) (fun a h8 h9 => by rw [ef468, zu_n (by omega), ef453, zu_n (by omega), ef439, zu_n (by omega), ef426, zu_n (by omega), ef412, zu_n (by omega), ef329, zu_n (by omega), ef181, zu_n (by omega), ef169, zu_n (by omega), ef157, zu_n (by omega)]), hMs, fun a b h7 h8 h9 => by rw [ef468, zu_n (by omega), ef453, zu_n (by omega), ef439, zu_n (by omega), ef426, zu_n (by omega), ef412, zu_n (by omega), ef329, zu_n (by omega), ef181, zu_n (by omega), ef169, zu_n (by omega), ef157, zu_n (by omega)]; exact hout a b h7 h8 h9, by rw [ef468, zu_n (by omega), ef453, zu_n (by omega), ef439, zu_n (by omega), ef426, zu_n (by omega), ef412, zu_n (by omega), ef329, zu_n (by omega), ef181, zu_n (by omega), ef169, zu_n (by omega), ef157, zu_n (by omega)]; exact hfs, fun a b h => by rw [ef468, zu_n (by omega), ef453, zu_n (by omega), ef439, zu_n (by omega), ef426, zu_n (by omega), ef412, zu_n (by omega), ef329, zu_n (by omega), ef181, zu_n (by omega), ef169, zu_n (by omega), ef157, zu_n (by omega)]; exact hfr a b h⟩, hH, hS, lv_sub hl [6, 7, 1, 0] rfl⟩)
            · have zc345 := c345
              replace zc345 := zc_nlt (rfl) (rfl) zc345
              refine lv_goto (tgt := 292) hx hb dX12_serve_172 (by decide) ?_
              refine lv_iinc (v := nI (i + 1)) (lv' := [(3, .int (nI (i + 1))), (6, .int (nI sl)), (2, .int v193), (5, .int (nI st)), (4, .int (nI t)), (0, .ref (τ.1 30)), (1, .int (nI q))]) hx hb dX12_serve_292 hl (k := 6) rfl (by rw [show (Int32.ofInt 1 : Int32) = nI 1 from by decide, nI_add]) (by decide) rfl (fun ls hl => ?_)
              refine lv_goto (tgt := 30) hx hb dX12_serve_295 (by decide) ?_
              have hzw : zMw f329 n i := ⟨⟨t, ht, q333⟩, qm, sa + st, sp, sc, pb, ⟨q334, q339, q335, q336, q337⟩, b1, b2, by omega, by omega, by rcases b5 with h9 | ⟨t3, h91, h92⟩; (exact Or.inl h9); exact Or.inr ⟨t3, h91, by rw [ef329, zu_n (by omega), ef181, zu_n (by omega), ef169, zu_n (by omega), ef157, zu_n (by omega)]; exact h92⟩⟩
              exact ih104 (8 * q + wn - (i + 1)) (by omega) (i + 1, v193, kf1, f329) _ _ _ (show 8 * q + wn - (i + 1) = 8 * q + wn - (i + 1) ∧ (8 * q ≤ (i + 1) ∧ (i + 1) ≤ 8 * q + wn ∧ zKf f329 n kf1 ∧ zSum kf1 n ≤ 99 * ((i + 1) - 8 * q) ∧ (∀ j, j < wn → zMw f329 n (8 * q + j)) ∧ zMs f329 Bd ∧ (∀ a b, 55 ≤ a → a ≤ 64 → (b < 8 * q ∨ 8 * q + 8 ≤ b) → f329 a b = fi a b) ∧ f329 30 61 = fi 30 61 ∧ ∀ a b, ¬ (a = 35 ∨ a = 52 ∨ (58 ≤ a ∧ a ≤ 60) ∨ a = 63 ∨ a = 64 ∨ (65 ≤ a ∧ a ≤ 70) ∨ (a = 30 ∧ b = 61)) → f329 a b = fi a b) ∧ zH D A τ f329 fr ol s _ ∧ va_S A s.heap _ _ ∧ lv_has _ 8 [(0, .ref (τ.1 30)), (1, .int (nI q)), (2, .int v193), (3, .int (nI (i + 1)))] from ⟨rfl, ⟨by omega, by omega, hKf, by omega, fun j h => by by_cases h7 : 8 * q + j = i; (rw [h7]; exact hzw); exact (hwq j h).ci (Nat.le_refl _) (fun a h8 h9 => by rw [ef329, zu_n (by omega), ef181, zu_n (by omega), ef169, zu_n (by omega), ef157, zu_n (by omega)]), hMs, fun a b h7 h8 h9 => by rw [ef329, zu_n (by omega), ef181, zu_n (by omega), ef169, zu_n (by omega), ef157, zu_n (by omega)]; exact hout a b h7 h8 h9, by rw [ef329, zu_n (by omega), ef181, zu_n (by omega), ef169, zu_n (by omega), ef157, zu_n (by omega)]; exact hfs, fun a b h => by rw [ef329, zu_n (by omega), ef181, zu_n (by omega), ef169, zu_n (by omega), ef157, zu_n (by omega)]; exact hfr a b h⟩, hH, hS, lv_sub hl [5, 6, 2, 0] rfl⟩)
      · have zc155 := c155
        replace zc155 := zc_nle (nI_toInt (by omega)) (nI_toInt (by omega)) zc155
        refine lv_aload_n hx hb dX12_serve_68 rfl (lv_at hl 1 rfl) ?_
        refine lv_iload_n hx hb dX12_serve_69 rfl (lv_at hl 4 rfl) ?_
        refine va_calli (va_runV (As := [.int (nI i)]) (rest := []) ⟨hx, hb, hml, hown, hts⟩ (m_leftV l hl0 D A sad τ f fr ol hF i (by omega) qm sa sp sc e56 e58 e59 e60 (by omega)) (cwV 1 hts gX12_serve_X12_left rfl rfl rfl (by decide +kernel) ⟨Nat.le_of_ble_eq_true rfl, Nat.le_of_ble_eq_true rfl⟩) ⟨zQc_bl, zRecv hH (zk_30 hF) rfl, zQc_at hz hS hA hH⟩ rfl rfl hl.1 rfl (lv_room (Nat.le_of_ble_eq_true rfl)) dX12_serve_70 ⟨Nat.le_of_ble_eq_true rfl, Nat.le_of_ble_eq_true rfl⟩) hS (fun q _ h => h) (fun q h => h) (fun r483 u9 t9 H1 locs ht9 hvm9 hw hB hz1 hk1 hS => ?_)
        have hH := zMv ht9 hvm9 hB
        generalize H1 = H at hH hS ⊢
        obtain rfl : r483 = nI lf := hw.trans (by rw [hlf])
        refine lv_goto (tgt := 83) hx hb dX12_serve_73 (by decide) ?_
        refine lv_istore (lv' := [(5, .int (nI lf)), (4, .int (nI t)), (0, .ref (τ.1 30)), (1, .int (nI q)), (2, .int pp), (3, .int (nI i))]) hx hb dX12_serve_83 hl (by decide) rfl (fun ls hl => ?_)
        refine lv_aload_n hx hb dX12_serve_85 rfl (lv_at hl 2 rfl) ?_
        refine zGetR (D := D) (ci := 12) (C := RX12) (T := TX12) (N := 71) hx hb hts hiX12 hown hH (zk_30 hF) rfl 7 (by decide) rfl hw10 (fun _ h9 => h9) dX12_serve_86 (zr_30_7 hF) ?_
        refine lv_iload hx hb dX12_serve_89 (lv_at hl 1 rfl) ?_
        refine lv_dup2_11 hx hb dX12_serve_91 rfl rfl ?_
        refine zIaldN (D := D) hx hb hH (zk_35 hF) (zn_35 hF) (by omega) (by omega) e35 dX12_serve_92 ?_
        refine lv_iload hx hb dX12_serve_93 (lv_at hl 0 rfl) ?_
        refine lv_isub hx hb dX12_serve_95 ?_
        refine lv_topi (fun v484 ev484 => ?_)
        obtain rfl : v484 = nI (st - lf) := ev484.trans (pk_sub (by omega))
        refine zIastN (D := D) hx hb hH hS (zk_35 hF) (zn_35 hF) (by omega) (by omega) dX12_serve_96 (fun H locs hH hS => ?_)
        obtain ⟨f485, ef485⟩ : ∃ f9 : zFi, f9 = zu f 35 t (nI (st - lf)) := ⟨_, rfl⟩
        rw [← ef485] at hH
        have q486 : f485 30 2 = nI n := by rw [ef485, zu_n (fun h9 => absurd h9.1 (by decide))]; exact p2
        have q487 : f485 54 q = nI wn := by rw [ef485, zu_n (fun h9 => absurd h9.1 (by decide))]; exact p54
        have q488 : f485 30 61 = nI sn := by rw [ef485, zu_n (fun h9 => absurd h9.1 (by decide))]; exact p61
        have q489 : f485 55 i = nI t := by rw [ef485, zu_n (fun h9 => absurd h9.1 (by decide))]; exact e55
        have q490 : f485 56 i = nI qm := by rw [ef485, zu_n (fun h9 => absurd h9.1 (by decide))]; exact e56
        have q491 : f485 58 i = nI sa := by rw [ef485, zu_n (fun h9 => absurd h9.1 (by decide))]; exact e58
        have q492 : f485 59 i = nI sp := by rw [ef485, zu_n (fun h9 => absurd h9.1 (by decide))]; exact e59
        have q493 : f485 60 i = nI sc := by rw [ef485, zu_n (fun h9 => absurd h9.1 (by decide))]; exact e60
        have q494 : f485 62 i = nI pb := by rw [ef485, zu_n (fun h9 => absurd h9.1 (by decide))]; exact e62
        have q495 : f485 35 t = nI (st - lf) := by rw [ef485]; exact zu_s
        have hMs := zMs.set (v := st - lf) hMs ef485 (Nat.le_refl _) (by omega)
        have hKf := zKf.ci (fi' := f485) hKf (fun i9 k9 h9 => by rw [ef485]; exact zu_n (by omega))
        refine lv_aload_n hx hb dX12_serve_97 rfl (lv_at hl 2 rfl) ?_
        refine zGetR (D := D) (ci := 12) (C := RX12) (T := TX12) (N := 71) hx hb hts hiX12 hown hH (zk_30 hF) rfl 54 (by decide) rfl hw11 (fun _ h9 => h9) dX12_serve_98 (zr_30_54 hF) ?_
        refine lv_iload_n hx hb dX12_serve_101 rfl (lv_at hl 5 rfl) ?_
        refine lv_dup2_11 hx hb dX12_serve_102 rfl rfl ?_
        refine zIaldN (D := D) hx hb hH (zk_58 hF) (zn_58 hF) (by omega) (by omega) q491 dX12_serve_103 ?_
        refine lv_iload hx hb dX12_serve_104 (lv_at hl 0 rfl) ?_
        refine lv_iadd hx hb dX12_serve_106 ?_
        refine lv_topi (fun v496 ev496 => ?_)
        obtain rfl : v496 = nI (sa + lf) := ev496.trans (nI_add _ _)
        refine zIastN (D := D) hx hb hH hS (zk_58 hF) (zn_58 hF) (by omega) (by omega) dX12_serve_107 (fun H locs hH hS => ?_)
        obtain ⟨f497, ef497⟩ : ∃ f9 : zFi, f9 = zu f485 58 i (nI (sa + lf)) := ⟨_, rfl⟩
        rw [← ef497] at hH
        have q498 : f497 30 2 = nI n := by rw [ef497, zu_n (fun h9 => absurd h9.1 (by decide))]; exact q486
        have q499 : f497 54 q = nI wn := by rw [ef497, zu_n (fun h9 => absurd h9.1 (by decide))]; exact q487
        have q500 : f497 30 61 = nI sn := by rw [ef497, zu_n (fun h9 => absurd h9.1 (by decide))]; exact q488
        have q501 : f497 55 i = nI t := by rw [ef497, zu_n (fun h9 => absurd h9.1 (by decide))]; exact q489
        have q502 : f497 56 i = nI qm := by rw [ef497, zu_n (fun h9 => absurd h9.1 (by decide))]; exact q490
        have q503 : f497 59 i = nI sp := by rw [ef497, zu_n (fun h9 => absurd h9.1 (by decide))]; exact q492
        have q504 : f497 60 i = nI sc := by rw [ef497, zu_n (fun h9 => absurd h9.1 (by decide))]; exact q493
        have q505 : f497 62 i = nI pb := by rw [ef497, zu_n (fun h9 => absurd h9.1 (by decide))]; exact q494
        have q506 : f497 35 t = nI (st - lf) := by rw [ef497, zu_n (fun h9 => absurd h9.1 (by decide))]; exact q495
        have q507 : f497 58 i = nI (sa + lf) := by rw [ef497]; exact zu_s
        have hMs := zMs.ci (fi' := f497) hMs (fun i9 k9 h9 => by rw [ef497]; exact zu_n (by omega))
        have hKf := zKf.ci (fi' := f497) hKf (fun i9 k9 h9 => by rw [ef497]; exact zu_n (by omega))
        refine lv_aload_n hx hb dX12_serve_108 rfl (lv_at hl 2 rfl) ?_
        refine zGetR (D := D) (ci := 12) (C := RX12) (T := TX12) (N := 71) hx hb hts hiX12 hown hH (zk_30 hF) rfl 66 (by decide) rfl hw12 (fun _ h9 => h9) dX12_serve_109 (zr_30_66 hF) ?_
        refine lv_iload hx hb dX12_serve_112 (lv_at hl 1 rfl) ?_
        refine lv_dup2_11 hx hb dX12_serve_114 rfl rfl ?_
        refine zIaldN (D := D) hx hb hH (zk_69 hF) (zn_69 hF) (by omega) (by omega) (hKf t ht) dX12_serve_115 ?_
        refine lv_iload hx hb dX12_serve_116 (lv_at hl 0 rfl) ?_
        refine lv_iadd hx hb dX12_serve_118 ?_
        refine lv_topi (fun v508 ev508 => ?_)
        obtain rfl : v508 = nI (kf t + lf) := ev508.trans (nI_add _ _)
        refine zIastN (D := D) hx hb hH hS (zk_69 hF) (zn_69 hF) (by omega) (by omega) dX12_serve_119 (fun H locs hH hS => ?_)
        obtain ⟨f509, ef509⟩ : ∃ f9 : zFi, f9 = zu f497 69 t (nI (kf t + lf)) := ⟨_, rfl⟩
        rw [← ef509] at hH
        have q510 : f509 30 2 = nI n := by rw [ef509, zu_n (fun h9 => absurd h9.1 (by decide))]; exact q498
        have q511 : f509 54 q = nI wn := by rw [ef509, zu_n (fun h9 => absurd h9.1 (by decide))]; exact q499
        have q512 : f509 30 61 = nI sn := by rw [ef509, zu_n (fun h9 => absurd h9.1 (by decide))]; exact q500
        have q513 : f509 55 i = nI t := by rw [ef509, zu_n (fun h9 => absurd h9.1 (by decide))]; exact q501
        have q514 : f509 56 i = nI qm := by rw [ef509, zu_n (fun h9 => absurd h9.1 (by decide))]; exact q502
        have q515 : f509 59 i = nI sp := by rw [ef509, zu_n (fun h9 => absurd h9.1 (by decide))]; exact q503
        have q516 : f509 60 i = nI sc := by rw [ef509, zu_n (fun h9 => absurd h9.1 (by decide))]; exact q504
        have q517 : f509 62 i = nI pb := by rw [ef509, zu_n (fun h9 => absurd h9.1 (by decide))]; exact q505
        have q518 : f509 35 t = nI (st - lf) := by rw [ef509, zu_n (fun h9 => absurd h9.1 (by decide))]; exact q506
        have q519 : f509 58 i = nI (sa + lf) := by rw [ef509, zu_n (fun h9 => absurd h9.1 (by decide))]; exact q507
        have q520 : f509 69 t = nI (kf t + lf) := by rw [ef509]; exact zu_s
        have hMs := zMs.ci (fi' := f509) hMs (fun i9 k9 h9 => by rw [ef509]; exact zu_n (by omega))
        have hKf := zKf.set (t := t) (x := lf) hKf ef509
        obtain ⟨kf1, ekf1⟩ : ∃ k9 : Nat → Nat, k9 = (fun j => if j = t then kf j + lf else kf j) := ⟨_, rfl⟩
        rw [← ekf1] at hKf
        have skf1 : zSum kf1 n = zSum kf n + lf := by rw [ekf1]; exact zSum_up (by omega)
        refine lv_iload_n hx hb dX12_serve_120 rfl (lv_at hl 4 rfl) ?_
        refine lv_iload hx hb dX12_serve_121 (lv_at hl 0 rfl) ?_
        refine lv_iadd hx hb dX12_serve_123 ?_
        refine lv_topi (fun v521 ev521 => ?_)
        refine lv_istore_n (lv' := [(2, .int v521), (5, .int (nI lf)), (4, .int (nI t)), (0, .ref (τ.1 30)), (1, .int (nI q)), (3, .int (nI i))]) hx hb dX12_serve_124 rfl hl (by decide) rfl (fun ls hl => ?_)
        refine lv_iload hx hb dX12_serve_125 (lv_at hl 1 rfl) ?_
        refine lv_if_le (tgt := 140) hx hb dX12_serve_127 (by decide) (fun c522 => ?_) (fun c522 => ?_)
        · have zc522 := c522
          replace zc522 := zc_le (nI_toInt (by omega)) ((by decide : (0 : Int32).toInt = 0)) zc522
          refine lv_aload_n hx hb dX12_serve_140 rfl (lv_at hl 3 rfl) ?_
          refine lv_iload_n hx hb dX12_serve_141 rfl (lv_at hl 5 rfl) ?_
          refine va_calli (va_runV (As := [.int (nI i)]) (rest := []) ⟨hx, hb, hml, hown, hts⟩ (m_leftV l hl0 D A sad τ f509 fr ol hF i (by omega) qm (sa + lf) sp sc q514 q519 q515 q516 (by omega)) (cwV 1 hts gX12_serve_X12_left rfl rfl rfl (by decide +kernel) ⟨Nat.le_of_ble_eq_true rfl, Nat.le_of_ble_eq_true rfl⟩) ⟨zQc_bl, zRecv hH (zk_30 hF) rfl, zQc_at hz hS hA hH⟩ rfl rfl hl.1 rfl (lv_room (Nat.le_of_ble_eq_true rfl)) dX12_serve_142 ⟨Nat.le_of_ble_eq_true rfl, Nat.le_of_ble_eq_true rfl⟩) hS (fun q _ h => h) (fun q h => h) (fun r523 u9 t9 H1 locs ht9 hvm9 hw hB hz1 hk1 hS => ?_)
          have hH := zMv ht9 hvm9 hB
          generalize H1 = H at hH hS ⊢
          obtain ⟨sl, hsl⟩ : ∃ sl : Nat, sl = qm - ((sa + lf) + sp + sc) := ⟨_, rfl⟩
          obtain rfl : r523 = nI sl := hw.trans (by rw [hsl])
          refine lv_istore (lv' := [(6, .int (nI sl)), (2, .int v521), (5, .int (nI lf)), (4, .int (nI t)), (0, .ref (τ.1 30)), (1, .int (nI q)), (3, .int (nI i))]) hx hb dX12_serve_145 hl (by decide) rfl (fun ls hl => ?_)
          refine lv_iload hx hb dX12_serve_147 (lv_at hl 0 rfl) ?_
          refine lv_if_eq (tgt := 292) hx hb dX12_serve_149 (by decide) (fun c524 => ?_) (fun c524 => ?_)
          · have zc524 := c524
            replace zc524 := zc_eq (nI_toInt (by omega)) ((by decide : (0 : Int32).toInt = 0)) zc524
            refine lv_iinc (v := nI (i + 1)) (lv' := [(3, .int (nI (i + 1))), (6, .int (nI sl)), (2, .int v521), (5, .int (nI lf)), (4, .int (nI t)), (0, .ref (τ.1 30)), (1, .int (nI q))]) hx hb dX12_serve_292 hl (k := 6) rfl (by rw [show (Int32.ofInt 1 : Int32) = nI 1 from by decide, nI_add]) (by decide) rfl (fun ls hl => ?_)
            refine lv_goto (tgt := 30) hx hb dX12_serve_295 (by decide) ?_
            have hzw : zMw f509 n i := ⟨⟨t, ht, q513⟩, qm, sa + lf, sp, sc, pb, ⟨q514, q519, q515, q516, q517⟩, b1, b2, by omega, by omega, by rcases b5 with h9 | ⟨t3, h91, h92⟩; (exact Or.inl h9); exact Or.inr ⟨t3, h91, by rw [ef509, zu_n (by omega), ef497, zu_n (by omega), ef485, zu_n (by omega)]; exact h92⟩⟩
            exact ih104 (8 * q + wn - (i + 1)) (by omega) (i + 1, v521, kf1, f509) _ _ _ (show 8 * q + wn - (i + 1) = 8 * q + wn - (i + 1) ∧ (8 * q ≤ (i + 1) ∧ (i + 1) ≤ 8 * q + wn ∧ zKf f509 n kf1 ∧ zSum kf1 n ≤ 99 * ((i + 1) - 8 * q) ∧ (∀ j, j < wn → zMw f509 n (8 * q + j)) ∧ zMs f509 Bd ∧ (∀ a b, 55 ≤ a → a ≤ 64 → (b < 8 * q ∨ 8 * q + 8 ≤ b) → f509 a b = fi a b) ∧ f509 30 61 = fi 30 61 ∧ ∀ a b, ¬ (a = 35 ∨ a = 52 ∨ (58 ≤ a ∧ a ≤ 60) ∨ a = 63 ∨ a = 64 ∨ (65 ≤ a ∧ a ≤ 70) ∨ (a = 30 ∧ b = 61)) → f509 a b = fi a b) ∧ zH D A τ f509 fr ol s _ ∧ va_S A s.heap _ _ ∧ lv_has _ 8 [(0, .ref (τ.1 30)), (1, .int (nI q)), (2, .int v521), (3, .int (nI (i + 1)))] from ⟨rfl, ⟨by omega, by omega, hKf, by omega, fun j h => by by_cases h7 : 8 * q + j = i; (rw [h7]; exact hzw); exact (hwq j h).ci (Nat.le_refl _) (fun a h8 h9 => by rw [ef509, zu_n (by omega), ef497, zu_n (by omega), ef485, zu_n (by omega)]), hMs, fun a b h7 h8 h9 => by rw [ef509, zu_n (by omega), ef497, zu_n (by omega), ef485, zu_n (by omega)]; exact hout a b h7 h8 h9, by rw [ef509, zu_n (by omega), ef497, zu_n (by omega), ef485, zu_n (by omega)]; exact hfs, fun a b h => by rw [ef509, zu_n (by omega), ef497, zu_n (by omega), ef485, zu_n (by omega)]; exact hfr a b h⟩, hH, hS, lv_sub hl [5, 6, 2, 0] rfl⟩)
          · have zc524 := c524
            replace zc524 := zc_neq (nI_toInt (by omega)) ((by decide : (0 : Int32).toInt = 0)) zc524
            refine lv_aload_n hx hb dX12_serve_152 rfl (lv_at hl 4 rfl) ?_
            refine zGetI (D := D) (ci := 12) (C := RX12) (T := TX12) (N := 71) hx hb hts hiX12 hown hH (zk_30 hF) rfl 1 (by decide) rfl hw6 (fun _ h9 => h9) dX12_serve_153 rfl ?_
            refine lv_aload_n hx hb dX12_serve_156 rfl (lv_at hl 4 rfl) ?_
            refine zGetR (D := D) (ci := 12) (C := RX12) (T := TX12) (N := 71) hx hb hts hiX12 hown hH (zk_30 hF) rfl 46 (by decide) rfl hw13 (fun _ h9 => h9) dX12_serve_157 (zr_30_46 hF) ?_
            refine lv_iload_n hx hb dX12_serve_160 rfl (lv_at hl 5 rfl) ?_
            refine zIaldN (D := D) hx hb hH (zk_50 hF) (zn_50 hF) (by omega) (by omega) rfl dX12_serve_161 ?_
            refine lv_isub hx hb dX12_serve_162 ?_
            refine lv_topi (fun v525 ev525 => ?_)
            refine lv_aload_n hx hb dX12_serve_163 rfl (lv_at hl 4 rfl) ?_
            refine zGetR (D := D) (ci := 12) (C := RX12) (T := TX12) (N := 71) hx hb hts hiX12 hown hH (zk_30 hF) rfl 17 (by decide) rfl hw14 (fun _ h9 => h9) dX12_serve_164 (zr_30_17 hF) ?_
            refine lv_iconst (v := nI 0) hx hb dX12_serve_167 (by decide) ?_
            refine zIaldN (D := D) hx hb hH (zk_44 hF) (zn_44 hF) (by omega) (by omega) rfl dX12_serve_168 ?_
            refine lv_icmp_gt (tgt := 175) hx hb dX12_serve_169 (by decide) (fun c526 => ?_) (fun c526 => ?_)
            · have zc526 := c526
              replace zc526 := zc_lt (rfl) (rfl) zc526
              refine lv_aload_n hx hb dX12_serve_175 rfl (lv_at hl 4 rfl) ?_
              refine zGetR (D := D) (ci := 12) (C := RX12) (T := TX12) (N := 71) hx hb hts hiX12 hown hH (zk_30 hF) rfl 12 (by decide) rfl hw15 (fun _ h9 => h9) dX12_serve_176 (zr_30_12 hF) ?_
              refine lv_iload hx hb dX12_serve_179 (lv_at hl 3 rfl) ?_
              refine zIaldN (D := D) hx hb hH (zk_40 hF) (zn_40 hF) (by omega) (by omega) rfl dX12_serve_181 ?_
              have h40 : f509 40 t = fi 40 t := by rw [ef509, zu_n (by omega), ef497, zu_n (by omega), ef485, zu_n (by omega)]; exact hfr _ _ (by omega)
              rcases hMx t (by omega) with h41 | ⟨t2, ht2, h41⟩
              · rw [h40, h41]
                refine lv_istore (lv' := [(7, .int ((-1))), (6, .int (nI sl)), (2, .int v521), (5, .int (nI lf)), (4, .int (nI t)), (0, .ref (τ.1 30)), (1, .int (nI q)), (3, .int (nI i))]) hx hb dX12_serve_182 hl (by decide) rfl (fun ls hl => ?_)
                refine lv_iload hx hb dX12_serve_184 (lv_at hl 0 rfl) ?_
                refine lv_iconst (v := (-1)) hx hb dX12_serve_186 (by decide) ?_
                refine lv_icmp_eq (tgt := 263) hx hb dX12_serve_187 (by decide) (fun c527 => ?_) (fun c527 => absurd (by decide) c527)
                refine lv_aload_n hx hb dX12_serve_263 rfl (lv_at hl 5 rfl) ?_
                refine zGetR (D := D) (ci := 12) (C := RX12) (T := TX12) (N := 71) hx hb hts hiX12 hown hH (zk_30 hF) rfl 56 (by decide) rfl hw16 (fun _ h9 => h9) dX12_serve_264 (zr_30_56 hF) ?_
                refine lv_iload_n hx hb dX12_serve_267 rfl (lv_at hl 7 rfl) ?_
                refine lv_dup2_11 hx hb dX12_serve_268 rfl rfl ?_
                refine zIaldN (D := D) hx hb hH (zk_60 hF) (zn_60 hF) (by omega) (by omega) q516 dX12_serve_269 ?_
                refine lv_iload hx hb dX12_serve_270 (lv_at hl 1 rfl) ?_
                refine lv_iadd hx hb dX12_serve_272 ?_
                refine lv_topi (fun v528 ev528 => ?_)
                obtain rfl : v528 = nI (sc + sl) := ev528.trans (nI_add _ _)
                refine zIastN (D := D) hx hb hH hS (zk_60 hF) (zn_60 hF) (by omega) (by omega) dX12_serve_273 (fun H locs hH hS => ?_)
                obtain ⟨f529, ef529⟩ : ∃ f9 : zFi, f9 = zu f509 60 i (nI (sc + sl)) := ⟨_, rfl⟩
                rw [← ef529] at hH
                have q530 : f529 30 2 = nI n := by rw [ef529, zu_n (fun h9 => absurd h9.1 (by decide))]; exact q510
                have q531 : f529 54 q = nI wn := by rw [ef529, zu_n (fun h9 => absurd h9.1 (by decide))]; exact q511
                have q532 : f529 30 61 = nI sn := by rw [ef529, zu_n (fun h9 => absurd h9.1 (by decide))]; exact q512
                have q533 : f529 55 i = nI t := by rw [ef529, zu_n (fun h9 => absurd h9.1 (by decide))]; exact q513
                have q534 : f529 56 i = nI qm := by rw [ef529, zu_n (fun h9 => absurd h9.1 (by decide))]; exact q514
                have q535 : f529 59 i = nI sp := by rw [ef529, zu_n (fun h9 => absurd h9.1 (by decide))]; exact q515
                have q536 : f529 62 i = nI pb := by rw [ef529, zu_n (fun h9 => absurd h9.1 (by decide))]; exact q517
                have q537 : f529 35 t = nI (st - lf) := by rw [ef529, zu_n (fun h9 => absurd h9.1 (by decide))]; exact q518
                have q538 : f529 58 i = nI (sa + lf) := by rw [ef529, zu_n (fun h9 => absurd h9.1 (by decide))]; exact q519
                have q539 : f529 69 t = nI (kf t + lf) := by rw [ef529, zu_n (fun h9 => absurd h9.1 (by decide))]; exact q520
                have q540 : f529 60 i = nI (sc + sl) := by rw [ef529]; exact zu_s
                have hMs := zMs.ci (fi' := f529) hMs (fun i9 k9 h9 => by rw [ef529]; exact zu_n (by omega))
                have hKf := zKf.ci (fi' := f529) hKf (fun i9 k9 h9 => by rw [ef529]; exact zu_n (by omega))
                refine lv_aload_n hx hb dX12_serve_274 rfl (lv_at hl 5 rfl) ?_
                refine zGetR (D := D) (ci := 12) (C := RX12) (T := TX12) (N := 71) hx hb hts hiX12 hown hH (zk_30 hF) rfl 48 (by decide) rfl hw17 (fun _ h9 => h9) dX12_serve_275 (zr_30_48 hF) ?_
                refine lv_iload_n hx hb dX12_serve_278 rfl (lv_at hl 6 rfl) ?_
                refine lv_dup2_11 hx hb dX12_serve_279 rfl rfl ?_
                refine zIaldN (D := D) hx hb hH (zk_52 hF) (zn_52 hF) (by omega) (by omega) rfl dX12_serve_280 ?_
                refine lv_iload hx hb dX12_serve_281 (lv_at hl 1 rfl) ?_
                refine lv_aload_n hx hb dX12_serve_283 rfl (lv_at hl 5 rfl) ?_
                refine zGetR (D := D) (ci := 12) (C := RX12) (T := TX12) (N := 71) hx hb hts hiX12 hown hH (zk_30 hF) rfl 53 (by decide) rfl hw18 (fun _ h9 => h9) dX12_serve_284 (zr_30_53 hF) ?_
                refine lv_iload_n hx hb dX12_serve_287 rfl (lv_at hl 7 rfl) ?_
                refine zIaldN (D := D) hx hb hH (zk_57 hF) (zn_57 hF) (by omega) (by omega) rfl dX12_serve_288 ?_
                refine lv_imul hx hb dX12_serve_289 ?_
                refine lv_topi (fun v541 ev541 => ?_)
                refine lv_iadd hx hb dX12_serve_290 ?_
                refine lv_topi (fun v542 ev542 => ?_)
                refine zIastN (D := D) hx hb hH hS (zk_52 hF) (zn_52 hF) (by omega) (by omega) dX12_serve_291 (fun H locs hH hS => ?_)
                obtain ⟨f543, ef543⟩ : ∃ f9 : zFi, f9 = zu f529 52 q v542 := ⟨_, rfl⟩
                rw [← ef543] at hH
                have q544 : f543 30 2 = nI n := by rw [ef543, zu_n (fun h9 => absurd h9.1 (by decide))]; exact q530
                have q545 : f543 54 q = nI wn := by rw [ef543, zu_n (fun h9 => absurd h9.1 (by decide))]; exact q531
                have q546 : f543 30 61 = nI sn := by rw [ef543, zu_n (fun h9 => absurd h9.1 (by decide))]; exact q532
                have q547 : f543 55 i = nI t := by rw [ef543, zu_n (fun h9 => absurd h9.1 (by decide))]; exact q533
                have q548 : f543 56 i = nI qm := by rw [ef543, zu_n (fun h9 => absurd h9.1 (by decide))]; exact q534
                have q549 : f543 59 i = nI sp := by rw [ef543, zu_n (fun h9 => absurd h9.1 (by decide))]; exact q535
                have q550 : f543 62 i = nI pb := by rw [ef543, zu_n (fun h9 => absurd h9.1 (by decide))]; exact q536
                have q551 : f543 35 t = nI (st - lf) := by rw [ef543, zu_n (fun h9 => absurd h9.1 (by decide))]; exact q537
                have q552 : f543 58 i = nI (sa + lf) := by rw [ef543, zu_n (fun h9 => absurd h9.1 (by decide))]; exact q538
                have q553 : f543 69 t = nI (kf t + lf) := by rw [ef543, zu_n (fun h9 => absurd h9.1 (by decide))]; exact q539
                have q554 : f543 60 i = nI (sc + sl) := by rw [ef543, zu_n (fun h9 => absurd h9.1 (by decide))]; exact q540
                have q555 : f543 52 q = v542 := by rw [ef543]; exact zu_s
                have hMs := zMs.ci (fi' := f543) hMs (fun i9 k9 h9 => by rw [ef543]; exact zu_n (by omega))
                have hKf := zKf.ci (fi' := f543) hKf (fun i9 k9 h9 => by rw [ef543]; exact zu_n (by omega))
                refine lv_iinc (v := nI (i + 1)) (lv' := [(3, .int (nI (i + 1))), (7, .int ((-1))), (6, .int (nI sl)), (2, .int v521), (5, .int (nI lf)), (4, .int (nI t)), (0, .ref (τ.1 30)), (1, .int (nI q))]) hx hb dX12_serve_292 hl (k := 7) rfl (by rw [show (Int32.ofInt 1 : Int32) = nI 1 from by decide, nI_add]) (by decide) rfl (fun ls hl => ?_)
                refine lv_goto (tgt := 30) hx hb dX12_serve_295 (by decide) ?_
                have hzw : zMw f543 n i := ⟨⟨t, ht, q547⟩, qm, sa + lf, sp, sc + sl, pb, ⟨q548, q552, q549, q554, q550⟩, b1, b2, by omega, by omega, by rcases b5 with h9 | ⟨t3, h91, h92⟩; (exact Or.inl h9); exact Or.inr ⟨t3, h91, by rw [ef543, zu_n (by omega), ef529, zu_n (by omega), ef509, zu_n (by omega), ef497, zu_n (by omega), ef485, zu_n (by omega)]; exact h92⟩⟩
                exact ih104 (8 * q + wn - (i + 1)) (by omega) (i + 1, v521, kf1, f543) _ _ _ (show 8 * q + wn - (i + 1) = 8 * q + wn - (i + 1) ∧ (8 * q ≤ (i + 1) ∧ (i + 1) ≤ 8 * q + wn ∧ zKf f543 n kf1 ∧ zSum kf1 n ≤ 99 * ((i + 1) - 8 * q) ∧ (∀ j, j < wn → zMw f543 n (8 * q + j)) ∧ zMs f543 Bd ∧ (∀ a b, 55 ≤ a → a ≤ 64 → (b < 8 * q ∨ 8 * q + 8 ≤ b) → f543 a b = fi a b) ∧ f543 30 61 = fi 30 61 ∧ ∀ a b, ¬ (a = 35 ∨ a = 52 ∨ (58 ≤ a ∧ a ≤ 60) ∨ a = 63 ∨ a = 64 ∨ (65 ≤ a ∧ a ≤ 70) ∨ (a = 30 ∧ b = 61)) → f543 a b = fi a b) ∧ zH D A τ f543 fr ol s _ ∧ va_S A s.heap _ _ ∧ lv_has _ 8 [(0, .ref (τ.1 30)), (1, .int (nI q)), (2, .int v521), (3, .int (nI (i + 1)))] from ⟨rfl, ⟨by omega, by omega, hKf, by omega, fun j h => by by_cases h7 : 8 * q + j = i; (rw [h7]; exact hzw); exact (hwq j h).ci (Nat.le_refl _) (fun a h8 h9 => by rw [ef543, zu_n (by omega), ef529, zu_n (by omega), ef509, zu_n (by omega), ef497, zu_n (by omega), ef485, zu_n (by omega)]), hMs, fun a b h7 h8 h9 => by rw [ef543, zu_n (by omega), ef529, zu_n (by omega), ef509, zu_n (by omega), ef497, zu_n (by omega), ef485, zu_n (by omega)]; exact hout a b h7 h8 h9, by rw [ef543, zu_n (by omega), ef529, zu_n (by omega), ef509, zu_n (by omega), ef497, zu_n (by omega), ef485, zu_n (by omega)]; exact hfs, fun a b h => by rw [ef543, zu_n (by omega), ef529, zu_n (by omega), ef509, zu_n (by omega), ef497, zu_n (by omega), ef485, zu_n (by omega)]; exact hfr a b h⟩, hH, hS, lv_sub hl [6, 7, 3, 0] rfl⟩)
              · rw [h40, h41]
                refine lv_istore (lv' := [(7, .int (nI t2)), (6, .int (nI sl)), (2, .int v521), (5, .int (nI lf)), (4, .int (nI t)), (0, .ref (τ.1 30)), (1, .int (nI q)), (3, .int (nI i))]) hx hb dX12_serve_182 hl (by decide) rfl (fun ls hl => ?_)
                refine lv_iload hx hb dX12_serve_184 (lv_at hl 0 rfl) ?_
                refine lv_iconst (v := (-1)) hx hb dX12_serve_186 (by decide) ?_
                refine lv_icmp_eq (tgt := 263) hx hb dX12_serve_187 (by decide) (fun c556 => False.elim (by have zc556 := zc_eq (nI_toInt (by omega)) ((by decide : ((-1) : Int32).toInt = (-1))) c556; omega)) (fun c556 => ?_)
                obtain ⟨s2, hs2, e35b⟩ := hMs t2 (by omega)
                refine lv_aload_n hx hb dX12_serve_190 rfl (lv_at hl 5 rfl) ?_
                refine zGetR (D := D) (ci := 12) (C := RX12) (T := TX12) (N := 71) hx hb hts hiX12 hown hH (zk_30 hF) rfl 7 (by decide) rfl hw10 (fun _ h9 => h9) dX12_serve_191 (zr_30_7 hF) ?_
                refine lv_iload hx hb dX12_serve_194 (lv_at hl 0 rfl) ?_
                refine zIaldN (D := D) hx hb hH (zk_35 hF) (zn_35 hF) (by omega) (by omega) e35b dX12_serve_196 ?_
                refine lv_iload hx hb dX12_serve_197 (lv_at hl 1 rfl) ?_
                refine lv_icmp_lt (tgt := 263) hx hb dX12_serve_199 (by decide) (fun c557 => ?_) (fun c557 => ?_)
                · have zc557 := c557
                  replace zc557 := zc_lt (nI_toInt (by omega)) (nI_toInt (by omega)) zc557
                  refine lv_aload_n hx hb dX12_serve_263 rfl (lv_at hl 5 rfl) ?_
                  refine zGetR (D := D) (ci := 12) (C := RX12) (T := TX12) (N := 71) hx hb hts hiX12 hown hH (zk_30 hF) rfl 56 (by decide) rfl hw16 (fun _ h9 => h9) dX12_serve_264 (zr_30_56 hF) ?_
                  refine lv_iload_n hx hb dX12_serve_267 rfl (lv_at hl 7 rfl) ?_
                  refine lv_dup2_11 hx hb dX12_serve_268 rfl rfl ?_
                  refine zIaldN (D := D) hx hb hH (zk_60 hF) (zn_60 hF) (by omega) (by omega) q516 dX12_serve_269 ?_
                  refine lv_iload hx hb dX12_serve_270 (lv_at hl 1 rfl) ?_
                  refine lv_iadd hx hb dX12_serve_272 ?_
                  refine lv_topi (fun v558 ev558 => ?_)
                  obtain rfl : v558 = nI (sc + sl) := ev558.trans (nI_add _ _)
                  refine zIastN (D := D) hx hb hH hS (zk_60 hF) (zn_60 hF) (by omega) (by omega) dX12_serve_273 (fun H locs hH hS => ?_)
                  obtain ⟨f559, ef559⟩ : ∃ f9 : zFi, f9 = zu f509 60 i (nI (sc + sl)) := ⟨_, rfl⟩
                  rw [← ef559] at hH
                  have q560 : f559 30 2 = nI n := by rw [ef559, zu_n (fun h9 => absurd h9.1 (by decide))]; exact q510
                  have q561 : f559 54 q = nI wn := by rw [ef559, zu_n (fun h9 => absurd h9.1 (by decide))]; exact q511
                  have q562 : f559 30 61 = nI sn := by rw [ef559, zu_n (fun h9 => absurd h9.1 (by decide))]; exact q512
                  have q563 : f559 55 i = nI t := by rw [ef559, zu_n (fun h9 => absurd h9.1 (by decide))]; exact q513
                  have q564 : f559 56 i = nI qm := by rw [ef559, zu_n (fun h9 => absurd h9.1 (by decide))]; exact q514
                  have q565 : f559 59 i = nI sp := by rw [ef559, zu_n (fun h9 => absurd h9.1 (by decide))]; exact q515
                  have q566 : f559 62 i = nI pb := by rw [ef559, zu_n (fun h9 => absurd h9.1 (by decide))]; exact q517
                  have q567 : f559 35 t = nI (st - lf) := by rw [ef559, zu_n (fun h9 => absurd h9.1 (by decide))]; exact q518
                  have q568 : f559 58 i = nI (sa + lf) := by rw [ef559, zu_n (fun h9 => absurd h9.1 (by decide))]; exact q519
                  have q569 : f559 69 t = nI (kf t + lf) := by rw [ef559, zu_n (fun h9 => absurd h9.1 (by decide))]; exact q520
                  have q570 : f559 35 t2 = nI s2 := by rw [ef559, zu_n (fun h9 => absurd h9.1 (by decide))]; exact e35b
                  have q571 : f559 60 i = nI (sc + sl) := by rw [ef559]; exact zu_s
                  have hMs := zMs.ci (fi' := f559) hMs (fun i9 k9 h9 => by rw [ef559]; exact zu_n (by omega))
                  have hKf := zKf.ci (fi' := f559) hKf (fun i9 k9 h9 => by rw [ef559]; exact zu_n (by omega))
                  refine lv_aload_n hx hb dX12_serve_274 rfl (lv_at hl 5 rfl) ?_
                  refine zGetR (D := D) (ci := 12) (C := RX12) (T := TX12) (N := 71) hx hb hts hiX12 hown hH (zk_30 hF) rfl 48 (by decide) rfl hw17 (fun _ h9 => h9) dX12_serve_275 (zr_30_48 hF) ?_
                  refine lv_iload_n hx hb dX12_serve_278 rfl (lv_at hl 6 rfl) ?_
                  refine lv_dup2_11 hx hb dX12_serve_279 rfl rfl ?_
                  refine zIaldN (D := D) hx hb hH (zk_52 hF) (zn_52 hF) (by omega) (by omega) rfl dX12_serve_280 ?_
                  refine lv_iload hx hb dX12_serve_281 (lv_at hl 1 rfl) ?_
                  refine lv_aload_n hx hb dX12_serve_283 rfl (lv_at hl 5 rfl) ?_
                  refine zGetR (D := D) (ci := 12) (C := RX12) (T := TX12) (N := 71) hx hb hts hiX12 hown hH (zk_30 hF) rfl 53 (by decide) rfl hw18 (fun _ h9 => h9) dX12_serve_284 (zr_30_53 hF) ?_
                  refine lv_iload_n hx hb dX12_serve_287 rfl (lv_at hl 7 rfl) ?_
                  refine zIaldN (D := D) hx hb hH (zk_57 hF) (zn_57 hF) (by omega) (by omega) rfl dX12_serve_288 ?_
                  refine lv_imul hx hb dX12_serve_289 ?_
                  refine lv_topi (fun v572 ev572 => ?_)
                  refine lv_iadd hx hb dX12_serve_290 ?_
                  refine lv_topi (fun v573 ev573 => ?_)
                  refine zIastN (D := D) hx hb hH hS (zk_52 hF) (zn_52 hF) (by omega) (by omega) dX12_serve_291 (fun H locs hH hS => ?_)
                  obtain ⟨f574, ef574⟩ : ∃ f9 : zFi, f9 = zu f559 52 q v573 := ⟨_, rfl⟩
                  rw [← ef574] at hH
                  have q575 : f574 30 2 = nI n := by rw [ef574, zu_n (fun h9 => absurd h9.1 (by decide))]; exact q560
                  have q576 : f574 54 q = nI wn := by rw [ef574, zu_n (fun h9 => absurd h9.1 (by decide))]; exact q561
                  have q577 : f574 30 61 = nI sn := by rw [ef574, zu_n (fun h9 => absurd h9.1 (by decide))]; exact q562
                  have q578 : f574 55 i = nI t := by rw [ef574, zu_n (fun h9 => absurd h9.1 (by decide))]; exact q563
                  have q579 : f574 56 i = nI qm := by rw [ef574, zu_n (fun h9 => absurd h9.1 (by decide))]; exact q564
                  have q580 : f574 59 i = nI sp := by rw [ef574, zu_n (fun h9 => absurd h9.1 (by decide))]; exact q565
                  have q581 : f574 62 i = nI pb := by rw [ef574, zu_n (fun h9 => absurd h9.1 (by decide))]; exact q566
                  have q582 : f574 35 t = nI (st - lf) := by rw [ef574, zu_n (fun h9 => absurd h9.1 (by decide))]; exact q567
                  have q583 : f574 58 i = nI (sa + lf) := by rw [ef574, zu_n (fun h9 => absurd h9.1 (by decide))]; exact q568
                  have q584 : f574 69 t = nI (kf t + lf) := by rw [ef574, zu_n (fun h9 => absurd h9.1 (by decide))]; exact q569
                  have q585 : f574 35 t2 = nI s2 := by rw [ef574, zu_n (fun h9 => absurd h9.1 (by decide))]; exact q570
                  have q586 : f574 60 i = nI (sc + sl) := by rw [ef574, zu_n (fun h9 => absurd h9.1 (by decide))]; exact q571
                  have q587 : f574 52 q = v573 := by rw [ef574]; exact zu_s
                  have hMs := zMs.ci (fi' := f574) hMs (fun i9 k9 h9 => by rw [ef574]; exact zu_n (by omega))
                  have hKf := zKf.ci (fi' := f574) hKf (fun i9 k9 h9 => by rw [ef574]; exact zu_n (by omega))
                  refine lv_iinc (v := nI (i + 1)) (lv' := [(3, .int (nI (i + 1))), (7, .int (nI t2)), (6, .int (nI sl)), (2, .int v521), (5, .int (nI lf)), (4, .int (nI t)), (0, .ref (τ.1 30)), (1, .int (nI q))]) hx hb dX12_serve_292 hl (k := 7) rfl (by rw [show (Int32.ofInt 1 : Int32) = nI 1 from by decide, nI_add]) (by decide) rfl (fun ls hl => ?_)
                  refine lv_goto (tgt := 30) hx hb dX12_serve_295 (by decide) ?_
                  have hzw : zMw f574 n i := ⟨⟨t, ht, q578⟩, qm, sa + lf, sp, sc + sl, pb, ⟨q579, q583, q580, q586, q581⟩, b1, b2, by omega, by omega, by rcases b5 with h9 | ⟨t3, h91, h92⟩; (exact Or.inl h9); exact Or.inr ⟨t3, h91, by rw [ef574, zu_n (by omega), ef559, zu_n (by omega), ef509, zu_n (by omega), ef497, zu_n (by omega), ef485, zu_n (by omega)]; exact h92⟩⟩
                  exact ih104 (8 * q + wn - (i + 1)) (by omega) (i + 1, v521, kf1, f574) _ _ _ (show 8 * q + wn - (i + 1) = 8 * q + wn - (i + 1) ∧ (8 * q ≤ (i + 1) ∧ (i + 1) ≤ 8 * q + wn ∧ zKf f574 n kf1 ∧ zSum kf1 n ≤ 99 * ((i + 1) - 8 * q) ∧ (∀ j, j < wn → zMw f574 n (8 * q + j)) ∧ zMs f574 Bd ∧ (∀ a b, 55 ≤ a → a ≤ 64 → (b < 8 * q ∨ 8 * q + 8 ≤ b) → f574 a b = fi a b) ∧ f574 30 61 = fi 30 61 ∧ ∀ a b, ¬ (a = 35 ∨ a = 52 ∨ (58 ≤ a ∧ a ≤ 60) ∨ a = 63 ∨ a = 64 ∨ (65 ≤ a ∧ a ≤ 70) ∨ (a = 30 ∧ b = 61)) → f574 a b = fi a b) ∧ zH D A τ f574 fr ol s _ ∧ va_S A s.heap _ _ ∧ lv_has _ 8 [(0, .ref (τ.1 30)), (1, .int (nI q)), (2, .int v521), (3, .int (nI (i + 1)))] from ⟨rfl, ⟨by omega, by omega, hKf, by omega, fun j h => by by_cases h7 : 8 * q + j = i; (rw [h7]; exact hzw); exact (hwq j h).ci (Nat.le_refl _) (fun a h8 h9 => by rw [ef574, zu_n (by omega), ef559, zu_n (by omega), ef509, zu_n (by omega), ef497, zu_n (by omega), ef485, zu_n (by omega)]), hMs, fun a b h7 h8 h9 => by rw [ef574, zu_n (by omega), ef559, zu_n (by omega), ef509, zu_n (by omega), ef497, zu_n (by omega), ef485, zu_n (by omega)]; exact hout a b h7 h8 h9, by rw [ef574, zu_n (by omega), ef559, zu_n (by omega), ef509, zu_n (by omega), ef497, zu_n (by omega), ef485, zu_n (by omega)]; exact hfs, fun a b h => by rw [ef574, zu_n (by omega), ef559, zu_n (by omega), ef509, zu_n (by omega), ef497, zu_n (by omega), ef485, zu_n (by omega)]; exact hfr a b h⟩, hH, hS, lv_sub hl [6, 7, 3, 0] rfl⟩)
                · have zc557 := c557
                  replace zc557 := zc_nlt (nI_toInt (by omega)) (nI_toInt (by omega)) zc557
                  refine lv_aload_n hx hb dX12_serve_202 rfl (lv_at hl 5 rfl) ?_
                  refine zGetR (D := D) (ci := 12) (C := RX12) (T := TX12) (N := 71) hx hb hts hiX12 hown hH (zk_30 hF) rfl 7 (by decide) rfl hw10 (fun _ h9 => h9) dX12_serve_203 (zr_30_7 hF) ?_
                  refine lv_iload hx hb dX12_serve_206 (lv_at hl 0 rfl) ?_
                  refine lv_dup2_11 hx hb dX12_serve_208 rfl rfl ?_
                  refine zIaldN (D := D) hx hb hH (zk_35 hF) (zn_35 hF) (by omega) (by omega) e35b dX12_serve_209 ?_
                  refine lv_iload hx hb dX12_serve_210 (lv_at hl 1 rfl) ?_
                  refine lv_isub hx hb dX12_serve_212 ?_
                  refine lv_topi (fun v588 ev588 => ?_)
                  obtain rfl : v588 = nI (s2 - sl) := ev588.trans (pk_sub (by omega))
                  refine zIastN (D := D) hx hb hH hS (zk_35 hF) (zn_35 hF) (by omega) (by omega) dX12_serve_213 (fun H locs hH hS => ?_)
                  obtain ⟨f589, ef589⟩ : ∃ f9 : zFi, f9 = zu f509 35 t2 (nI (s2 - sl)) := ⟨_, rfl⟩
                  rw [← ef589] at hH
                  have q590 : f589 30 2 = nI n := by rw [ef589, zu_n (fun h9 => absurd h9.1 (by decide))]; exact q510
                  have q591 : f589 54 q = nI wn := by rw [ef589, zu_n (fun h9 => absurd h9.1 (by decide))]; exact q511
                  have q592 : f589 30 61 = nI sn := by rw [ef589, zu_n (fun h9 => absurd h9.1 (by decide))]; exact q512
                  have q593 : f589 55 i = nI t := by rw [ef589, zu_n (fun h9 => absurd h9.1 (by decide))]; exact q513
                  have q594 : f589 56 i = nI qm := by rw [ef589, zu_n (fun h9 => absurd h9.1 (by decide))]; exact q514
                  have q595 : f589 59 i = nI sp := by rw [ef589, zu_n (fun h9 => absurd h9.1 (by decide))]; exact q515
                  have q596 : f589 60 i = nI sc := by rw [ef589, zu_n (fun h9 => absurd h9.1 (by decide))]; exact q516
                  have q597 : f589 62 i = nI pb := by rw [ef589, zu_n (fun h9 => absurd h9.1 (by decide))]; exact q517
                  have q598 : f589 58 i = nI (sa + lf) := by rw [ef589, zu_n (fun h9 => absurd h9.1 (by decide))]; exact q519
                  have q599 : f589 69 t = nI (kf t + lf) := by rw [ef589, zu_n (fun h9 => absurd h9.1 (by decide))]; exact q520
                  have q600 : f589 35 t2 = nI (s2 - sl) := by rw [ef589]; exact zu_s
                  have hMs := zMs.set (v := s2 - sl) hMs ef589 (Nat.le_refl _) (by omega)
                  have hKf := zKf.ci (fi' := f589) hKf (fun i9 k9 h9 => by rw [ef589]; exact zu_n (by omega))
                  refine lv_aload_n hx hb dX12_serve_214 rfl (lv_at hl 5 rfl) ?_
                  refine zGetR (D := D) (ci := 12) (C := RX12) (T := TX12) (N := 71) hx hb hts hiX12 hown hH (zk_30 hF) rfl 55 (by decide) rfl hw19 (fun _ h9 => h9) dX12_serve_215 (zr_30_55 hF) ?_
                  refine lv_iload_n hx hb dX12_serve_218 rfl (lv_at hl 7 rfl) ?_
                  refine lv_dup2_11 hx hb dX12_serve_219 rfl rfl ?_
                  refine zIaldN (D := D) hx hb hH (zk_59 hF) (zn_59 hF) (by omega) (by omega) q595 dX12_serve_220 ?_
                  refine lv_iload hx hb dX12_serve_221 (lv_at hl 1 rfl) ?_
                  refine lv_iadd hx hb dX12_serve_223 ?_
                  refine lv_topi (fun v601 ev601 => ?_)
                  obtain rfl : v601 = nI (sp + sl) := ev601.trans (nI_add _ _)
                  refine zIastN (D := D) hx hb hH hS (zk_59 hF) (zn_59 hF) (by omega) (by omega) dX12_serve_224 (fun H locs hH hS => ?_)
                  obtain ⟨f602, ef602⟩ : ∃ f9 : zFi, f9 = zu f589 59 i (nI (sp + sl)) := ⟨_, rfl⟩
                  rw [← ef602] at hH
                  have q603 : f602 30 2 = nI n := by rw [ef602, zu_n (fun h9 => absurd h9.1 (by decide))]; exact q590
                  have q604 : f602 54 q = nI wn := by rw [ef602, zu_n (fun h9 => absurd h9.1 (by decide))]; exact q591
                  have q605 : f602 30 61 = nI sn := by rw [ef602, zu_n (fun h9 => absurd h9.1 (by decide))]; exact q592
                  have q606 : f602 55 i = nI t := by rw [ef602, zu_n (fun h9 => absurd h9.1 (by decide))]; exact q593
                  have q607 : f602 56 i = nI qm := by rw [ef602, zu_n (fun h9 => absurd h9.1 (by decide))]; exact q594
                  have q608 : f602 60 i = nI sc := by rw [ef602, zu_n (fun h9 => absurd h9.1 (by decide))]; exact q596
                  have q609 : f602 62 i = nI pb := by rw [ef602, zu_n (fun h9 => absurd h9.1 (by decide))]; exact q597
                  have q610 : f602 58 i = nI (sa + lf) := by rw [ef602, zu_n (fun h9 => absurd h9.1 (by decide))]; exact q598
                  have q611 : f602 69 t = nI (kf t + lf) := by rw [ef602, zu_n (fun h9 => absurd h9.1 (by decide))]; exact q599
                  have q612 : f602 35 t2 = nI (s2 - sl) := by rw [ef602, zu_n (fun h9 => absurd h9.1 (by decide))]; exact q600
                  have q613 : f602 59 i = nI (sp + sl) := by rw [ef602]; exact zu_s
                  have hMs := zMs.ci (fi' := f602) hMs (fun i9 k9 h9 => by rw [ef602]; exact zu_n (by omega))
                  have hKf := zKf.ci (fi' := f602) hKf (fun i9 k9 h9 => by rw [ef602]; exact zu_n (by omega))
                  refine lv_aload_n hx hb dX12_serve_225 rfl (lv_at hl 5 rfl) ?_
                  refine zGetR (D := D) (ci := 12) (C := RX12) (T := TX12) (N := 71) hx hb hts hiX12 hown hH (zk_30 hF) rfl 60 (by decide) rfl hw20 (fun _ h9 => h9) dX12_serve_226 (zr_30_60 hF) ?_
                  refine lv_iload_n hx hb dX12_serve_229 rfl (lv_at hl 7 rfl) ?_
                  refine lv_iload hx hb dX12_serve_230 (lv_at hl 0 rfl) ?_
                  refine zIastN (D := D) hx hb hH hS (zk_64 hF) (zn_64 hF) (by omega) (by omega) dX12_serve_232 (fun H locs hH hS => ?_)
                  obtain ⟨f614, ef614⟩ : ∃ f9 : zFi, f9 = zu f602 64 i (nI t2) := ⟨_, rfl⟩
                  rw [← ef614] at hH
                  have q615 : f614 30 2 = nI n := by rw [ef614, zu_n (fun h9 => absurd h9.1 (by decide))]; exact q603
                  have q616 : f614 54 q = nI wn := by rw [ef614, zu_n (fun h9 => absurd h9.1 (by decide))]; exact q604
                  have q617 : f614 30 61 = nI sn := by rw [ef614, zu_n (fun h9 => absurd h9.1 (by decide))]; exact q605
                  have q618 : f614 55 i = nI t := by rw [ef614, zu_n (fun h9 => absurd h9.1 (by decide))]; exact q606
                  have q619 : f614 56 i = nI qm := by rw [ef614, zu_n (fun h9 => absurd h9.1 (by decide))]; exact q607
                  have q620 : f614 60 i = nI sc := by rw [ef614, zu_n (fun h9 => absurd h9.1 (by decide))]; exact q608
                  have q621 : f614 62 i = nI pb := by rw [ef614, zu_n (fun h9 => absurd h9.1 (by decide))]; exact q609
                  have q622 : f614 58 i = nI (sa + lf) := by rw [ef614, zu_n (fun h9 => absurd h9.1 (by decide))]; exact q610
                  have q623 : f614 69 t = nI (kf t + lf) := by rw [ef614, zu_n (fun h9 => absurd h9.1 (by decide))]; exact q611
                  have q624 : f614 35 t2 = nI (s2 - sl) := by rw [ef614, zu_n (fun h9 => absurd h9.1 (by decide))]; exact q612
                  have q625 : f614 59 i = nI (sp + sl) := by rw [ef614, zu_n (fun h9 => absurd h9.1 (by decide))]; exact q613
                  have q626 : f614 64 i = nI t2 := by rw [ef614]; exact zu_s
                  have hMs := zMs.ci (fi' := f614) hMs (fun i9 k9 h9 => by rw [ef614]; exact zu_n (by omega))
                  have hKf := zKf.ci (fi' := f614) hKf (fun i9 k9 h9 => by rw [ef614]; exact zu_n (by omega))
                  refine lv_aload_n hx hb dX12_serve_233 rfl (lv_at hl 5 rfl) ?_
                  refine zGetR (D := D) (ci := 12) (C := RX12) (T := TX12) (N := 71) hx hb hts hiX12 hown hH (zk_30 hF) rfl 59 (by decide) rfl hw21 (fun _ h9 => h9) dX12_serve_234 (zr_30_59 hF) ?_
                  refine lv_iload_n hx hb dX12_serve_237 rfl (lv_at hl 7 rfl) ?_
                  refine lv_aload_n hx hb dX12_serve_238 rfl (lv_at hl 5 rfl) ?_
                  refine zGetI (D := D) (ci := 12) (C := RX12) (T := TX12) (N := 71) hx hb hts hiX12 hown hH (zk_30 hF) rfl 1 (by decide) rfl hw6 (fun _ h9 => h9) dX12_serve_239 rfl ?_
                  refine zIastN (D := D) hx hb hH hS (zk_63 hF) (zn_63 hF) (by omega) (by omega) dX12_serve_242 (fun H locs hH hS => ?_)
                  obtain ⟨f627, ef627⟩ : ∃ f9 : zFi, f9 = zu f614 63 i (f614 30 1) := ⟨_, rfl⟩
                  rw [← ef627] at hH
                  have q628 : f627 30 2 = nI n := by rw [ef627, zu_n (fun h9 => absurd h9.1 (by decide))]; exact q615
                  have q629 : f627 54 q = nI wn := by rw [ef627, zu_n (fun h9 => absurd h9.1 (by decide))]; exact q616
                  have q630 : f627 30 61 = nI sn := by rw [ef627, zu_n (fun h9 => absurd h9.1 (by decide))]; exact q617
                  have q631 : f627 55 i = nI t := by rw [ef627, zu_n (fun h9 => absurd h9.1 (by decide))]; exact q618
                  have q632 : f627 56 i = nI qm := by rw [ef627, zu_n (fun h9 => absurd h9.1 (by decide))]; exact q619
                  have q633 : f627 60 i = nI sc := by rw [ef627, zu_n (fun h9 => absurd h9.1 (by decide))]; exact q620
                  have q634 : f627 62 i = nI pb := by rw [ef627, zu_n (fun h9 => absurd h9.1 (by decide))]; exact q621
                  have q635 : f627 58 i = nI (sa + lf) := by rw [ef627, zu_n (fun h9 => absurd h9.1 (by decide))]; exact q622
                  have q636 : f627 69 t = nI (kf t + lf) := by rw [ef627, zu_n (fun h9 => absurd h9.1 (by decide))]; exact q623
                  have q637 : f627 35 t2 = nI (s2 - sl) := by rw [ef627, zu_n (fun h9 => absurd h9.1 (by decide))]; exact q624
                  have q638 : f627 59 i = nI (sp + sl) := by rw [ef627, zu_n (fun h9 => absurd h9.1 (by decide))]; exact q625
                  have q639 : f627 64 i = nI t2 := by rw [ef627, zu_n (fun h9 => absurd h9.1 (by decide))]; exact q626
                  have q640 : f627 63 i = f614 30 1 := by rw [ef627]; exact zu_s
                  have hMs := zMs.ci (fi' := f627) hMs (fun i9 k9 h9 => by rw [ef627]; exact zu_n (by omega))
                  have hKf := zKf.ci (fi' := f627) hKf (fun i9 k9 h9 => by rw [ef627]; exact zu_n (by omega))
                  refine lv_aload_n hx hb dX12_serve_243 rfl (lv_at hl 5 rfl) ?_
                  refine zGetR (D := D) (ci := 12) (C := RX12) (T := TX12) (N := 71) hx hb hts hiX12 hown hH (zk_30 hF) rfl 66 (by decide) rfl hw12 (fun _ h9 => h9) dX12_serve_244 (zr_30_66 hF) ?_
                  refine lv_iload hx hb dX12_serve_247 (lv_at hl 0 rfl) ?_
                  refine lv_dup2_11 hx hb dX12_serve_249 rfl rfl ?_
                  refine zIaldN (D := D) hx hb hH (zk_69 hF) (zn_69 hF) (by omega) (by omega) (hKf t2 ht2) dX12_serve_250 ?_
                  refine lv_iload hx hb dX12_serve_251 (lv_at hl 1 rfl) ?_
                  refine lv_iadd hx hb dX12_serve_253 ?_
                  refine lv_topi (fun v641 ev641 => ?_)
                  obtain rfl : v641 = nI (kf1 t2 + sl) := ev641.trans (nI_add _ _)
                  refine zIastN (D := D) hx hb hH hS (zk_69 hF) (zn_69 hF) (by omega) (by omega) dX12_serve_254 (fun H locs hH hS => ?_)
                  obtain ⟨f642, ef642⟩ : ∃ f9 : zFi, f9 = zu f627 69 t2 (nI (kf1 t2 + sl)) := ⟨_, rfl⟩
                  rw [← ef642] at hH
                  have q643 : f642 30 2 = nI n := by rw [ef642, zu_n (fun h9 => absurd h9.1 (by decide))]; exact q628
                  have q644 : f642 54 q = nI wn := by rw [ef642, zu_n (fun h9 => absurd h9.1 (by decide))]; exact q629
                  have q645 : f642 30 61 = nI sn := by rw [ef642, zu_n (fun h9 => absurd h9.1 (by decide))]; exact q630
                  have q646 : f642 55 i = nI t := by rw [ef642, zu_n (fun h9 => absurd h9.1 (by decide))]; exact q631
                  have q647 : f642 56 i = nI qm := by rw [ef642, zu_n (fun h9 => absurd h9.1 (by decide))]; exact q632
                  have q648 : f642 60 i = nI sc := by rw [ef642, zu_n (fun h9 => absurd h9.1 (by decide))]; exact q633
                  have q649 : f642 62 i = nI pb := by rw [ef642, zu_n (fun h9 => absurd h9.1 (by decide))]; exact q634
                  have q650 : f642 58 i = nI (sa + lf) := by rw [ef642, zu_n (fun h9 => absurd h9.1 (by decide))]; exact q635
                  have q651 : f642 35 t2 = nI (s2 - sl) := by rw [ef642, zu_n (fun h9 => absurd h9.1 (by decide))]; exact q637
                  have q652 : f642 59 i = nI (sp + sl) := by rw [ef642, zu_n (fun h9 => absurd h9.1 (by decide))]; exact q638
                  have q653 : f642 64 i = nI t2 := by rw [ef642, zu_n (fun h9 => absurd h9.1 (by decide))]; exact q639
                  have q654 : f642 63 i = f614 30 1 := by rw [ef642, zu_n (fun h9 => absurd h9.1 (by decide))]; exact q640
                  have q655 : f642 69 t2 = nI (kf1 t2 + sl) := by rw [ef642]; exact zu_s
                  have hMs := zMs.ci (fi' := f642) hMs (fun i9 k9 h9 => by rw [ef642]; exact zu_n (by omega))
                  have hKf := zKf.set (t := t2) (x := sl) hKf ef642
                  obtain ⟨kf2, ekf2⟩ : ∃ k9 : Nat → Nat, k9 = (fun j => if j = t2 then kf1 j + sl else kf1 j) := ⟨_, rfl⟩
                  rw [← ekf2] at hKf
                  have skf2 : zSum kf2 n = zSum kf1 n + sl := by rw [ekf2]; exact zSum_up (by omega)
                  refine lv_iload_n hx hb dX12_serve_255 rfl (lv_at hl 2 rfl) ?_
                  refine lv_iload hx hb dX12_serve_256 (lv_at hl 1 rfl) ?_
                  refine lv_iadd hx hb dX12_serve_258 ?_
                  refine lv_topi (fun v656 ev656 => ?_)
                  refine lv_istore_n (lv' := [(2, .int v656), (7, .int (nI t2)), (6, .int (nI sl)), (5, .int (nI lf)), (4, .int (nI t)), (0, .ref (τ.1 30)), (1, .int (nI q)), (3, .int (nI i))]) hx hb dX12_serve_259 rfl hl (by decide) rfl (fun ls hl => ?_)
                  refine lv_goto (tgt := 292) hx hb dX12_serve_260 (by decide) ?_
                  refine lv_iinc (v := nI (i + 1)) (lv' := [(3, .int (nI (i + 1))), (2, .int v656), (7, .int (nI t2)), (6, .int (nI sl)), (5, .int (nI lf)), (4, .int (nI t)), (0, .ref (τ.1 30)), (1, .int (nI q))]) hx hb dX12_serve_292 hl (k := 7) rfl (by rw [show (Int32.ofInt 1 : Int32) = nI 1 from by decide, nI_add]) (by decide) rfl (fun ls hl => ?_)
                  refine lv_goto (tgt := 30) hx hb dX12_serve_295 (by decide) ?_
                  have hzw : zMw f642 n i := ⟨⟨t, ht, q646⟩, qm, sa + lf, sp + sl, sc, pb, ⟨q647, q650, q652, q648, q649⟩, b1, b2, by omega, by omega, Or.inr ⟨t2, ht2, q653⟩⟩
                  exact ih104 (8 * q + wn - (i + 1)) (by omega) (i + 1, v656, kf2, f642) _ _ _ (show 8 * q + wn - (i + 1) = 8 * q + wn - (i + 1) ∧ (8 * q ≤ (i + 1) ∧ (i + 1) ≤ 8 * q + wn ∧ zKf f642 n kf2 ∧ zSum kf2 n ≤ 99 * ((i + 1) - 8 * q) ∧ (∀ j, j < wn → zMw f642 n (8 * q + j)) ∧ zMs f642 Bd ∧ (∀ a b, 55 ≤ a → a ≤ 64 → (b < 8 * q ∨ 8 * q + 8 ≤ b) → f642 a b = fi a b) ∧ f642 30 61 = fi 30 61 ∧ ∀ a b, ¬ (a = 35 ∨ a = 52 ∨ (58 ≤ a ∧ a ≤ 60) ∨ a = 63 ∨ a = 64 ∨ (65 ≤ a ∧ a ≤ 70) ∨ (a = 30 ∧ b = 61)) → f642 a b = fi a b) ∧ zH D A τ f642 fr ol s _ ∧ va_S A s.heap _ _ ∧ lv_has _ 8 [(0, .ref (τ.1 30)), (1, .int (nI q)), (2, .int v656), (3, .int (nI (i + 1)))] from ⟨rfl, ⟨by omega, by omega, hKf, by omega, fun j h => by by_cases h7 : 8 * q + j = i; (rw [h7]; exact hzw); exact (hwq j h).ci (Nat.le_refl _) (fun a h8 h9 => by rw [ef642, zu_n (by omega), ef627, zu_n (by omega), ef614, zu_n (by omega), ef602, zu_n (by omega), ef589, zu_n (by omega), ef509, zu_n (by omega), ef497, zu_n (by omega), ef485, zu_n (by omega)]), hMs, fun a b h7 h8 h9 => by rw [ef642, zu_n (by omega), ef627, zu_n (by omega), ef614, zu_n (by omega), ef602, zu_n (by omega), ef589, zu_n (by omega), ef509, zu_n (by omega), ef497, zu_n (by omega), ef485, zu_n (by omega)]; exact hout a b h7 h8 h9, by rw [ef642, zu_n (by omega), ef627, zu_n (by omega), ef614, zu_n (by omega), ef602, zu_n (by omega), ef589, zu_n (by omega), ef509, zu_n (by omega), ef497, zu_n (by omega), ef485, zu_n (by omega)]; exact hfs, fun a b h => by rw [ef642, zu_n (by omega), ef627, zu_n (by omega), ef614, zu_n (by omega), ef602, zu_n (by omega), ef589, zu_n (by omega), ef509, zu_n (by omega), ef497, zu_n (by omega), ef485, zu_n (by omega)]; exact hfr a b h⟩, hH, hS, lv_sub hl [6, 7, 1, 0] rfl⟩)
            · have zc526 := c526
              replace zc526 := zc_nlt (rfl) (rfl) zc526
              refine lv_goto (tgt := 292) hx hb dX12_serve_172 (by decide) ?_
              refine lv_iinc (v := nI (i + 1)) (lv' := [(3, .int (nI (i + 1))), (6, .int (nI sl)), (2, .int v521), (5, .int (nI lf)), (4, .int (nI t)), (0, .ref (τ.1 30)), (1, .int (nI q))]) hx hb dX12_serve_292 hl (k := 6) rfl (by rw [show (Int32.ofInt 1 : Int32) = nI 1 from by decide, nI_add]) (by decide) rfl (fun ls hl => ?_)
              refine lv_goto (tgt := 30) hx hb dX12_serve_295 (by decide) ?_
              have hzw : zMw f509 n i := ⟨⟨t, ht, q513⟩, qm, sa + lf, sp, sc, pb, ⟨q514, q519, q515, q516, q517⟩, b1, b2, by omega, by omega, by rcases b5 with h9 | ⟨t3, h91, h92⟩; (exact Or.inl h9); exact Or.inr ⟨t3, h91, by rw [ef509, zu_n (by omega), ef497, zu_n (by omega), ef485, zu_n (by omega)]; exact h92⟩⟩
              exact ih104 (8 * q + wn - (i + 1)) (by omega) (i + 1, v521, kf1, f509) _ _ _ (show 8 * q + wn - (i + 1) = 8 * q + wn - (i + 1) ∧ (8 * q ≤ (i + 1) ∧ (i + 1) ≤ 8 * q + wn ∧ zKf f509 n kf1 ∧ zSum kf1 n ≤ 99 * ((i + 1) - 8 * q) ∧ (∀ j, j < wn → zMw f509 n (8 * q + j)) ∧ zMs f509 Bd ∧ (∀ a b, 55 ≤ a → a ≤ 64 → (b < 8 * q ∨ 8 * q + 8 ≤ b) → f509 a b = fi a b) ∧ f509 30 61 = fi 30 61 ∧ ∀ a b, ¬ (a = 35 ∨ a = 52 ∨ (58 ≤ a ∧ a ≤ 60) ∨ a = 63 ∨ a = 64 ∨ (65 ≤ a ∧ a ≤ 70) ∨ (a = 30 ∧ b = 61)) → f509 a b = fi a b) ∧ zH D A τ f509 fr ol s _ ∧ va_S A s.heap _ _ ∧ lv_has _ 8 [(0, .ref (τ.1 30)), (1, .int (nI q)), (2, .int v521), (3, .int (nI (i + 1)))] from ⟨rfl, ⟨by omega, by omega, hKf, by omega, fun j h => by by_cases h7 : 8 * q + j = i; (rw [h7]; exact hzw); exact (hwq j h).ci (Nat.le_refl _) (fun a h8 h9 => by rw [ef509, zu_n (by omega), ef497, zu_n (by omega), ef485, zu_n (by omega)]), hMs, fun a b h7 h8 h9 => by rw [ef509, zu_n (by omega), ef497, zu_n (by omega), ef485, zu_n (by omega)]; exact hout a b h7 h8 h9, by rw [ef509, zu_n (by omega), ef497, zu_n (by omega), ef485, zu_n (by omega)]; exact hfs, fun a b h => by rw [ef509, zu_n (by omega), ef497, zu_n (by omega), ef485, zu_n (by omega)]; exact hfr a b h⟩, hH, hS, lv_sub hl [5, 6, 2, 0] rfl⟩)
        · have zc522 := c522
          replace zc522 := zc_nle (nI_toInt (by omega)) ((by decide : (0 : Int32).toInt = 0)) zc522
          refine lv_aload_n hx hb dX12_serve_130 rfl (lv_at hl 3 rfl) ?_
          refine zGetR (D := D) (ci := 12) (C := RX12) (T := TX12) (N := 71) hx hb hts hiX12 hown hH (zk_30 hF) rfl 59 (by decide) rfl hw21 (fun _ h9 => h9) dX12_serve_131 (zr_30_59 hF) ?_
          refine lv_iload_n hx hb dX12_serve_134 rfl (lv_at hl 5 rfl) ?_
          refine lv_aload_n hx hb dX12_serve_135 rfl (lv_at hl 3 rfl) ?_
          refine zGetI (D := D) (ci := 12) (C := RX12) (T := TX12) (N := 71) hx hb hts hiX12 hown hH (zk_30 hF) rfl 1 (by decide) rfl hw6 (fun _ h9 => h9) dX12_serve_136 rfl ?_
          refine zIastN (D := D) hx hb hH hS (zk_63 hF) (zn_63 hF) (by omega) (by omega) dX12_serve_139 (fun H locs hH hS => ?_)
          obtain ⟨f657, ef657⟩ : ∃ f9 : zFi, f9 = zu f509 63 i (f509 30 1) := ⟨_, rfl⟩
          rw [← ef657] at hH
          have q658 : f657 30 2 = nI n := by rw [ef657, zu_n (fun h9 => absurd h9.1 (by decide))]; exact q510
          have q659 : f657 54 q = nI wn := by rw [ef657, zu_n (fun h9 => absurd h9.1 (by decide))]; exact q511
          have q660 : f657 30 61 = nI sn := by rw [ef657, zu_n (fun h9 => absurd h9.1 (by decide))]; exact q512
          have q661 : f657 55 i = nI t := by rw [ef657, zu_n (fun h9 => absurd h9.1 (by decide))]; exact q513
          have q662 : f657 56 i = nI qm := by rw [ef657, zu_n (fun h9 => absurd h9.1 (by decide))]; exact q514
          have q663 : f657 59 i = nI sp := by rw [ef657, zu_n (fun h9 => absurd h9.1 (by decide))]; exact q515
          have q664 : f657 60 i = nI sc := by rw [ef657, zu_n (fun h9 => absurd h9.1 (by decide))]; exact q516
          have q665 : f657 62 i = nI pb := by rw [ef657, zu_n (fun h9 => absurd h9.1 (by decide))]; exact q517
          have q666 : f657 35 t = nI (st - lf) := by rw [ef657, zu_n (fun h9 => absurd h9.1 (by decide))]; exact q518
          have q667 : f657 58 i = nI (sa + lf) := by rw [ef657, zu_n (fun h9 => absurd h9.1 (by decide))]; exact q519
          have q668 : f657 69 t = nI (kf t + lf) := by rw [ef657, zu_n (fun h9 => absurd h9.1 (by decide))]; exact q520
          have q669 : f657 63 i = f509 30 1 := by rw [ef657]; exact zu_s
          have hMs := zMs.ci (fi' := f657) hMs (fun i9 k9 h9 => by rw [ef657]; exact zu_n (by omega))
          have hKf := zKf.ci (fi' := f657) hKf (fun i9 k9 h9 => by rw [ef657]; exact zu_n (by omega))
          refine lv_aload_n hx hb dX12_serve_140 rfl (lv_at hl 3 rfl) ?_
          refine lv_iload_n hx hb dX12_serve_141 rfl (lv_at hl 5 rfl) ?_
          refine va_calli (va_runV (As := [.int (nI i)]) (rest := []) ⟨hx, hb, hml, hown, hts⟩ (m_leftV l hl0 D A sad τ f657 fr ol hF i (by omega) qm (sa + lf) sp sc q662 q667 q663 q664 (by omega)) (cwV 1 hts gX12_serve_X12_left rfl rfl rfl (by decide +kernel) ⟨Nat.le_of_ble_eq_true rfl, Nat.le_of_ble_eq_true rfl⟩) ⟨zQc_bl, zRecv hH (zk_30 hF) rfl, zQc_at hz hS hA hH⟩ rfl rfl hl.1 rfl (lv_room (Nat.le_of_ble_eq_true rfl)) dX12_serve_142 ⟨Nat.le_of_ble_eq_true rfl, Nat.le_of_ble_eq_true rfl⟩) hS (fun q _ h => h) (fun q h => h) (fun r670 u9 t9 H1 locs ht9 hvm9 hw hB hz1 hk1 hS => ?_)
          have hH := zMv ht9 hvm9 hB
          generalize H1 = H at hH hS ⊢
          obtain ⟨sl, hsl⟩ : ∃ sl : Nat, sl = qm - ((sa + lf) + sp + sc) := ⟨_, rfl⟩
          obtain rfl : r670 = nI sl := hw.trans (by rw [hsl])
          refine lv_istore (lv' := [(6, .int (nI sl)), (2, .int v521), (5, .int (nI lf)), (4, .int (nI t)), (0, .ref (τ.1 30)), (1, .int (nI q)), (3, .int (nI i))]) hx hb dX12_serve_145 hl (by decide) rfl (fun ls hl => ?_)
          refine lv_iload hx hb dX12_serve_147 (lv_at hl 0 rfl) ?_
          refine lv_if_eq (tgt := 292) hx hb dX12_serve_149 (by decide) (fun c671 => ?_) (fun c671 => ?_)
          · have zc671 := c671
            replace zc671 := zc_eq (nI_toInt (by omega)) ((by decide : (0 : Int32).toInt = 0)) zc671
            refine lv_iinc (v := nI (i + 1)) (lv' := [(3, .int (nI (i + 1))), (6, .int (nI sl)), (2, .int v521), (5, .int (nI lf)), (4, .int (nI t)), (0, .ref (τ.1 30)), (1, .int (nI q))]) hx hb dX12_serve_292 hl (k := 6) rfl (by rw [show (Int32.ofInt 1 : Int32) = nI 1 from by decide, nI_add]) (by decide) rfl (fun ls hl => ?_)
            refine lv_goto (tgt := 30) hx hb dX12_serve_295 (by decide) ?_
            have hzw : zMw f657 n i := ⟨⟨t, ht, q661⟩, qm, sa + lf, sp, sc, pb, ⟨q662, q667, q663, q664, q665⟩, b1, b2, by omega, by omega, by rcases b5 with h9 | ⟨t3, h91, h92⟩; (exact Or.inl h9); exact Or.inr ⟨t3, h91, by rw [ef657, zu_n (by omega), ef509, zu_n (by omega), ef497, zu_n (by omega), ef485, zu_n (by omega)]; exact h92⟩⟩
            exact ih104 (8 * q + wn - (i + 1)) (by omega) (i + 1, v521, kf1, f657) _ _ _ (show 8 * q + wn - (i + 1) = 8 * q + wn - (i + 1) ∧ (8 * q ≤ (i + 1) ∧ (i + 1) ≤ 8 * q + wn ∧ zKf f657 n kf1 ∧ zSum kf1 n ≤ 99 * ((i + 1) - 8 * q) ∧ (∀ j, j < wn → zMw f657 n (8 * q + j)) ∧ zMs f657 Bd ∧ (∀ a b, 55 ≤ a → a ≤ 64 → (b < 8 * q ∨ 8 * q + 8 ≤ b) → f657 a b = fi a b) ∧ f657 30 61 = fi 30 61 ∧ ∀ a b, ¬ (a = 35 ∨ a = 52 ∨ (58 ≤ a ∧ a ≤ 60) ∨ a = 63 ∨ a = 64 ∨ (65 ≤ a ∧ a ≤ 70) ∨ (a = 30 ∧ b = 61)) → f657 a b = fi a b) ∧ zH D A τ f657 fr ol s _ ∧ va_S A s.heap _ _ ∧ lv_has _ 8 [(0, .ref (τ.1 30)), (1, .int (nI q)), (2, .int v521), (3, .int (nI (i + 1)))] from ⟨rfl, ⟨by omega, by omega, hKf, by omega, fun j h => by by_cases h7 : 8 * q + j = i; (rw [h7]; exact hzw); exact (hwq j h).ci (Nat.le_refl _) (fun a h8 h9 => by rw [ef657, zu_n (by omega), ef509, zu_n (by omega), ef497, zu_n (by omega), ef485, zu_n (by omega)]), hMs, fun a b h7 h8 h9 => by rw [ef657, zu_n (by omega), ef509, zu_n (by omega), ef497, zu_n (by omega), ef485, zu_n (by omega)]; exact hout a b h7 h8 h9, by rw [ef657, zu_n (by omega), ef509, zu_n (by omega), ef497, zu_n (by omega), ef485, zu_n (by omega)]; exact hfs, fun a b h => by rw [ef657, zu_n (by omega), ef509, zu_n (by omega), ef497, zu_n (by omega), ef485, zu_n (by omega)]; exact hfr a b h⟩, hH, hS, lv_sub hl [5, 6, 2, 0] rfl⟩)
          · have zc671 := c671
            replace zc671 := zc_neq (nI_toInt (by omega)) ((by decide : (0 : Int32).toInt = 0)) zc671
            refine lv_aload_n hx hb dX12_serve_152 rfl (lv_at hl 4 rfl) ?_
            refine zGetI (D := D) (ci := 12) (C := RX12) (T := TX12) (N := 71) hx hb hts hiX12 hown hH (zk_30 hF) rfl 1 (by decide) rfl hw6 (fun _ h9 => h9) dX12_serve_153 rfl ?_
            refine lv_aload_n hx hb dX12_serve_156 rfl (lv_at hl 4 rfl) ?_
            refine zGetR (D := D) (ci := 12) (C := RX12) (T := TX12) (N := 71) hx hb hts hiX12 hown hH (zk_30 hF) rfl 46 (by decide) rfl hw13 (fun _ h9 => h9) dX12_serve_157 (zr_30_46 hF) ?_
            refine lv_iload_n hx hb dX12_serve_160 rfl (lv_at hl 5 rfl) ?_
            refine zIaldN (D := D) hx hb hH (zk_50 hF) (zn_50 hF) (by omega) (by omega) rfl dX12_serve_161 ?_
            refine lv_isub hx hb dX12_serve_162 ?_
            refine lv_topi (fun v672 ev672 => ?_)
            refine lv_aload_n hx hb dX12_serve_163 rfl (lv_at hl 4 rfl) ?_
            refine zGetR (D := D) (ci := 12) (C := RX12) (T := TX12) (N := 71) hx hb hts hiX12 hown hH (zk_30 hF) rfl 17 (by decide) rfl hw14 (fun _ h9 => h9) dX12_serve_164 (zr_30_17 hF) ?_
            refine lv_iconst (v := nI 0) hx hb dX12_serve_167 (by decide) ?_
            refine zIaldN (D := D) hx hb hH (zk_44 hF) (zn_44 hF) (by omega) (by omega) rfl dX12_serve_168 ?_
            refine lv_icmp_gt (tgt := 175) hx hb dX12_serve_169 (by decide) (fun c673 => ?_) (fun c673 => ?_)
            · have zc673 := c673
              replace zc673 := zc_lt (rfl) (rfl) zc673
              refine lv_aload_n hx hb dX12_serve_175 rfl (lv_at hl 4 rfl) ?_
              refine zGetR (D := D) (ci := 12) (C := RX12) (T := TX12) (N := 71) hx hb hts hiX12 hown hH (zk_30 hF) rfl 12 (by decide) rfl hw15 (fun _ h9 => h9) dX12_serve_176 (zr_30_12 hF) ?_
              refine lv_iload hx hb dX12_serve_179 (lv_at hl 3 rfl) ?_
              refine zIaldN (D := D) hx hb hH (zk_40 hF) (zn_40 hF) (by omega) (by omega) rfl dX12_serve_181 ?_
              have h40 : f657 40 t = fi 40 t := by rw [ef657, zu_n (by omega), ef509, zu_n (by omega), ef497, zu_n (by omega), ef485, zu_n (by omega)]; exact hfr _ _ (by omega)
              rcases hMx t (by omega) with h41 | ⟨t2, ht2, h41⟩
              · rw [h40, h41]
                refine lv_istore (lv' := [(7, .int ((-1))), (6, .int (nI sl)), (2, .int v521), (5, .int (nI lf)), (4, .int (nI t)), (0, .ref (τ.1 30)), (1, .int (nI q)), (3, .int (nI i))]) hx hb dX12_serve_182 hl (by decide) rfl (fun ls hl => ?_)
                refine lv_iload hx hb dX12_serve_184 (lv_at hl 0 rfl) ?_
                refine lv_iconst (v := (-1)) hx hb dX12_serve_186 (by decide) ?_
                refine lv_icmp_eq (tgt := 263) hx hb dX12_serve_187 (by decide) (fun c674 => ?_) (fun c674 => absurd (by decide) c674)
                refine lv_aload_n hx hb dX12_serve_263 rfl (lv_at hl 5 rfl) ?_
                refine zGetR (D := D) (ci := 12) (C := RX12) (T := TX12) (N := 71) hx hb hts hiX12 hown hH (zk_30 hF) rfl 56 (by decide) rfl hw16 (fun _ h9 => h9) dX12_serve_264 (zr_30_56 hF) ?_
                refine lv_iload_n hx hb dX12_serve_267 rfl (lv_at hl 7 rfl) ?_
                refine lv_dup2_11 hx hb dX12_serve_268 rfl rfl ?_
                refine zIaldN (D := D) hx hb hH (zk_60 hF) (zn_60 hF) (by omega) (by omega) q664 dX12_serve_269 ?_
                refine lv_iload hx hb dX12_serve_270 (lv_at hl 1 rfl) ?_
                refine lv_iadd hx hb dX12_serve_272 ?_
                refine lv_topi (fun v675 ev675 => ?_)
                obtain rfl : v675 = nI (sc + sl) := ev675.trans (nI_add _ _)
                refine zIastN (D := D) hx hb hH hS (zk_60 hF) (zn_60 hF) (by omega) (by omega) dX12_serve_273 (fun H locs hH hS => ?_)
                obtain ⟨f676, ef676⟩ : ∃ f9 : zFi, f9 = zu f657 60 i (nI (sc + sl)) := ⟨_, rfl⟩
                rw [← ef676] at hH
                have q677 : f676 30 2 = nI n := by rw [ef676, zu_n (fun h9 => absurd h9.1 (by decide))]; exact q658
                have q678 : f676 54 q = nI wn := by rw [ef676, zu_n (fun h9 => absurd h9.1 (by decide))]; exact q659
                have q679 : f676 30 61 = nI sn := by rw [ef676, zu_n (fun h9 => absurd h9.1 (by decide))]; exact q660
                have q680 : f676 55 i = nI t := by rw [ef676, zu_n (fun h9 => absurd h9.1 (by decide))]; exact q661
                have q681 : f676 56 i = nI qm := by rw [ef676, zu_n (fun h9 => absurd h9.1 (by decide))]; exact q662
                have q682 : f676 59 i = nI sp := by rw [ef676, zu_n (fun h9 => absurd h9.1 (by decide))]; exact q663
                have q683 : f676 62 i = nI pb := by rw [ef676, zu_n (fun h9 => absurd h9.1 (by decide))]; exact q665
                have q684 : f676 35 t = nI (st - lf) := by rw [ef676, zu_n (fun h9 => absurd h9.1 (by decide))]; exact q666
                have q685 : f676 58 i = nI (sa + lf) := by rw [ef676, zu_n (fun h9 => absurd h9.1 (by decide))]; exact q667
                have q686 : f676 69 t = nI (kf t + lf) := by rw [ef676, zu_n (fun h9 => absurd h9.1 (by decide))]; exact q668
                have q687 : f676 63 i = f509 30 1 := by rw [ef676, zu_n (fun h9 => absurd h9.1 (by decide))]; exact q669
                have q688 : f676 60 i = nI (sc + sl) := by rw [ef676]; exact zu_s
                have hMs := zMs.ci (fi' := f676) hMs (fun i9 k9 h9 => by rw [ef676]; exact zu_n (by omega))
                have hKf := zKf.ci (fi' := f676) hKf (fun i9 k9 h9 => by rw [ef676]; exact zu_n (by omega))
                refine lv_aload_n hx hb dX12_serve_274 rfl (lv_at hl 5 rfl) ?_
                refine zGetR (D := D) (ci := 12) (C := RX12) (T := TX12) (N := 71) hx hb hts hiX12 hown hH (zk_30 hF) rfl 48 (by decide) rfl hw17 (fun _ h9 => h9) dX12_serve_275 (zr_30_48 hF) ?_
                refine lv_iload_n hx hb dX12_serve_278 rfl (lv_at hl 6 rfl) ?_
                refine lv_dup2_11 hx hb dX12_serve_279 rfl rfl ?_
                refine zIaldN (D := D) hx hb hH (zk_52 hF) (zn_52 hF) (by omega) (by omega) rfl dX12_serve_280 ?_
                refine lv_iload hx hb dX12_serve_281 (lv_at hl 1 rfl) ?_
                refine lv_aload_n hx hb dX12_serve_283 rfl (lv_at hl 5 rfl) ?_
                refine zGetR (D := D) (ci := 12) (C := RX12) (T := TX12) (N := 71) hx hb hts hiX12 hown hH (zk_30 hF) rfl 53 (by decide) rfl hw18 (fun _ h9 => h9) dX12_serve_284 (zr_30_53 hF) ?_
                refine lv_iload_n hx hb dX12_serve_287 rfl (lv_at hl 7 rfl) ?_
                refine zIaldN (D := D) hx hb hH (zk_57 hF) (zn_57 hF) (by omega) (by omega) rfl dX12_serve_288 ?_
                refine lv_imul hx hb dX12_serve_289 ?_
                refine lv_topi (fun v689 ev689 => ?_)
                refine lv_iadd hx hb dX12_serve_290 ?_
                refine lv_topi (fun v690 ev690 => ?_)
                refine zIastN (D := D) hx hb hH hS (zk_52 hF) (zn_52 hF) (by omega) (by omega) dX12_serve_291 (fun H locs hH hS => ?_)
                obtain ⟨f691, ef691⟩ : ∃ f9 : zFi, f9 = zu f676 52 q v690 := ⟨_, rfl⟩
                rw [← ef691] at hH
                have q692 : f691 30 2 = nI n := by rw [ef691, zu_n (fun h9 => absurd h9.1 (by decide))]; exact q677
                have q693 : f691 54 q = nI wn := by rw [ef691, zu_n (fun h9 => absurd h9.1 (by decide))]; exact q678
                have q694 : f691 30 61 = nI sn := by rw [ef691, zu_n (fun h9 => absurd h9.1 (by decide))]; exact q679
                have q695 : f691 55 i = nI t := by rw [ef691, zu_n (fun h9 => absurd h9.1 (by decide))]; exact q680
                have q696 : f691 56 i = nI qm := by rw [ef691, zu_n (fun h9 => absurd h9.1 (by decide))]; exact q681
                have q697 : f691 59 i = nI sp := by rw [ef691, zu_n (fun h9 => absurd h9.1 (by decide))]; exact q682
                have q698 : f691 62 i = nI pb := by rw [ef691, zu_n (fun h9 => absurd h9.1 (by decide))]; exact q683
                have q699 : f691 35 t = nI (st - lf) := by rw [ef691, zu_n (fun h9 => absurd h9.1 (by decide))]; exact q684
                have q700 : f691 58 i = nI (sa + lf) := by rw [ef691, zu_n (fun h9 => absurd h9.1 (by decide))]; exact q685
                have q701 : f691 69 t = nI (kf t + lf) := by rw [ef691, zu_n (fun h9 => absurd h9.1 (by decide))]; exact q686
                have q702 : f691 63 i = f509 30 1 := by rw [ef691, zu_n (fun h9 => absurd h9.1 (by decide))]; exact q687
                have q703 : f691 60 i = nI (sc + sl) := by rw [ef691, zu_n (fun h9 => absurd h9.1 (by decide))]; exact q688
                have q704 : f691 52 q = v690 := by rw [ef691]; exact zu_s
                have hMs := zMs.ci (fi' := f691) hMs (fun i9 k9 h9 => by rw [ef691]; exact zu_n (by omega))
                have hKf := zKf.ci (fi' := f691) hKf (fun i9 k9 h9 => by rw [ef691]; exact zu_n (by omega))
                refine lv_iinc (v := nI (i + 1)) (lv' := [(3, .int (nI (i + 1))), (7, .int ((-1))), (6, .int (nI sl)), (2, .int v521), (5, .int (nI lf)), (4, .int (nI t)), (0, .ref (τ.1 30)), (1, .int (nI q))]) hx hb dX12_serve_292 hl (k := 7) rfl (by rw [show (Int32.ofInt 1 : Int32) = nI 1 from by decide, nI_add]) (by decide) rfl (fun ls hl => ?_)
                refine lv_goto (tgt := 30) hx hb dX12_serve_295 (by decide) ?_
                have hzw : zMw f691 n i := ⟨⟨t, ht, q695⟩, qm, sa + lf, sp, sc + sl, pb, ⟨q696, q700, q697, q703, q698⟩, b1, b2, by omega, by omega, by rcases b5 with h9 | ⟨t3, h91, h92⟩; (exact Or.inl h9); exact Or.inr ⟨t3, h91, by rw [ef691, zu_n (by omega), ef676, zu_n (by omega), ef657, zu_n (by omega), ef509, zu_n (by omega), ef497, zu_n (by omega), ef485, zu_n (by omega)]; exact h92⟩⟩
                exact ih104 (8 * q + wn - (i + 1)) (by omega) (i + 1, v521, kf1, f691) _ _ _ (show 8 * q + wn - (i + 1) = 8 * q + wn - (i + 1) ∧ (8 * q ≤ (i + 1) ∧ (i + 1) ≤ 8 * q + wn ∧ zKf f691 n kf1 ∧ zSum kf1 n ≤ 99 * ((i + 1) - 8 * q) ∧ (∀ j, j < wn → zMw f691 n (8 * q + j)) ∧ zMs f691 Bd ∧ (∀ a b, 55 ≤ a → a ≤ 64 → (b < 8 * q ∨ 8 * q + 8 ≤ b) → f691 a b = fi a b) ∧ f691 30 61 = fi 30 61 ∧ ∀ a b, ¬ (a = 35 ∨ a = 52 ∨ (58 ≤ a ∧ a ≤ 60) ∨ a = 63 ∨ a = 64 ∨ (65 ≤ a ∧ a ≤ 70) ∨ (a = 30 ∧ b = 61)) → f691 a b = fi a b) ∧ zH D A τ f691 fr ol s _ ∧ va_S A s.heap _ _ ∧ lv_has _ 8 [(0, .ref (τ.1 30)), (1, .int (nI q)), (2, .int v521), (3, .int (nI (i + 1)))] from ⟨rfl, ⟨by omega, by omega, hKf, by omega, fun j h => by by_cases h7 : 8 * q + j = i; (rw [h7]; exact hzw); exact (hwq j h).ci (Nat.le_refl _) (fun a h8 h9 => by rw [ef691, zu_n (by omega), ef676, zu_n (by omega), ef657, zu_n (by omega), ef509, zu_n (by omega), ef497, zu_n (by omega), ef485, zu_n (by omega)]), hMs, fun a b h7 h8 h9 => by rw [ef691, zu_n (by omega), ef676, zu_n (by omega), ef657, zu_n (by omega), ef509, zu_n (by omega), ef497, zu_n (by omega), ef485, zu_n (by omega)]; exact hout a b h7 h8 h9, by rw [ef691, zu_n (by omega), ef676, zu_n (by omega), ef657, zu_n (by omega), ef509, zu_n (by omega), ef497, zu_n (by omega), ef485, zu_n (by omega)]; exact hfs, fun a b h => by rw [ef691, zu_n (by omega), ef676, zu_n (by omega), ef657, zu_n (by omega), ef509, zu_n (by omega), ef497, zu_n (by omega), ef485, zu_n (by omega)]; exact hfr a b h⟩, hH, hS, lv_sub hl [6, 7, 3, 0] rfl⟩)
              · rw [h40, h41]
                refine lv_istore (lv' := [(7, .int (nI t2)), (6, .int (nI sl)), (2, .int v521), (5, .int (nI lf)), (4, .int (nI t)), (0, .ref (τ.1 30)), (1, .int (nI q)), (3, .int (nI i))]) hx hb dX12_serve_182 hl (by decide) rfl (fun ls hl => ?_)
                refine lv_iload hx hb dX12_serve_184 (lv_at hl 0 rfl) ?_
                refine lv_iconst (v := (-1)) hx hb dX12_serve_186 (by decide) ?_
                refine lv_icmp_eq (tgt := 263) hx hb dX12_serve_187 (by decide) (fun c705 => False.elim (by have zc705 := zc_eq (nI_toInt (by omega)) ((by decide : ((-1) : Int32).toInt = (-1))) c705; omega)) (fun c705 => ?_)
                obtain ⟨s2, hs2, e35b⟩ := hMs t2 (by omega)
                refine lv_aload_n hx hb dX12_serve_190 rfl (lv_at hl 5 rfl) ?_
                refine zGetR (D := D) (ci := 12) (C := RX12) (T := TX12) (N := 71) hx hb hts hiX12 hown hH (zk_30 hF) rfl 7 (by decide) rfl hw10 (fun _ h9 => h9) dX12_serve_191 (zr_30_7 hF) ?_
                refine lv_iload hx hb dX12_serve_194 (lv_at hl 0 rfl) ?_
                refine zIaldN (D := D) hx hb hH (zk_35 hF) (zn_35 hF) (by omega) (by omega) e35b dX12_serve_196 ?_
                refine lv_iload hx hb dX12_serve_197 (lv_at hl 1 rfl) ?_
                refine lv_icmp_lt (tgt := 263) hx hb dX12_serve_199 (by decide) (fun c706 => ?_) (fun c706 => ?_)
                · have zc706 := c706
                  replace zc706 := zc_lt (nI_toInt (by omega)) (nI_toInt (by omega)) zc706
                  refine lv_aload_n hx hb dX12_serve_263 rfl (lv_at hl 5 rfl) ?_
                  refine zGetR (D := D) (ci := 12) (C := RX12) (T := TX12) (N := 71) hx hb hts hiX12 hown hH (zk_30 hF) rfl 56 (by decide) rfl hw16 (fun _ h9 => h9) dX12_serve_264 (zr_30_56 hF) ?_
                  refine lv_iload_n hx hb dX12_serve_267 rfl (lv_at hl 7 rfl) ?_
                  refine lv_dup2_11 hx hb dX12_serve_268 rfl rfl ?_
                  refine zIaldN (D := D) hx hb hH (zk_60 hF) (zn_60 hF) (by omega) (by omega) q664 dX12_serve_269 ?_
                  refine lv_iload hx hb dX12_serve_270 (lv_at hl 1 rfl) ?_
                  refine lv_iadd hx hb dX12_serve_272 ?_
                  refine lv_topi (fun v707 ev707 => ?_)
                  obtain rfl : v707 = nI (sc + sl) := ev707.trans (nI_add _ _)
                  refine zIastN (D := D) hx hb hH hS (zk_60 hF) (zn_60 hF) (by omega) (by omega) dX12_serve_273 (fun H locs hH hS => ?_)
                  obtain ⟨f708, ef708⟩ : ∃ f9 : zFi, f9 = zu f657 60 i (nI (sc + sl)) := ⟨_, rfl⟩
                  rw [← ef708] at hH
                  have q709 : f708 30 2 = nI n := by rw [ef708, zu_n (fun h9 => absurd h9.1 (by decide))]; exact q658
                  have q710 : f708 54 q = nI wn := by rw [ef708, zu_n (fun h9 => absurd h9.1 (by decide))]; exact q659
                  have q711 : f708 30 61 = nI sn := by rw [ef708, zu_n (fun h9 => absurd h9.1 (by decide))]; exact q660
                  have q712 : f708 55 i = nI t := by rw [ef708, zu_n (fun h9 => absurd h9.1 (by decide))]; exact q661
                  have q713 : f708 56 i = nI qm := by rw [ef708, zu_n (fun h9 => absurd h9.1 (by decide))]; exact q662
                  have q714 : f708 59 i = nI sp := by rw [ef708, zu_n (fun h9 => absurd h9.1 (by decide))]; exact q663
                  have q715 : f708 62 i = nI pb := by rw [ef708, zu_n (fun h9 => absurd h9.1 (by decide))]; exact q665
                  have q716 : f708 35 t = nI (st - lf) := by rw [ef708, zu_n (fun h9 => absurd h9.1 (by decide))]; exact q666
                  have q717 : f708 58 i = nI (sa + lf) := by rw [ef708, zu_n (fun h9 => absurd h9.1 (by decide))]; exact q667
                  have q718 : f708 69 t = nI (kf t + lf) := by rw [ef708, zu_n (fun h9 => absurd h9.1 (by decide))]; exact q668
                  have q719 : f708 63 i = f509 30 1 := by rw [ef708, zu_n (fun h9 => absurd h9.1 (by decide))]; exact q669
                  have q720 : f708 35 t2 = nI s2 := by rw [ef708, zu_n (fun h9 => absurd h9.1 (by decide))]; exact e35b
                  have q721 : f708 60 i = nI (sc + sl) := by rw [ef708]; exact zu_s
                  have hMs := zMs.ci (fi' := f708) hMs (fun i9 k9 h9 => by rw [ef708]; exact zu_n (by omega))
                  have hKf := zKf.ci (fi' := f708) hKf (fun i9 k9 h9 => by rw [ef708]; exact zu_n (by omega))
                  refine lv_aload_n hx hb dX12_serve_274 rfl (lv_at hl 5 rfl) ?_
                  refine zGetR (D := D) (ci := 12) (C := RX12) (T := TX12) (N := 71) hx hb hts hiX12 hown hH (zk_30 hF) rfl 48 (by decide) rfl hw17 (fun _ h9 => h9) dX12_serve_275 (zr_30_48 hF) ?_
                  refine lv_iload_n hx hb dX12_serve_278 rfl (lv_at hl 6 rfl) ?_
                  refine lv_dup2_11 hx hb dX12_serve_279 rfl rfl ?_
                  refine zIaldN (D := D) hx hb hH (zk_52 hF) (zn_52 hF) (by omega) (by omega) rfl dX12_serve_280 ?_
                  refine lv_iload hx hb dX12_serve_281 (lv_at hl 1 rfl) ?_
                  refine lv_aload_n hx hb dX12_serve_283 rfl (lv_at hl 5 rfl) ?_
                  refine zGetR (D := D) (ci := 12) (C := RX12) (T := TX12) (N := 71) hx hb hts hiX12 hown hH (zk_30 hF) rfl 53 (by decide) rfl hw18 (fun _ h9 => h9) dX12_serve_284 (zr_30_53 hF) ?_
                  refine lv_iload_n hx hb dX12_serve_287 rfl (lv_at hl 7 rfl) ?_
                  refine zIaldN (D := D) hx hb hH (zk_57 hF) (zn_57 hF) (by omega) (by omega) rfl dX12_serve_288 ?_
                  refine lv_imul hx hb dX12_serve_289 ?_
                  refine lv_topi (fun v722 ev722 => ?_)
                  refine lv_iadd hx hb dX12_serve_290 ?_
                  refine lv_topi (fun v723 ev723 => ?_)
                  refine zIastN (D := D) hx hb hH hS (zk_52 hF) (zn_52 hF) (by omega) (by omega) dX12_serve_291 (fun H locs hH hS => ?_)
                  obtain ⟨f724, ef724⟩ : ∃ f9 : zFi, f9 = zu f708 52 q v723 := ⟨_, rfl⟩
                  rw [← ef724] at hH
                  have q725 : f724 30 2 = nI n := by rw [ef724, zu_n (fun h9 => absurd h9.1 (by decide))]; exact q709
                  have q726 : f724 54 q = nI wn := by rw [ef724, zu_n (fun h9 => absurd h9.1 (by decide))]; exact q710
                  have q727 : f724 30 61 = nI sn := by rw [ef724, zu_n (fun h9 => absurd h9.1 (by decide))]; exact q711
                  have q728 : f724 55 i = nI t := by rw [ef724, zu_n (fun h9 => absurd h9.1 (by decide))]; exact q712
                  have q729 : f724 56 i = nI qm := by rw [ef724, zu_n (fun h9 => absurd h9.1 (by decide))]; exact q713
                  have q730 : f724 59 i = nI sp := by rw [ef724, zu_n (fun h9 => absurd h9.1 (by decide))]; exact q714
                  have q731 : f724 62 i = nI pb := by rw [ef724, zu_n (fun h9 => absurd h9.1 (by decide))]; exact q715
                  have q732 : f724 35 t = nI (st - lf) := by rw [ef724, zu_n (fun h9 => absurd h9.1 (by decide))]; exact q716
                  have q733 : f724 58 i = nI (sa + lf) := by rw [ef724, zu_n (fun h9 => absurd h9.1 (by decide))]; exact q717
                  have q734 : f724 69 t = nI (kf t + lf) := by rw [ef724, zu_n (fun h9 => absurd h9.1 (by decide))]; exact q718
                  have q735 : f724 63 i = f509 30 1 := by rw [ef724, zu_n (fun h9 => absurd h9.1 (by decide))]; exact q719
                  have q736 : f724 35 t2 = nI s2 := by rw [ef724, zu_n (fun h9 => absurd h9.1 (by decide))]; exact q720
                  have q737 : f724 60 i = nI (sc + sl) := by rw [ef724, zu_n (fun h9 => absurd h9.1 (by decide))]; exact q721
                  have q738 : f724 52 q = v723 := by rw [ef724]; exact zu_s
                  have hMs := zMs.ci (fi' := f724) hMs (fun i9 k9 h9 => by rw [ef724]; exact zu_n (by omega))
                  have hKf := zKf.ci (fi' := f724) hKf (fun i9 k9 h9 => by rw [ef724]; exact zu_n (by omega))
                  refine lv_iinc (v := nI (i + 1)) (lv' := [(3, .int (nI (i + 1))), (7, .int (nI t2)), (6, .int (nI sl)), (2, .int v521), (5, .int (nI lf)), (4, .int (nI t)), (0, .ref (τ.1 30)), (1, .int (nI q))]) hx hb dX12_serve_292 hl (k := 7) rfl (by rw [show (Int32.ofInt 1 : Int32) = nI 1 from by decide, nI_add]) (by decide) rfl (fun ls hl => ?_)
                  refine lv_goto (tgt := 30) hx hb dX12_serve_295 (by decide) ?_
                  have hzw : zMw f724 n i := ⟨⟨t, ht, q728⟩, qm, sa + lf, sp, sc + sl, pb, ⟨q729, q733, q730, q737, q731⟩, b1, b2, by omega, by omega, by rcases b5 with h9 | ⟨t3, h91, h92⟩; (exact Or.inl h9); exact Or.inr ⟨t3, h91, by rw [ef724, zu_n (by omega), ef708, zu_n (by omega), ef657, zu_n (by omega), ef509, zu_n (by omega), ef497, zu_n (by omega), ef485, zu_n (by omega)]; exact h92⟩⟩
                  exact ih104 (8 * q + wn - (i + 1)) (by omega) (i + 1, v521, kf1, f724) _ _ _ (show 8 * q + wn - (i + 1) = 8 * q + wn - (i + 1) ∧ (8 * q ≤ (i + 1) ∧ (i + 1) ≤ 8 * q + wn ∧ zKf f724 n kf1 ∧ zSum kf1 n ≤ 99 * ((i + 1) - 8 * q) ∧ (∀ j, j < wn → zMw f724 n (8 * q + j)) ∧ zMs f724 Bd ∧ (∀ a b, 55 ≤ a → a ≤ 64 → (b < 8 * q ∨ 8 * q + 8 ≤ b) → f724 a b = fi a b) ∧ f724 30 61 = fi 30 61 ∧ ∀ a b, ¬ (a = 35 ∨ a = 52 ∨ (58 ≤ a ∧ a ≤ 60) ∨ a = 63 ∨ a = 64 ∨ (65 ≤ a ∧ a ≤ 70) ∨ (a = 30 ∧ b = 61)) → f724 a b = fi a b) ∧ zH D A τ f724 fr ol s _ ∧ va_S A s.heap _ _ ∧ lv_has _ 8 [(0, .ref (τ.1 30)), (1, .int (nI q)), (2, .int v521), (3, .int (nI (i + 1)))] from ⟨rfl, ⟨by omega, by omega, hKf, by omega, fun j h => by by_cases h7 : 8 * q + j = i; (rw [h7]; exact hzw); exact (hwq j h).ci (Nat.le_refl _) (fun a h8 h9 => by rw [ef724, zu_n (by omega), ef708, zu_n (by omega), ef657, zu_n (by omega), ef509, zu_n (by omega), ef497, zu_n (by omega), ef485, zu_n (by omega)]), hMs, fun a b h7 h8 h9 => by rw [ef724, zu_n (by omega), ef708, zu_n (by omega), ef657, zu_n (by omega), ef509, zu_n (by omega), ef497, zu_n (by omega), ef485, zu_n (by omega)]; exact hout a b h7 h8 h9, by rw [ef724, zu_n (by omega), ef708, zu_n (by omega), ef657, zu_n (by omega), ef509, zu_n (by omega), ef497, zu_n (by omega), ef485, zu_n (by omega)]; exact hfs, fun a b h => by rw [ef724, zu_n (by omega), ef708, zu_n (by omega), ef657, zu_n (by omega), ef509, zu_n (by omega), ef497, zu_n (by omega), ef485, zu_n (by omega)]; exact hfr a b h⟩, hH, hS, lv_sub hl [6, 7, 3, 0] rfl⟩)
                · have zc706 := c706
                  replace zc706 := zc_nlt (nI_toInt (by omega)) (nI_toInt (by omega)) zc706
                  refine lv_aload_n hx hb dX12_serve_202 rfl (lv_at hl 5 rfl) ?_
                  refine zGetR (D := D) (ci := 12) (C := RX12) (T := TX12) (N := 71) hx hb hts hiX12 hown hH (zk_30 hF) rfl 7 (by decide) rfl hw10 (fun _ h9 => h9) dX12_serve_203 (zr_30_7 hF) ?_
                  refine lv_iload hx hb dX12_serve_206 (lv_at hl 0 rfl) ?_
                  refine lv_dup2_11 hx hb dX12_serve_208 rfl rfl ?_
                  refine zIaldN (D := D) hx hb hH (zk_35 hF) (zn_35 hF) (by omega) (by omega) e35b dX12_serve_209 ?_
                  refine lv_iload hx hb dX12_serve_210 (lv_at hl 1 rfl) ?_
                  refine lv_isub hx hb dX12_serve_212 ?_
                  refine lv_topi (fun v739 ev739 => ?_)
                  obtain rfl : v739 = nI (s2 - sl) := ev739.trans (pk_sub (by omega))
                  refine zIastN (D := D) hx hb hH hS (zk_35 hF) (zn_35 hF) (by omega) (by omega) dX12_serve_213 (fun H locs hH hS => ?_)
                  obtain ⟨f740, ef740⟩ : ∃ f9 : zFi, f9 = zu f657 35 t2 (nI (s2 - sl)) := ⟨_, rfl⟩
                  rw [← ef740] at hH
                  have q741 : f740 30 2 = nI n := by rw [ef740, zu_n (fun h9 => absurd h9.1 (by decide))]; exact q658
                  have q742 : f740 54 q = nI wn := by rw [ef740, zu_n (fun h9 => absurd h9.1 (by decide))]; exact q659
                  have q743 : f740 30 61 = nI sn := by rw [ef740, zu_n (fun h9 => absurd h9.1 (by decide))]; exact q660
                  have q744 : f740 55 i = nI t := by rw [ef740, zu_n (fun h9 => absurd h9.1 (by decide))]; exact q661
                  have q745 : f740 56 i = nI qm := by rw [ef740, zu_n (fun h9 => absurd h9.1 (by decide))]; exact q662
                  have q746 : f740 59 i = nI sp := by rw [ef740, zu_n (fun h9 => absurd h9.1 (by decide))]; exact q663
                  have q747 : f740 60 i = nI sc := by rw [ef740, zu_n (fun h9 => absurd h9.1 (by decide))]; exact q664
                  have q748 : f740 62 i = nI pb := by rw [ef740, zu_n (fun h9 => absurd h9.1 (by decide))]; exact q665
                  have q749 : f740 58 i = nI (sa + lf) := by rw [ef740, zu_n (fun h9 => absurd h9.1 (by decide))]; exact q667
                  have q750 : f740 69 t = nI (kf t + lf) := by rw [ef740, zu_n (fun h9 => absurd h9.1 (by decide))]; exact q668
                  have q751 : f740 63 i = f509 30 1 := by rw [ef740, zu_n (fun h9 => absurd h9.1 (by decide))]; exact q669
                  have q752 : f740 35 t2 = nI (s2 - sl) := by rw [ef740]; exact zu_s
                  have hMs := zMs.set (v := s2 - sl) hMs ef740 (Nat.le_refl _) (by omega)
                  have hKf := zKf.ci (fi' := f740) hKf (fun i9 k9 h9 => by rw [ef740]; exact zu_n (by omega))
                  refine lv_aload_n hx hb dX12_serve_214 rfl (lv_at hl 5 rfl) ?_
                  refine zGetR (D := D) (ci := 12) (C := RX12) (T := TX12) (N := 71) hx hb hts hiX12 hown hH (zk_30 hF) rfl 55 (by decide) rfl hw19 (fun _ h9 => h9) dX12_serve_215 (zr_30_55 hF) ?_
                  refine lv_iload_n hx hb dX12_serve_218 rfl (lv_at hl 7 rfl) ?_
                  refine lv_dup2_11 hx hb dX12_serve_219 rfl rfl ?_
                  refine zIaldN (D := D) hx hb hH (zk_59 hF) (zn_59 hF) (by omega) (by omega) q746 dX12_serve_220 ?_
                  refine lv_iload hx hb dX12_serve_221 (lv_at hl 1 rfl) ?_
                  refine lv_iadd hx hb dX12_serve_223 ?_
                  refine lv_topi (fun v753 ev753 => ?_)
                  obtain rfl : v753 = nI (sp + sl) := ev753.trans (nI_add _ _)
                  refine zIastN (D := D) hx hb hH hS (zk_59 hF) (zn_59 hF) (by omega) (by omega) dX12_serve_224 (fun H locs hH hS => ?_)
                  obtain ⟨f754, ef754⟩ : ∃ f9 : zFi, f9 = zu f740 59 i (nI (sp + sl)) := ⟨_, rfl⟩
                  rw [← ef754] at hH
                  have q755 : f754 30 2 = nI n := by rw [ef754, zu_n (fun h9 => absurd h9.1 (by decide))]; exact q741
                  have q756 : f754 54 q = nI wn := by rw [ef754, zu_n (fun h9 => absurd h9.1 (by decide))]; exact q742
                  have q757 : f754 30 61 = nI sn := by rw [ef754, zu_n (fun h9 => absurd h9.1 (by decide))]; exact q743
                  have q758 : f754 55 i = nI t := by rw [ef754, zu_n (fun h9 => absurd h9.1 (by decide))]; exact q744
                  have q759 : f754 56 i = nI qm := by rw [ef754, zu_n (fun h9 => absurd h9.1 (by decide))]; exact q745
                  have q760 : f754 60 i = nI sc := by rw [ef754, zu_n (fun h9 => absurd h9.1 (by decide))]; exact q747
                  have q761 : f754 62 i = nI pb := by rw [ef754, zu_n (fun h9 => absurd h9.1 (by decide))]; exact q748
                  have q762 : f754 58 i = nI (sa + lf) := by rw [ef754, zu_n (fun h9 => absurd h9.1 (by decide))]; exact q749
                  have q763 : f754 69 t = nI (kf t + lf) := by rw [ef754, zu_n (fun h9 => absurd h9.1 (by decide))]; exact q750
                  have q764 : f754 63 i = f509 30 1 := by rw [ef754, zu_n (fun h9 => absurd h9.1 (by decide))]; exact q751
                  have q765 : f754 35 t2 = nI (s2 - sl) := by rw [ef754, zu_n (fun h9 => absurd h9.1 (by decide))]; exact q752
                  have q766 : f754 59 i = nI (sp + sl) := by rw [ef754]; exact zu_s
                  have hMs := zMs.ci (fi' := f754) hMs (fun i9 k9 h9 => by rw [ef754]; exact zu_n (by omega))
                  have hKf := zKf.ci (fi' := f754) hKf (fun i9 k9 h9 => by rw [ef754]; exact zu_n (by omega))
                  refine lv_aload_n hx hb dX12_serve_225 rfl (lv_at hl 5 rfl) ?_
                  refine zGetR (D := D) (ci := 12) (C := RX12) (T := TX12) (N := 71) hx hb hts hiX12 hown hH (zk_30 hF) rfl 60 (by decide) rfl hw20 (fun _ h9 => h9) dX12_serve_226 (zr_30_60 hF) ?_
                  refine lv_iload_n hx hb dX12_serve_229 rfl (lv_at hl 7 rfl) ?_
                  refine lv_iload hx hb dX12_serve_230 (lv_at hl 0 rfl) ?_
                  refine zIastN (D := D) hx hb hH hS (zk_64 hF) (zn_64 hF) (by omega) (by omega) dX12_serve_232 (fun H locs hH hS => ?_)
                  obtain ⟨f767, ef767⟩ : ∃ f9 : zFi, f9 = zu f754 64 i (nI t2) := ⟨_, rfl⟩
                  rw [← ef767] at hH
                  have q768 : f767 30 2 = nI n := by rw [ef767, zu_n (fun h9 => absurd h9.1 (by decide))]; exact q755
                  have q769 : f767 54 q = nI wn := by rw [ef767, zu_n (fun h9 => absurd h9.1 (by decide))]; exact q756
                  have q770 : f767 30 61 = nI sn := by rw [ef767, zu_n (fun h9 => absurd h9.1 (by decide))]; exact q757
                  have q771 : f767 55 i = nI t := by rw [ef767, zu_n (fun h9 => absurd h9.1 (by decide))]; exact q758
                  have q772 : f767 56 i = nI qm := by rw [ef767, zu_n (fun h9 => absurd h9.1 (by decide))]; exact q759
                  have q773 : f767 60 i = nI sc := by rw [ef767, zu_n (fun h9 => absurd h9.1 (by decide))]; exact q760
                  have q774 : f767 62 i = nI pb := by rw [ef767, zu_n (fun h9 => absurd h9.1 (by decide))]; exact q761
                  have q775 : f767 58 i = nI (sa + lf) := by rw [ef767, zu_n (fun h9 => absurd h9.1 (by decide))]; exact q762
                  have q776 : f767 69 t = nI (kf t + lf) := by rw [ef767, zu_n (fun h9 => absurd h9.1 (by decide))]; exact q763
                  have q777 : f767 63 i = f509 30 1 := by rw [ef767, zu_n (fun h9 => absurd h9.1 (by decide))]; exact q764
                  have q778 : f767 35 t2 = nI (s2 - sl) := by rw [ef767, zu_n (fun h9 => absurd h9.1 (by decide))]; exact q765
                  have q779 : f767 59 i = nI (sp + sl) := by rw [ef767, zu_n (fun h9 => absurd h9.1 (by decide))]; exact q766
                  have q780 : f767 64 i = nI t2 := by rw [ef767]; exact zu_s
                  have hMs := zMs.ci (fi' := f767) hMs (fun i9 k9 h9 => by rw [ef767]; exact zu_n (by omega))
                  have hKf := zKf.ci (fi' := f767) hKf (fun i9 k9 h9 => by rw [ef767]; exact zu_n (by omega))
                  refine lv_aload_n hx hb dX12_serve_233 rfl (lv_at hl 5 rfl) ?_
                  refine zGetR (D := D) (ci := 12) (C := RX12) (T := TX12) (N := 71) hx hb hts hiX12 hown hH (zk_30 hF) rfl 59 (by decide) rfl hw21 (fun _ h9 => h9) dX12_serve_234 (zr_30_59 hF) ?_
                  refine lv_iload_n hx hb dX12_serve_237 rfl (lv_at hl 7 rfl) ?_
                  refine lv_aload_n hx hb dX12_serve_238 rfl (lv_at hl 5 rfl) ?_
                  refine zGetI (D := D) (ci := 12) (C := RX12) (T := TX12) (N := 71) hx hb hts hiX12 hown hH (zk_30 hF) rfl 1 (by decide) rfl hw6 (fun _ h9 => h9) dX12_serve_239 rfl ?_
                  refine zIastN (D := D) hx hb hH hS (zk_63 hF) (zn_63 hF) (by omega) (by omega) dX12_serve_242 (fun H locs hH hS => ?_)
                  obtain ⟨f781, ef781⟩ : ∃ f9 : zFi, f9 = zu f767 63 i (f767 30 1) := ⟨_, rfl⟩
                  rw [← ef781] at hH
                  have q782 : f781 30 2 = nI n := by rw [ef781, zu_n (fun h9 => absurd h9.1 (by decide))]; exact q768
                  have q783 : f781 54 q = nI wn := by rw [ef781, zu_n (fun h9 => absurd h9.1 (by decide))]; exact q769
                  have q784 : f781 30 61 = nI sn := by rw [ef781, zu_n (fun h9 => absurd h9.1 (by decide))]; exact q770
                  have q785 : f781 55 i = nI t := by rw [ef781, zu_n (fun h9 => absurd h9.1 (by decide))]; exact q771
                  have q786 : f781 56 i = nI qm := by rw [ef781, zu_n (fun h9 => absurd h9.1 (by decide))]; exact q772
                  have q787 : f781 60 i = nI sc := by rw [ef781, zu_n (fun h9 => absurd h9.1 (by decide))]; exact q773
                  have q788 : f781 62 i = nI pb := by rw [ef781, zu_n (fun h9 => absurd h9.1 (by decide))]; exact q774
                  have q789 : f781 58 i = nI (sa + lf) := by rw [ef781, zu_n (fun h9 => absurd h9.1 (by decide))]; exact q775
                  have q790 : f781 69 t = nI (kf t + lf) := by rw [ef781, zu_n (fun h9 => absurd h9.1 (by decide))]; exact q776
                  have q791 : f781 35 t2 = nI (s2 - sl) := by rw [ef781, zu_n (fun h9 => absurd h9.1 (by decide))]; exact q778
                  have q792 : f781 59 i = nI (sp + sl) := by rw [ef781, zu_n (fun h9 => absurd h9.1 (by decide))]; exact q779
                  have q793 : f781 64 i = nI t2 := by rw [ef781, zu_n (fun h9 => absurd h9.1 (by decide))]; exact q780
                  have q794 : f781 63 i = f767 30 1 := by rw [ef781]; exact zu_s
                  have hMs := zMs.ci (fi' := f781) hMs (fun i9 k9 h9 => by rw [ef781]; exact zu_n (by omega))
                  have hKf := zKf.ci (fi' := f781) hKf (fun i9 k9 h9 => by rw [ef781]; exact zu_n (by omega))
                  refine lv_aload_n hx hb dX12_serve_243 rfl (lv_at hl 5 rfl) ?_
                  refine zGetR (D := D) (ci := 12) (C := RX12) (T := TX12) (N := 71) hx hb hts hiX12 hown hH (zk_30 hF) rfl 66 (by decide) rfl hw12 (fun _ h9 => h9) dX12_serve_244 (zr_30_66 hF) ?_
                  refine lv_iload hx hb dX12_serve_247 (lv_at hl 0 rfl) ?_
                  refine lv_dup2_11 hx hb dX12_serve_249 rfl rfl ?_
                  refine zIaldN (D := D) hx hb hH (zk_69 hF) (zn_69 hF) (by omega) (by omega) (hKf t2 ht2) dX12_serve_250 ?_
                  refine lv_iload hx hb dX12_serve_251 (lv_at hl 1 rfl) ?_
                  refine lv_iadd hx hb dX12_serve_253 ?_
                  refine lv_topi (fun v795 ev795 => ?_)
                  obtain rfl : v795 = nI (kf1 t2 + sl) := ev795.trans (nI_add _ _)
                  refine zIastN (D := D) hx hb hH hS (zk_69 hF) (zn_69 hF) (by omega) (by omega) dX12_serve_254 (fun H locs hH hS => ?_)
                  obtain ⟨f796, ef796⟩ : ∃ f9 : zFi, f9 = zu f781 69 t2 (nI (kf1 t2 + sl)) := ⟨_, rfl⟩
                  rw [← ef796] at hH
                  have q797 : f796 30 2 = nI n := by rw [ef796, zu_n (fun h9 => absurd h9.1 (by decide))]; exact q782
                  have q798 : f796 54 q = nI wn := by rw [ef796, zu_n (fun h9 => absurd h9.1 (by decide))]; exact q783
                  have q799 : f796 30 61 = nI sn := by rw [ef796, zu_n (fun h9 => absurd h9.1 (by decide))]; exact q784
                  have q800 : f796 55 i = nI t := by rw [ef796, zu_n (fun h9 => absurd h9.1 (by decide))]; exact q785
                  have q801 : f796 56 i = nI qm := by rw [ef796, zu_n (fun h9 => absurd h9.1 (by decide))]; exact q786
                  have q802 : f796 60 i = nI sc := by rw [ef796, zu_n (fun h9 => absurd h9.1 (by decide))]; exact q787
                  have q803 : f796 62 i = nI pb := by rw [ef796, zu_n (fun h9 => absurd h9.1 (by decide))]; exact q788
                  have q804 : f796 58 i = nI (sa + lf) := by rw [ef796, zu_n (fun h9 => absurd h9.1 (by decide))]; exact q789
                  have q805 : f796 35 t2 = nI (s2 - sl) := by rw [ef796, zu_n (fun h9 => absurd h9.1 (by decide))]; exact q791
                  have q806 : f796 59 i = nI (sp + sl) := by rw [ef796, zu_n (fun h9 => absurd h9.1 (by decide))]; exact q792
                  have q807 : f796 64 i = nI t2 := by rw [ef796, zu_n (fun h9 => absurd h9.1 (by decide))]; exact q793
                  have q808 : f796 63 i = f767 30 1 := by rw [ef796, zu_n (fun h9 => absurd h9.1 (by decide))]; exact q794
                  have q809 : f796 69 t2 = nI (kf1 t2 + sl) := by rw [ef796]; exact zu_s
                  have hMs := zMs.ci (fi' := f796) hMs (fun i9 k9 h9 => by rw [ef796]; exact zu_n (by omega))
                  have hKf := zKf.set (t := t2) (x := sl) hKf ef796
                  obtain ⟨kf2, ekf2⟩ : ∃ k9 : Nat → Nat, k9 = (fun j => if j = t2 then kf1 j + sl else kf1 j) := ⟨_, rfl⟩
                  rw [← ekf2] at hKf
                  have skf2 : zSum kf2 n = zSum kf1 n + sl := by rw [ekf2]; exact zSum_up (by omega)
                  refine lv_iload_n hx hb dX12_serve_255 rfl (lv_at hl 2 rfl) ?_
                  refine lv_iload hx hb dX12_serve_256 (lv_at hl 1 rfl) ?_
                  refine lv_iadd hx hb dX12_serve_258 ?_
                  refine lv_topi (fun v810 ev810 => ?_)
                  refine lv_istore_n (lv' := [(2, .int v810), (7, .int (nI t2)), (6, .int (nI sl)), (5, .int (nI lf)), (4, .int (nI t)), (0, .ref (τ.1 30)), (1, .int (nI q)), (3, .int (nI i))]) hx hb dX12_serve_259 rfl hl (by decide) rfl (fun ls hl => ?_)
                  refine lv_goto (tgt := 292) hx hb dX12_serve_260 (by decide) ?_
                  refine lv_iinc (v := nI (i + 1)) (lv' := [(3, .int (nI (i + 1))), (2, .int v810), (7, .int (nI t2)), (6, .int (nI sl)), (5, .int (nI lf)), (4, .int (nI t)), (0, .ref (τ.1 30)), (1, .int (nI q))]) hx hb dX12_serve_292 hl (k := 7) rfl (by rw [show (Int32.ofInt 1 : Int32) = nI 1 from by decide, nI_add]) (by decide) rfl (fun ls hl => ?_)
                  refine lv_goto (tgt := 30) hx hb dX12_serve_295 (by decide) ?_
                  have hzw : zMw f796 n i := ⟨⟨t, ht, q800⟩, qm, sa + lf, sp + sl, sc, pb, ⟨q801, q804, q806, q802, q803⟩, b1, b2, by omega, by omega, Or.inr ⟨t2, ht2, q807⟩⟩
                  exact ih104 (8 * q + wn - (i + 1)) (by omega) (i + 1, v810, kf2, f796) _ _ _ (show 8 * q + wn - (i + 1) = 8 * q + wn - (i + 1) ∧ (8 * q ≤ (i + 1) ∧ (i + 1) ≤ 8 * q + wn ∧ zKf f796 n kf2 ∧ zSum kf2 n ≤ 99 * ((i + 1) - 8 * q) ∧ (∀ j, j < wn → zMw f796 n (8 * q + j)) ∧ zMs f796 Bd ∧ (∀ a b, 55 ≤ a → a ≤ 64 → (b < 8 * q ∨ 8 * q + 8 ≤ b) → f796 a b = fi a b) ∧ f796 30 61 = fi 30 61 ∧ ∀ a b, ¬ (a = 35 ∨ a = 52 ∨ (58 ≤ a ∧ a ≤ 60) ∨ a = 63 ∨ a = 64 ∨ (65 ≤ a ∧ a ≤ 70) ∨ (a = 30 ∧ b = 61)) → f796 a b = fi a b) ∧ zH D A τ f796 fr ol s _ ∧ va_S A s.heap _ _ ∧ lv_has _ 8 [(0, .ref (τ.1 30)), (1, .int (nI q)), (2, .int v810), (3, .int (nI (i + 1)))] from ⟨rfl, ⟨by omega, by omega, hKf, by omega, fun j h => by by_cases h7 : 8 * q + j = i; (rw [h7]; exact hzw); exact (hwq j h).ci (Nat.le_refl _) (fun a h8 h9 => by rw [ef796, zu_n (by omega), ef781, zu_n (by omega), ef767, zu_n (by omega), ef754, zu_n (by omega), ef740, zu_n (by omega), ef657, zu_n (by omega), ef509, zu_n (by omega), ef497, zu_n (by omega), ef485, zu_n (by omega)]), hMs, fun a b h7 h8 h9 => by rw [ef796, zu_n (by omega), ef781, zu_n (by omega), ef767, zu_n (by omega), ef754, zu_n (by omega), ef740, zu_n (by omega), ef657, zu_n (by omega), ef509, zu_n (by omega), ef497, zu_n (by omega), ef485, zu_n (by omega)]; exact hout a b h7 h8 h9, by rw [ef796, zu_n (by omega), ef781, zu_n (by omega), ef767, zu_n (by omega), ef754, zu_n (by omega), ef740, zu_n (by omega), ef657, zu_n (by omega), ef509, zu_n (by omega), ef497, zu_n (by omega), ef485, zu_n (by omega)]; exact hfs, fun a b h => by rw [ef796, zu_n (by omega), ef781, zu_n (by omega), ef767, zu_n (by omega), ef754, zu_n (by omega), ef740, zu_n (by omega), ef657, zu_n (by omega), ef509, zu_n (by omega), ef497, zu_n (by omega), ef485, zu_n (by omega)]; exact hfr a b h⟩, hH, hS, lv_sub hl [6, 7, 1, 0] rfl⟩)
            · have zc673 := c673
              replace zc673 := zc_nlt (rfl) (rfl) zc673
              refine lv_goto (tgt := 292) hx hb dX12_serve_172 (by decide) ?_
              refine lv_iinc (v := nI (i + 1)) (lv' := [(3, .int (nI (i + 1))), (6, .int (nI sl)), (2, .int v521), (5, .int (nI lf)), (4, .int (nI t)), (0, .ref (τ.1 30)), (1, .int (nI q))]) hx hb dX12_serve_292 hl (k := 6) rfl (by rw [show (Int32.ofInt 1 : Int32) = nI 1 from by decide, nI_add]) (by decide) rfl (fun ls hl => ?_)
              refine lv_goto (tgt := 30) hx hb dX12_serve_295 (by decide) ?_
              have hzw : zMw f657 n i := ⟨⟨t, ht, q661⟩, qm, sa + lf, sp, sc, pb, ⟨q662, q667, q663, q664, q665⟩, b1, b2, by omega, by omega, by rcases b5 with h9 | ⟨t3, h91, h92⟩; (exact Or.inl h9); exact Or.inr ⟨t3, h91, by rw [ef657, zu_n (by omega), ef509, zu_n (by omega), ef497, zu_n (by omega), ef485, zu_n (by omega)]; exact h92⟩⟩
              exact ih104 (8 * q + wn - (i + 1)) (by omega) (i + 1, v521, kf1, f657) _ _ _ (show 8 * q + wn - (i + 1) = 8 * q + wn - (i + 1) ∧ (8 * q ≤ (i + 1) ∧ (i + 1) ≤ 8 * q + wn ∧ zKf f657 n kf1 ∧ zSum kf1 n ≤ 99 * ((i + 1) - 8 * q) ∧ (∀ j, j < wn → zMw f657 n (8 * q + j)) ∧ zMs f657 Bd ∧ (∀ a b, 55 ≤ a → a ≤ 64 → (b < 8 * q ∨ 8 * q + 8 ≤ b) → f657 a b = fi a b) ∧ f657 30 61 = fi 30 61 ∧ ∀ a b, ¬ (a = 35 ∨ a = 52 ∨ (58 ≤ a ∧ a ≤ 60) ∨ a = 63 ∨ a = 64 ∨ (65 ≤ a ∧ a ≤ 70) ∨ (a = 30 ∧ b = 61)) → f657 a b = fi a b) ∧ zH D A τ f657 fr ol s _ ∧ va_S A s.heap _ _ ∧ lv_has _ 8 [(0, .ref (τ.1 30)), (1, .int (nI q)), (2, .int v521), (3, .int (nI (i + 1)))] from ⟨rfl, ⟨by omega, by omega, hKf, by omega, fun j h => by by_cases h7 : 8 * q + j = i; (rw [h7]; exact hzw); exact (hwq j h).ci (Nat.le_refl _) (fun a h8 h9 => by rw [ef657, zu_n (by omega), ef509, zu_n (by omega), ef497, zu_n (by omega), ef485, zu_n (by omega)]), hMs, fun a b h7 h8 h9 => by rw [ef657, zu_n (by omega), ef509, zu_n (by omega), ef497, zu_n (by omega), ef485, zu_n (by omega)]; exact hout a b h7 h8 h9, by rw [ef657, zu_n (by omega), ef509, zu_n (by omega), ef497, zu_n (by omega), ef485, zu_n (by omega)]; exact hfs, fun a b h => by rw [ef657, zu_n (by omega), ef509, zu_n (by omega), ef497, zu_n (by omega), ef485, zu_n (by omega)]; exact hfr a b h⟩, hH, hS, lv_sub hl [5, 6, 2, 0] rfl⟩)
  · have zc102 := c102
    replace zc102 := zc_nle (nI_toInt (by omega)) (nI_toInt (by omega)) zc102
    refine lv_aload_n hx hb dX12_serve_10 rfl (lv_at hl 0 rfl) ?_
    refine zGetR (D := D) (ci := 12) (C := RX12) (T := TX12) (N := 71) hx hb hts hiX12 hown hH (zk_30 hF) rfl 66 (by decide) rfl hw12 (fun _ h9 => h9) dX12_serve_11 (zr_30_66 hF) ?_
    refine lv_iload_n hx hb dX12_serve_14 rfl (lv_at hl 2 rfl) ?_
    refine lv_iconst (v := nI 0) hx hb dX12_serve_15 (by decide) ?_
    refine zIastN (D := D) hx hb hH hS (zk_69 hF) (zn_69 hF) (by omega) (by omega) dX12_serve_16 (fun H locs hH hS => ?_)
    obtain ⟨f811, ef811⟩ : ∃ f9 : zFi, f9 = zu f0 69 i0 (nI 0) := ⟨_, rfl⟩
    rw [← ef811] at hH
    have q812 : f811 30 2 = nI n := by rw [ef811, zu_n (fun h9 => absurd h9.1 (by decide))]; exact p2
    have q813 : f811 54 q = nI wn := by rw [ef811, zu_n (fun h9 => absurd h9.1 (by decide))]; exact p54
    have q814 : f811 69 i0 = nI 0 := by rw [ef811]; exact zu_s
    refine lv_iinc (v := nI (i0 + 1)) (lv' := [(2, .int (nI (i0 + 1))), (0, .ref (τ.1 30)), (1, .int (nI q))]) hx hb dX12_serve_17 hl (k := 2) rfl (by rw [show (Int32.ofInt 1 : Int32) = nI 1 from by decide, nI_add]) (by decide) rfl (fun ls hl => ?_)
    refine lv_goto (tgt := 2) hx hb dX12_serve_20 (by decide) ?_
    exact ih101 (n - (i0 + 1)) (by omega) (i0 + 1, f811) _ _ _ (show n - (i0 + 1) = n - (i0 + 1) ∧ ((i0 + 1) ≤ n ∧ (∀ t, t < (i0 + 1) → f811 69 t = nI 0) ∧ ∀ a b, ¬ (a = 69) → f811 a b = fi a b) ∧ zH D A τ f811 fr ol s _ ∧ va_S A s.heap _ _ ∧ lv_has _ 8 [(0, .ref (τ.1 30)), (1, .int (nI q)), (2, .int (nI (i0 + 1)))] from ⟨rfl, ⟨by omega, fun t h => by by_cases h7 : t = i0; (subst h7; rw [ef811, zu_s]); (rw [ef811, zu_n (by omega)]; exact hz0 t (by omega)), fun a b h => by rw [ef811, zu_n (by omega)]; exact hfr0 a b h⟩, hH, hS, lv_sub hl [1, 2, 0] rfl⟩)
