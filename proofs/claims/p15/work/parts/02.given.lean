/-! ===== WHAT EVERY METHOD TAKES AS GIVEN: statics, string constants, links to nest mates, array classes ===== -/
def zWd : List (Nat × String × List Int32) := [(401, "place", [112, 108, 97, 99, 101]), (424, "behind", [98, 101, 104, 105, 110, 100]), (426, "post", [112, 111, 115, 116]), (427, "free", [102, 114, 101, 101]), (429, "back", [98, 97, 99, 107]), (435, "by", [98, 121]), (443, "x", [120]), (449, "sum", [115, 117, 109]), (451, "money", [109, 111, 110, 101, 121])]
def zTx : List (Nat × String) := [(93, "a number of the thing is out of its bounds"), (102, "there is a thing of that code"), (109, "the book is full"), (119, "a number of the price is out of its bounds"), (126, "the thing has all its prices"), (139, "the day or how many is out of its bounds"), (142, "too much is coming"), (167, "the text of the rules is wrong"), (171, "the rules say nothing else"), (189, "the text of the letter is wrong"), (218, "too many doubts wait"), (240, "a doubt has nothing else"), (244, "the doubt does not wait"), (247, "so many days can not pass"), (270, "an order has nothing else"), (309, "a want has nothing else"), (311, "so many can not come back"), (324, "no such sending"), (337, "a sending has nothing else"), (346, "a number of the foretelling is out of its bounds"), (364, "nothing else is foretold"), (381, "no such thing"), (383, "no such doubt"), (385, "no such order"), (387, "no such want"), (393, "there are all the orders that can be")]
def zNe : List (String × Nat × MethodName) := [(RX11, 9, yX7_init), (RX11, 18, yX0_init), (RX11, 25, yX1_init), (RX11, 60, yX4_init), (RX11, 67, yX9_init), (RX11, 184, yX2_init), (RX0, 24, yX11_within), (RX8, 40, yX11_within), (RX9, 63, yX11_within)]
def zAO : List String := ["PostHouse$Letter", "PostHouse$Order", "PostHouse$Sending", "PostHouse$Thing", "PostHouse$Want"]
def zEx : List String := ["java/lang/IndexOutOfBoundsException", "java/lang/IllegalArgumentException", "java/lang/UnsupportedOperationException", "java/util/NoSuchElementException", "java/lang/IllegalStateException"]
def zDe : List MethodName := [(Bundle.initS "java/lang/RuntimeException"), (Bundle.initS "java/lang/Exception"), (Bundle.initS Bundle.tN)]
def zG (A0 : Nat → Prop) (ad : Nat → Nat) (U : State) (H : Heap) : Prop :=
  vx_Zq Bundle.tN "UNASSIGNED_STACK" Bundle.steD A0 U H ∧ vx_Zq Bundle.tN "SUPPRESSED_SENTINEL" Bundle.listD A0 U H ∧ va_Z "java/lang/String" "COMPACT_STRINGS" "Z" (.int 1) A0 U H ∧
  (∀ (i : Nat) (q : Nat × String × List Int32), zWd[i]? = some q → (∃ v : Nat, vk_S 1 [q.2.2.length] [q.2.2] (fun _ => ad i) (fun _ => v) A0 U H) ∧ vk_R RX11 q.1 q.2.1 (ad i) U) ∧
  (∀ q ∈ zTx, ∃ a : Nat, vk_R RX11 q.1 q.2 a U) ∧ (∀ q ∈ zNe, va_Nw (.methodLinkNest q.1 q.2.1 q.2.2 RX11) U) ∧ (∀ C ∈ zAO, va_AO C U) ∧ (∀ C ∈ zEx, va_Nw (.castable C C) U) ∧ (∀ x ∈ zDe, va_Nw (.declares x) U)
theorem zG.warm {A0 : Nat → Prop} {ad : Nat → Nat} {s U : State} {H : Heap} (hW : s.WarmedH U.vm) (h : zG A0 ad s H) : zG A0 ad U H := by
  obtain ⟨h1, h2, h3, h4, h5, h6, h7, h8, h9⟩ := h
  refine ⟨h1.moved hW.alike, h2.moved hW.alike, h3.moved hW.alike, fun i q hq => ?_, fun q hq => ?_, fun q hq => va_Nw.warmM hW (h6 q hq), fun C hC => (h7 C hC).moved hW.alike, fun C hC => va_Nw.warmC hW (h8 C hC), fun x hx => va_Nw.warmD hW (h9 x hx)⟩
  · obtain ⟨⟨v, a1⟩, a2⟩ := h4 i q hq
    exact ⟨⟨v, a1.moved hW.alike⟩, vk_R.warm hW a2⟩
  · obtain ⟨a, ha⟩ := h5 q hq
    exact ⟨a, vk_R.warm hW ha⟩
theorem zG.kept {A0 : Nat → Prop} {ad : Nat → Nat} {U : State} {H H1 : Heap} (h : zG A0 ad U H) (hq : ∀ a : Nat, a < H.size → ¬ A0 a → H1[a]? = H[a]?) : zG A0 ad U H1 := by
  obtain ⟨h1, h2, h3, h4, h5, h6, h7, h8, h9⟩ := h
  refine ⟨h1.kept hq, h2.kept hq, h3.kept hq, fun i q hq2 => ?_, h5, h6, h7, h8, h9⟩
  obtain ⟨⟨v, a1⟩, a2⟩ := h4 i q hq2
  exact ⟨⟨v, a1.kept hq⟩, a2⟩
theorem zG.call {A0 : Nat → Prop} {ad : Nat → Nat} {U : State} {H : Heap} {g : JFrame} {mk : MethodId} {a : Array Value} (h : zG A0 ad U H) : zG A0 ad (U.calling g mk a) H := zG.warm (s := U) (State.WarmedH.refl U) h
/-- a method's start: the heap's size, what is given, the cells -/
def zPc (A0 : Nat → Prop) (ad : Nat → Nat) (D : va_G) (ws : va_W) (tys : List (ClassId × FieldType)) (sz : Nat) (U : State) : Prop := U.heap.size = sz ∧ zG A0 ad U U.heap ∧ va_P D vwCl ws U.heap ∧ va_K D vwCl tys U ∧ va_D (fun _ => True) ws
theorem zPc_bl {A0 : Nat → Prop} {ad : Nat → Nat} {D : va_G} {ws : va_W} {tys : List (ClassId × FieldType)} {sz : Nat} {av : List Value} : FrameBlind (va_Pc av (zPc A0 ad D ws tys sz)) := fun a U g mk q => by
  obtain ⟨q0, q1, qz, qP, qK, qD⟩ := q
  exact ⟨q0, q1, zG.call qz, qP, va_K.moved (u := U) (U := U.calling g mk a) (Vm.Alike.refl U.vm) qK, qD⟩
theorem zPc_at {A0 A : Nat → Prop} {ad : Nat → Nat} {D : va_G} {wc : va_W} {tc : List (ClassId × FieldType)} {s : State} {H : Heap} {locs : List Loc} {av : List Value} (hz : zG A0 ad s s.heap) (hS : va_S A s.heap H locs) (hAA : ∀ q, A q → A0 q) (hPc : va_P D vwCl wc H) (hKc : va_K D vwCl tc s) (hDc : va_D A wc) :
    ∀ U : State, U.heap = H → s.WarmedH U.vm → va_Pc av (zPc A0 ad D wc tc H.size) av.toArray U := fun U hU hW =>
  ⟨rfl, by rw [hU], by rw [hU]; exact zG.warm hW (hz.kept (fun a h1 h2 => hS.2.1 a h1 (fun z => h2 (hAA a z)))), by rw [hU]; exact hPc, va_K.moved hW.alike hKc, hDc.weaken (fun _ _ _ _ => trivial)⟩
/-- what a method leaves behind: the cells, apart, in its region -/
def zB (D : va_G) (A : Nat → Prop) (ws : va_W) (tys : List (ClassId × FieldType)) (t : State) : Prop := va_P D vwCl ws t.heap ∧ va_K D vwCl tys t ∧ va_D A ws
theorem vx_callq {p : Program} {l : Launch} {e : Env} {R : Room} {s : State} {m : MethodId} {args : Array Value} {below : List Frame} {meth : Method} {c : Code} {H : Heap} {locs : List Loc} {cells slots : Nat} {Q : State → Prop} {mc ms : Nat} {free : Addr → Prop} {A0 A1 : Nat → Prop} {H0 : Heap} {a : Array Value} {pc : Nat} {ls : Array Slot} {st0 rest : List Value} {S SX : Type} {post : Option Nat → S → Prop} {px : SX → Prop} {B : S → State → Prop} {BX : String → SX → State → Prop} {AX : Nat → Prop} (hr : vx_Run p l e R s m args below meth c H locs cells slots mc ms (F0 m pc ls st0) rest (va_Qq post B A1 a) (vx_X px BX AX) free) (hS : va_S A0 H0 H locs) (hA : ∀ q, q < H.size → A1 q → A0 q) (hf : ∀ q, free q → A0 q) (hAX : ∀ q, q < H.size → AX q → A0 q)
    (kx : ∀ (E : String) (ce : Cell) (q9 : Addr) (u : SX) (t : State) (H1 : Heap) (locs1 : List Loc), t.heap = H1 → s.vm.Alike t.vm → px u → BX E u t → H.size ≤ H1.size → (∀ q : Nat, q < H.size → ¬ AX q → H1[q]? = H[q]?) → va_S A0 H0 H1 locs1 → H1[q9]? = some ce → ce.vm = .none → s.vm.findClass E = some ce.cls → vx_W p l e R s m args below meth c H1 locs1 (cells + mc) (slots + ms) Q (F0 m pc ls rest) q9)
    (kk : ∀ (r : Option Nat) (u : S) (t : State) (H1 : Heap) (locs1 : List Loc), t.heap = H1 → s.vm.Alike t.vm → post r u → B u t → H.size ≤ H1.size → (∀ q : Nat, q < H.size → ¬ A1 q → H1[q]? = H[q]?) → va_S A0 H0 H1 locs1 → W p l e R s m args below meth c H1 locs1 (cells + mc) (slots + ms) Q (F0 m (pc + 3) ls (va_rf r :: rest))) : W p l e R s m args below meth c H locs cells slots Q (F0 m pc ls st0) := by
  intro T hT X
  rcases hr T hT X with ⟨v, st₀, t, T', L, h0, X', hL, e1, e2, ⟨⟨r, u, hv, hp, hb⟩, hF⟩, st⟩ | ⟨q, st₀, t, T', L, E, ce, h0, X', hL, e1, e2, ⟨u, hp, hb, hF⟩, hce, hcv, hcl, st⟩
  · cases hv
    obtain ⟨k1, k2, k3⟩ := vx_keep h0 e1 hS hA hf hL hF
    obtain ⟨t2, a1, b1⟩ := kk r u t T'.heap (locs ++ L) e1.symm (by rw [← e2]; exact X'.warmed.alike) hp hb k1 k2 k3 T' rfl X'
    exact ⟨t2, st t2 a1, b1⟩
  · obtain ⟨k1, k2, k3⟩ := vx_keep h0 e1 hS hAX hf hL hF
    obtain ⟨t2, a1, b1⟩ := kx E ce q u t T'.heap (locs ++ L) e1.symm (by rw [← e2]; exact X'.warmed.alike) hp hb k1 k2 k3 (by rw [e1]; exact hce) hcv hcl T' rfl X'
    exact ⟨t2, st.trans a1, b1⟩
theorem zF2 {A : Nat → Prop} {s t : State} {H : Heap} {locs : List Loc} (hS : va_S A s.heap H locs) (h1 : H.size ≤ t.heap.size) (h2 : ∀ q : Nat, q < H.size → t.heap[q]? = H[q]?) : va_F A s t := ⟨Nat.le_trans hS.1 h1, fun q a b => by rw [h2 q (Nat.lt_of_lt_of_le a hS.1)]; exact hS.2.1 q a b⟩
theorem zLdcW {p : Program} {l : Launch} {e : Env} {R : Room} {s : State} {m : MethodId} {args : Array Value} {below : List Frame} {meth : Method} {c : Code} {H : Heap} {locs : List Loc} {cells slots : Nat} {Q : State → Prop} {cc : ByteArray} {pc : Nat} {ls : Array Slot} {rest : List Value} (hexec : p.tables.exec = Jvm.exec) (hb : c.code = cc) {own tx : String} {index q : Nat} (hown : s.vm.findClass own = some m.cls) (hZ : vk_R own index tx q s) (hdg : decode cc pc = .ok (.ldc_w index, 3))
    (k : W p l e R s m args below meth c H locs cells slots Q (F0 m (pc + 3) ls (.ref q :: rest))) : W p l e R s m args below meth c H locs cells slots Q (F0 m pc ls rest) := by
  intro T hT X
  obtain ⟨t, a1, b1⟩ := k T hT X
  exact ⟨t, X.ldcStringW hexec hown (text := tx) (a := q) hZ.1 hZ.2 (g := F0 m pc ls rest) rfl (by rw [hb]; exact hdg) t a1, b1⟩
theorem zIn {i : Int32} {n : Nat} (h : decide (i < 0) = false) (h2 : decide (n ≤ i.toNatClampNeg) = false) : vp_in i n := fun q => q.elim (fun a => of_decide_eq_false h a) (fun a => of_decide_eq_false h2 a)
