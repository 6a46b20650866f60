/-! THE CLAIM OUT OF ONE WALK OF THE LAW'S BODY. Your part is whole_start (and what it stands on); all else here is the same for every law, but numbers. -/
def R_law : String := "PostHouseLaw"
def lw_P (b : Addr) (xs : List Int32) (args : Array Value) (s : State) : Prop := args = #[.ref b] ∧ s.IntsAt b xs ∧ xs.length ≤ 3072 ∧ (Jvm.Cond.and given_1 narrow_1).before args s = true
def lw_Q (_ : Array Value) (s : State) (o : Outcome) (t : State) : Prop := o = .returned (some (.int 1)) ∧ Framed s o t [] 601024 7293034
def lw_Z (below : List Frame) (a : Array Value) (s : State) : State → Prop := fun t => ∃ o, t.status = .running ∧ Ended t below o ∧ lw_Q a s o t
/-- the law's own end, with 1 on the stack, nothing written that was there before, its room as the claim has it -/
theorem lw_ret {p : Program} {l : Launch} {e : Env} {s : State} {m : MethodId} {below : List Frame} {meth : Method} {c : Code} {b : Nat} (hx : p.tables.exec = Jvm.exec) (hb : c.code = code) (hr : meth.sig.returnType = ret) (hlocks : meth.locks = false) {pc : Nat} {H : Heap} {ls : Array Slot} (hdg : decode code pc = .ok (.ireturn, 1)) : W p l e room_1 s m #[Value.ref b] below meth c H [] 601024 7293034 (lw_Z below #[Value.ref b] s) (F0 m pc ls [.int 1]) := by
  intro T hT X
  obtain ⟨fs, hret, hrun, hended, hW, hframe⟩ := X.leave (v := some (.int 1)) (hlocks := hlocks) (fun h => by rw [hr] at h; cases h)
  have hmeth' : T.vm.method? m = some meth := X.method'
  refine ⟨T.setFrames fs, ?_, .returned (some (.int 1)), hrun, hended, rfl, ⟨_, rfl⟩, hW, hframe⟩
  jvm_step X.here [X.here.top, hx, hb, hdg, hmeth', hr, ret, narrow_b1]
  (try refine ⟨rfl, ?_⟩); (try refine ⟨rfl, ?_⟩)
  first | (intro acts; rw [hret _ acts rfl rfl rfl]) | rw [hret _ _ rfl rfl rfl]
  exact Steps.refl _
/-- what holds at the law's entry: the machine, the code, the tables' words (any of lw_tbl by 'hts w (by decide +kernel)'), the script of L ints xs at the cell b, what the Statement gives of the start (any of its parts by flat_of_before) -/
def lw_At (p : Program) (s : State) (m : MethodId) (meth : Method) (c : Code) (b L : Nat) (xs : Nat → Int32) : Prop :=
  p.tables.exec = Jvm.exec ∧ c.code = code ∧ meth.sig.returnType = ret ∧ c.maxLocals = 7 ∧ s.vm.findClass R_law = some m.cls ∧ (∀ w ∈ lw_tbl, w.before #[Value.ref b] s = true) ∧ va_X b L xs s s.heap ∧ b < s.heap.size ∧ meth.locks = false ∧ (Jvm.Cond.and given_1 narrow_1).before #[Value.ref b] s = true
theorem zCase22 (x : Int32) : x = 0 ∨ x = 1 ∨ x = 2 ∨ x = 3 ∨ x = 4 ∨ x = 5 ∨ x = 6 ∨ x = 7 ∨ x = 8 ∨ x = 9 ∨ x = 10 ∨ x = 11 ∨ x = 12 ∨ x = 13 ∨ x = 14 ∨ x = 15 ∨ x = 16 ∨ x = 17 ∨ x = 18 ∨ x = 19 ∨ x = 20 ∨ x = 21 ∨ x = 22 ∨ (x.toInt < 0 ∨ 22 < x.toInt) := by
  by_cases h : x.toInt < 0 ∨ 22 < x.toInt
  · simp [h]
  · have a : x.toInt = 0 ∨ x.toInt = 1 ∨ x.toInt = 2 ∨ x.toInt = 3 ∨ x.toInt = 4 ∨ x.toInt = 5 ∨ x.toInt = 6 ∨ x.toInt = 7 ∨ x.toInt = 8 ∨ x.toInt = 9 ∨ x.toInt = 10 ∨ x.toInt = 11 ∨ x.toInt = 12 ∨ x.toInt = 13 ∨ x.toInt = 14 ∨ x.toInt = 15 ∨ x.toInt = 16 ∨ x.toInt = 17 ∨ x.toInt = 18 ∨ x.toInt = 19 ∨ x.toInt = 20 ∨ x.toInt = 21 ∨ x.toInt = 22 := by omega
    have e : ∀ k : Int32, x.toInt = k.toInt → x = k := fun k q => Int32.toInt_inj.mp q
    rcases a with a | a | a | a | a | a | a | a | a | a | a | a | a | a | a | a | a | a | a | a | a | a | a
    · exact Or.inl (e 0 a)
    · exact Or.inr (Or.inl (e 1 a))
    · exact Or.inr (Or.inr (Or.inl (e 2 a)))
    · exact Or.inr (Or.inr (Or.inr (Or.inl (e 3 a))))
    · exact Or.inr (Or.inr (Or.inr (Or.inr (Or.inl (e 4 a)))))
    · exact Or.inr (Or.inr (Or.inr (Or.inr (Or.inr (Or.inl (e 5 a))))))
    · exact Or.inr (Or.inr (Or.inr (Or.inr (Or.inr (Or.inr (Or.inl (e 6 a)))))))
    · exact Or.inr (Or.inr (Or.inr (Or.inr (Or.inr (Or.inr (Or.inr (Or.inl (e 7 a))))))))
    · exact Or.inr (Or.inr (Or.inr (Or.inr (Or.inr (Or.inr (Or.inr (Or.inr (Or.inl (e 8 a)))))))))
    · exact Or.inr (Or.inr (Or.inr (Or.inr (Or.inr (Or.inr (Or.inr (Or.inr (Or.inr (Or.inl (e 9 a))))))))))
    · exact Or.inr (Or.inr (Or.inr (Or.inr (Or.inr (Or.inr (Or.inr (Or.inr (Or.inr (Or.inr (Or.inl (e 10 a)))))))))))
    · exact Or.inr (Or.inr (Or.inr (Or.inr (Or.inr (Or.inr (Or.inr (Or.inr (Or.inr (Or.inr (Or.inr (Or.inl (e 11 a))))))))))))
    · exact Or.inr (Or.inr (Or.inr (Or.inr (Or.inr (Or.inr (Or.inr (Or.inr (Or.inr (Or.inr (Or.inr (Or.inr (Or.inl (e 12 a)))))))))))))
    · exact Or.inr (Or.inr (Or.inr (Or.inr (Or.inr (Or.inr (Or.inr (Or.inr (Or.inr (Or.inr (Or.inr (Or.inr (Or.inr (Or.inl (e 13 a))))))))))))))
    · exact Or.inr (Or.inr (Or.inr (Or.inr (Or.inr (Or.inr (Or.inr (Or.inr (Or.inr (Or.inr (Or.inr (Or.inr (Or.inr (Or.inr (Or.inl (e 14 a)))))))))))))))
    · exact Or.inr (Or.inr (Or.inr (Or.inr (Or.inr (Or.inr (Or.inr (Or.inr (Or.inr (Or.inr (Or.inr (Or.inr (Or.inr (Or.inr (Or.inr (Or.inl (e 15 a))))))))))))))))
    · exact Or.inr (Or.inr (Or.inr (Or.inr (Or.inr (Or.inr (Or.inr (Or.inr (Or.inr (Or.inr (Or.inr (Or.inr (Or.inr (Or.inr (Or.inr (Or.inr (Or.inl (e 16 a)))))))))))))))))
    · exact Or.inr (Or.inr (Or.inr (Or.inr (Or.inr (Or.inr (Or.inr (Or.inr (Or.inr (Or.inr (Or.inr (Or.inr (Or.inr (Or.inr (Or.inr (Or.inr (Or.inr (Or.inl (e 17 a))))))))))))))))))
    · exact Or.inr (Or.inr (Or.inr (Or.inr (Or.inr (Or.inr (Or.inr (Or.inr (Or.inr (Or.inr (Or.inr (Or.inr (Or.inr (Or.inr (Or.inr (Or.inr (Or.inr (Or.inr (Or.inl (e 18 a)))))))))))))))))))
    · exact Or.inr (Or.inr (Or.inr (Or.inr (Or.inr (Or.inr (Or.inr (Or.inr (Or.inr (Or.inr (Or.inr (Or.inr (Or.inr (Or.inr (Or.inr (Or.inr (Or.inr (Or.inr (Or.inr (Or.inl (e 19 a))))))))))))))))))))
    · exact Or.inr (Or.inr (Or.inr (Or.inr (Or.inr (Or.inr (Or.inr (Or.inr (Or.inr (Or.inr (Or.inr (Or.inr (Or.inr (Or.inr (Or.inr (Or.inr (Or.inr (Or.inr (Or.inr (Or.inr (Or.inl (e 20 a)))))))))))))))))))))
    · exact Or.inr (Or.inr (Or.inr (Or.inr (Or.inr (Or.inr (Or.inr (Or.inr (Or.inr (Or.inr (Or.inr (Or.inr (Or.inr (Or.inr (Or.inr (Or.inr (Or.inr (Or.inr (Or.inr (Or.inr (Or.inr (Or.inl (e 21 a))))))))))))))))))))))
    · exact Or.inr (Or.inr (Or.inr (Or.inr (Or.inr (Or.inr (Or.inr (Or.inr (Or.inr (Or.inr (Or.inr (Or.inr (Or.inr (Or.inr (Or.inr (Or.inr (Or.inr (Or.inr (Or.inr (Or.inr (Or.inr (Or.inr (Or.inl (e 22 a)))))))))))))))))))))))
theorem fl_l {a b c : Jvm.Cond} (h : c ∈ flatC a) : c ∈ flatC (Jvm.Cond.and a b) := List.mem_append_left _ h
theorem fl_r {a b c : Jvm.Cond} (h : c ∈ flatC b) : c ∈ flatC (Jvm.Cond.and a b) := List.mem_append_right _ h
theorem zWord {s : State} {b : Nat} {A : Nat → Prop} (hA : ∀ a : Nat, a < s.heap.size → ¬ A a) (hs : ∀ c ∈ flatC (Jvm.Cond.and given_1 narrow_1), c.before #[Value.ref b] s = true) (k : Nat) (tx : String) (bs : List Int32) (hl : bs.length < 2 ^ 31)
    (h1 : (Cond.stringRef RX11 k tx).before #[Value.ref b] s = true) (h2 : Cond.exactly (.string RX11 k) "java/lang/String" ∈ flatC (Jvm.Cond.and given_1 narrow_1)) (h3 : Cond.eq (.field (.string RX11 k) "java/lang/String" "coder" "B") (.int 0) ∈ flatC (Jvm.Cond.and given_1 narrow_1)) (h4 : Cond.arrayOf (.field (.string RX11 k) "java/lang/String" "value" "[B") .byte ∈ flatC (Jvm.Cond.and given_1 narrow_1)) (h5 : Cond.eq (.length (.field (.string RX11 k) "java/lang/String" "value" "[B")) (.int (Int32.ofNat bs.length)) ∈ flatC (Jvm.Cond.and given_1 narrow_1))
    (h6 : ∀ j : Nat, j < bs.length → Cond.eq (.elem (.field (.string RX11 k) "java/lang/String" "value" "[B") (.int (Int32.ofNat j))) (.int (bs.getD j 0)) ∈ flatC (Jvm.Cond.and given_1 narrow_1)) :
    ∃ w : Nat, (∃ v : Nat, vk_S 1 [bs.length] [bs] (fun _ => w) (fun _ => v) A s s.heap) ∧ vk_R RX11 k tx w s := by
  have z : ∀ i : Nat, i < 1 → i = 0 := fun i h => by omega
  obtain ⟨adK, adV, q1, q2⟩ := vk_Sof (args := #[Value.ref b]) (s := s) (N := 1) (tm := fun _ => .string RX11 k) (len := [bs.length]) (byt := [bs]) (A := A) (fun i h => by rw [z i h]; exact hl) (fun i _ => hs _ h2) (fun i _ => hs _ h3) (fun i _ => hs _ h4) (fun i h => by rw [z i h]; exact hs _ h5) (fun i h j hj => by rw [z i h] at hj ⊢; exact hs _ (h6 j hj)) (fun i j hi hj n => absurd ((z i hi).trans (z j hj).symm) n) hA
  refine ⟨adK 0, ⟨adV 0, ⟨fun i h => by rw [z i h]; exact q1.1 0 (by decide), fun i j hi hj _ => (z i hi).trans (z j hj).symm⟩⟩, vk_R.of h1 (q2 0 (by decide))⟩
set_option maxRecDepth 100000 in
theorem zWord0 {s : State} {b : Nat} {A : Nat → Prop} (hA : ∀ a : Nat, a < s.heap.size → ¬ A a) (hts : ∀ w ∈ lw_tbl, w.before #[Value.ref b] s = true) (hs : ∀ c ∈ flatC (Jvm.Cond.and given_1 narrow_1), c.before #[Value.ref b] s = true) : ∃ w : Nat, (∃ v : Nat, vk_S 1 [([112, 108, 97, 99, 101] : List Int32).length] [[112, 108, 97, 99, 101]] (fun _ => w) (fun _ => v) A s s.heap) ∧ vk_R RX11 401 "place" w s := zWord hA hs 401 "place" [112, 108, 97, 99, 101] (by decide) (hts _ (by decide +kernel)) (fl_r (fl_l (fl_r (fl_r (fl_l (fl_l (fl_r (fl_r (fl_r (fl_r (fl_l (by decide +kernel)))))))))))) (fl_r (fl_l (fl_r (fl_r (fl_l (fl_l (fl_r (fl_r (fl_r (fl_r (fl_r (by decide +kernel)))))))))))) (fl_r (fl_l (fl_r (fl_r (fl_l (fl_r (fl_l (fl_l (fl_l (fl_l (by decide +kernel))))))))))) (fl_r (fl_l (fl_r (fl_r (fl_l (fl_r (fl_l (fl_l (fl_l (fl_r (fl_l (by decide +kernel)))))))))))) (fun j h => by
  match j, h with
  | 0, _ => exact fl_r (fl_l (fl_r (fl_r (fl_l (fl_r (fl_l (fl_l (fl_l (fl_r (fl_r (by decide +kernel)))))))))))
  | 1, _ => exact fl_r (fl_l (fl_r (fl_r (fl_l (fl_r (fl_l (fl_l (fl_r (fl_l (fl_l (by decide +kernel)))))))))))
  | 2, _ => exact fl_r (fl_l (fl_r (fl_r (fl_l (fl_r (fl_l (fl_l (fl_r (fl_l (fl_r (by decide +kernel)))))))))))
  | 3, _ => exact fl_r (fl_l (fl_r (fl_r (fl_l (fl_r (fl_l (fl_l (fl_r (fl_r (fl_l (by decide +kernel)))))))))))
  | 4, _ => exact fl_r (fl_l (fl_r (fl_r (fl_l (fl_r (fl_l (fl_l (fl_r (fl_r (fl_r (by decide +kernel)))))))))))
  | k + 5, h => exact absurd h (by show ¬ (k + 5 < 5); omega))
set_option maxRecDepth 100000 in
theorem zWord1 {s : State} {b : Nat} {A : Nat → Prop} (hA : ∀ a : Nat, a < s.heap.size → ¬ A a) (hts : ∀ w ∈ lw_tbl, w.before #[Value.ref b] s = true) (hs : ∀ c ∈ flatC (Jvm.Cond.and given_1 narrow_1), c.before #[Value.ref b] s = true) : ∃ w : Nat, (∃ v : Nat, vk_S 1 [([98, 101, 104, 105, 110, 100] : List Int32).length] [[98, 101, 104, 105, 110, 100]] (fun _ => w) (fun _ => v) A s s.heap) ∧ vk_R RX11 424 "behind" w s := zWord hA hs 424 "behind" [98, 101, 104, 105, 110, 100] (by decide) (hts _ (by decide +kernel)) (fl_r (fl_l (fl_r (fl_r (fl_l (fl_r (fl_l (fl_r (fl_r (fl_r (fl_l (by decide +kernel)))))))))))) (fl_r (fl_l (fl_r (fl_r (fl_l (fl_r (fl_l (fl_r (fl_r (fl_r (fl_r (by decide +kernel)))))))))))) (fl_r (fl_l (fl_r (fl_r (fl_l (fl_r (fl_r (fl_l (fl_l (fl_l (fl_l (by decide +kernel)))))))))))) (fl_r (fl_l (fl_r (fl_r (fl_l (fl_r (fl_r (fl_l (fl_l (fl_l (fl_r (by decide +kernel)))))))))))) (fun j h => by
  match j, h with
  | 0, _ => exact fl_r (fl_l (fl_r (fl_r (fl_l (fl_r (fl_r (fl_l (fl_l (fl_r (fl_l (by decide +kernel)))))))))))
  | 1, _ => exact fl_r (fl_l (fl_r (fl_r (fl_l (fl_r (fl_r (fl_l (fl_l (fl_r (fl_r (by decide +kernel)))))))))))
  | 2, _ => exact fl_r (fl_l (fl_r (fl_r (fl_l (fl_r (fl_r (fl_l (fl_r (fl_l (fl_l (by decide +kernel)))))))))))
  | 3, _ => exact fl_r (fl_l (fl_r (fl_r (fl_l (fl_r (fl_r (fl_l (fl_r (fl_l (fl_r (by decide +kernel)))))))))))
  | 4, _ => exact fl_r (fl_l (fl_r (fl_r (fl_l (fl_r (fl_r (fl_l (fl_r (fl_r (fl_l (by decide +kernel)))))))))))
  | 5, _ => exact fl_r (fl_l (fl_r (fl_r (fl_l (fl_r (fl_r (fl_l (fl_r (fl_r (fl_r (by decide +kernel)))))))))))
  | k + 6, h => exact absurd h (by show ¬ (k + 6 < 6); omega))
set_option maxRecDepth 100000 in
theorem zWord2 {s : State} {b : Nat} {A : Nat → Prop} (hA : ∀ a : Nat, a < s.heap.size → ¬ A a) (hts : ∀ w ∈ lw_tbl, w.before #[Value.ref b] s = true) (hs : ∀ c ∈ flatC (Jvm.Cond.and given_1 narrow_1), c.before #[Value.ref b] s = true) : ∃ w : Nat, (∃ v : Nat, vk_S 1 [([112, 111, 115, 116] : List Int32).length] [[112, 111, 115, 116]] (fun _ => w) (fun _ => v) A s s.heap) ∧ vk_R RX11 426 "post" w s := zWord hA hs 426 "post" [112, 111, 115, 116] (by decide) (hts _ (by decide +kernel)) (fl_r (fl_l (fl_r (fl_r (fl_l (fl_r (fl_r (fl_r (fl_l (fl_l (fl_l (by decide +kernel)))))))))))) (fl_r (fl_l (fl_r (fl_r (fl_l (fl_r (fl_r (fl_r (fl_l (fl_l (fl_r (by decide +kernel)))))))))))) (fl_r (fl_l (fl_r (fl_r (fl_l (fl_r (fl_r (fl_r (fl_l (fl_r (fl_l (by decide +kernel)))))))))))) (fl_r (fl_l (fl_r (fl_r (fl_l (fl_r (fl_r (fl_r (fl_l (fl_r (fl_r (by decide +kernel)))))))))))) (fun j h => by
  match j, h with
  | 0, _ => exact fl_r (fl_l (fl_r (fl_r (fl_l (fl_r (fl_r (fl_r (fl_r (fl_l (fl_l (by decide +kernel)))))))))))
  | 1, _ => exact fl_r (fl_l (fl_r (fl_r (fl_l (fl_r (fl_r (fl_r (fl_r (fl_l (fl_r (by decide +kernel)))))))))))
  | 2, _ => exact fl_r (fl_l (fl_r (fl_r (fl_l (fl_r (fl_r (fl_r (fl_r (fl_r (fl_l (by decide +kernel)))))))))))
  | 3, _ => exact fl_r (fl_l (fl_r (fl_r (fl_l (fl_r (fl_r (fl_r (fl_r (fl_r (fl_r (by decide +kernel)))))))))))
  | k + 4, h => exact absurd h (by show ¬ (k + 4 < 4); omega))
set_option maxRecDepth 100000 in
theorem zWord3 {s : State} {b : Nat} {A : Nat → Prop} (hA : ∀ a : Nat, a < s.heap.size → ¬ A a) (hts : ∀ w ∈ lw_tbl, w.before #[Value.ref b] s = true) (hs : ∀ c ∈ flatC (Jvm.Cond.and given_1 narrow_1), c.before #[Value.ref b] s = true) : ∃ w : Nat, (∃ v : Nat, vk_S 1 [([102, 114, 101, 101] : List Int32).length] [[102, 114, 101, 101]] (fun _ => w) (fun _ => v) A s s.heap) ∧ vk_R RX11 427 "free" w s := zWord hA hs 427 "free" [102, 114, 101, 101] (by decide) (hts _ (by decide +kernel)) (fl_r (fl_l (fl_r (fl_r (fl_r (fl_l (fl_l (fl_l (fl_l (fl_l (by decide +kernel))))))))))) (fl_r (fl_l (fl_r (fl_r (fl_r (fl_l (fl_l (fl_l (fl_l (fl_r (fl_l (by decide +kernel)))))))))))) (fl_r (fl_l (fl_r (fl_r (fl_r (fl_l (fl_l (fl_l (fl_l (fl_r (fl_r (by decide +kernel)))))))))))) (fl_r (fl_l (fl_r (fl_r (fl_r (fl_l (fl_l (fl_l (fl_r (fl_l (fl_l (by decide +kernel)))))))))))) (fun j h => by
  match j, h with
  | 0, _ => exact fl_r (fl_l (fl_r (fl_r (fl_r (fl_l (fl_l (fl_l (fl_r (fl_l (fl_r (by decide +kernel)))))))))))
  | 1, _ => exact fl_r (fl_l (fl_r (fl_r (fl_r (fl_l (fl_l (fl_l (fl_r (fl_r (fl_l (by decide +kernel)))))))))))
  | 2, _ => exact fl_r (fl_l (fl_r (fl_r (fl_r (fl_l (fl_l (fl_l (fl_r (fl_r (fl_r (by decide +kernel)))))))))))
  | 3, _ => exact fl_r (fl_l (fl_r (fl_r (fl_r (fl_l (fl_l (fl_r (fl_l (fl_l (fl_l (by decide +kernel)))))))))))
  | k + 4, h => exact absurd h (by show ¬ (k + 4 < 4); omega))
set_option maxRecDepth 100000 in
theorem zWord4 {s : State} {b : Nat} {A : Nat → Prop} (hA : ∀ a : Nat, a < s.heap.size → ¬ A a) (hts : ∀ w ∈ lw_tbl, w.before #[Value.ref b] s = true) (hs : ∀ c ∈ flatC (Jvm.Cond.and given_1 narrow_1), c.before #[Value.ref b] s = true) : ∃ w : Nat, (∃ v : Nat, vk_S 1 [([98, 97, 99, 107] : List Int32).length] [[98, 97, 99, 107]] (fun _ => w) (fun _ => v) A s s.heap) ∧ vk_R RX11 429 "back" w s := zWord hA hs 429 "back" [98, 97, 99, 107] (by decide) (hts _ (by decide +kernel)) (fl_r (fl_l (fl_r (fl_r (fl_r (fl_l (fl_l (fl_r (fl_l (fl_l (fl_r (by decide +kernel)))))))))))) (fl_r (fl_l (fl_r (fl_r (fl_r (fl_l (fl_l (fl_r (fl_l (fl_r (fl_l (by decide +kernel)))))))))))) (fl_r (fl_l (fl_r (fl_r (fl_r (fl_l (fl_l (fl_r (fl_l (fl_r (fl_r (by decide +kernel)))))))))))) (fl_r (fl_l (fl_r (fl_r (fl_r (fl_l (fl_l (fl_r (fl_r (fl_l (fl_l (by decide +kernel)))))))))))) (fun j h => by
  match j, h with
  | 0, _ => exact fl_r (fl_l (fl_r (fl_r (fl_r (fl_l (fl_l (fl_r (fl_r (fl_l (fl_r (by decide +kernel)))))))))))
  | 1, _ => exact fl_r (fl_l (fl_r (fl_r (fl_r (fl_l (fl_l (fl_r (fl_r (fl_r (fl_l (by decide +kernel)))))))))))
  | 2, _ => exact fl_r (fl_l (fl_r (fl_r (fl_r (fl_l (fl_l (fl_r (fl_r (fl_r (fl_r (by decide +kernel)))))))))))
  | 3, _ => exact fl_r (fl_l (fl_r (fl_r (fl_r (fl_l (fl_r (fl_l (fl_l (fl_l (fl_l (by decide +kernel)))))))))))
  | k + 4, h => exact absurd h (by show ¬ (k + 4 < 4); omega))
set_option maxRecDepth 100000 in
theorem zWord5 {s : State} {b : Nat} {A : Nat → Prop} (hA : ∀ a : Nat, a < s.heap.size → ¬ A a) (hts : ∀ w ∈ lw_tbl, w.before #[Value.ref b] s = true) (hs : ∀ c ∈ flatC (Jvm.Cond.and given_1 narrow_1), c.before #[Value.ref b] s = true) : ∃ w : Nat, (∃ v : Nat, vk_S 1 [([98, 121] : List Int32).length] [[98, 121]] (fun _ => w) (fun _ => v) A s s.heap) ∧ vk_R RX11 435 "by" w s := zWord hA hs 435 "by" [98, 121] (by decide) (hts _ (by decide +kernel)) (fl_r (fl_l (fl_r (fl_r (fl_l (fl_r (fl_l (fl_r (fl_l (fl_l (fl_l (by decide +kernel)))))))))))) (fl_r (fl_l (fl_r (fl_r (fl_l (fl_r (fl_l (fl_r (fl_l (fl_l (fl_r (by decide +kernel)))))))))))) (fl_r (fl_l (fl_r (fl_r (fl_l (fl_r (fl_l (fl_r (fl_l (fl_r (fl_l (by decide +kernel)))))))))))) (fl_r (fl_l (fl_r (fl_r (fl_l (fl_r (fl_l (fl_r (fl_l (fl_r (fl_r (by decide +kernel)))))))))))) (fun j h => by
  match j, h with
  | 0, _ => exact fl_r (fl_l (fl_r (fl_r (fl_l (fl_r (fl_l (fl_r (fl_r (fl_l (fl_l (by decide +kernel)))))))))))
  | 1, _ => exact fl_r (fl_l (fl_r (fl_r (fl_l (fl_r (fl_l (fl_r (fl_r (fl_l (fl_r (by decide +kernel)))))))))))
  | k + 2, h => exact absurd h (by show ¬ (k + 2 < 2); omega))
set_option maxRecDepth 100000 in
theorem zWord6 {s : State} {b : Nat} {A : Nat → Prop} (hA : ∀ a : Nat, a < s.heap.size → ¬ A a) (hts : ∀ w ∈ lw_tbl, w.before #[Value.ref b] s = true) (hs : ∀ c ∈ flatC (Jvm.Cond.and given_1 narrow_1), c.before #[Value.ref b] s = true) : ∃ w : Nat, (∃ v : Nat, vk_S 1 [([120] : List Int32).length] [[120]] (fun _ => w) (fun _ => v) A s s.heap) ∧ vk_R RX11 443 "x" w s := zWord hA hs 443 "x" [120] (by decide) (hts _ (by decide +kernel)) (fl_r (fl_r (fl_l (fl_l (fl_l (fl_l (fl_r (fl_l (fl_r (fl_l (fl_l (by decide +kernel)))))))))))) (fl_r (fl_r (fl_l (fl_l (fl_l (fl_l (fl_r (fl_l (fl_r (fl_l (fl_r (by decide +kernel)))))))))))) (fl_r (fl_r (fl_l (fl_l (fl_l (fl_l (fl_r (fl_l (fl_r (fl_r (fl_l (by decide +kernel)))))))))))) (fl_r (fl_r (fl_l (fl_l (fl_l (fl_l (fl_r (fl_l (fl_r (fl_r (fl_r (by decide +kernel)))))))))))) (fun j h => by
  match j, h with
  | 0, _ => exact fl_r (fl_r (fl_l (fl_l (fl_l (fl_l (fl_r (fl_r (fl_l (fl_l (fl_l (by decide +kernel)))))))))))
  | k + 1, h => exact absurd h (by show ¬ (k + 1 < 1); omega))
set_option maxRecDepth 100000 in
theorem zWord7 {s : State} {b : Nat} {A : Nat → Prop} (hA : ∀ a : Nat, a < s.heap.size → ¬ A a) (hts : ∀ w ∈ lw_tbl, w.before #[Value.ref b] s = true) (hs : ∀ c ∈ flatC (Jvm.Cond.and given_1 narrow_1), c.before #[Value.ref b] s = true) : ∃ w : Nat, (∃ v : Nat, vk_S 1 [([115, 117, 109] : List Int32).length] [[115, 117, 109]] (fun _ => w) (fun _ => v) A s s.heap) ∧ vk_R RX11 449 "sum" w s := zWord hA hs 449 "sum" [115, 117, 109] (by decide) (hts _ (by decide +kernel)) (fl_r (fl_r (fl_l (fl_l (fl_l (fl_l (fl_r (fl_r (fl_l (fl_l (fl_r (by decide +kernel)))))))))))) (fl_r (fl_r (fl_l (fl_l (fl_l (fl_l (fl_r (fl_r (fl_l (fl_r (fl_l (by decide +kernel)))))))))))) (fl_r (fl_r (fl_l (fl_l (fl_l (fl_l (fl_r (fl_r (fl_l (fl_r (fl_r (by decide +kernel)))))))))))) (fl_r (fl_r (fl_l (fl_l (fl_l (fl_l (fl_r (fl_r (fl_r (fl_l (fl_l (by decide +kernel)))))))))))) (fun j h => by
  match j, h with
  | 0, _ => exact fl_r (fl_r (fl_l (fl_l (fl_l (fl_l (fl_r (fl_r (fl_r (fl_l (fl_r (by decide +kernel)))))))))))
  | 1, _ => exact fl_r (fl_r (fl_l (fl_l (fl_l (fl_l (fl_r (fl_r (fl_r (fl_r (fl_l (by decide +kernel)))))))))))
  | 2, _ => exact fl_r (fl_r (fl_l (fl_l (fl_l (fl_l (fl_r (fl_r (fl_r (fl_r (fl_r (by decide +kernel)))))))))))
  | k + 3, h => exact absurd h (by show ¬ (k + 3 < 3); omega))
set_option maxRecDepth 100000 in
theorem zWord8 {s : State} {b : Nat} {A : Nat → Prop} (hA : ∀ a : Nat, a < s.heap.size → ¬ A a) (hts : ∀ w ∈ lw_tbl, w.before #[Value.ref b] s = true) (hs : ∀ c ∈ flatC (Jvm.Cond.and given_1 narrow_1), c.before #[Value.ref b] s = true) : ∃ w : Nat, (∃ v : Nat, vk_S 1 [([109, 111, 110, 101, 121] : List Int32).length] [[109, 111, 110, 101, 121]] (fun _ => w) (fun _ => v) A s s.heap) ∧ vk_R RX11 451 "money" w s := zWord hA hs 451 "money" [109, 111, 110, 101, 121] (by decide) (hts _ (by decide +kernel)) (fl_r (fl_r (fl_l (fl_l (fl_l (fl_r (fl_l (fl_l (fl_l (fl_l (by decide +kernel))))))))))) (fl_r (fl_r (fl_l (fl_l (fl_l (fl_r (fl_l (fl_l (fl_l (fl_r (fl_l (by decide +kernel)))))))))))) (fl_r (fl_r (fl_l (fl_l (fl_l (fl_r (fl_l (fl_l (fl_l (fl_r (fl_r (by decide +kernel)))))))))))) (fl_r (fl_r (fl_l (fl_l (fl_l (fl_r (fl_l (fl_l (fl_r (fl_l (fl_l (by decide +kernel)))))))))))) (fun j h => by
  match j, h with
  | 0, _ => exact fl_r (fl_r (fl_l (fl_l (fl_l (fl_r (fl_l (fl_l (fl_r (fl_l (fl_r (by decide +kernel)))))))))))
  | 1, _ => exact fl_r (fl_r (fl_l (fl_l (fl_l (fl_r (fl_l (fl_l (fl_r (fl_r (fl_l (by decide +kernel)))))))))))
  | 2, _ => exact fl_r (fl_r (fl_l (fl_l (fl_l (fl_r (fl_l (fl_l (fl_r (fl_r (fl_r (by decide +kernel)))))))))))
  | 3, _ => exact fl_r (fl_r (fl_l (fl_l (fl_l (fl_r (fl_l (fl_r (fl_l (fl_l (fl_l (by decide +kernel)))))))))))
  | 4, _ => exact fl_r (fl_r (fl_l (fl_l (fl_l (fl_r (fl_l (fl_r (fl_l (fl_l (fl_r (by decide +kernel)))))))))))
  | k + 5, h => exact absurd h (by show ¬ (k + 5 < 5); omega))
set_option maxRecDepth 100000 in
theorem zTx_a : ∀ q ∈ zTx, Cond.exactly (.string RX11 q.1) "java/lang/String" ∈ flatC (Jvm.Cond.and given_1 narrow_1) := List.forall_mem_cons.mpr ⟨(fl_r (fl_l (fl_l (fl_r (fl_l (fl_l (fl_l (fl_r (fl_r (fl_r (fl_r (by decide +kernel)))))))))))), List.forall_mem_cons.mpr ⟨(fl_r (fl_l (fl_l (fl_r (fl_l (fl_r (fl_r (fl_r (fl_r (fl_r (fl_r (by decide +kernel)))))))))))), List.forall_mem_cons.mpr ⟨(fl_r (fl_l (fl_l (fl_r (fl_r (fl_r (fl_l (fl_l (fl_l (fl_r (fl_l (by decide +kernel)))))))))))), List.forall_mem_cons.mpr ⟨(fl_r (fl_l (fl_r (fl_l (fl_l (fl_l (fl_l (fl_r (fl_l (fl_l (fl_l (by decide +kernel)))))))))))), List.forall_mem_cons.mpr ⟨(fl_r (fl_l (fl_r (fl_l (fl_l (fl_r (fl_r (fl_r (fl_l (fl_l (fl_l (by decide +kernel)))))))))))), List.forall_mem_cons.mpr ⟨(fl_r (fl_l (fl_r (fl_l (fl_r (fl_l (fl_r (fl_r (fl_l (fl_l (fl_r (by decide +kernel)))))))))))), List.forall_mem_cons.mpr ⟨(fl_r (fl_l (fl_r (fl_r (fl_l (fl_l (fl_l (fl_l (fl_r (fl_r (fl_r (by decide +kernel)))))))))))), List.forall_mem_cons.mpr ⟨(fl_r (fl_l (fl_r (fl_r (fl_r (fl_l (fl_r (fl_l (fl_l (fl_l (fl_r (by decide +kernel)))))))))))), List.forall_mem_cons.mpr ⟨(fl_r (fl_l (fl_r (fl_r (fl_r (fl_r (fl_r (fl_l (fl_r (fl_l (fl_l (by decide +kernel)))))))))))), List.forall_mem_cons.mpr ⟨(fl_r (fl_r (fl_l (fl_l (fl_l (fl_r (fl_l (fl_r (fl_l (fl_r (fl_l (by decide +kernel)))))))))))), List.forall_mem_cons.mpr ⟨(fl_r (fl_r (fl_l (fl_l (fl_r (fl_r (fl_r (fl_l (fl_r (fl_r (fl_r (by decide +kernel)))))))))))), List.forall_mem_cons.mpr ⟨(fl_r (fl_r (fl_l (fl_r (fl_l (fl_r (fl_l (fl_l (fl_l (fl_r (fl_r (by decide +kernel)))))))))))), List.forall_mem_cons.mpr ⟨(fl_r (fl_r (fl_l (fl_r (fl_l (fl_r (fl_r (fl_r (fl_r (fl_r (fl_r (by decide +kernel)))))))))))), List.forall_mem_cons.mpr ⟨(fl_r (fl_r (fl_l (fl_r (fl_r (fl_l (fl_r (fl_r (fl_l (fl_r (fl_r (by decide +kernel)))))))))))), List.forall_mem_cons.mpr ⟨(fl_r (fl_r (fl_r (fl_l (fl_l (fl_l (fl_l (fl_r (fl_l (fl_r (fl_r (by decide +kernel)))))))))))), List.forall_mem_cons.mpr ⟨(fl_r (fl_r (fl_r (fl_l (fl_l (fl_r (fl_r (fl_r (fl_l (fl_r (fl_l (by decide +kernel)))))))))))), List.forall_mem_cons.mpr ⟨(fl_r (fl_r (fl_r (fl_l (fl_r (fl_l (fl_r (fl_l (fl_r (fl_r (fl_l (by decide +kernel)))))))))))), List.forall_mem_cons.mpr ⟨(fl_r (fl_r (fl_r (fl_l (fl_r (fl_r (fl_r (fl_l (fl_r (fl_l (fl_l (by decide +kernel)))))))))))), List.forall_mem_cons.mpr ⟨(fl_r (fl_r (fl_r (fl_r (fl_l (fl_l (fl_l (fl_r (fl_l (fl_l (fl_l (by decide +kernel)))))))))))), List.forall_mem_cons.mpr ⟨(fl_r (fl_r (fl_r (fl_r (fl_l (fl_r (fl_l (fl_r (fl_l (fl_l (fl_l (by decide +kernel)))))))))))), List.forall_mem_cons.mpr ⟨(fl_r (fl_r (fl_r (fl_r (fl_r (fl_l (fl_r (fl_r (fl_r (fl_l (fl_r (by decide +kernel)))))))))))), List.forall_mem_cons.mpr ⟨(fl_r (fl_l (fl_l (fl_r (fl_r (fl_r (fl_r (fl_l (fl_r (fl_r (fl_l (by decide +kernel)))))))))))), List.forall_mem_cons.mpr ⟨(fl_r (fl_r (fl_l (fl_r (fl_l (fl_l (fl_r (fl_l (fl_l (fl_l (by decide +kernel))))))))))), List.forall_mem_cons.mpr ⟨(fl_r (fl_r (fl_l (fl_r (fl_r (fl_r (fl_r (fl_r (fl_l (fl_l (fl_r (by decide +kernel)))))))))))), List.forall_mem_cons.mpr ⟨(fl_r (fl_r (fl_r (fl_l (fl_l (fl_r (fl_l (fl_r (fl_l (fl_r (fl_l (by decide +kernel)))))))))))), List.forall_mem_cons.mpr ⟨(fl_r (fl_r (fl_l (fl_l (fl_r (fl_l (fl_l (fl_r (fl_r (fl_r (fl_l (by decide +kernel)))))))))))), (fun _ h => absurd h List.not_mem_nil)⟩⟩⟩⟩⟩⟩⟩⟩⟩⟩⟩⟩⟩⟩⟩⟩⟩⟩⟩⟩⟩⟩⟩⟩⟩⟩
theorem zTx_b : ∀ q ∈ zTx, Cond.stringRef RX11 q.1 q.2 ∈ lw_tbl := by decide +kernel
set_option maxRecDepth 100000 in
theorem zTx_in : ∀ q ∈ zTx, Cond.exactly (.string RX11 q.1) "java/lang/String" ∈ flatC (Jvm.Cond.and given_1 narrow_1) ∧ Cond.stringRef RX11 q.1 q.2 ∈ lw_tbl := fun q h => ⟨zTx_a q h, zTx_b q h⟩
theorem zNe_in : ∀ q ∈ zNe, Cond.methodLinkNest q.1 q.2.1 q.2.2 RX11 ∈ lw_tbl := by decide +kernel
theorem zAO_in : ∀ C ∈ zAO, Cond.arrayOver (.object C) ∈ lw_tbl := by decide +kernel
theorem zDe_in : ∀ x ∈ zDe, Cond.declares x ∈ lw_tbl := by decide +kernel
theorem zEx_in : ∀ C ∈ zEx, Cond.castable C C ∈ lw_tbl := by decide +kernel
set_option maxRecDepth 100000 in
theorem zSta0 {s : State} {b : Nat} {A : Nat → Prop} (hA : ∀ a : Nat, a < s.heap.size → ¬ A a) (hts : ∀ w ∈ lw_tbl, w.before #[Value.ref b] s = true) (hs : ∀ c ∈ flatC (Jvm.Cond.and given_1 narrow_1), c.before #[Value.ref b] s = true) : ∃ t : Nat, va_Z "PostHouse$Rules" "MOST" "[I" (.ref t) A s s.heap ∧ va_T .int t 4 (fun j => .int (([99, 9999, 999999, 99] : List Int32).getD j 0)) A s s.heap := by
  obtain ⟨t, h1, h2⟩ := va_Tof (tm := (.static "PostHouse$Rules" "MOST" "[I")) (ty := .int) (N := 4) (f := fun j => .int (([99, 9999, 999999, 99] : List Int32).getD j 0)) (by decide) (hs (.arrayOf (.static "PostHouse$Rules" "MOST" "[I") .int) (by decide +kernel)) (va_eqt (z := 4) (hs (.eq (.length (.static "PostHouse$Rules" "MOST" "[I")) (.int 4)) (by decide +kernel))) (fun j hj => by
    match j, hj with
    | 0, _ => exact va_eqt (z := 99) (hs (.eq (.elem (.static "PostHouse$Rules" "MOST" "[I") (.int 0)) (.int 99)) (by decide +kernel))
    | 1, _ => exact va_eqt (z := 9999) (hs (.eq (.elem (.static "PostHouse$Rules" "MOST" "[I") (.int 1)) (.int 9999)) (by decide +kernel))
    | 2, _ => exact va_eqt (z := 999999) (hs (.eq (.elem (.static "PostHouse$Rules" "MOST" "[I") (.int 2)) (.int 999999)) (by decide +kernel))
    | 3, _ => exact va_eqt (z := 99) (hs (.eq (.elem (.static "PostHouse$Rules" "MOST" "[I") (.int 3)) (.int 99)) (by decide +kernel))
    | k + 4, h => exact absurd h (by omega)) hA
  exact ⟨t, va_Zref (hts (.laysStatic "PostHouse$Rules" "MOST" "[I") (by decide +kernel)) (hts (.initialized "PostHouse$Rules") (by decide +kernel)) h1 hA, h2⟩
set_option maxRecDepth 100000 in
theorem zSta1 {s : State} {b : Nat} {A : Nat → Prop} (hA : ∀ a : Nat, a < s.heap.size → ¬ A a) (hts : ∀ w ∈ lw_tbl, w.before #[Value.ref b] s = true) (hs : ∀ c ∈ flatC (Jvm.Cond.and given_1 narrow_1), c.before #[Value.ref b] s = true) : ∃ t : Nat, va_Z "PostHouse$Walk" "LANE_FRONT" "[I" (.ref t) A s s.heap ∧ va_T .int t 6 (fun j => .int (([1, 2, 0, 2, 2, 0] : List Int32).getD j 0)) A s s.heap := by
  obtain ⟨t, h1, h2⟩ := va_Tof (tm := (.static "PostHouse$Walk" "LANE_FRONT" "[I")) (ty := .int) (N := 6) (f := fun j => .int (([1, 2, 0, 2, 2, 0] : List Int32).getD j 0)) (by decide) (hs (.arrayOf (.static "PostHouse$Walk" "LANE_FRONT" "[I") .int) (by decide +kernel)) (va_eqt (z := 6) (hs (.eq (.length (.static "PostHouse$Walk" "LANE_FRONT" "[I")) (.int 6)) (by decide +kernel))) (fun j hj => by
    match j, hj with
    | 0, _ => exact va_eqt (z := 1) (hs (.eq (.elem (.static "PostHouse$Walk" "LANE_FRONT" "[I") (.int 0)) (.int 1)) (by decide +kernel))
    | 1, _ => exact va_eqt (z := 2) (hs (.eq (.elem (.static "PostHouse$Walk" "LANE_FRONT" "[I") (.int 1)) (.int 2)) (by decide +kernel))
    | 2, _ => exact va_eqt (z := 0) (hs (.eq (.elem (.static "PostHouse$Walk" "LANE_FRONT" "[I") (.int 2)) (.int 0)) (by decide +kernel))
    | 3, _ => exact va_eqt (z := 2) (hs (.eq (.elem (.static "PostHouse$Walk" "LANE_FRONT" "[I") (.int 3)) (.int 2)) (by decide +kernel))
    | 4, _ => exact va_eqt (z := 2) (hs (.eq (.elem (.static "PostHouse$Walk" "LANE_FRONT" "[I") (.int 4)) (.int 2)) (by decide +kernel))
    | 5, _ => exact va_eqt (z := 0) (hs (.eq (.elem (.static "PostHouse$Walk" "LANE_FRONT" "[I") (.int 5)) (.int 0)) (by decide +kernel))
    | k + 6, h => exact absurd h (by omega)) hA
  exact ⟨t, va_Zref (hts (.laysStatic "PostHouse$Walk" "LANE_FRONT" "[I") (by decide +kernel)) (hts (.initialized "PostHouse$Walk") (by decide +kernel)) h1 hA, h2⟩
set_option maxRecDepth 100000 in
theorem zSta2 {s : State} {b : Nat} {A : Nat → Prop} (hA : ∀ a : Nat, a < s.heap.size → ¬ A a) (hts : ∀ w ∈ lw_tbl, w.before #[Value.ref b] s = true) (hs : ∀ c ∈ flatC (Jvm.Cond.and given_1 narrow_1), c.before #[Value.ref b] s = true) : ∃ t : Nat, va_Z "PostHouse$Walk" "LANE_BACK" "[I" (.ref t) A s s.heap ∧ va_T .int t 6 (fun j => .int (([1, 0, 2, 2, 2, 0] : List Int32).getD j 0)) A s s.heap := by
  obtain ⟨t, h1, h2⟩ := va_Tof (tm := (.static "PostHouse$Walk" "LANE_BACK" "[I")) (ty := .int) (N := 6) (f := fun j => .int (([1, 0, 2, 2, 2, 0] : List Int32).getD j 0)) (by decide) (hs (.arrayOf (.static "PostHouse$Walk" "LANE_BACK" "[I") .int) (by decide +kernel)) (va_eqt (z := 6) (hs (.eq (.length (.static "PostHouse$Walk" "LANE_BACK" "[I")) (.int 6)) (by decide +kernel))) (fun j hj => by
    match j, hj with
    | 0, _ => exact va_eqt (z := 1) (hs (.eq (.elem (.static "PostHouse$Walk" "LANE_BACK" "[I") (.int 0)) (.int 1)) (by decide +kernel))
    | 1, _ => exact va_eqt (z := 0) (hs (.eq (.elem (.static "PostHouse$Walk" "LANE_BACK" "[I") (.int 1)) (.int 0)) (by decide +kernel))
    | 2, _ => exact va_eqt (z := 2) (hs (.eq (.elem (.static "PostHouse$Walk" "LANE_BACK" "[I") (.int 2)) (.int 2)) (by decide +kernel))
    | 3, _ => exact va_eqt (z := 2) (hs (.eq (.elem (.static "PostHouse$Walk" "LANE_BACK" "[I") (.int 3)) (.int 2)) (by decide +kernel))
    | 4, _ => exact va_eqt (z := 2) (hs (.eq (.elem (.static "PostHouse$Walk" "LANE_BACK" "[I") (.int 4)) (.int 2)) (by decide +kernel))
    | 5, _ => exact va_eqt (z := 0) (hs (.eq (.elem (.static "PostHouse$Walk" "LANE_BACK" "[I") (.int 5)) (.int 0)) (by decide +kernel))
    | k + 6, h => exact absurd h (by omega)) hA
  exact ⟨t, va_Zref (hts (.laysStatic "PostHouse$Walk" "LANE_BACK" "[I") (by decide +kernel)) (hts (.initialized "PostHouse$Walk") (by decide +kernel)) h1 hA, h2⟩
set_option maxRecDepth 100000 in
theorem zSta3 {s : State} {b : Nat} {A : Nat → Prop} (hA : ∀ a : Nat, a < s.heap.size → ¬ A a) (hts : ∀ w ∈ lw_tbl, w.before #[Value.ref b] s = true) (hs : ∀ c ∈ flatC (Jvm.Cond.and given_1 narrow_1), c.before #[Value.ref b] s = true) : ∃ t : Nat, va_Z "PostHouse$Walk" "WAY_FRONT" "[I" (.ref t) A s s.heap ∧ va_T .int t 6 (fun j => .int (([1, 2, 2, 0, 2, 0] : List Int32).getD j 0)) A s s.heap := by
  obtain ⟨t, h1, h2⟩ := va_Tof (tm := (.static "PostHouse$Walk" "WAY_FRONT" "[I")) (ty := .int) (N := 6) (f := fun j => .int (([1, 2, 2, 0, 2, 0] : List Int32).getD j 0)) (by decide) (hs (.arrayOf (.static "PostHouse$Walk" "WAY_FRONT" "[I") .int) (by decide +kernel)) (va_eqt (z := 6) (hs (.eq (.length (.static "PostHouse$Walk" "WAY_FRONT" "[I")) (.int 6)) (by decide +kernel))) (fun j hj => by
    match j, hj with
    | 0, _ => exact va_eqt (z := 1) (hs (.eq (.elem (.static "PostHouse$Walk" "WAY_FRONT" "[I") (.int 0)) (.int 1)) (by decide +kernel))
    | 1, _ => exact va_eqt (z := 2) (hs (.eq (.elem (.static "PostHouse$Walk" "WAY_FRONT" "[I") (.int 1)) (.int 2)) (by decide +kernel))
    | 2, _ => exact va_eqt (z := 2) (hs (.eq (.elem (.static "PostHouse$Walk" "WAY_FRONT" "[I") (.int 2)) (.int 2)) (by decide +kernel))
    | 3, _ => exact va_eqt (z := 0) (hs (.eq (.elem (.static "PostHouse$Walk" "WAY_FRONT" "[I") (.int 3)) (.int 0)) (by decide +kernel))
    | 4, _ => exact va_eqt (z := 2) (hs (.eq (.elem (.static "PostHouse$Walk" "WAY_FRONT" "[I") (.int 4)) (.int 2)) (by decide +kernel))
    | 5, _ => exact va_eqt (z := 0) (hs (.eq (.elem (.static "PostHouse$Walk" "WAY_FRONT" "[I") (.int 5)) (.int 0)) (by decide +kernel))
    | k + 6, h => exact absurd h (by omega)) hA
  exact ⟨t, va_Zref (hts (.laysStatic "PostHouse$Walk" "WAY_FRONT" "[I") (by decide +kernel)) (hts (.initialized "PostHouse$Walk") (by decide +kernel)) h1 hA, h2⟩
set_option maxRecDepth 100000 in
theorem zSta4 {s : State} {b : Nat} {A : Nat → Prop} (hA : ∀ a : Nat, a < s.heap.size → ¬ A a) (hts : ∀ w ∈ lw_tbl, w.before #[Value.ref b] s = true) (hs : ∀ c ∈ flatC (Jvm.Cond.and given_1 narrow_1), c.before #[Value.ref b] s = true) : ∃ t : Nat, va_Z "PostHouse$Walk" "WAY_BACK" "[I" (.ref t) A s s.heap ∧ va_T .int t 6 (fun j => .int (([1, 2, 0, 2, 2, 0] : List Int32).getD j 0)) A s s.heap := by
  obtain ⟨t, h1, h2⟩ := va_Tof (tm := (.static "PostHouse$Walk" "WAY_BACK" "[I")) (ty := .int) (N := 6) (f := fun j => .int (([1, 2, 0, 2, 2, 0] : List Int32).getD j 0)) (by decide) (hs (.arrayOf (.static "PostHouse$Walk" "WAY_BACK" "[I") .int) (by decide +kernel)) (va_eqt (z := 6) (hs (.eq (.length (.static "PostHouse$Walk" "WAY_BACK" "[I")) (.int 6)) (by decide +kernel))) (fun j hj => by
    match j, hj with
    | 0, _ => exact va_eqt (z := 1) (hs (.eq (.elem (.static "PostHouse$Walk" "WAY_BACK" "[I") (.int 0)) (.int 1)) (by decide +kernel))
    | 1, _ => exact va_eqt (z := 2) (hs (.eq (.elem (.static "PostHouse$Walk" "WAY_BACK" "[I") (.int 1)) (.int 2)) (by decide +kernel))
    | 2, _ => exact va_eqt (z := 0) (hs (.eq (.elem (.static "PostHouse$Walk" "WAY_BACK" "[I") (.int 2)) (.int 0)) (by decide +kernel))
    | 3, _ => exact va_eqt (z := 2) (hs (.eq (.elem (.static "PostHouse$Walk" "WAY_BACK" "[I") (.int 3)) (.int 2)) (by decide +kernel))
    | 4, _ => exact va_eqt (z := 2) (hs (.eq (.elem (.static "PostHouse$Walk" "WAY_BACK" "[I") (.int 4)) (.int 2)) (by decide +kernel))
    | 5, _ => exact va_eqt (z := 0) (hs (.eq (.elem (.static "PostHouse$Walk" "WAY_BACK" "[I") (.int 5)) (.int 0)) (by decide +kernel))
    | k + 6, h => exact absurd h (by omega)) hA
  exact ⟨t, va_Zref (hts (.laysStatic "PostHouse$Walk" "WAY_BACK" "[I") (by decide +kernel)) (hts (.initialized "PostHouse$Walk") (by decide +kernel)) h1 hA, h2⟩
theorem zNp_in : ∀ E ∈ zEx, ∀ T ∈ zEx, E ≠ T → Cond.not (.castable E T) ∈ flatC (Jvm.Cond.and given_1 narrow_1) := by decide +kernel
theorem zNp_start {s : State} {b : Nat} (hs : ∀ c ∈ flatC (Jvm.Cond.and given_1 narrow_1), c.before #[Value.ref b] s = true) : zNp s := fun E hE T hT q => va_Nc.of (hs _ (zNp_in E hE T hT q))
set_option maxRecDepth 100000 in
theorem zG2_start {s : State} {b : Nat} {A : Nat → Prop} (hA : ∀ a : Nat, a < s.heap.size → ¬ A a) (hts : ∀ w ∈ lw_tbl, w.before #[Value.ref b] s = true) (hgv : (Jvm.Cond.and given_1 narrow_1).before #[Value.ref b] s = true) : ∃ ad : Nat → Nat, zG2 A ad s s.heap := by
  have hs := flat_of_before _ hgv
  obtain ⟨w0, g0⟩ := zWord0 hA hts hs
  obtain ⟨w1, g1⟩ := zWord1 hA hts hs
  obtain ⟨w2, g2⟩ := zWord2 hA hts hs
  obtain ⟨w3, g3⟩ := zWord3 hA hts hs
  obtain ⟨w4, g4⟩ := zWord4 hA hts hs
  obtain ⟨w5, g5⟩ := zWord5 hA hts hs
  obtain ⟨w6, g6⟩ := zWord6 hA hts hs
  obtain ⟨w7, g7⟩ := zWord7 hA hts hs
  obtain ⟨w8, g8⟩ := zWord8 hA hts hs
  obtain ⟨t0, q0⟩ := zSta0 hA hts hs
  obtain ⟨t1, q1⟩ := zSta1 hA hts hs
  obtain ⟨t2, q2⟩ := zSta2 hA hts hs
  obtain ⟨t3, q3⟩ := zSta3 hA hts hs
  obtain ⟨t4, q4⟩ := zSta4 hA hts hs
  refine ⟨fun k => ([w0, w1, w2, w3, w4, w5, w6, w7, w8, 0, 0, 0, 0, 0, 0, 0, 0, 0, 0, 0, t0, t1, t2, t3, t4] : List Nat).getD k 0, ?_, va_Zqof (hts _ (by decide +kernel)) (hts (.initialized "jdk/internal/util/Preconditions") (by decide +kernel)) (hs _ (by decide +kernel)) hA, fun i q hq => ?_⟩
  rotate_left
  · match i, hq with
    | 0, hq => cases hq; exact q0
    | 1, hq => cases hq; exact q1
    | 2, hq => cases hq; exact q2
    | 3, hq => cases hq; exact q3
    | 4, hq => cases hq; exact q4
    | k + 5, hq => simp [zSt] at hq
  refine ⟨vx_Zqof (hts _ (by decide +kernel)) (hts (.initialized "java/lang/Throwable") (by decide +kernel)) (hs _ (by decide +kernel)) hA, vx_Zqof (hts _ (by decide +kernel)) (hts (.initialized "java/lang/Throwable") (by decide +kernel)) (hs _ (by decide +kernel)) hA, va_Zof (hts _ (by decide +kernel)) (hts (.initialized "java/lang/String") (by decide +kernel)) (va_eqt (hs (.eq (.static "java/lang/String" "COMPACT_STRINGS" "Z") (.int 1)) (by decide +kernel))) hA, ?_, ?_, ?_, ?_, ?_, ?_⟩
  · intro i q hq
    match i, hq with
    | 0, hq => cases hq; exact g0
    | 1, hq => cases hq; exact g1
    | 2, hq => cases hq; exact g2
    | 3, hq => cases hq; exact g3
    | 4, hq => cases hq; exact g4
    | 5, hq => cases hq; exact g5
    | 6, hq => cases hq; exact g6
    | 7, hq => cases hq; exact g7
    | 8, hq => cases hq; exact g8
    | k + 9, hq => simp [zWd] at hq
  · intro q hq
    obtain ⟨h1, h2⟩ := zTx_in q hq
    obtain ⟨a, c, cA, kA, q1, -⟩ := Cond.exactly_spec (args := #[Value.ref b]) (first := s) (o := none) (s := s) (idx := []) (hs _ h1)
    exact ⟨a, vk_R.of (hts _ h2) q1⟩
  · intro q hq
    exact va_Nw.of rfl (hts _ (zNe_in q hq))
  · intro C hC
    exact va_AO.of (hts _ (zAO_in C hC))
  · intro C hC
    exact va_Nw.of rfl (hts _ (zEx_in C hC))
  · intro C hC
    exact va_Nw.of rfl (hts _ (zDe_in C hC))
theorem zP0 {D : va_G} {cl : List vw_C} {H : Heap} : va_P D cl [] H := fun k q h => by simp at h
theorem zD0 {A : Nat → Prop} : va_D A [] := ⟨fun i j p q h => by simp at h, fun k q h => by simp at h⟩
