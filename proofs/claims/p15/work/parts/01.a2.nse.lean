/-! ===== NoSuchElementException's constructor hands on by another pool index than the kit's throws take: its words, and its throw ===== -/
section ZCT
def zNse : String := "java/util/NoSuchElementException"
def zRte : String := "java/lang/RuntimeException"
def zOwnN (own : String) (ic : Nat) : List Cond := Bundle.throwableAtoms ++ Bundle.throwableSAtoms ++ (Bundle.passSAtoms zNse zRte 13 prog_27_method_4_code ++ Bundle.chainSAtoms zRte ["java/lang/Exception"]) ++ [.methodLink own ic (Bundle.initS zNse), .instantiable zNse 6, .castable zNse zNse, .selects zNse Bundle.tFill0 Bundle.tFill0, .selects zNse Bundle.tFill Bundle.tFill, .lays zNse Bundle.tN "cause" "Ljava/lang/Throwable;", .lays zNse Bundle.tN "stackTrace" Bundle.steD, .lays zNse Bundle.tN "suppressedExceptions" Bundle.listD, .lays zNse Bundle.tN "detailMessage" "Ljava/lang/String;", .isRef (.static Bundle.tN "UNASSIGNED_STACK" Bundle.steD), .isRef (.static Bundle.tN "SUPPRESSED_SENTINEL" Bundle.listD), .fieldLink Bundle.tN 198 Bundle.tN "backtrace" "Ljava/lang/Object;", .lays Bundle.tN Bundle.tN "backtrace" "Ljava/lang/Object;", .lays zNse Bundle.tN "backtrace" "Ljava/lang/Object;"]
def zAtN (own : String) (ic : Nat) : List Cond := (zOwnN own ic).filter vx_no
theorem zN_0 : decode prog_27_method_4_code 0 = .ok (.aload_n 0, 1) := by decide +kernel
theorem zN_1 : decode prog_27_method_4_code 1 = .ok (.aload_n 1, 1) := by decide +kernel
theorem zN_2 : decode prog_27_method_4_code 2 = .ok (.invokespecial 13, 3) := by decide +kernel
theorem zN_5 : decode prog_27_method_4_code 5 = .ok (.return_, 1) := by decide +kernel
set_option maxHeartbeats 2000000 in
theorem zCtorN {p : Program} {l : Launch} {e : Env} {R : Room} {s : State} {m : MethodId} {args : Array Value} {below : List Frame} {meth : Method} {c : Code} {W : State} {locs : List Loc} {cells slots : Nat} (X : Stand p l e R s m args below meth c W locs cells slots) (hx : p.tables.exec = Jvm.exec) (hoff : e.platform.stackTraces = false) {own : String} {ic : Nat} (hown : s.vm.findClass own = some m.cls) (hw : ∀ w ∈ zOwnN own ic, w.before args s = true) (hlo : ∀ x ∈ locs, ∀ cell, s.heap[x.base]? = some cell → cell.vm.isStatics = false)
    {q : Addr} {k : ClassId} {K : Class} (hk : s.vm.findClass zNse = some k) (hK : s.vm.classes[k]? = some K) (hq : W.heap[q]? = some (freshCell k K)) (hnew : s.heap.size ≤ q) {tx : Value} (htx : tx.isRef = true) {g : JFrame} (hg : g.method = m) (hsz : g.locals.size = c.maxLocals) (hlk : g.locked = none) (hen : g.entered = []) {rest : List Value} (hst : g.stack = tx :: .ref q :: .ref q :: rest)
    (d1 : decode c.code g.pc = .ok (.invokespecial ic, 3)) (d2 : decode c.code (g.pc + 3) = .ok (.athrow, 1)) (hout : ∀ x ∈ c.exceptionTable.toList, covers x (g.pc + 3) = false) (hfr : 5 < R.frames) (hlc : 2 * g.monitorRoom + ((Value.ref q :: rest).map fun v => v.category).sum + 81 ≤ R.locals) (hlocks : meth.locks = false) :
    ∃ U : State, Steps p.tables e below (W.setTop g) U ∧ U.status = .running ∧ Ended U below (.threw q) ∧ s.WarmedH U.vm ∧ s.sameButNew ({ U with vm := s.vm } : State) locs cells slots ∧ ∃ ce, U.heap[q]? = some ce ∧ ce.vm = .none ∧ s.vm.findClass zNse = some ce.cls := by
  have pl1 : e.platform.frameOwnsMonitors = true := by rw [X.admits.platform]
  have pl2 : e.platform.finalization = false := by rw [X.admits.platform]
  have pl3 : e.platform.magicAccessors = ({} : Platform).magicAccessors := by rw [X.admits.platform]
  have mem : ∀ w, w ∈ zOwnN own ic → w.holds args s none s [] = true := fun w h => hw w h
  have m1 : ∀ w ∈ Bundle.passSAtoms zNse zRte 13 prog_27_method_4_code, w.before args s = true := fun w h => hw w (by simp only [zOwnN, List.mem_append]; exact Or.inl (Or.inr (Or.inl h)))
  have m2 : ∀ w ∈ Bundle.chainSAtoms zRte ["java/lang/Exception"], w.before args s = true := fun w h => hw w (by simp only [zOwnN, List.mem_append]; exact Or.inl (Or.inr (Or.inr h)))
  obtain ⟨T, Z0, L, -, Y⟩ := ThrowableC.of_atoms (args := args) pl1 pl2 pl3 (fun w h => hw w (by simp only [zOwnN, List.mem_append]; exact Or.inl (Or.inl (Or.inl h))))
  obtain ⟨Z, M, LZ, LM, hZ⟩ := Init0T.ofS_atoms (args := args) pl3 L Y (fun w h => hw w (by simp only [zOwnN, List.mem_append]; exact Or.inl (Or.inl (Or.inr h))))
  obtain ⟨P0, L0, hP0, hP0s⟩ := PassC.ofS_atoms (args := args) (s := s) pl3 (X := zNse) (Y := zRte) (by decide) (by decide) zN_0 zN_1 zN_2 zN_5 m1
  obtain ⟨P1, Ps, hlen, L1, hL, hP1, hn1, hn2⟩ := Bundle.chainS (args := args) pl3 hZ ["java/lang/Exception"] zRte (by decide) (by decide) m2
  have hl0 : P0.sup = P1.m := Option.some.inj (hP0s.symm.trans hP1)
  have hf : s.vm.findClass zNse = some P0.m.cls := findClass_of_methodNamed hP0
  cases Option.some.inj (hk.symm.trans hf)
  obtain ⟨c1, K2, hc1, hk1, hord, -, -, -⟩ := Cond.instantiable_spec (mem (.instantiable zNse 6) (by simp [zOwnN]))
  cases Option.some.inj (hc1.symm.trans hf)
  cases Option.some.inj (hK.symm.trans hk1)
  have sel0 : selectMethod e.platform s.vm P0.m.cls T.fill0 = .method T.fill0 := by
    obtain ⟨a1, a2, a3, b1, b2, b3, b4, -⟩ := Cond.selects_spec (mem (.selects zNse Bundle.tFill0 Bundle.tFill0) (by simp [zOwnN]))
    cases Option.some.inj (b1.symm.trans hf)
    cases Option.some.inj (b2.symm.trans (State.methodFound?_of_named Y.fill0 (by decide)))
    cases Option.some.inj (b3.symm.trans Y.fill0)
    rw [Launch.admits_selectMethod X.admits]; exact b4
  have sel1 : selectMethod e.platform s.vm P0.m.cls T.fill = .method T.fill := by
    obtain ⟨a1, a2, a3, b1, b2, b3, b4, -⟩ := Cond.selects_spec (mem (.selects zNse Bundle.tFill Bundle.tFill) (by simp [zOwnN]))
    cases Option.some.inj (b1.symm.trans hf)
    cases Option.some.inj (b2.symm.trans (State.methodFound?_of_named Y.fill (by decide)))
    cases Option.some.inj (b3.symm.trans Y.fill)
    rw [Launch.admits_selectMethod X.admits]; exact b4
  obtain ⟨S0, hS0, hS1⟩ := Y.statics
  obtain ⟨u0, hu0⟩ := Cond.staticRefV Y.unassigned L.unassignedStatic L.statics hS0 hS1 (mem (.isRef (.static Bundle.tN "UNASSIGNED_STACK" Bundle.steD)) (by simp [zOwnN]))
  obtain ⟨u1, hu1⟩ := Cond.staticRefV Y.sentinel L.sentinelStatic L.statics hS0 hS1 (mem (.isRef (.static Bundle.tN "SUPPRESSED_SENTINEL" Bundle.listD)) (by simp [zOwnN]))
  obtain ⟨ci, ib, fB, r1, r2, r3, r4, -, r5, r6, r7⟩ := Cond.ownField (t := .object "java/lang/Object") Y.found L.cls (by decide +kernel) (mem (.fieldLink Bundle.tN 198 Bundle.tN "backtrace" "Ljava/lang/Object;") (by simp [zOwnN])) (mem (.lays Bundle.tN Bundle.tN "backtrace" "Ljava/lang/Object;") (by simp [zOwnN])) e.platform pl3
  obtain ⟨S1, hS2, hS3, -, hS4⟩ := X.same.2.2.2.2.2 T.aS S0 hS0
  have nl : ∀ i, (⟨T.aS, i⟩ : Loc) ∉ locs := fun i h => by
    have := hlo _ h S0 hS0
    rw [hS1] at this; cases this
  have hS5 : S1.vm ≠ .unknown := by
    rw [hS3]; intro h
    rw [show S0.vm = .unknown from h] at hS1
    cases hS1
  have hS6 : T.aS ≠ q := Nat.ne_of_lt (Nat.lt_of_lt_of_le (Array.getElem?_eq_some_iff.mp hS0).1 hnew)
  obtain ⟨iM, fM⟩ := Y.msg
  obtain ⟨tC, eC, gC, nC⟩ := Cond.laysAt hf hk1 Y.cause (mem (.lays zNse Bundle.tN "cause" "Ljava/lang/Throwable;") (by simp [zOwnN]))
  obtain ⟨tS, eS, gS, nS⟩ := Cond.laysAt hf hk1 Y.stack (mem (.lays zNse Bundle.tN "stackTrace" Bundle.steD) (by simp [zOwnN]))
  obtain ⟨tP, eP, gP, nP⟩ := Cond.laysAt hf hk1 Y.supp (mem (.lays zNse Bundle.tN "suppressedExceptions" Bundle.listD) (by simp [zOwnN]))
  obtain ⟨tM, eM, gM, nM⟩ := Cond.laysAt hf hk1 fM (mem (.lays zNse Bundle.tN "detailMessage" "Ljava/lang/String;") (by simp [zOwnN]))
  obtain ⟨tB, eB, gB, nB⟩ := Cond.laysAt hf hk1 r7 (mem (.lays zNse Bundle.tN "backtrace" "Ljava/lang/Object;") (by simp [zOwnN]))
  have o1 := Cond.laysApart gB gC nB nC (by rw [r5, Y.causeName]; decide)
  have o2 := Cond.laysApart gB gS nB nS (by rw [r5, Y.stackName]; decide)
  have o3 := Cond.laysApart gB gP nB nP (by rw [r5, Y.suppName]; decide)
  have skip : SkipFacts T e.platform s (fun u => u) u0 ((preparedCellV T.toThrowableT (freshCell P0.m.cls K) q u0 u1).withEntry W.cur) := ⟨{ ci198 := ci, i198 := ib, fBack := fB }, ⟨r1, r2, r3, r4⟩, by
      have := fresh_default (c := P0.m.cls) tB
      rw [r6] at this
      simpa [preparedCellV, Cell.setSlot, Cell.withEntry, Array.getElem?_setIfInBounds, o1, o2, o3, o1.symm, o2.symm, o3.symm, defaultValue] using this, fun _ _ => rfl⟩
  obtain ⟨tm, a1, a2, a3, vm1, b1, -, -, -, -, -, -, -, b2, st1⟩ := Steps.initColdS (tb := p.tables) (e := e) (below := below) (s := s) (U := W) X.here hx X.warmed pl3 hown (t := Bundle.initS zNse) rfl rfl (by decide) (mem (.methodLink own ic (Bundle.initS zNse)) (by simp [zOwnN])) (m1 (.instanceMethod (Bundle.initS zNse)) (by simp [Bundle.passSAtoms])) (bytes := prog_27_method_4_code) (maxL := 2) (m1 (.code (Bundle.initS zNse) prog_27_method_4_code 2 none) (by simp [Bundle.passSAtoms])) (f := g) hg (a := q) (msg := tx) (rest := .ref q :: rest) hst d1
  cases Option.some.inj (b1.symm.trans hP0)
  obtain ⟨vm2, X2, st2⟩ := (X.noted b2).ctorMessageOffV hx (g := { g with stack := .ref q :: rest }) hg hsz T L Z LZ M LM (P0 :: P1 :: Ps) (fun P h => by rcases List.mem_cons.mp h with rfl | h; exact L0; rcases List.mem_cons.mp h with rfl | h; exact L1; exact hL P h) ⟨hl0, hn1, hn2⟩ (u0 := u0) (sen := u1) (self := q) htx (cell := freshCell P0.m.cls K) (cellS := S1) hq (fun _ => by simp) (by simp) rfl rfl sel0 sel1 hS2 hS6 hS5 (by rw [hS4 _ (nl _)]; exact hu0) (by rw [hS4 _ (nl _)]; exact hu1) (Takes.of_laid hk1 hord tC (by rw [Y.causeType]; rfl)) (Takes.of_laid hk1 hord tS (by rw [Y.stackType]; exact fits_refV_array _ u0)) (Takes.of_laid hk1 hord tP (by rw [Y.suppType]; exact fits_refV_object _ u1)) (Takes.of_laid hk1 hord tM (by rw [Y.msgType]; exact fits_refV_object _ ⟨tx, htx⟩)) Y.objLocals skip hoff [] d1 (by simp only [List.length_cons, hlen, List.length_nil]; omega) (by simp only [List.length_cons, hlen, List.length_nil]; exact hlc)
  obtain ⟨w1, w2, w3, w4, w5⟩ := X2.athrowLeaves hx (g := { g with stack := .ref q :: rest, pc := g.pc + 3 }) hg hlk hen hout (a := q) (rest := rest) rfl d2
  have lt : q < ((W.setVm vm1).setVm vm2).heap.size := (Array.getElem?_eq_some_iff.mp hq).1
  refine ⟨_, st1 _ (fun acts => ?_), w2, w3, w4, w5.weaken (fun y hy hlt => ?_) (Nat.le_refl _) (Nat.le_refl _), _, heapAt_setCell_self (s := (W.setVm vm1).setVm vm2) (plainBareV T.toThrowableT (freshCell P0.m.cls K) q u0 u1 tx) lt, rfl, hf⟩
  · rw [doInvoke_state]
    exact st2 _ w1
  · rcases List.mem_append.mp hy with h | h
    · exact h
    · exfalso
      have hb : y.base = q := by
        simp only [List.mem_cons, List.not_mem_nil, or_false] at h
        rcases h with rfl | rfl | rfl | rfl | rfl <;> rfl
      rw [hb] at hlt
      exact Nat.not_lt.mpr hnew hlt
variable {p : Program} {l : Launch} {e : Env} {R : Room} {s : State} {m : MethodId} {args : Array Value} {below : List Frame} {meth : Method} {c : Code} {H : Heap} {locs : List Loc} {cells slots : Nat} {Q : State → Prop}
variable {free : Addr → Prop} {ls : Array Slot} {rest : List Value}
variable {Qc : Array Value → State → Outcome → State → Prop} {XC : String → State → State → Prop}
/-- 'throw new E("text")': new; dup; ldc; invokespecial; athrow -/
theorem zThrowN {cc : ByteArray} {pc : Nat} (hexec : p.tables.exec = Jvm.exec) (hb : c.code = cc) (hl : l.stackTraces = false) {own text : String} {ik is ic mc ms sa : Nat} {A : Nat → Prop}
    (hown : s.vm.findClass own = some m.cls)
    (hk : (Cond.classLink own ik zNse).before args s = true) (hini : (Cond.initialized zNse).before args s = true) (hstr : vk_R own is text sa s) (hat : ∀ w ∈ zAtN own ic, w.before args s = true)
    (hgood : ∀ w ∈ Cond.classLink own ik zNse :: Cond.initialized zNse :: zAtN own ic, vx_ot w = true)
    (hU : vx_Zq Bundle.tN "UNASSIGNED_STACK" Bundle.steD A s s.heap) (hN : vx_Zq Bundle.tN "SUPPRESSED_SENTINEL" Bundle.listD A s s.heap) (hS : va_S A s.heap H locs) (hsize : ls.size = c.maxLocals)
    (d0 : decode cc pc = .ok (.new ik, 3)) (d3 : decode cc (pc + 3) = .ok (.dup, 1)) (d4 : decode cc (pc + 4) = .ok (.ldc is, 2)) (d6 : decode cc (pc + 6) = .ok (.invokespecial ic, 3)) (d9 : decode cc (pc + 9) = .ok (.athrow, 1))
    (hout : ∀ x ∈ c.exceptionTable.toList, covers x (pc + 9) = false)
    (hRframes : 5 < R.frames) (hRlocals : (rest.map fun v => v.category).sum + 82 ≤ R.locals) (hRcells : cells + 1 ≤ R.cells) (hRslots : slots + 6 ≤ R.slots) (hlocks : meth.locks = false)
    (hx : ∀ t : State, s.vm.Alike t.vm → H.size ≤ t.heap.size → (∀ q : Nat, q < H.size → t.heap[q]? = H[q]?) → XC zNse s t)
    (hf : ∀ z ∈ locs, free z.base) (hc : cells + 1 ≤ mc) (hs : slots + 6 ≤ ms) :
    W p l e R s m args below meth c H locs cells slots (vx_MQ below Qc XC args s mc ms free) (F0 m pc ls rest) := by
  intro T hT X
  have htr : e.platform.stackTraces = false := (show e.platform.stackTraces = l.stackTraces by rw [X.admits.platform]).trans hl
  have Y := vx_rebase X (R' := { frames := R.frames, locals := R.locals, cells := 1, slots := 6 }) (Nat.le_refl _) (Nat.le_refl _) hRcells hRslots
  obtain ⟨s', hA⟩ : ∃ z, z = (T.setVm s.vm).setFrames (.invoking m args :: below) := ⟨_, rfl⟩
  rw [← hA] at Y
  have hvm : s'.vm = s.vm := by rw [hA]; rfl
  have hhp : s'.heap = H := by rw [hA]; exact hT
  have hW0 : s.WarmedH s'.vm := by rw [hvm]; exact State.WarmedH.refl s
  have hat' : ∀ w ∈ zAtN own ic, w.before args s' = true := fun w hw => vx_ot_at hW0 hvm.symm (hgood w (List.mem_cons_of_mem _ (List.mem_cons_of_mem _ hw))) (hat w hw)
  have hk' : (Cond.classLink own ik zNse).before args s' = true := vx_ot_at hW0 hvm.symm (hgood _ List.mem_cons_self) hk
  have hini' : (Cond.initialized zNse).before args s' = true := vx_ot_at hW0 hvm.symm (hgood _ (List.mem_cons_of_mem _ List.mem_cons_self)) hini
  have hU' : vx_Zq Bundle.tN "UNASSIGNED_STACK" Bundle.steD A s' s'.heap := by rw [hhp]; exact vx_Zq.moved hW0.alike (hU.kept hS.2.1)
  have hN' : vx_Zq Bundle.tN "SUPPRESSED_SENTINEL" Bundle.listD A s' s'.heap := by rw [hhp]; exact vx_Zq.moved hW0.alike (hN.kept hS.2.1)
  have h : ∀ w ∈ zOwnN own ic, w.before args s' = true := vx_own hat' (vx_isRefq hU'.1) (vx_isRefq hN'.1) hU'.2.word hN'.2.word
  have hown' : s'.vm.findClass own = some m.cls := by rw [hvm]; exact hown
  have hins : (Cond.instantiable zNse 6).before args s' = true := h _ (by simp [zOwnN])
  obtain ⟨vm₁, cX, kX, hfX, hkX, -, -, X₁, st1⟩ := Y.newCold hexec (own := own) (C := zNse) (index := ik) (n := 6) hown' hk' hins hini'
    (g := F0 m pc ls rest) rfl (by rw [hb]; exact d0) (Nat.le_refl _) (Nat.le_refl _)
  generalize hT1 : (T.setVm vm₁).pushCell { cls := cX, slots := kX.instanceTypes.map defaultValue, vm := .none } = T1 at X₁ st1
  have hcat : (Value.ref T.heap.size).category = 1 := rfl
  have hcellA : T1.heap[T.heap.size]? = some (freshCell cX kX) := by rw [← hT1]; exact State.heap_pushCell_size _ _
  have d3' : decode c.code (pc + 3) = .ok (.dup, 1) := by rw [hb]; exact d3
  have d4' : decode c.code (pc + 4) = .ok (.ldc is, 2) := by rw [hb]; exact d4
  have hstr' : vk_R own is text sa s' := vk_R.warm hW0 hstr
  obtain ⟨U, hsteps, hrun, hend, hW, hsame, ce, hce, hO1, hO2⟩ := zCtorN X₁ hexec htr (own := own) (ic := ic) hown' h (fun x hx => nomatch hx) hfX hkX hcellA (by rw [hhp, hT]; exact Nat.le_refl _) (tx := .ref sa) rfl
    (g := { method := m, pc := pc + 6, locals := ls, stack := .ref sa :: .ref T.heap.size :: .ref T.heap.size :: rest, locked := none }) rfl hsize rfl rfl (rest := rest) rfl
    (by rw [hb]; exact d6) (by rw [hb]; exact d9) hout hRframes (by simp only [List.map_cons, List.sum_cons, hcat]; omega) hlocks
  obtain ⟨f1, f2⟩ := vx_frame hsame
  rw [hhp] at f1 f2
  have hWs : s.WarmedH U.vm := State.WarmedH.trans hW0 hW
  have hcl : s.vm.findClass zNse = some ce.cls := by
    have h9 := hO2
    rw [hvm] at h9
    exact h9
  have hall : s.sameButNew ({ U with vm := s.vm } : State) locs mc ms := by
    subst hA
    obtain ⟨e1, e2⟩ := hsame
    rw [State.setFrames_setFrames] at e1
    have h2 : (T.setVm s.vm).sameButNew ({ U with vm := s.vm } : State) [] (0 + 1) (0 + 6) := ⟨e1, e2⟩
    have h3 := X.same.trans h2
    rw [List.append_nil] at h3
    exact h3.mono hc hs
  refine ⟨U, ?_, .threw T.heap.size, hrun, hend, Or.inr ⟨T.heap.size, rfl, zNse, ce, locs, hx U hWs.alike f1 (fun q hq => f2 q hq (fun z hz => nomatch hz)), hce, hO1, hcl, hWs, hall, hf⟩⟩
  refine st1 _ ?_
  show Steps p.tables e below (T1.setTop { method := m, pc := pc + 3, locals := ls, stack := .ref T.heap.size :: rest, locked := none }) _
  jvm_step X₁.here [X₁.here.top, hexec, d3', Value.category]
  exact X₁.ldcString hexec (own := own) (text := text) (index := is) (a := sa) hown' hstr'.1 hstr'.2
    (g := { method := m, pc := pc + 4, locals := ls, stack := .ref T.heap.size :: .ref T.heap.size :: rest, locked := none }) rfl d4' _ hsteps
end ZCT
