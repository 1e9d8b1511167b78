/-! 'throw new E("text")' where E's constructor hands on to its superclass by another pool number than the library's chain has (NoSuchElementException: 13). The library's law for such a throw has all links at number 7; so the constructor's call is a contract of its own here (cq_ctor), over the library's laws of Throwable's constructor, and the throw comes behind it. -/
section CT
/-- what the library's own words of 'throw new X(text)' say beside the chain of constructors -/
def cxT (own : String) (ic : Nat) (X : String) : List Cond := (Bundle.ownAtoms own ic X []).drop (Bundle.throwableAtoms ++ Bundle.throwableSAtoms ++ Bundle.chainSAtoms X []).length
/-- the words of such a throw: the first link free -/
def cxA (own : String) (ic : Nat) (X Y : String) (ix : Nat) (bytes : ByteArray) (names : List String) : List Cond :=
  Bundle.throwableAtoms ++ Bundle.throwableSAtoms ++ Bundle.passSAtoms X Y ix bytes ++ Bundle.chainSAtoms Y names ++ cxT own ic X
section
variable {args : Array Value} {s : State}
/-- a field lies in the objects of class number k (table K), where some class declares it by its name -/
def cq_at (s : State) (k : ClassId) (K : Class) (f : Field) : Prop := K.instanceTypes[f.slot]? = some f.type ∧ ∃ d, Jmm.declares? s.vm f.slot (k + 1) k = some d ∧ d.2.name = f.name
theorem cq_ne {k : ClassId} {K : Class} {f g : Field} (hf : cq_at s k K f) (hg : cq_at s k K g) (hn : f.name ≠ g.name) : f.slot ≠ g.slot :=
  hf.2.elim fun _ a => hg.2.elim fun _ b => Cond.laysApart a.1 b.1 a.2 b.2 hn
theorem cq_takes {k : ClassId} {K : Class} {f : Field} {t : FieldType} {v : Value} (hK : s.vm.classes[k]? = some K) (ho : K.kind = .ordinary) (hf : cq_at s k K f) (ht : f.type = t) (hv : fits t v = true) : Takes s (freshCell k K) f v :=
  Takes.of_laid hK ho hf.1 (ht ▸ hv)
/-- a method of Throwable, asked of an object of class C, is that method -/
theorem cq_pick {l : Launch} {e : Env} (ha : l.admits e) {C : String} {k : ClassId} {t : MethodName} {mt : MethodId} (hC : s.vm.findClass C = some k) (hm : s.methodNamed? t = some mt)
    (ht : t.cls ≠ "java/lang/invoke/MethodHandle" ∧ t.cls ≠ "java/lang/invoke/VarHandle") (hw : (Cond.selects C t t).before args s = true) : selectMethod e.platform s.vm k mt = .method mt := by
  obtain ⟨k', r, mt', h1, h2, h3, h4, -⟩ := Cond.selects_spec hw
  simp only [hC, hm, State.methodFound?_of_named hm ht, Option.some.injEq] at h1 h2 h3
  subst h1 h2 h3
  exact (Launch.admits_selectMethod ha ..).trans h4
end
variable {p : Program} {l : Launch} {e : Env} {R : Room} {s : State} {m : MethodId} {args : Array Value} {below : List Frame} {meth : Method} {c : Code} {W : State} {cells slots : Nat}
set_option maxHeartbeats 1000000 in
/-- 'invokespecial C.<init>(text)' on a new object goes by: the object's cell is another one of the same class, nothing else is written -/
theorem cq_ctor (X : Stand p l e R s m args below meth c W [] cells slots) (hexec : p.tables.exec = Jvm.exec) (htr : e.platform.stackTraces = false) {own C D : String} {names : List String} {ic ix : Nat} {bytes : ByteArray}
    (hown : s.vm.findClass own = some m.cls) (hC : Bundle.fit C = true) (hD : Bundle.fit D = true) (hnames : ∀ n ∈ names, Bundle.fit n = true)
    (k0 : decode bytes 0 = .ok (.aload_n 0, 1)) (k1 : decode bytes 1 = .ok (.aload_n 1, 1)) (k2 : decode bytes 2 = .ok (.invokespecial ix, 3)) (k5 : decode bytes 5 = .ok (.return_, 1))
    (h : ∀ w ∈ cxA own ic C D ix bytes names, w.before args s = true)
    {a : Addr} {k : ClassId} {K : Class} (hk : s.vm.findClass C = some k) (hK : s.vm.classes[k]? = some K) (ha : W.heap[a]? = some (freshCell k K)) (hnew : s.heap.size ≤ a)
    {msg : Value} (hmsg : msg.isRef = true) {g : JFrame} (hg : g.method = m) (hsize : g.locals.size = c.maxLocals) {rest : List Value} (hstack : g.stack = msg :: .ref a :: rest)
    (hd : decode c.code g.pc = .ok (.invokespecial ic, 3))
    (hRframes : names.length + 4 < R.frames) (hRlocals : 2 * g.monitorRoom + (rest.map fun v => v.category).sum + (13 * (names.length + 2) + 42) ≤ R.locals) :
    ∃ (U : State) (ls : List Loc) (ce : Cell), Stand p l e R s m args below meth c U ls cells slots ∧ (∀ z ∈ ls, z.base = a) ∧ U.heap[a]? = some ce ∧ ce.cls = k ∧ ce.vm = .none ∧
      ∀ target, Steps p.tables e below (U.setTop { g with stack := rest, pc := g.pc + 3 }) target → Steps p.tables e below (W.setTop g) target := by
  have plat := X.admits.platform
  have mag : e.platform.magicAccessors = ({} : Platform).magicAccessors := by rw [plat]
  have tail : ∀ w ∈ cxT own ic C, w.before args s = true := fun w hw => h w (List.mem_append_right _ hw)
  -- the constructors, from Throwable down to C
  obtain ⟨T, _, L, -, Y⟩ := ThrowableC.of_atoms (args := args) (by rw [plat]) (by rw [plat]) mag (fun w hw => h w (by simp [cxA, hw]))
  obtain ⟨Z, M, LZ, LM, top⟩ := Init0T.ofS_atoms (args := args) mag L Y (fun w hw => h w (by simp [cxA, hw]))
  obtain ⟨P2, Ps, len, L2, Ls, n2, j2, js⟩ := Bundle.chainS (args := args) mag top names D hD hnames (fun w hw => h w (by simp [cxA, hw]))
  obtain ⟨P1, L1, n1, up⟩ := PassC.ofS_atoms (args := args) (s := s) mag (Bundle.fit_spec hC).1 (Bundle.fit_spec hD).2 k0 k1 k2 k5 (fun w hw => h w (by simp [cxA, hw]))
  have chain : PassesOn (Z.m T.toThrowableT) ((P1 :: P2 :: Ps).map (·.toPassT)) := ⟨Option.some.inj (up.symm.trans n2), j2, js⟩
  have links : ∀ P ∈ P1 :: P2 :: Ps, P.LinksS e.platform s := List.forall_mem_cons.mpr ⟨L1, List.forall_mem_cons.mpr ⟨L2, Ls⟩⟩
  -- the new object's class
  obtain ⟨_, _, i1, i2, ord, -, -, -⟩ := Cond.instantiable_spec (tail (.instantiable C 6) (by simp only [cxT, Bundle.ownAtoms, List.drop_left]; simp))
  rw [hk] at i1
  cases i1
  rw [hK] at i2
  cases i2
  have word : ∀ {name desc : String} {c' i' : Nat} {k' : Class} {f : Field}, s.fieldFound? Bundle.tN name desc = some (c', k', i', f) → Cond.lays C Bundle.tN name desc ∈ cxT own ic C → cq_at s k K f := fun hf hw => Cond.laysAt hk hK hf (tail _ hw)
  have fC := word Y.cause (by simp only [cxT, Bundle.ownAtoms, List.drop_left]; simp)
  have fS := word Y.stack (by simp only [cxT, Bundle.ownAtoms, List.drop_left]; simp)
  have fP := word Y.supp (by simp only [cxT, Bundle.ownAtoms, List.drop_left]; simp)
  have fM := Y.msg.elim fun _ q => word q (by simp only [cxT, Bundle.ownAtoms, List.drop_left]; simp)
  obtain ⟨ci, i, fb, b1, b2, b3, b4, -, b6, b7, b8⟩ := Cond.ownField (t := .object "java/lang/Object") Y.found L.cls (by decide +kernel) (tail (.fieldLink Bundle.tN 198 Bundle.tN "backtrace" "Ljava/lang/Object;") (by simp only [cxT, Bundle.ownAtoms, List.drop_left]; simp)) (tail (.lays Bundle.tN Bundle.tN "backtrace" "Ljava/lang/Object;") (by simp only [cxT, Bundle.ownAtoms, List.drop_left]; simp)) e.platform mag
  have fB := word b8 (by simp only [cxT, Bundle.ownAtoms, List.drop_left]; simp)
  -- Throwable's two statics, which stand as they stood
  obtain ⟨z, z1, z2⟩ := Y.statics
  obtain ⟨u, hu⟩ := Cond.staticRefV Y.unassigned L.unassignedStatic L.statics z1 z2 (tail _ (by simp only [cxT, Bundle.ownAtoms, List.drop_left]; simp))
  obtain ⟨v, hv⟩ := Cond.staticRefV Y.sentinel L.sentinelStatic L.statics z1 z2 (tail _ (by simp only [cxT, Bundle.ownAtoms, List.drop_left]; simp))
  obtain ⟨y, y1, y2, -, y4⟩ := X.same.2.2.2.2.2 _ z z1
  have yk : y.vm ≠ .unknown := by
    rw [y2]
    show z.vm ≠ .unknown
    intro w
    simp [w, VmData.isStatics] at z2
  have apart : T.aS ≠ a := fun w => Nat.not_lt.mpr hnew (w ▸ (Array.getElem?_eq_some_iff.mp z1).1)
  have skip : SkipFacts T e.platform s (fun x => x) u ((preparedCellV T.toThrowableT (freshCell k K) a u v).withEntry W.cur) := by
    refine ⟨⟨ci, i, fb⟩, ⟨b1, b2, b3, b4⟩, ?_, fun _ _ => rfl⟩
    have e1 := cq_ne fC fB (by rw [b6, Y.causeName]; decide)
    have e2 := cq_ne fS fB (by rw [b6, Y.stackName]; decide)
    have e3 := cq_ne fP fB (by rw [b6, Y.suppName]; decide)
    have e0 := fresh_default (c := k) fB.1
    rw [b7] at e0
    simpa [preparedCellV, Cell.setSlot, Cell.withEntry, Array.getElem?_setIfInBounds, e1, e2, e3, e1.symm, e2.symm, e3.symm, defaultValue] using e0
  -- the call itself
  obtain ⟨_, _, _, _, vm1, m1, -, -, -, -, -, -, -, w1, go1⟩ := Steps.initColdS (tb := p.tables) (e := e) (below := below) (s := s) (U := W) X.here hexec X.warmed mag hown (t := Bundle.initS C) rfl rfl (Bundle.fit_spec hC).2
    (tail (.methodLink own ic (Bundle.initS C)) (by simp only [cxT, Bundle.ownAtoms, List.drop_left]; simp)) (h (.instanceMethod (Bundle.initS C)) (by simp [cxA, Bundle.passSAtoms])) (h (.code (Bundle.initS C) bytes 2 none) (by simp [cxA, Bundle.passSAtoms])) hg hstack hd
  rw [n1] at m1
  cases m1
  obtain ⟨vm2, X2, go2⟩ := (X.noted w1).ctorMessageOffV hexec (g := { g with stack := rest }) hg hsize T L Z LZ M LM (P1 :: P2 :: Ps) links chain hmsg (self := a) (cell := freshCell k K) (cellS := y)
    ha (fun _ => by simp) (by simp) rfl rfl (cq_pick X.admits hk Y.fill0 (by decide) (tail _ (by simp only [cxT, Bundle.ownAtoms, List.drop_left]; simp))) (cq_pick X.admits hk Y.fill (by decide) (tail _ (by simp only [cxT, Bundle.ownAtoms, List.drop_left]; simp)))
    y1 apart yk ((y4 _ (by simp)).trans hu) ((y4 _ (by simp)).trans hv)
    (cq_takes hK ord fC Y.causeType rfl) (cq_takes hK ord fS Y.stackType (fits_refV_array _ u)) (cq_takes hK ord fP Y.suppType (fits_refV_object _ v)) (cq_takes hK ord fM Y.msgType (fits_refV_object _ ⟨msg, hmsg⟩))
    Y.objLocals skip htr [] hd (by simp only [List.length_cons, len]; omega) (by simp only [List.length_cons, len]; exact hRlocals)
  refine ⟨_, _, _, X2, ?_, heapAt_setCell_self _ (Array.getElem?_eq_some_iff.mp ha).1, rfl, rfl, fun target st => go1 _ fun acts => ?_⟩
  · intro q hq
    simp only [List.nil_append, List.mem_cons, List.not_mem_nil, or_false] at hq
    rcases hq with rfl | rfl | rfl | rfl | rfl <;> rfl
  · rw [doInvoke_state]
    exact go2 _ st
/-- 'invokespecial C.<init>(text); athrow' outside every row of the table: the method ends by that object -/
theorem cx_ctorThrow (X : Stand p l e R s m args below meth c W [] cells slots) (hexec : p.tables.exec = Jvm.exec) (htr : e.platform.stackTraces = false) {own C D : String} {names : List String} {ic ix : Nat} {bytes : ByteArray}
    (hown : s.vm.findClass own = some m.cls) (hC : Bundle.fit C = true) (hD : Bundle.fit D = true) (hnames : ∀ n ∈ names, Bundle.fit n = true)
    (k0 : decode bytes 0 = .ok (.aload_n 0, 1)) (k1 : decode bytes 1 = .ok (.aload_n 1, 1)) (k2 : decode bytes 2 = .ok (.invokespecial ix, 3)) (k5 : decode bytes 5 = .ok (.return_, 1))
    (h : ∀ w ∈ cxA own ic C D ix bytes names, w.before args s = true)
    {a : Addr} {k : ClassId} {K : Class} (hk : s.vm.findClass C = some k) (hK : s.vm.classes[k]? = some K) (ha : W.heap[a]? = some (freshCell k K)) (hnew : s.heap.size ≤ a)
    {msg : Value} (hmsg : msg.isRef = true) {g : JFrame} (hg : g.method = m) (hsize : g.locals.size = c.maxLocals) (hlocked : g.locked = none) (hentered : g.entered = []) {rest : List Value} (hstack : g.stack = msg :: .ref a :: .ref a :: rest)
    (hd : decode c.code g.pc = .ok (.invokespecial ic, 3)) (hd' : decode c.code (g.pc + 3) = .ok (.athrow, 1)) (hout : ∀ x ∈ c.exceptionTable.toList, covers x (g.pc + 3) = false)
    (hRframes : names.length + 4 < R.frames) (hRlocals : 2 * g.monitorRoom + ((Value.ref a :: rest).map fun v => v.category).sum + (13 * (names.length + 2) + 42) ≤ R.locals) (hlocks : meth.locks = false) :
    ∃ U : State, Steps p.tables e below (W.setTop g) U ∧ U.status = .running ∧ Ended U below (.threw a) ∧ s.WarmedH U.vm ∧ s.sameButNew ({ U with vm := s.vm } : State) [] cells slots ∧
      ∃ ce : Cell, U.heap[a]? = some ce ∧ s.vm.findClass C = some ce.cls ∧ ce.vm = .none := by
  obtain ⟨V, ls, ce, Y, hls, hV, hc, hv, go⟩ := cq_ctor X hexec htr hown hC hD hnames k0 k1 k2 k5 h hk hK ha hnew hmsg hg hsize hstack hd hRframes hRlocals
  obtain ⟨st, run, fin, warm, same⟩ := Y.athrowLeaves hexec (g := { g with stack := .ref a :: rest, pc := g.pc + 3 }) hg hlocked hentered hout rfl hd' hlocks
  exact ⟨_, go _ st, run, fin, warm, same.weaken (fun q hq hlt => absurd hlt (Nat.not_lt.mpr (hls q hq ▸ hnew))) (Nat.le_refl _) (Nat.le_refl _), ce, hV, hc ▸ hk, hv⟩
end CT
section CT2
variable {p : Program} {l : Launch} {e : Env} {R : Room} {s : State} {m : MethodId} {args : Array Value} {below : List Frame} {meth : Method} {c : Code} {H : Heap} {locs : List Loc} {cells slots : Nat} {Q : State → Prop}
variable {mc ms : Nat} {free : Addr → Prop} {A0 A1 : Nat → Prop} {H0 : Heap} {a : Array Value} {ls : Array Slot} {st0 rest : List Value}
variable {Qc : Array Value → State → Outcome → State → Prop} {XC : String → State → State → Prop}
/-- 'throw new E("text")' with that first link -/
theorem cx_throwS {cc : ByteArray} {pc : Nat} (hexec : p.tables.exec = Jvm.exec) (hb : c.code = cc) (hl : l.stackTraces = false) {own cls sup text : String} {names : List String} {ik is ic ix mc ms sa : Nat} {bytes : ByteArray} {A : Nat → Prop}
    (hown : s.vm.findClass own = some m.cls) (hcls : Bundle.fit cls = true) (hsup : Bundle.fit sup = true) (hnames : ∀ n ∈ names, Bundle.fit n = true)
    (k0 : decode bytes 0 = .ok (.aload_n 0, 1)) (k1 : decode bytes 1 = .ok (.aload_n 1, 1)) (k2 : decode bytes 2 = .ok (.invokespecial ix, 3)) (k5 : decode bytes 5 = .ok (.return_, 1))
    (hk : (Cond.classLink own ik cls).before args s = true) (hini : (Cond.initialized cls).before args s = true) (hstr : vk_R own is text sa s) (hat : ∀ w ∈ (cxA own ic cls sup ix bytes names).filter vx_no, w.before args s = true)
    (hgood : ∀ w ∈ Cond.classLink own ik cls :: Cond.initialized cls :: (cxA own ic cls sup ix bytes names).filter vx_no, vx_ot w = true)
    (hU : vx_Zq Bundle.tN "UNASSIGNED_STACK" Bundle.steD A s s.heap) (hN : vx_Zq Bundle.tN "SUPPRESSED_SENTINEL" Bundle.listD A s s.heap) (hS : va_S A s.heap H locs) (hsize : ls.size = c.maxLocals)
    (d0 : decode cc pc = .ok (.new ik, 3)) (d3 : decode cc (pc + 3) = .ok (.dup, 1)) (d4 : decode cc (pc + 4) = .ok (.ldc is, 2)) (d6 : decode cc (pc + 6) = .ok (.invokespecial ic, 3)) (d9 : decode cc (pc + 9) = .ok (.athrow, 1))
    (hout : ∀ x ∈ c.exceptionTable.toList, covers x (pc + 9) = false)
    (hRframes : names.length + 4 < R.frames) (hRlocals : (rest.map fun v => v.category).sum + (13 * (names.length + 2) + 43) ≤ R.locals) (hRcells : cells + 1 ≤ R.cells) (hRslots : slots + 6 ≤ R.slots) (hlocks : meth.locks = false)
    (hx : ∀ t : State, s.vm.Alike t.vm → H.size ≤ t.heap.size → (∀ q : Nat, q < H.size → t.heap[q]? = H[q]?) → XC cls s t)
    (hf : ∀ z ∈ locs, free z.base) (hc : cells + 1 ≤ mc) (hs : slots + 6 ≤ ms) :
    W p l e R s m args below meth c H locs cells slots (vx_MQ below Qc XC args s mc ms free) (F0 m pc ls rest) := by
  intro T hT X
  have htr : e.platform.stackTraces = false := (show e.platform.stackTraces = l.stackTraces by rw [X.admits.platform]).trans hl
  have Y := vx_rebase X (R' := { frames := R.frames, locals := R.locals, cells := 1, slots := 6 }) (Nat.le_refl _) (Nat.le_refl _) hRcells hRslots
  obtain ⟨s', hA⟩ : ∃ z, z = (T.setVm s.vm).setFrames (.invoking m args :: below) := ⟨_, rfl⟩
  rw [← hA] at Y
  have hvm : s'.vm = s.vm := by rw [hA]; rfl
  have hhp : s'.heap = H := by rw [hA]; exact hT
  have hW0 : s.WarmedH s'.vm := by rw [hvm]; exact State.WarmedH.refl s
  have hat' : ∀ w ∈ (cxA own ic cls sup ix bytes names).filter vx_no, w.before args s' = true := fun w hw => vx_ot_at hW0 hvm.symm (hgood w (List.mem_cons_of_mem _ (List.mem_cons_of_mem _ hw))) (hat w hw)
  have hk' : (Cond.classLink own ik cls).before args s' = true := vx_ot_at hW0 hvm.symm (hgood _ List.mem_cons_self) hk
  have hini' : (Cond.initialized cls).before args s' = true := vx_ot_at hW0 hvm.symm (hgood _ (List.mem_cons_of_mem _ List.mem_cons_self)) hini
  have hU' : vx_Zq Bundle.tN "UNASSIGNED_STACK" Bundle.steD A s' s'.heap := by rw [hhp]; exact vx_Zq.moved hW0.alike (hU.kept hS.2.1)
  have hN' : vx_Zq Bundle.tN "SUPPRESSED_SENTINEL" Bundle.listD A s' s'.heap := by rw [hhp]; exact vx_Zq.moved hW0.alike (hN.kept hS.2.1)
  have h : ∀ w ∈ cxA own ic cls sup ix bytes names, w.before args s' = true := vx_own hat' (vx_isRefq hU'.1) (vx_isRefq hN'.1) hU'.2.word hN'.2.word
  have hown' : s'.vm.findClass own = some m.cls := by rw [hvm]; exact hown
  have hins : (Cond.instantiable cls 6).before args s' = true := h _ (List.mem_append_right _ (by simp only [cxT, Bundle.ownAtoms, List.drop_left]; simp))
  obtain ⟨vm₁, cX, kX, hfX, hkX, -, -, X₁, st1⟩ := Y.newCold hexec (own := own) (C := cls) (index := ik) (n := 6) hown' hk' hins hini'
    (g := F0 m pc ls rest) rfl (by rw [hb]; exact d0) (Nat.le_refl _) (Nat.le_refl _)
  generalize hT1 : (T.setVm vm₁).pushCell { cls := cX, slots := kX.instanceTypes.map defaultValue, vm := .none } = T1 at X₁ st1
  have hcat : (Value.ref T.heap.size).category = 1 := rfl
  have hcellA : T1.heap[T.heap.size]? = some (freshCell cX kX) := by rw [← hT1]; exact State.heap_pushCell_size _ _
  have d3' : decode c.code (pc + 3) = .ok (.dup, 1) := by rw [hb]; exact d3
  have d4' : decode c.code (pc + 4) = .ok (.ldc is, 2) := by rw [hb]; exact d4
  have hstr' : vk_R own is text sa s' := vk_R.warm hW0 hstr
  obtain ⟨U, hsteps, hrun, hend, hW, hsame, ce, hce, hOc, hOv⟩ := cx_ctorThrow X₁ hexec htr (own := own) (C := cls) (D := sup) (names := names) (ic := ic) hown' hcls hsup hnames k0 k1 k2 k5 h hfX hkX hcellA (by rw [hhp, hT]; exact Nat.le_refl _) (msg := .ref sa) rfl
    (g := { method := m, pc := pc + 6, locals := ls, stack := .ref sa :: .ref T.heap.size :: .ref T.heap.size :: rest, locked := none }) rfl hsize rfl rfl (rest := rest) rfl
    (by rw [hb]; exact d6) (by rw [hb]; exact d9) hout hRframes (by simp only [List.map_cons, List.sum_cons, hcat]; omega) hlocks
  obtain ⟨f1, f2⟩ := vx_frame hsame
  rw [hhp] at f1 f2
  have hWs : s.WarmedH U.vm := State.WarmedH.trans hW0 hW
  have hcl : s.vm.findClass cls = some ce.cls := by
    have h9 := hOc
    rw [hvm] at h9
    exact h9
  have hall : s.sameButNew ({ U with vm := s.vm } : State) locs mc ms := by
    subst hA
    obtain ⟨e1, e2⟩ := hsame
    rw [State.setFrames_setFrames] at e1
    have h2 : (T.setVm s.vm).sameButNew ({ U with vm := s.vm } : State) [] (0 + 1) (0 + 6) := ⟨e1, e2⟩
    have h3 := X.same.trans h2
    rw [List.append_nil] at h3
    exact h3.mono hc hs
  refine ⟨U, ?_, .threw T.heap.size, hrun, hend, Or.inr ⟨T.heap.size, rfl, cls, ce, locs, hx U hWs.alike f1 (fun q hq => f2 q hq (fun z hz => nomatch hz)), hce, hOv, hcl, hWs, hall, hf⟩⟩
  refine st1 _ ?_
  show Steps p.tables e below (T1.setTop { method := m, pc := pc + 3, locals := ls, stack := .ref T.heap.size :: rest, locked := none }) _
  jvm_step X₁.here [X₁.here.top, hexec, d3', Value.category]
  exact X₁.ldcString hexec (own := own) (text := text) (index := is) (a := sa) hown' hstr'.1 hstr'.2
    (g := { method := m, pc := pc + 4, locals := ls, stack := .ref T.heap.size :: .ref T.heap.size :: rest, locked := none }) rfl d4' _ hsteps
end CT2
section CT3
abbrev NSE : String := "java/util/NoSuchElementException"
/-- the words of this class's throws -/
def LT : List Cond := cxA RX8 191 NSE "java/lang/RuntimeException" 13 prog_18_method_4_code ["java/lang/Exception"]
def GT : List Cond := (LT.filter vx_no).filter goodWord
def BT : List Cond := [.castable NSE NSE, .declares (Bundle.initS "java/lang/RuntimeException"), .declares (Bundle.initS "java/lang/Exception"), .declares (Bundle.initS Bundle.tN)]
theorem BT_all : ∀ w ∈ (LT.filter vx_no).filter (fun w => !goodWord w), w ∈ BT := by decide +kernel
theorem LT_ot : ∀ w ∈ Cond.classLink RX8 187 NSE :: Cond.initialized NSE :: LT.filter vx_no, vx_ot w = true := by decide +kernel
/-- what a throw needs of the heap and of the tables that no word list carries -/
def tw (A : Nat → Prop) (U : State) (H : Heap) : Prop := (∃ sa, vk_R RX8 189 "no such foot, maker or question" sa U) ∧ (∃ sa, vk_R RX8 204 "no such maker or question" sa U) ∧ (∃ sa, vk_R RX8 212 "no such feet or question" sa U) ∧ vx_Zq Bundle.tN "UNASSIGNED_STACK" Bundle.steD A U H ∧ vx_Zq Bundle.tN "SUPPRESSED_SENTINEL" Bundle.listD A U H ∧ va_Nw (.castable NSE NSE) U ∧ va_Nw (.declares (Bundle.initS "java/lang/RuntimeException")) U ∧ va_Nw (.declares (Bundle.initS "java/lang/Exception")) U ∧ va_Nw (.declares (Bundle.initS Bundle.tN)) U
theorem tw_same {A : Nat → Prop} {u U : State} {H : Heap} (e : U.vm = u.vm) (h : tw A u H) : tw A U H := by
  obtain ⟨⟨a1, h1⟩, ⟨a2, h2⟩, ⟨a3, h3⟩, h4, h5, h6, h7, h8, h9⟩ := h
  have al : u.vm.Alike U.vm := by rw [e]; exact Vm.Alike.refl _
  exact ⟨⟨a1, vk_R.same e h1⟩, ⟨a2, vk_R.same e h2⟩, ⟨a3, vk_R.same e h3⟩, h4.moved al, h5.moved al, va_Nw.same rfl e.symm h6, va_Nw.same rfl e.symm h7, va_Nw.same rfl e.symm h8, va_Nw.same rfl e.symm h9⟩
theorem tw_warm {A B : Nat → Prop} {s U : State} {H0 H : Heap} {locs : List Loc} (hW : s.WarmedH U.vm) (hS : va_S A H0 H locs) (hAB : ∀ q, B q → A q) (h : tw A s H0) : tw B U H := by
  obtain ⟨⟨a1, h1⟩, ⟨a2, h2⟩, ⟨a3, h3⟩, h4, h5, h6, h7, h8, h9⟩ := h
  exact ⟨⟨a1, vk_R.warm hW h1⟩, ⟨a2, vk_R.warm hW h2⟩, ⟨a3, vk_R.warm hW h3⟩, ((h4.kept hS.2.1).moved hW.alike).narrow hAB, ((h5.kept hS.2.1).moved hW.alike).narrow hAB, va_Nw.warmC hW h6, va_Nw.warmD hW h7, va_Nw.warmD hW h8, va_Nw.warmD hW h9⟩
theorem tw_words {A : Nat → Prop} {s : State} {H : Heap} {args : Array Value} (h : tw A s H) : ∀ w ∈ BT, w.before args s = true := by
  obtain ⟨-, -, -, -, -, h6, h7, h8, h9⟩ := h
  exact vx_c (va_Nw.use rfl h6) (vx_c (va_Nw.use rfl h7) (vx_c (va_Nw.use rfl h8) (vx_c (va_Nw.use rfl h9) vx_n)))
abbrev pt (D : va_G) (sz : Nat) (ws : va_W) (tys : TyL) (U : State) : Prop := pw D sz ws tys U ∧ tw (va_A ws sz) U U.heap
theorem pt_blind {D : va_G} {sz : Nat} {ws : va_W} {tys : TyL} {As : List Value} : FrameBlind (va_Pc As (pt D sz ws tys)) := fun a U g mk q => by
  obtain ⟨q0, q1, q2⟩ := q
  obtain ⟨-, hB⟩ := pw_blind (As := As) a U g mk ⟨q0, q1⟩
  exact ⟨q0, hB, tw_same (u := U) (U := U.calling g mk a) rfl q2⟩
theorem pt_S {s : State} {H H0 : Heap} {locs : List Loc} {D : va_G} {ws wc : va_W} {tys tc : TyL} {As : List Value} {A : Nat → Prop} (isC isT : List Nat) (hP : va_P D vwCl ws H) (hD : va_D A ws) (hK : va_K D vwCl tys s) (hN : nw s) (hS : va_S A H0 H locs) (hA : ∀ q, H0.size ≤ q → A q) (hT : tw A s H0) (hC : isC.filterMap (fun i => ws[i]?) = wc) (hC2 : isC.map (fun i => ws[i]?) = wc.map some) (hn : va_nd isC = true) (hTy : isT.filterMap (fun i => tys[i]?) = tc) : PreS s H (va_Pc As (pt D H.size wc tc)) As :=
  ⟨pt_blind, fun U hU hW => ⟨rfl, ((pw_S (As := As) isC isT hP hD hK hN hC hC2 hn hTy).2 U hU hW).2, by rw [hU]; exact tw_warm hW hS (va_free (wc := wc) hD hS hA isC hC2) hT⟩⟩
theorem pt_V {s : State} {H H0 : Heap} {locs : List Loc} {D : va_G} {ws wc : va_W} {tys tc : TyL} {As : List Value} {A : Nat → Prop} (isC isT : List Nat) (hP : va_P D vwCl ws H) (hD : va_D A ws) (hK : va_K D vwCl tys s) (hN : nw s) (hS : va_S A H0 H locs) (hA : ∀ q, H0.size ≤ q → A q) (hT : tw A s H0) (hC : isC.filterMap (fun i => ws[i]?) = wc) (hC2 : isC.map (fun i => ws[i]?) = wc.map some) (hn : va_nd isC = true) (hTy : isT.filterMap (fun i => tys[i]?) = tc)
    {ci q0 : Nat} {b : Nat} {fs : List Value} {q : vw_C} (hc : vwCl[ci]? = some q) (he : ws[q0]? = some (b, .inr (ci, fs))) : PreV s H q.1 b (va_Pc (.ref b :: As) (pt D H.size wc tc)) As :=
  ⟨pt_blind, va_recv hK hP hc he, fun U hU hW => ⟨rfl, ((pw_V (As := As) isC isT hP hD hK hN hC hC2 hn hTy hc he).2.2 U hU hW).2, by rw [hU]; exact tw_warm hW hS (va_free (wc := wc) hD hS hA isC hC2) hT⟩⟩
end CT3
