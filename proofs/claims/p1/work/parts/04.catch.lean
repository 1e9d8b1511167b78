/-! A throw of a callee, caught by the one row of the caller's table. The printed rows for this rest on laws that no round imports; here the step is walked from the machine's own definitions. -/
section CX
variable {p : Program} {l : Launch} {e : Env} {R : Room} {s : State} {m : MethodId} {args : Array Value} {below : List Frame} {meth : Method} {c : Code} {H : Heap} {locs : List Loc} {cells slots : Nat} {Q : State → Prop} {ls : Array Slot} {rest : List Value} {pc : Nat}
/-- one step of a throw over a frame whose table has one row, which covers the pc and takes the object: the frame stands at its handler, and the row's class is noted -/
theorem cq_land {S : State} {f : JFrame} {r : List Frame} {mt : Method} {cd : Code} {x : ExceptionTableEntry} {o : Addr} {ce : Cell} {k : ClassId} {z0 z1 : Class}
    (hm : S.vm.method? f.method = some mt) (hc : mt.code = some cd) (ht : cd.exceptionTable.toList = [x]) (hx : covers x f.pc = true) (h0 : x.catchType ≠ 0)
    (hl : S.vm.ClassLinks e.platform f.method.cls x.catchType k) (ho : S.heap[o]? = some ce) (hv : ce.vm = .none)
    (c0 : S.vm.classes[ce.cls]? = some z0) (c1 : S.vm.classes[k]? = some z1) (hf : S.vm.assignable ce.cls k = true) :
    (stepThrowing e S o (.java f :: r)).1 = (S.setVm (S.vm.noted f.method.cls x.catchType (.cls k))).setFrames (.java { f with pc := x.handlerPc, stack := [.ref o] } :: r) := by
  have al : S.vm.Alike (S.vm.noted f.method.cls x.catchType (.cls k)) := (Vm.Alike.refl S.vm).noted f.method.cls x.catchType (.cls k)
  obtain ⟨y0, n0, -⟩ := al.2.2 _ _ c0
  obtain ⟨y1, n1, -⟩ := al.2.2 _ _ c1
  have nf := (al.assignable ce.cls k).trans hf
  have look : ∀ (Qh : Handler → Pre) (E : CtlPost) (d : Bool) (acts : List Action), wp (findHandler f o) Qh E e d acts S ↔ Qh (.found x.handlerPc) d acts (S.setVm (S.vm.noted f.method.cls x.catchType (.cls k))) := by
    intro Qh E d acts
    have op := (resolveClass_links e.toSetting hl).op (op := VmOp.resolveClass f.method.cls x.catchType) rfl
    simp only [covers] at hx
    simp [findHandler, hm, hc, ht, findHandler.go, hx, h0, op.1, op.2, ho, hv, n0, n1, nf, VmOp.dirties, VmOp.acts]
  simp only [stepThrowing, searchFrame, vmDo]
  generalize hr : Sem.go _ e false [] S = out
  obtain ⟨as, rfl, -⟩ := Sem.eq_ok_of hr (a := Handler.found x.handlerPc) (s' := S.setVm (S.vm.noted f.method.cls x.catchType (.cls k))) (acts' := []) (by simp [look _ _ _ _])
  rfl
/-- the one row of the table covers the pc and names a class to which the thrown one can be assigned: on to its handler -/
theorem cx_catch {own name : String} {E : String} {ce : Cell} {q : Addr} (hown : s.vm.findClass own = some m.cls) (x : ExceptionTableEntry) (hsplit : c.exceptionTable.toList = [x]) (hx : covers x pc = true) (h0 : x.catchType ≠ 0)
    (hlink : (Cond.classLink own x.catchType name).before args s = true) (hcast : (Cond.castable E name).before args s = true) (hcell : H[q]? = some ce) (hv : ce.vm = .none) (hcl : s.vm.findClass E = some ce.cls)
    (kk : W p l e R s m args below meth c H locs cells slots Q (F0 m x.handlerPc ls [.ref q])) : vx_W p l e R s m args below meth c H locs cells slots Q (F0 m pc ls rest) q := by
  intro T hT X
  obtain ⟨kE, kN, e1, e2, fit⟩ := Cond.castable_spec hcast
  obtain ⟨kL, e3, hL⟩ := Cond.classLink_spec hown hlink e.platform (by rw [X.admits.platform])
  rw [hcl] at e1
  rw [e3] at e2
  injection e1 with e1
  injection e2 with e2
  subst e1 e2
  obtain ⟨_, _, _, z1, hd, _, _, _, _, hz1, _, hop⟩ := hL.here
  have al := X.warmed.alike
  obtain ⟨y1, hy1, -⟩ := al.2.2 _ _ hz1
  have fitT : T.vm.assignable ce.cls kL = true := (al.assignable _ _).trans fit
  obtain ⟨y0, hy0⟩ := Vm.classAt_of_assignable fitT ⟨y1, hy1⟩
  obtain ⟨t, go, hQ⟩ := kk (T.setVm (T.vm.noted m.cls x.catchType (.cls kL))) hT (X.noted (X.warmed.noted hd hop (State.rightAt_cls hL)))
  refine ⟨t, ?_, hQ⟩
  obtain ⟨g0, hg0⟩ := Option.isSome_iff_exists.mp X.here.top
  obtain ⟨r, hr⟩ := State.topJava?_eq_some.mp hg0
  have q12 := At.throwing (g := F0 m pc ls rest) X.here q
  refine Steps.head q12.1 q12.2 ?_
  rw [stepThread_throwing (frames_entered (g := F0 m pc ls rest) X.here.top _)]
  rw [cq_land (S := (T.setTop (F0 m pc ls rest)).pushFrame (.throwing q)) (f := F0 m pc ls rest) (mt := meth) (cd := c) (x := x) (ce := ce) (k := kL) (z0 := y0) (z1 := y1) X.method' X.code hsplit hx h0 (X.warmed.classLinks hL) (by show T.heap[q]? = some ce; rw [hT]; exact hcell) hv hy0 hy1 fitT]
  have same : ∀ (vm' : Vm) (G : JFrame), (((T.setTop (F0 m pc ls rest)).pushFrame (.throwing q)).setVm vm').setFrames (.java G :: T.frames.tail) = (T.setVm vm').setTop G := by
    intro vm' G
    have up : ∃ A B, ((T.setTop (F0 m pc ls rest)).pushFrame (.throwing q)).setVm vm' = ((T.setVm vm').setFrames A).setFrames B := ⟨_, _, by rw [State.setTop_of_frames _ hr, State.pushFrame]; rfl⟩
    obtain ⟨A, B, up⟩ := up
    rw [up, State.setTop_of_frames (s := T.setVm vm') G hr, hr, List.tail_cons, State.setFrames_setFrames, State.setFrames_setFrames]
  rw [same]
  exact go
end CX
