section CX
variable {p : Program} {l : Launch} {e : Env} {R : Room} {s : State} {m : MethodId} {args : Array Value} {below : List Frame} {meth : Method} {c : Code} {H : Heap} {locs : List Loc} {cells slots : Nat} {Q : State → Prop}
/-- the search in a table of one row, which covers the place and names a class that the thing is of -/
theorem cx_find {T : State} {g : JFrame} {q : Addr} {x : ExceptionTableEntry} {k : ClassId} {ce : Cell} (hm : T.vm.method? g.method = some meth) (hc : meth.code = some c) (hs : c.exceptionTable.toList = [x]) (hx : covers x g.pc = true) (h0 : x.catchType ≠ 0)
    (hl : T.vm.ClassLinks e.platform g.method.cls x.catchType k) (hcell : T.heap[q]? = some ce) (hobj : ∀ j, ce.vm ≠ .statics j) (hk1 : ∃ j, T.vm.classes[ce.cls]? = some j) (hk2 : ∃ j, T.vm.classes[k]? = some j) (hfit : T.vm.assignable ce.cls k = true)
    (Q9 : Handler → Pre) (E9 : CtlPost) (d : Bool) (acts : List Action) : wp (findHandler g q) Q9 E9 e d acts T ↔ Q9 (.found x.handlerPc) d acts (T.setVm (T.vm.noted g.method.cls x.catchType (.cls k))) := by
  rw [W.findHandler_eq hm hc, hs]
  simp only [covers] at hx
  obtain ⟨r1, r2⟩ := (resolveClass_links e.toSetting hl).op (op := VmOp.resolveClass g.method.cls x.catchType) rfl
  have al : T.vm.Alike (T.vm.noted g.method.cls x.catchType (.cls k)) := (Vm.Alike.refl T.vm).noted _ _ _
  obtain ⟨j1, hj1⟩ := hk1
  obtain ⟨j2, hj2⟩ := hk2
  obtain ⟨i1, hi1, -⟩ := al.2.2 _ _ hj1
  obtain ⟨i2, hi2, -⟩ := al.2.2 _ _ hj2
  have hfit2 : (T.vm.noted g.method.cls x.catchType (.cls k)).assignable ce.cls k = true := by rw [al.assignable]; exact hfit
  simp [findHandler.go, hx, h0, r1, r2, hcell, hobj, hi1, hi2, hfit2, VmOp.dirties, VmOp.acts]
/-- caught by the one row of this method's table -/
theorem cx_catch {own name E : String} {ce : Cell} {q : Addr} {pc : Nat} {ls : Array Slot} {rest : List Value} (hown : s.vm.findClass own = some m.cls) (x : ExceptionTableEntry) (hsplit : c.exceptionTable.toList = [x]) (hx : covers x pc = true) (h0 : x.catchType ≠ 0)
    (hlink : (Cond.classLink own x.catchType name).before args s = true) (hcast : (Cond.castable E name).before args s = true) (hcell : H[q]? = some ce) (hv : ce.vm = .none) (hcl : s.vm.findClass E = some ce.cls)
    (kk : W p l e R s m args below meth c H locs cells slots Q (F0 m x.handlerPc ls [.ref q])) : vx_W p l e R s m args below meth c H locs cells slots Q (F0 m pc ls rest) q := by
  intro T hT X
  have hpl : e.platform.magicAccessors = ({} : Platform).magicAccessors := by rw [X.admits.platform]
  obtain ⟨c3, c4, hc3, hc4, hasg⟩ := Cond.castable_spec hcast
  cases Option.some.inj (hc3.symm.trans hcl)
  obtain ⟨c5, hc5, hcl5⟩ := Cond.classLink_spec hown hlink e.platform hpl
  cases Option.some.inj (hc4.symm.trans hc5)
  obtain ⟨dk, _, _, kt, hd, _, _, _, _, hkt, _, hopen⟩ := hcl5.here
  have hw1 : s.WarmedH (T.vm.noted m.cls x.catchType (.cls c4)) := X.warmed.noted hd hopen (State.rightAt_cls hcl5)
  obtain ⟨kt2, hkt2, -⟩ := X.warmed.alike.2.2 _ _ hkt
  have hf2 : T.vm.assignable ce.cls c4 = true := by rw [X.warmed.alike.assignable]; exact hasg
  obtain ⟨t, a1, b1⟩ := kk (T.setVm (T.vm.noted m.cls x.catchType (.cls c4))) hT (X.noted hw1)
  refine ⟨t, ?_, b1⟩
  have key := cx_find (e := e) (T := (T.setTop (F0 m pc ls rest)).pushFrame (.throwing q)) (g := F0 m pc ls rest) (q := q) (meth := meth) (c := c) (x := x) (k := c4) (ce := ce) X.method' X.code hsplit hx h0 (X.warmed.classLinks hcl5) (by show T.heap[q]? = some ce; rw [hT]; exact hcell) (fun j h => by rw [hv] at h; cases h) (Vm.classAt_of_assignable hf2 ⟨kt2, hkt2⟩) ⟨kt2, hkt2⟩ hf2
  obtain ⟨hgo, hw⟩ := At.throwing (g := F0 m pc ls rest) X.here q
  refine Steps.head hgo hw ?_
  have hstep : (stepThrowing e ((T.setTop (F0 m pc ls rest)).pushFrame (.throwing q)) q (.java (F0 m pc ls rest) :: T.frames.tail)).Is ((((T.setTop (F0 m pc ls rest)).pushFrame (.throwing q)).setVm (T.vm.noted m.cls x.catchType (.cls c4))).setFrames (.java (F0 m x.handlerPc ls [.ref q]) :: T.frames.tail)) [] := by
    simp only [stepThrowing, searchFrame, vmDo]
    generalize hr : Sem.go _ e false [] ((T.setTop (F0 m pc ls rest)).pushFrame (.throwing q)) = res
    obtain ⟨as, rfl, ha⟩ := Sem.eq_ok_of hr (a := Handler.found x.handlerPc) (s' := ((T.setTop (F0 m pc ls rest)).pushFrame (.throwing q)).setVm (T.vm.noted m.cls x.catchType (.cls c4))) (acts' := []) (by simp [key]; rfl)
    exact ⟨rfl, ha⟩
  rw [stepThread_throwing (frames_entered X.here.top _), hstep.1]
  obtain ⟨g0, hg⟩ := Option.isSome_iff_exists.mp X.here.top
  obtain ⟨r, hr⟩ := State.topJava?_eq_some.mp hg
  have hr2 : (T.setVm (T.vm.noted m.cls x.catchType (.cls c4))).frames = .java g0 :: r := hr
  rw [State.setTop_of_frames _ hr2] at a1
  have e1 : ∀ (u : State) (v : Vm) (F G : List Frame), ((u.setFrames F).setVm v).setFrames G = (u.setVm v).setFrames G := fun u v F G => by
    have h1 : (u.setFrames F).setVm v = (u.setVm v).setFrames F := rfl
    rw [h1, State.setFrames_setFrames]
  rw [hr, List.tail_cons, State.pushFrame, e1, State.setTop_of_frames _ hr, e1]
  exact a1
end CX
