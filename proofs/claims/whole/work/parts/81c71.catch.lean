section Catch
/-- the one row of the table takes the exception: one step, with the row's class noted on the way -/
theorem one_row {e : Env} {U : State} {f : JFrame} {a : Addr} {r : List Frame} {meth : Method} {code : Code} {x : ExceptionTableEntry} {ce : Cell} (hm : U.vm.method? f.method = some meth) (hc : meth.code = some code) (ht : code.exceptionTable.toList = [x])
    (hx : covers x f.pc = true) (h0 : x.catchType ≠ 0) (hl : U.vm.ClassLinks e.platform f.method.cls x.catchType ce.cls) (hcell : U.heap[a]? = some ce) (hv : ce.vm = .none) (hk : ∃ k, U.vm.classes[ce.cls]? = some k) :
    (stepThrowing e U a (.java f :: r)).Is ((U.setVm (U.vm.noted f.method.cls x.catchType (.cls ce.cls))).setFrames (.java { f with pc := x.handlerPc, stack := [.ref a] } :: r)) [] := by
  have key : ∀ (Q : Handler → Pre) (E : CtlPost) (d : Bool) (acts : List Action), wp (findHandler f a) Q E e d acts U ↔ Q (.found x.handlerPc) d acts (U.setVm (U.vm.noted f.method.cls x.catchType (.cls ce.cls))) := by
    intro Q E d acts
    obtain ⟨r1, r2⟩ := (resolveClass_links e.toSetting hl).op (op := VmOp.resolveClass f.method.cls x.catchType) rfl
    obtain ⟨k, hk⟩ := hk
    obtain ⟨k2, hk2, -⟩ := ((Vm.Alike.refl U.vm).noted f.method.cls x.catchType (.cls ce.cls)).2.2 _ _ hk
    simp only [covers] at hx
    rw [W.findHandler_eq hm hc, ht]
    simp [findHandler.go, hx, h0, r1, r2, hcell, hv, hk2, va_asg, VmOp.dirties, VmOp.acts]
  simp only [stepThrowing, searchFrame, vmDo]
  generalize hr : Sem.go _ e false [] U = res
  obtain ⟨as, rfl, ha⟩ := Sem.eq_ok_of hr (a := Handler.found x.handlerPc) (s' := U.setVm (U.vm.noted f.method.cls x.catchType (.cls ce.cls))) (acts' := []) (by simp [key _ _ _ _])
  exact ⟨rfl, ha⟩
theorem catchP (l : Launch) : CatchP l := by
  intro p e R s m args below meth c H locs cells slots Q pc ls rest x ce q hown htab hx h0 hlink hcell hv hcl kk T hT X
  have hpl : e.platform.magicAccessors = ({} : Platform).magicAccessors := by rw [X.admits.platform]
  obtain ⟨k, hk, hL⟩ := Cond.classLink_spec hown hlink e.platform hpl
  cases Option.some.inj (hk.symm.trans hcl)
  obtain ⟨dk, _, _, kt, hd, _, _, _, _, hkt, _, hopen⟩ := hL.here
  obtain ⟨kt2, hkt2, -⟩ := X.warmed.alike.2.2 _ _ hkt
  obtain ⟨t, a1, b1⟩ := kk (T.setVm (T.vm.noted m.cls x.catchType (.cls ce.cls))) hT (X.noted (X.warmed.noted hd hopen (State.rightAt_cls hL)))
  refine ⟨t, ?_, b1⟩
  obtain ⟨g0, hfr⟩ := X.frames_eq
  have hat : At T (F0 m pc ls rest).method c below := X.here
  obtain ⟨hgo, hwi⟩ := hat.throwing q
  refine Steps.head hgo hwi ?_
  have h1 := one_row (e := e) (U := (T.setTop (F0 m pc ls rest)).pushFrame (.throwing q)) (f := F0 m pc ls rest) (a := q) (r := T.frames.tail) (meth := meth) (code := c) (x := x) (ce := ce) X.method' X.code htab hx h0 (X.warmed.classLinks hL) (show T.heap[q]? = some ce by rw [hT]; exact hcell) hv ⟨kt2, hkt2⟩
  rw [stepThread_throwing (frames_entered hat.top _), h1.1]
  have e2 : ((((T.setTop (F0 m pc ls rest)).pushFrame (.throwing q)).setVm (T.vm.noted m.cls x.catchType (.cls ce.cls))).setFrames (.java { F0 m pc ls rest with pc := x.handlerPc, stack := [.ref q] } :: T.frames.tail)) = (T.setVm (T.vm.noted m.cls x.catchType (.cls ce.cls))).setTop (F0 m x.handlerPc ls [.ref q]) := by
    have h3 : (T.setVm (T.vm.noted m.cls x.catchType (.cls ce.cls))).frames = .java g0 :: below := hfr
    rw [State.setTop_of_frames _ h3, State.setTop_of_frames _ hfr, hfr, List.tail_cons, State.pushFrame, State.setFrames_setFrames]
    show ((T.setVm (T.vm.noted m.cls x.catchType (.cls ce.cls))).setFrames _).setFrames _ = _
    rw [State.setFrames_setFrames]
  exact e2 ▸ a1
end Catch
