/-! constructors: they make cells -/
def rmc (d mc ms : Nat) : Room := { frames := d, cells := mc, slots := ms, locals := 60 * d }
def AOs (U : State) : Prop := va_AO "SnowForSummer$State" U ∧ va_AO "SnowForSummer$Walk" U
def PrN (E : ENV) (av : List Value) (ws : va_W) (sz : Nat) : Array Value → State → Prop := fun a U => Pr E av ws sz a U ∧ AOs U
abbrev QN (E : ENV) (A : Nat → Prop) (wsf : List Nat → va_W) : Array Value → State → Outcome → State → Prop := va_Qv (fun (_ : List Nat) => True) (fun u t => Wd E A (wsf u) t) A
/-- a constructor's contract: from the world ws to wsf of some new addresses; mc cells of ms slots come -/
def CN (l : Launch) (E : ENV) (y : MethodName) (cc : ByteArray) (n d mc ms : Nat) (av : List Value) (ws : va_W) (wsf : List Nat → va_W) : Prop :=
  ∀ sz, Met l y (wl y cc n none) (rmc d mc ms) (PrN E av ws sz) (QN E (va_A ws sz) wsf) mc ms (va_A ws sz)
def RetN (p : Program) (l : Launch) (e : Env) (d mc ms : Nat) (s : State) (m : MethodId) (args : Array Value) (below : List Frame) (meth : Method) (c : Code) (cc : ByteArray) (E : ENV) (A : Nat → Prop) (wsf : List Nat → va_W) (Q : State → Prop) : Prop :=
  ∀ (H : Heap) (locs : List Loc) (ls : Array Slot) (pc : Nat) (u : List Nat), decode cc pc = .ok (.return_, 1) → va_P E.1 classes (wsf u) H → va_D A (wsf u) → va_S A s.heap H locs → W p l e (rmc d mc ms) s m args below meth c H locs mc ms Q (F0 m pc ls [])
theorem begN {l : Launch} {E : ENV} {y : MethodName} {cc : ByteArray} {n d mc ms : Nat} {av : List Value} {ws : va_W} {wsf : List Nat → va_W} (hy : plainName y.cls = true) (hyn : y.name = "<init>") (hn : (lg_sl av).length ≤ n)
    (h : ∀ (p : Program) (e : Env) (s : State) (m : MethodId) (args : Array Value) (below : List Frame) (meth : Method) (c : Code) (A : Nat → Prop) (Q : State → Prop) (ls : Array Slot), Cx E A y cc n none p s m args meth c → AOs s → meth.name = "<init>" → (∀ q, s.heap.size ≤ q → A q) → RetN p l e d mc ms s m args below meth c cc E A wsf Q →
      lv_has ls n (lv_args 0 av) → va_P E.1 classes ws s.heap → va_D A ws → va_S A s.heap s.heap [] → W p l e (rmc d mc ms) s m args below meth c s.heap [] 0 0 Q (F0 m 0 ls [])) : CN l E y cc n d mc ms av ws wsf := by
  intro sz
  refine Met.ofW (cc := cc) (maxL := n) (ret := none) hy rfl ?_
  intro p e s m args below meth c s₁ B hml hv
  obtain ⟨⟨rfl, hsz, ⟨hN, hO⟩, hP, hK, hD0⟩, hAO⟩ := hv
  have hx := B.exec
  have hb := B.bytes
  have hr := B.returns
  have hts := atoms_spec (ws := wl y cc n none) B.pre
  have hown : s.vm.findClass y.cls = some m.cls := findClass_of_methodNamed B.named
  have hlocks := B.notSynchronized
  have hin : meth.name = "<init>" := (name_of_methodNamed B.named B.method).1.trans hyn
  subst hsz
  have hD := hD0.self (sz := s.heap.size)
  have hA : ∀ q : Nat, s.heap.size ≤ q → va_A ws s.heap.size q := fun q h => Or.inr h
  rw [lg_entry_eq]
  exact h p e s m av.toArray below meth c (va_A ws s.heap.size) _ _ ⟨hx, hb, hml, hown, hts, hK, hr, hlocks, hN, hO⟩ hAO hin hA (fun H locs ls pc u hdg hP hD hS => W.vret hx hb hr (fun t ht hW => ⟨⟨u, rfl, trivial, by rw [ht]; exact hP, va_K.moved hW.alike hK, hD⟩, hS.F ht⟩) hS.2.2 hdg hlocks) (lv_entry av hn) hP hD va_S.rf
theorem q_obj : Cond.instanceMethod Lib.objectInit ∈ Tg ∧ Cond.code Lib.objectInit ⟨#[0xb1]⟩ 1 none ∈ Tg := ⟨Tg_mem 122 (by decide +kernel) (by decide +kernel), Tg_mem 123 (by decide +kernel) (by decide +kernel)⟩
theorem q_ai : Cond.arrayClass .int ∈ Tg := Tg_mem 144 (by decide +kernel) (by decide +kernel)
theorem q_ab : Cond.arrayClass .byte ∈ Tg := Tg_mem 688 (by decide +kernel) (by decide +kernel)
theorem q_az : Cond.arrayClass .boolean ∈ Tg := Tg_mem 1483 (by decide +kernel) (by decide +kernel)
section NR
variable {p : Program} {l : Launch} {e : Env} {R : Room} {s : State} {m : MethodId} {args : Array Value} {below : List Frame} {meth : Method} {c : Code} {H : Heap} {locs : List Loc} {cells slots : Nat} {Q : State → Prop}
variable {E : ENV} {y : MethodName} {cc : ByteArray} {n : Nat} {r : Option FieldType} {pc : Nat} {ls : Array Slot} {rest : List Value} {A : Nat → Prop} {a : Nat} {ws : va_W} {idx : Nat}
theorem n_obj (C : Cx E A y cc n r p s m args meth c) (hq : Cond.methodLink y.cls idx Lib.objectInit ∈ Tg) (hls : ls.size = n) (hf : 1 ≤ R.frames) (hlo : (rest.map fun v => v.category).sum + 12 ≤ R.locals) (hdg : decode cc pc = .ok (.invokespecial idx, 3))
    (kk : W p l e R s m args below meth c H locs cells slots Q (F0 m (pc + 3) ls rest)) : W p l e R s m args below meth c H locs cells slots Q (F0 m pc ls (.ref a :: rest)) := by
  have tg : ∀ w ∈ Tg, w.before args s = true := fun w h => C.2.2.2.2.1 w (List.mem_cons_of_mem _ h)
  exact W.objInit C.1 C.2.1 C.2.2.2.1 (tg _ hq) (tg _ q_obj.1) (tg _ q_obj.2) rfl (by rw [C.2.2.1]; exact hls) rfl hdg hf (by show 2 * 0 + _ + 12 ≤ _; omega) kk
theorem n_arr {cA cB : ClassId} {ty : FieldType} (h1 : s.vm.findClass ("[" ++ ty.toString) = some cA) (h2 : s.vm.findClass ("[" ++ ty.toString) = some cB) : cA = cB := Option.some.inj (h1.symm.trans h2)
theorem n_newi (C : Cx E A y cc n r p s m args meth c) (hP : va_P E.1 classes ws H) (hD : va_D A ws) (hS : va_S A s.heap H locs) (hA : ∀ q, s.heap.size ≤ q → A q) {k : Int32} {N : Nat} (hk : ¬ k < 0) (hN : k.toNatClampNeg = N) (hby : N * 4 ≤ 536870912) (hcells : cells + 1 ≤ R.cells) (hslots : slots + N ≤ R.slots) (hdg : decode cc pc = .ok (.newarray .int, 2))
    (kk : ∀ (q : Nat) (H1 : Heap), va_P E.1 classes (ws ++ [(q, .inl (E.2.1, N, .inl (fun _ => 0)))]) H1 → va_D A (ws ++ [(q, .inl (E.2.1, N, .inl (fun _ => 0)))]) → va_S A s.heap H1 locs → W p l e R s m args below meth c H1 locs (cells + 1) (slots + N) Q (F0 m (pc + 2) ls (.ref q :: rest))) : W p l e R s m args below meth c H locs cells slots Q (F0 m pc ls (.int k :: rest)) := by
  have tg : ∀ w ∈ Tg, w.before args s = true := fun w h => C.2.2.2.2.1 w (List.mem_cons_of_mem _ h)
  refine va_newa (atype := .int) (ty := .int) (a0 := (N, .inl (fun _ => 0))) C.1 C.2.1 (tg _ q_ai) rfl C.2.2.2.2.2.1 hP hD hS hA (fun _ => rfl) hk hN hby hcells hslots hdg (fun q cA H1 hK1 hP1 hD1 hS1 => ?_)
  have e1 : cA = E.2.1 := n_arr (ty := .int) (hK1.2 6 (cA, .int) rfl).2 (C.2.2.2.2.2.1.2 0 (E.2.1, .int) rfl).2
  subst e1
  exact kk q H1 hP1 hD1 hS1
theorem n_newb (C : Cx E A y cc n r p s m args meth c) (hP : va_P E.1 classes ws H) (hD : va_D A ws) (hS : va_S A s.heap H locs) (hA : ∀ q, s.heap.size ≤ q → A q) {k : Int32} {N : Nat} (hk : ¬ k < 0) (hN : k.toNatClampNeg = N) (hby : N * 1 ≤ 536870912) (hcells : cells + 1 ≤ R.cells) (hslots : slots + N ≤ R.slots) (hdg : decode cc pc = .ok (.newarray .byte, 2))
    (kk : ∀ (q : Nat) (H1 : Heap), va_P E.1 classes (ws ++ [(q, .inl (E.2.2.1, N, .inl (fun _ => 0)))]) H1 → va_D A (ws ++ [(q, .inl (E.2.2.1, N, .inl (fun _ => 0)))]) → va_S A s.heap H1 locs → W p l e R s m args below meth c H1 locs (cells + 1) (slots + N) Q (F0 m (pc + 2) ls (.ref q :: rest))) : W p l e R s m args below meth c H locs cells slots Q (F0 m pc ls (.int k :: rest)) := by
  have tg : ∀ w ∈ Tg, w.before args s = true := fun w h => C.2.2.2.2.1 w (List.mem_cons_of_mem _ h)
  refine va_newa (atype := .byte) (ty := .byte) (a0 := (N, .inl (fun _ => 0))) C.1 C.2.1 (tg _ q_ab) rfl C.2.2.2.2.2.1 hP hD hS hA (fun _ => rfl) hk hN hby hcells hslots hdg (fun q cA H1 hK1 hP1 hD1 hS1 => ?_)
  have e1 : cA = E.2.2.1 := n_arr (ty := .byte) (hK1.2 6 (cA, .byte) rfl).2 (C.2.2.2.2.2.1.2 1 (E.2.2.1, .byte) rfl).2
  subst e1
  exact kk q H1 hP1 hD1 hS1
theorem n_newz (C : Cx E A y cc n r p s m args meth c) (hP : va_P E.1 classes ws H) (hD : va_D A ws) (hS : va_S A s.heap H locs) (hA : ∀ q, s.heap.size ≤ q → A q) {k : Int32} {N : Nat} (hk : ¬ k < 0) (hN : k.toNatClampNeg = N) (hby : N * 1 ≤ 536870912) (hcells : cells + 1 ≤ R.cells) (hslots : slots + N ≤ R.slots) (hdg : decode cc pc = .ok (.newarray .boolean, 2))
    (kk : ∀ (q : Nat) (H1 : Heap), va_P E.1 classes (ws ++ [(q, .inl (E.2.2.2.1, N, .inl (fun _ => 0)))]) H1 → va_D A (ws ++ [(q, .inl (E.2.2.2.1, N, .inl (fun _ => 0)))]) → va_S A s.heap H1 locs → W p l e R s m args below meth c H1 locs (cells + 1) (slots + N) Q (F0 m (pc + 2) ls (.ref q :: rest))) : W p l e R s m args below meth c H locs cells slots Q (F0 m pc ls (.int k :: rest)) := by
  have tg : ∀ w ∈ Tg, w.before args s = true := fun w h => C.2.2.2.2.1 w (List.mem_cons_of_mem _ h)
  refine va_newa (atype := .boolean) (ty := .boolean) (a0 := (N, .inl (fun _ => 0))) C.1 C.2.1 (tg _ q_az) rfl C.2.2.2.2.2.1 hP hD hS hA (fun _ => rfl) hk hN hby hcells hslots hdg (fun q cA H1 hK1 hP1 hD1 hS1 => ?_)
  have e1 : cA = E.2.2.2.1 := n_arr (ty := .boolean) (hK1.2 6 (cA, .boolean) rfl).2 (C.2.2.2.2.2.1.2 2 (E.2.2.2.1, .boolean) rfl).2
  subst e1
  exact kk q H1 hP1 hD1 hS1
theorem n_newS (C : Cx E A y cc n r p s m args meth c) (hAO : AOs s) (hcl : Cond.classLink y.cls idx "SnowForSummer$State" ∈ Tg) (hP : va_P E.1 classes ws H) (hD : va_D A ws) (hS : va_S A s.heap H locs) (hA : ∀ q, s.heap.size ≤ q → A q) {k : Int32} {N : Nat} (hk : ¬ k < 0) (hN : k.toNatClampNeg = N) (hby : N * 4 ≤ 536870912) (hcells : cells + 1 ≤ R.cells) (hslots : slots + N ≤ R.slots) (hdg : decode cc pc = .ok (.anewarray idx, 3))
    (kk : ∀ (q : Nat) (H1 : Heap), va_P E.1 classes (ws ++ [(q, .inl (E.2.2.2.2.1, N, .inr (.inr (.inr (.inr (fun _ => none))))))]) H1 → va_D A (ws ++ [(q, .inl (E.2.2.2.2.1, N, .inr (.inr (.inr (.inr (fun _ => none))))))]) → va_S A s.heap H1 locs → W p l e R s m args below meth c H1 locs (cells + 1) (slots + N) Q (F0 m (pc + 3) ls (.ref q :: rest))) : W p l e R s m args below meth c H locs cells slots Q (F0 m pc ls (.int k :: rest)) := by
  have tg : ∀ w ∈ Tg, w.before args s = true := fun w h => C.2.2.2.2.1 w (List.mem_cons_of_mem _ h)
  refine va_newq C.1 C.2.1 C.2.2.2.1 (tg _ hcl) hAO.1 C.2.2.2.2.2.1 hP hD hS hA hk hN hby hcells hslots hdg (fun q cA H1 hK1 hP1 hD1 hS1 => ?_)
  obtain ⟨-, -, -, -, -, g1⟩ := (hK1.2 6 (cA, .object "SnowForSummer$State") rfl).2
  obtain ⟨-, -, -, -, -, g2⟩ := (C.2.2.2.2.2.1.2 3 (E.2.2.2.2.1, .object "SnowForSummer$State") rfl).2
  have e1 : cA = E.2.2.2.2.1 := Option.some.inj (g1.symm.trans g2)
  subst e1
  exact kk q H1 hP1 hD1 hS1
theorem n_newW (C : Cx E A y cc n r p s m args meth c) (hAO : AOs s) (hcl : Cond.classLink y.cls idx "SnowForSummer$Walk" ∈ Tg) (hP : va_P E.1 classes ws H) (hD : va_D A ws) (hS : va_S A s.heap H locs) (hA : ∀ q, s.heap.size ≤ q → A q) {k : Int32} {N : Nat} (hk : ¬ k < 0) (hN : k.toNatClampNeg = N) (hby : N * 4 ≤ 536870912) (hcells : cells + 1 ≤ R.cells) (hslots : slots + N ≤ R.slots) (hdg : decode cc pc = .ok (.anewarray idx, 3))
    (kk : ∀ (q : Nat) (H1 : Heap), va_P E.1 classes (ws ++ [(q, .inl (E.2.2.2.2.2.1, N, .inr (.inr (.inr (.inr (fun _ => none))))))]) H1 → va_D A (ws ++ [(q, .inl (E.2.2.2.2.2.1, N, .inr (.inr (.inr (.inr (fun _ => none))))))]) → va_S A s.heap H1 locs → W p l e R s m args below meth c H1 locs (cells + 1) (slots + N) Q (F0 m (pc + 3) ls (.ref q :: rest))) : W p l e R s m args below meth c H locs cells slots Q (F0 m pc ls (.int k :: rest)) := by
  have tg : ∀ w ∈ Tg, w.before args s = true := fun w h => C.2.2.2.2.1 w (List.mem_cons_of_mem _ h)
  refine va_newq C.1 C.2.1 C.2.2.2.1 (tg _ hcl) hAO.2 C.2.2.2.2.2.1 hP hD hS hA hk hN hby hcells hslots hdg (fun q cA H1 hK1 hP1 hD1 hS1 => ?_)
  obtain ⟨-, -, -, -, -, g1⟩ := (hK1.2 6 (cA, .object "SnowForSummer$Walk") rfl).2
  obtain ⟨-, -, -, -, -, g2⟩ := (C.2.2.2.2.2.1.2 4 (E.2.2.2.2.2.1, .object "SnowForSummer$Walk") rfl).2
  have e1 : cA = E.2.2.2.2.2.1 := Option.some.inj (g1.symm.trans g2)
  subst e1
  exact kk q H1 hP1 hD1 hS1
end NR
def KI (own : String) (idx : Nat) (y1 : MethodName) (cc1 : ByteArray) (n1 : Nat) (k : Nat) : Prop :=
  Cond.code y1 cc1 n1 none ∈ Tg ∧ Cond.initialized y1.cls ∈ Tg ∧ Cond.methodLink own idx y1 ∈ Tg ∧ Cond.instanceMethod y1 ∈ Tg ∧ y1.name = "<init>" ∧ (y1.cls ≠ "java/lang/invoke/MethodHandle" ∧ y1.cls ≠ "java/lang/invoke/VarHandle" ∧ (parseMethodDescriptor y1.desc).map (fun d => d.parameters.length) = some k)
def KIN (own : String) (idx : Nat) (y1 : MethodName) (host : String) (cc1 : ByteArray) (n1 : Nat) (k : Nat) : Prop :=
  Cond.code y1 cc1 n1 none ∈ Tg ∧ Cond.initialized y1.cls ∈ Tg ∧ Cond.methodLinkNest own idx y1 host ∈ NL ∧ Cond.instanceMethod y1 ∈ Tg ∧ y1.name = "<init>" ∧ (y1.cls ≠ "java/lang/invoke/MethodHandle" ∧ y1.cls ≠ "java/lang/invoke/VarHandle" ∧ (parseMethodDescriptor y1.desc).map (fun d => d.parameters.length) = some k)
theorem PrN.blind {E : ENV} {av : List Value} {ws : va_W} {sz : Nat} : FrameBlind (PrN E av ws sz) := by
  intro a U g mk q
  exact ⟨Pr.blind a U g mk q.1, va_AO.moved (u := U) (U := U.calling g mk a) (Vm.Alike.refl U.vm) q.2.1, va_AO.moved (u := U) (U := U.calling g mk a) (Vm.Alike.refl U.vm) q.2.2⟩
section NC
variable {p : Program} {l : Launch} {e : Env} {R : Room} {s : State} {m : MethodId} {args : Array Value} {below : List Frame} {meth : Method} {c : Code} {H : Heap} {locs : List Loc} {cells slots : Nat} {Q : State → Prop}
variable {E : ENV} {y : MethodName} {cc : ByteArray} {n : Nat} {r : Option FieldType} {pc : Nat} {ls : Array Slot} {rest : List Value} {A : Nat → Prop} {ws wr : va_W} {idx : Nat} {host : String}
variable {y1 : MethodName} {cc1 : ByteArray} {n1 d1 mc1 ms1 b : Nat} {As : List Value} {ob : va_E} {wcf : List Nat → va_W}
theorem n_callN (C : Cx E A y cc n r p s m args meth c) (hAO : AOs s) (K : KIN y.cls idx y1 host cc1 n1 As.length) (hfr : d1 + 1 ≤ R.frames) (hlo : 8 + (n1 + 11) + 60 * d1 ≤ R.locals) (hc : CN l E y1 cc1 n1 d1 mc1 ms1 (.ref b :: As) [(b, ob)] wcf) (i : Nat) (isR : List Nat)
    (hC : ([i] : List Nat).map (fun i => ws[i]?) = [(b, ob)].map some) (hR : isR.map (fun i => ws[i]?) = wr.map some) (hn : va_nd isR = true) (hdis : ∀ j ∈ isR, j ∉ [i])
    (hP : va_P E.1 classes ws H) (hD : va_D A ws) (hS : va_S A s.heap H locs) (hA : ∀ q, s.heap.size ≤ q → A q) (hls : ls.size = n) (hst : (rest.map fun v => v.category).sum ≤ 8) {st0 : List Value} (hst0 : st0 = As.reverse ++ .ref b :: rest) (hdg : decode cc pc = .ok (.invokespecial idx, 3)) (hcells : cells + mc1 ≤ R.cells) (hslots : slots + ms1 ≤ R.slots)
    (kk : ∀ (u : List Nat) (H1 : Heap) (locs1 : List Loc), va_P E.1 classes (wr ++ wcf u) H1 → va_D A (wr ++ wcf u) → va_S A s.heap H1 locs1 → W p l e R s m args below meth c H1 locs1 (cells + mc1) (slots + ms1) Q (F0 m (pc + 3) ls rest)) :
    W p l e R s m args below meth c H locs cells slots Q (F0 m pc ls st0) := by
  subst hst0
  obtain ⟨hx, hb, hml, hown, hts, hK, hr, hlk, hN, hO⟩ := C
  obtain ⟨k1, k2, k3, k4, k5, k6⟩ := K
  have tg : ∀ w ∈ Tg, w.before args s = true := fun w h => hts w (List.mem_cons_of_mem _ h)
  have hPc : va_P E.1 classes [(b, ob)] H := va_P_sub [i] hC hP
  have hDc := hD.sub [i] rfl hC
  have hFc := va_free (wc := [(b, ob)]) hD hS hA [i] hC
  have cw : va_CN R s args y.cls idx y1 host cc1 n1 none (wl y1 cc1 n1 none) (rmc d1 mc1 ms1) mc1 ms1 As.length ∧ y1.name = "<init>" ∧ (Cond.instanceMethod y1).before args s = true :=
    ⟨va_cnB As.length hts (wl_good k1) rfl rfl rfl (hN _ k3) (tg _ k2) k6 ⟨hfr, hlo⟩, k5, tg _ k4⟩
  refine va_callv (va_runIN (As := As) (rest := rest) (Pc := PrN E (.ref b :: As) [(b, ob)] H.size) ⟨hx, hb, hml, hown, hts⟩ (hc H.size) cw ⟨PrN.blind, fun U hU hW => ⟨⟨rfl, by rw [hU], ⟨hN.warm hW, by rw [hU]; exact hO.go hS.2.1 hFc hW⟩, by rw [hU]; exact hPc, va_K.moved hW.alike hK, hDc.weaken (fun _ _ _ _ => trivial)⟩, va_AO.moved hW.alike hAO.1, va_AO.moved hW.alike hAO.2⟩⟩ rfl rfl hls rfl (lv_room hst) hdg ⟨hcells, hslots⟩) hS (fun q _ h => hFc q h) hFc (fun u t H1 locs ht hvm hw hB hz1 hk1 hS => ?_)
  obtain ⟨hP1, hK1, hD1⟩ := hB
  rw [ht] at hP1
  obtain ⟨hP, hD⟩ := va_join hP hD [i] isR hC hR hn hdis hk1 hFc hP1 hD1
  exact kk u H1 locs hP hD hS
theorem n_call (C : Cx E A y cc n r p s m args meth c) (hAO : AOs s) (K : KI y.cls idx y1 cc1 n1 As.length) (hfr : d1 + 1 ≤ R.frames) (hlo : 8 + (n1 + 11) + 60 * d1 ≤ R.locals) (hc : CN l E y1 cc1 n1 d1 mc1 ms1 (.ref b :: As) [(b, ob)] wcf) (i : Nat) (isR : List Nat)
    (hC : ([i] : List Nat).map (fun i => ws[i]?) = [(b, ob)].map some) (hR : isR.map (fun i => ws[i]?) = wr.map some) (hn : va_nd isR = true) (hdis : ∀ j ∈ isR, j ∉ [i])
    (hP : va_P E.1 classes ws H) (hD : va_D A ws) (hS : va_S A s.heap H locs) (hA : ∀ q, s.heap.size ≤ q → A q) (hls : ls.size = n) (hst : (rest.map fun v => v.category).sum ≤ 8) {st0 : List Value} (hst0 : st0 = As.reverse ++ .ref b :: rest) (hdg : decode cc pc = .ok (.invokespecial idx, 3)) (hcells : cells + mc1 ≤ R.cells) (hslots : slots + ms1 ≤ R.slots)
    (kk : ∀ (u : List Nat) (H1 : Heap) (locs1 : List Loc), va_P E.1 classes (wr ++ wcf u) H1 → va_D A (wr ++ wcf u) → va_S A s.heap H1 locs1 → W p l e R s m args below meth c H1 locs1 (cells + mc1) (slots + ms1) Q (F0 m (pc + 3) ls rest)) :
    W p l e R s m args below meth c H locs cells slots Q (F0 m pc ls st0) := by
  subst hst0
  obtain ⟨hx, hb, hml, hown, hts, hK, hr, hlk, hN, hO⟩ := C
  obtain ⟨k1, k2, k3, k4, k5, k6⟩ := K
  have tg : ∀ w ∈ Tg, w.before args s = true := fun w h => hts w (List.mem_cons_of_mem _ h)
  have hPc : va_P E.1 classes [(b, ob)] H := va_P_sub [i] hC hP
  have hDc := hD.sub [i] rfl hC
  have hFc := va_free (wc := [(b, ob)]) hD hS hA [i] hC
  have cw : CallB R s args y.cls idx y1 cc1 n1 none (wl y1 cc1 n1 none) (rmc d1 mc1 ms1) mc1 ms1 As.length ∧ y1.name = "<init>" ∧ (Cond.instanceMethod y1).before args s = true :=
    ⟨callB_of As.length hts (wl_good k1) rfl rfl rfl (tg _ k2) (tg _ k3) k6 ⟨hfr, hlo⟩, k5, tg _ k4⟩
  refine va_callv (va_runI (As := As) (rest := rest) (Pc := PrN E (.ref b :: As) [(b, ob)] H.size) ⟨hx, hb, hml, hown, hts⟩ (hc H.size) cw ⟨PrN.blind, fun U hU hW => ⟨⟨rfl, by rw [hU], ⟨hN.warm hW, by rw [hU]; exact hO.go hS.2.1 hFc hW⟩, by rw [hU]; exact hPc, va_K.moved hW.alike hK, hDc.weaken (fun _ _ _ _ => trivial)⟩, va_AO.moved hW.alike hAO.1, va_AO.moved hW.alike hAO.2⟩⟩ rfl rfl hls rfl (lv_room hst) hdg ⟨hcells, hslots⟩) hS (fun q _ h => hFc q h) hFc (fun u t H1 locs ht hvm hw hB hz1 hk1 hS => ?_)
  obtain ⟨hP1, hK1, hD1⟩ := hB
  rw [ht] at hP1
  obtain ⟨hP, hD⟩ := va_join hP hD [i] isR hC hR hn hdis hk1 hFc hP1 hD1
  exact kk u H1 locs hP hD hS
end NC

