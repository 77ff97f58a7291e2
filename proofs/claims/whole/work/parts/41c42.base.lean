/-! the universal words: all that the tables say and that a call keeps -/
def Tg : List Cond := lw_tbl.filter goodWord
theorem Tg_mem {w : Cond} (i : Nat) (h : lw_tbl[i]? = some w) (hg : goodWord w = true) : w ∈ Tg := List.mem_filter.mpr ⟨List.mem_of_getElem? h, hg⟩
def wl (y : MethodName) (cc : ByteArray) (n : Nat) (r : Option FieldType) : List Cond := Cond.code y cc n r :: Tg
theorem wl_good {y0 : MethodName} {cc0 : ByteArray} {n0 : Nat} {r0 : Option FieldType} {y : MethodName} {cc : ByteArray} {n : Nat} {r : Option FieldType} (h : Cond.code y cc n r ∈ Tg) : GoodIn (wl y0 cc0 n0 r0) (wl y cc n r) := by
  intro w hw
  have hw2 : w ∈ Tg := by
    rcases List.mem_cons.mp hw with rfl | hw
    · exact h
    · exact hw
  exact ⟨List.mem_cons_of_mem _ hw2, good_of_word (List.mem_filter.mp hw2).2⟩
/-- the links to private members of nest mates -/
def isN : Cond → Bool
  | .fieldLinkNest .. => true
  | .methodLinkNest .. => true
  | _ => false
def NL : List Cond := lw_tbl.filter isN
def Nst (U : State) : Prop := ∀ w ∈ NL, va_Nw w U
theorem NL_mem {w : Cond} (i : Nat) (h : lw_tbl[i]? = some w) (hg : isN w = true) : w ∈ NL := List.mem_filter.mpr ⟨List.mem_of_getElem? h, hg⟩
theorem Nst.warm {s U : State} (hW : s.WarmedH U.vm) (h : Nst s) : Nst U := by
  intro w hw
  have h1 := h w hw
  have h2 := (List.mem_filter.mp hw).2
  cases w <;> first | exact va_Nw.warmF hW h1 | exact va_Nw.warmM hW h1 | (simp [isN] at h2; done)
theorem Nst.same {u U : State} (h : u.vm = U.vm) (hN : Nst u) : Nst U := by
  intro w hw
  have h1 := hN w hw
  have h2 := (List.mem_filter.mp hw).2
  cases w <;> first | exact va_Nw.same rfl h h1 | (simp [isN] at h2; done)
def rmd (d : Nat) : Room := { frames := d, cells := 0, slots := 0, locals := 60 * d }
abbrev ENV : Type := va_G × ClassId × ClassId × ClassId × ClassId × ClassId × ClassId × Nat × Nat
abbrev tyl (E : ENV) : List (ClassId × FieldType) := [(E.2.1, .int), (E.2.2.1, .byte), (E.2.2.2.1, .boolean), (E.2.2.2.2.1, .object "SnowForSummer$State"), (E.2.2.2.2.2.1, .object "SnowForSummer$Walk"), (E.2.2.2.2.2.2.1, .long)]
/-- the constant text's object and its row -/
abbrev aS (E : ENV) : Nat := E.2.2.2.2.2.2.2.1
abbrev aV (E : ENV) : Nat := E.2.2.2.2.2.2.2.2
/-- what lies outside every world: the constant text, and how texts are held -/
def OX (E : ENV) (A : Nat → Prop) (U : State) (H : Heap) : Prop :=
  vk_R RX4 84 "dptonxhb" (aS E) U ∧ vk_S 1 [8] [strB] (fun _ => aS E) (fun _ => aV E) A U H ∧ va_Z "java/lang/String" "COMPACT_STRINGS" "Z" (.int 1) A U H
theorem OX.go {E : ENV} {A B : Nat → Prop} {s U : State} {H0 H : Heap} (h : OX E A s H0) (hq : ∀ a : Nat, a < H0.size → ¬ A a → H[a]? = H0[a]?) (hAB : ∀ q, B q → A q) (hW : s.WarmedH U.vm) : OX E B U H :=
  ⟨h.1.warm hW, ((h.2.1.kept hq).narrow hAB).moved hW.alike, ((h.2.2.kept hq).narrow hAB).moved hW.alike⟩
theorem OX.same {E : ENV} {A : Nat → Prop} {u U : State} {H : Heap} (hv : U.vm = u.vm) (h : OX E A u H) : OX E A U H :=
  ⟨h.1.same hv, h.2.1.moved (by rw [hv]; exact Vm.Alike.refl _), h.2.2.moved (by rw [hv]; exact Vm.Alike.refl _)⟩
def Wd (E : ENV) (A : Nat → Prop) (ws : va_W) (t : State) : Prop := va_P E.1 classes ws t.heap ∧ va_K E.1 classes (tyl E) t ∧ va_D A ws
def Pr (E : ENV) (av : List Value) (ws : va_W) (sz : Nat) : Array Value → State → Prop := va_Pc av (fun U => U.heap.size = sz ∧ (Nst U ∧ OX E (va_A ws sz) U U.heap) ∧ Wd E (fun _ => True) ws U)
abbrev QI (E : ENV) (A : Nat → Prop) (ws' : va_W) (rv : Int32) : Array Value → State → Outcome → State → Prop := va_Qi (fun r (_ : Unit) => r = rv) (fun _ t => Wd E A ws' t) A
abbrev QV (E : ENV) (A : Nat → Prop) (ws' : va_W) : Array Value → State → Outcome → State → Prop := va_Qv (fun (_ : Unit) => True) (fun _ t => Wd E A ws' t) A
/-- a contract of a method that answers an int, makes nothing: from the world ws to ws', the answer rv -/
def CI (l : Launch) (E : ENV) (y : MethodName) (cc : ByteArray) (n : Nat) (r : Option FieldType) (d : Nat) (av : List Value) (ws ws' : va_W) (rv : Int32) : Prop :=
  ∀ sz, Met l y (wl y cc n r) (rmd d) (Pr E av ws sz) (QI E (va_A ws sz) ws' rv) 0 0 (va_A ws sz)
def CV (l : Launch) (E : ENV) (y : MethodName) (cc : ByteArray) (n : Nat) (d : Nat) (av : List Value) (ws ws' : va_W) : Prop :=
  ∀ sz, Met l y (wl y cc n none) (rmd d) (Pr E av ws sz) (QV E (va_A ws sz) ws') 0 0 (va_A ws sz)
/-- what a body stands on -/
def Cx (E : ENV) (A : Nat → Prop) (y : MethodName) (cc : ByteArray) (n : Nat) (r : Option FieldType) (p : Program) (s : State) (m : MethodId) (args : Array Value) (meth : Method) (c : Code) : Prop :=
  p.tables.exec = Jvm.exec ∧ c.code = cc ∧ c.maxLocals = n ∧ s.vm.findClass y.cls = some m.cls ∧ (∀ w ∈ wl y cc n r, w.before args s = true) ∧ va_K E.1 classes (tyl E) s ∧ meth.sig.returnType = r ∧ meth.locks = false ∧ Nst s ∧ OX E A s s.heap
section ST
variable {l : Launch} {E : ENV} {y : MethodName} {cc : ByteArray} {n : Nat} {r : Option FieldType} {d : Nat} {av : List Value} {ws ws' : va_W} {rv : Int32}
theorem startI (hy : plainName y.cls = true) (hn : (lg_sl av).length ≤ n)
    (h : ∀ (p : Program) (e : Env) (s : State) (m : MethodId) (below : List Frame) (meth : Method) (c : Code) (A : Nat → Prop) (ls : Array Slot), Cx E A y cc n r p s m av.toArray meth c → lv_has ls n (lv_args 0 av) → va_P E.1 classes ws s.heap → va_D A ws → va_S A s.heap s.heap [] → (∀ q, s.heap.size ≤ q → A q) →
      W p l e (rmd d) s m av.toArray below meth c s.heap [] 0 0 (MQ below (QI E A ws' rv) av.toArray s 0 0 A) (F0 m 0 ls [])) : CI l E y cc n r d av ws ws' rv := by
  intro sz
  refine Met.ofW (cc := cc) (maxL := n) (ret := r) hy rfl ?_
  intro p e s m args below meth c s₁ B hml hv
  obtain ⟨rfl, hsz, ⟨hN, hO⟩, hP, hK, hD0⟩ := hv
  have hx := B.exec
  have hb := B.bytes
  have hr := B.returns
  have hts := atoms_spec (ws := wl y cc n r) B.pre
  have hown : s.vm.findClass y.cls = some m.cls := findClass_of_methodNamed B.named
  have hlocks := B.notSynchronized
  subst hsz
  have hD := hD0.self (sz := s.heap.size)
  have hA : ∀ q : Nat, s.heap.size ≤ q → va_A ws s.heap.size q := fun q h => Or.inr h
  rw [lg_entry_eq]
  exact h p e s m below meth c (va_A ws s.heap.size) _ ⟨hx, hb, hml, hown, hts, hK, hr, hlocks, hN, hO⟩ (lv_entry av hn) hP hD va_S.rf hA
theorem startV (hy : plainName y.cls = true) (hn : (lg_sl av).length ≤ n)
    (h : ∀ (p : Program) (e : Env) (s : State) (m : MethodId) (below : List Frame) (meth : Method) (c : Code) (A : Nat → Prop) (ls : Array Slot), Cx E A y cc n none p s m av.toArray meth c → lv_has ls n (lv_args 0 av) → va_P E.1 classes ws s.heap → va_D A ws → va_S A s.heap s.heap [] → (∀ q, s.heap.size ≤ q → A q) →
      W p l e (rmd d) s m av.toArray below meth c s.heap [] 0 0 (MQ below (QV E A ws') av.toArray s 0 0 A) (F0 m 0 ls [])) : CV l E y cc n d av ws ws' := by
  intro sz
  refine Met.ofW (cc := cc) (maxL := n) (ret := none) hy rfl ?_
  intro p e s m args below meth c s₁ B hml hv
  obtain ⟨rfl, hsz, ⟨hN, hO⟩, hP, hK, hD0⟩ := hv
  have hx := B.exec
  have hb := B.bytes
  have hr := B.returns
  have hts := atoms_spec (ws := wl y cc n none) B.pre
  have hown : s.vm.findClass y.cls = some m.cls := findClass_of_methodNamed B.named
  have hlocks := B.notSynchronized
  subst hsz
  have hD := hD0.self (sz := s.heap.size)
  have hA : ∀ q : Nat, s.heap.size ≤ q → va_A ws s.heap.size q := fun q h => Or.inr h
  rw [lg_entry_eq]
  exact h p e s m below meth c (va_A ws s.heap.size) _ ⟨hx, hb, hml, hown, hts, hK, hr, hlocks, hN, hO⟩ (lv_entry av hn) hP hD va_S.rf hA
end ST
section RW
variable {p : Program} {l : Launch} {e : Env} {R : Room} {s : State} {m : MethodId} {args : Array Value} {below : List Frame} {meth : Method} {c : Code} {H : Heap} {locs : List Loc} {cells slots : Nat} {Q : State → Prop}
variable {E : ENV} {y : MethodName} {cc : ByteArray} {n : Nat} {r : Option FieldType} {pc : Nat} {ls : Array Slot} {rest : List Value} {A : Nat → Prop} {a : Nat} {ws : va_W} {H0 : Heap}
theorem ri_ret (C : Cx E A y cc n (some .int) p s m args meth c) {ws' : va_W} {v : Int32} (hP : va_P E.1 classes ws' H) (hD : va_D A ws') (hS : va_S A s.heap H locs) (hdg : decode cc pc = .ok (.ireturn, 1)) :
    W p l e R s m args below meth c H locs 0 0 (MQ below (QI E A ws' v) args s 0 0 A) (F0 m pc ls [.int v]) :=
  W.iret C.1 C.2.1 C.2.2.2.2.2.2.1 (fun t ht hW => ⟨⟨v, (), rfl, rfl, by rw [ht]; exact hP, va_K.moved hW.alike C.2.2.2.2.2.1, hD⟩, hS.F ht⟩) hS.2.2 hdg C.2.2.2.2.2.2.2.1
theorem rz_ret (C : Cx E A y cc n (some .boolean) p s m args meth c) {ws' : va_W} {v : Int32} (hn : narrow .boolean (.int v) = .int v) (hP : va_P E.1 classes ws' H) (hD : va_D A ws') (hS : va_S A s.heap H locs) (hdg : decode cc pc = .ok (.ireturn, 1)) :
    W p l e R s m args below meth c H locs 0 0 (MQ below (QI E A ws' v) args s 0 0 A) (F0 m pc ls [.int v]) :=
  W.zret C.1 C.2.1 C.2.2.2.2.2.2.1 hn (fun t ht hW => ⟨⟨v, (), rfl, rfl, by rw [ht]; exact hP, va_K.moved hW.alike C.2.2.2.2.2.1, hD⟩, hS.F ht⟩) hS.2.2 hdg C.2.2.2.2.2.2.2.1
theorem rv_ret (C : Cx E A y cc n none p s m args meth c) {ws' : va_W} (hP : va_P E.1 classes ws' H) (hD : va_D A ws') (hS : va_S A s.heap H locs) (hdg : decode cc pc = .ok (.return_, 1)) :
    W p l e R s m args below meth c H locs 0 0 (MQ below (QV E A ws') args s 0 0 A) (F0 m pc ls []) :=
  W.vret C.1 C.2.1 C.2.2.2.2.2.2.1 (fun t ht hW => ⟨⟨(), rfl, trivial, by rw [ht]; exact hP, va_K.moved hW.alike C.2.2.2.2.2.1, hD⟩, hS.F ht⟩) hS.2.2 hdg C.2.2.2.2.2.2.2.1
end RW

/-! pure helpers -/
/-- the world with the callee's cells put back -/
def putC : va_W → List Nat → va_W → va_W
  | ws, i :: is, w :: wc => putC (ws.set i w) is wc
  | ws, _, _ => ws
theorem putC_get : ∀ (is : List Nat) (wc : va_W) (ws : va_W) (k : Nat) (q : Nat × va_E), va_nd is = true → is.length = wc.length → (putC ws is wc)[k]? = some q → (∃ j : Nat, wc[j]? = some q ∧ is[j]? = some k) ∨ (k ∉ is ∧ ws[k]? = some q)
  | [], [], ws, k, q, _, _, h => Or.inr ⟨List.not_mem_nil, h⟩
  | [], _ :: _, _, _, _, _, hl, _ => by simp at hl
  | _ :: _, [], _, _, _, _, hl, _ => by simp at hl
  | i :: is, w :: wc, ws, k, q, hn, hl, h => by
    simp only [va_nd, Bool.and_eq_true, decide_eq_true_eq] at hn
    rcases putC_get is wc (ws.set i w) k q hn.2 (by simpa using hl) h with ⟨j, h1, h2⟩ | ⟨h1, h2⟩
    · exact Or.inl ⟨j + 1, by simpa using h1, by simpa using h2⟩
    · by_cases hk : k = i
      · subst hk
        have hlt : k < ws.length := by
          have := (List.getElem?_eq_some_iff.mp h2).1
          simpa using this
        rw [List.getElem?_set_self hlt] at h2
        cases h2
        exact Or.inl ⟨0, rfl, rfl⟩
      · rw [List.getElem?_set_ne (Ne.symm hk)] at h2
        exact Or.inr ⟨fun hm => (List.mem_cons.mp hm).elim hk h1, h2⟩
theorem putC_join {A0 : Nat → Prop} {D : va_G} {cl : List vw_C} {ws wc w1 : va_W} {H H1 : Heap} (hP : va_P D cl ws H) (hD : va_D A0 ws) (isC : List Nat) (hC : isC.map (fun i => ws[i]?) = wc.map some) (hn : va_nd isC = true) (hl : isC.length = w1.length)
    (hk : ∀ q : Nat, q < H.size → ¬ va_A wc H.size q → H1[q]? = H[q]?) (hF : ∀ q, va_A wc H.size q → A0 q) (hP1 : va_P D cl w1 H1) (hD1 : va_D (va_A wc H.size) w1) : va_P D cl (putC ws isC w1) H1 ∧ va_D A0 (putC ws isC w1) := by
  have at' : ∀ {is : List Nat} {w : va_W}, is.map (fun i => ws[i]?) = w.map some → ∀ (k : Nat) (q : Nat × va_E), w[k]? = some q → ∃ i, is[k]? = some i ∧ ws[i]? = some q := by
    intro is w hs k q hq
    have h1 : (is.map (fun i => ws[i]?))[k]? = some (some q) := by rw [hs, List.getElem?_map, hq]; rfl
    rw [List.getElem?_map] at h1
    cases hi : is[k]? with
    | none => rw [hi] at h1; cases h1
    | some i => rw [hi] at h1; exact ⟨i, rfl, Option.some.inj h1⟩
  have apart : ∀ (k : Nat) (q : Nat × va_E), k ∉ isC → ws[k]? = some q → q.1 < H.size ∧ ¬ va_A wc H.size q.1 := by
    intro i q hi h2
    have hl := (hP i q h2).lt
    refine ⟨hl, fun h => ?_⟩
    rcases h with ⟨k2, e, h⟩ | h
    · obtain ⟨j, h3, h4⟩ := at' hC k2 (q.1, e) h
      have hij := hD.1 i j q (q.1, e) h2 h4 rfl
      subst hij
      exact hi (List.mem_of_getElem? h3)
    · omega
  refine ⟨fun k q hq => ?_, fun i j x y hx hy hxy => ?_, fun k q hq => ?_⟩
  · rcases putC_get isC w1 ws k q hn hl hq with ⟨j, h1, h2⟩ | ⟨h1, h2⟩
    · exact hP1 j q h1
    · obtain ⟨g1, g2⟩ := apart k q h1 h2
      exact (hP k q h2).kept (hk q.1 g1 g2)
  · rcases putC_get isC w1 ws i x hn hl hx with ⟨a, a1, a2⟩ | ⟨a1, a2⟩ <;> rcases putC_get isC w1 ws j y hn hl hy with ⟨b, b1, b2⟩ | ⟨b1, b2⟩
    · have hab := hD1.1 a b x y a1 b1 hxy
      subst hab
      rw [a2] at b2
      exact Option.some.inj b2
    · exact absurd (by rw [← hxy]; exact hD1.2 a x a1) (apart j y b1 b2).2
    · exact absurd (by rw [hxy]; exact hD1.2 b y b1) (apart i x a1 a2).2
    · exact hD.1 i j x y a2 b2 hxy
  · rcases putC_get isC w1 ws k q hn hl hq with ⟨j, h1, h2⟩ | ⟨h1, h2⟩
    · exact hF _ (hD1.2 j q h1)
    · exact hD.2 k q h2
/-- what the tables say of a call: the callee's code, its class, its link -/
def KV (own : String) (idx : Nat) (y1 : MethodName) (cc1 : ByteArray) (n1 : Nat) (r1 : Option FieldType) (k : Nat) : Prop :=
  Cond.code y1 cc1 n1 r1 ∈ Tg ∧ Cond.initialized y1.cls ∈ Tg ∧ Cond.methodLink own idx y1 ∈ Tg ∧ Cond.instanceMethod y1 ∈ Tg ∧ Cond.selects y1.cls y1 y1 ∈ Tg ∧ (y1.cls ≠ "java/lang/invoke/MethodHandle" ∧ y1.cls ≠ "java/lang/invoke/VarHandle" ∧ (parseMethodDescriptor y1.desc).map (fun d => d.parameters.length) = some k)
def KS (own : String) (idx : Nat) (y1 : MethodName) (cc1 : ByteArray) (n1 : Nat) (r1 : Option FieldType) (k : Nat) : Prop :=
  Cond.code y1 cc1 n1 r1 ∈ Tg ∧ Cond.initialized y1.cls ∈ Tg ∧ Cond.methodLink own idx y1 ∈ Tg ∧ Cond.static y1 ∈ Tg ∧ (y1.cls ≠ "java/lang/invoke/MethodHandle" ∧ y1.cls ≠ "java/lang/invoke/VarHandle" ∧ (parseMethodDescriptor y1.desc).map (fun d => d.parameters.length) = some k)
def KSN (own : String) (idx : Nat) (y1 : MethodName) (host : String) (cc1 : ByteArray) (n1 : Nat) (r1 : Option FieldType) (k : Nat) : Prop :=
  Cond.code y1 cc1 n1 r1 ∈ Tg ∧ Cond.initialized y1.cls ∈ Tg ∧ Cond.methodLinkNest own idx y1 host ∈ NL ∧ Cond.static y1 ∈ Tg ∧ (y1.cls ≠ "java/lang/invoke/MethodHandle" ∧ y1.cls ≠ "java/lang/invoke/VarHandle" ∧ (parseMethodDescriptor y1.desc).map (fun d => d.parameters.length) = some k)
theorem Pr.blind {E : ENV} {av : List Value} {ws : va_W} {sz : Nat} : FrameBlind (Pr E av ws sz) := by
  intro a U g mk q
  obtain ⟨q0, q1, ⟨qN, qO⟩, qP, qK, qD⟩ := q
  exact ⟨q0, q1, ⟨Nst.same (u := U) rfl qN, OX.same (u := U) rfl qO⟩, qP, va_K.moved (u := U) (U := U.calling g mk a) (Vm.Alike.refl U.vm) qK, qD⟩
theorem rm_ok {d d1 n1 : Nat} (h : d1 < d) (hn : n1 ≤ 41) : (rmd d1).frames + 1 ≤ (rmd d).frames ∧ 8 + (n1 + 11) + (rmd d1).locals ≤ (rmd d).locals := by
  refine ⟨h, ?_⟩
  show 8 + (n1 + 11) + 60 * d1 ≤ 60 * d
  omega
section CL
variable {p : Program} {l : Launch} {e : Env} {s : State} {m : MethodId} {args : Array Value} {below : List Frame} {meth : Method} {c : Code} {H : Heap} {locs : List Loc} {Q : State → Prop} {d : Nat}
variable {E : ENV} {y : MethodName} {cc : ByteArray} {n : Nat} {r : Option FieldType} {pc : Nat} {ls : Array Slot} {rest : List Value} {A : Nat → Prop} {ws : va_W} {idx : Nat}
variable {y1 : MethodName} {cc1 : ByteArray} {n1 : Nat} {r1 : Option FieldType} {d1 b : Nat} {As : List Value} {wc wc' : va_W} {rv : Int32} {host : String}
theorem k_VI (C : Cx E A y cc n r p s m args meth c) (K : KV y.cls idx y1 cc1 n1 r1 As.length) (hd : d1 < d) (hn1 : n1 ≤ 41) (hc : CI l E y1 cc1 n1 r1 d1 (.ref b :: As) wc wc' rv) (isC : List Nat)
    (hC : isC.map (fun i => ws[i]?) = wc.map some) (hn : va_nd isC = true) (hl : isC.length = wc'.length) {ci q0 : Nat} {q : vw_C} {fs : List Value} (hci : classes[ci]? = some q) (hq : q.1 = y1.cls) (hrc : wc[q0]? = some (b, .inr (ci, fs)))
    (hP : va_P E.1 classes ws H) (hD : va_D A ws) (hS : va_S A s.heap H locs) (hA : ∀ q, s.heap.size ≤ q → A q) (hls : ls.size = n) (hst : (rest.map fun v => v.category).sum ≤ 8) {st0 : List Value} (hst0 : st0 = As.reverse ++ .ref b :: rest) (hdg : decode cc pc = .ok (.invokevirtual idx, 3))
    (kk : ∀ (H1 : Heap) (locs1 : List Loc), va_P E.1 classes (putC ws isC wc') H1 → va_D A (putC ws isC wc') → va_S A s.heap H1 locs1 → W p l e (rmd d) s m args below meth c H1 locs1 0 0 Q (F0 m (pc + 3) ls (.int rv :: rest))) :
    W p l e (rmd d) s m args below meth c H locs 0 0 Q (F0 m pc ls st0) := by
  subst hst0
  obtain ⟨hx, hb, hml, hown, hts, hK, hr, hlk, hN, hO⟩ := C
  obtain ⟨k1, k2, k3, k4, k5, k6⟩ := K
  have tg : ∀ w ∈ Tg, w.before args s = true := fun w h => hts w (List.mem_cons_of_mem _ h)
  have hPc : va_P E.1 classes wc H := fun k z hz => by
    have h1 : (isC.map (fun i => ws[i]?))[k]? = some (some z) := by rw [hC, List.getElem?_map, hz]; rfl
    rw [List.getElem?_map] at h1
    cases hi : isC[k]? with
    | none => rw [hi] at h1; cases h1
    | some i => rw [hi] at h1; exact hP i z (Option.some.inj h1)
  have hDc := hD.sub isC hn hC
  have hFc := va_free (wc := wc) hD hS hA isC hC
  have cw : CallW (rmd d) s args y.cls y1.cls idx y1 cc1 n1 r1 (wl y1 cc1 n1 r1) (rmd d1) 0 0 As.length :=
    ⟨callB_of As.length hts (wl_good k1) rfl rfl rfl (tg _ k2) (tg _ k3) k6 (rm_ok hd hn1), tg _ k4, tg _ k5⟩
  refine va_calli (va_runV (As := As) (rest := rest) (Pc := Pr E (.ref b :: As) wc H.size) ⟨hx, hb, hml, hown, hts⟩ (hc H.size) cw ⟨Pr.blind, by rw [← hq]; exact va_recv hK hPc hci hrc, fun U hU hW => ⟨rfl, by rw [hU], ⟨hN.warm hW, by rw [hU]; exact hO.go hS.2.1 hFc hW⟩, by rw [hU]; exact hPc, va_K.moved hW.alike hK, hDc.weaken (fun _ _ _ _ => trivial)⟩⟩ rfl rfl hls rfl (lv_room hst) hdg ⟨Nat.zero_le _, Nat.zero_le _⟩) hS (fun q _ h => hFc q h) hFc (fun r_2 u t H1 locs ht hvm hw hB hz1 hk1 hS => ?_)
  obtain ⟨hP1, hK1, hD1⟩ := hB
  rw [ht] at hP1
  subst hw
  obtain ⟨hP, hD⟩ := putC_join hP hD isC hC hn hl hk1 hFc hP1 hD1
  exact kk H1 locs hP hD hS
theorem k_VV (C : Cx E A y cc n r p s m args meth c) (K : KV y.cls idx y1 cc1 n1 none As.length) (hd : d1 < d) (hn1 : n1 ≤ 41) (hc : CV l E y1 cc1 n1 d1 (.ref b :: As) wc wc') (isC : List Nat)
    (hC : isC.map (fun i => ws[i]?) = wc.map some) (hn : va_nd isC = true) (hl : isC.length = wc'.length) {ci q0 : Nat} {q : vw_C} {fs : List Value} (hci : classes[ci]? = some q) (hq : q.1 = y1.cls) (hrc : wc[q0]? = some (b, .inr (ci, fs)))
    (hP : va_P E.1 classes ws H) (hD : va_D A ws) (hS : va_S A s.heap H locs) (hA : ∀ q, s.heap.size ≤ q → A q) (hls : ls.size = n) (hst : (rest.map fun v => v.category).sum ≤ 8) {st0 : List Value} (hst0 : st0 = As.reverse ++ .ref b :: rest) (hdg : decode cc pc = .ok (.invokevirtual idx, 3))
    (kk : ∀ (H1 : Heap) (locs1 : List Loc), va_P E.1 classes (putC ws isC wc') H1 → va_D A (putC ws isC wc') → va_S A s.heap H1 locs1 → W p l e (rmd d) s m args below meth c H1 locs1 0 0 Q (F0 m (pc + 3) ls rest)) :
    W p l e (rmd d) s m args below meth c H locs 0 0 Q (F0 m pc ls st0) := by
  subst hst0
  obtain ⟨hx, hb, hml, hown, hts, hK, hr, hlk, hN, hO⟩ := C
  obtain ⟨k1, k2, k3, k4, k5, k6⟩ := K
  have tg : ∀ w ∈ Tg, w.before args s = true := fun w h => hts w (List.mem_cons_of_mem _ h)
  have hPc : va_P E.1 classes wc H := fun k z hz => by
    have h1 : (isC.map (fun i => ws[i]?))[k]? = some (some z) := by rw [hC, List.getElem?_map, hz]; rfl
    rw [List.getElem?_map] at h1
    cases hi : isC[k]? with
    | none => rw [hi] at h1; cases h1
    | some i => rw [hi] at h1; exact hP i z (Option.some.inj h1)
  have hDc := hD.sub isC hn hC
  have hFc := va_free (wc := wc) hD hS hA isC hC
  have cw : CallW (rmd d) s args y.cls y1.cls idx y1 cc1 n1 none (wl y1 cc1 n1 none) (rmd d1) 0 0 As.length :=
    ⟨callB_of As.length hts (wl_good k1) rfl rfl rfl (tg _ k2) (tg _ k3) k6 (rm_ok hd hn1), tg _ k4, tg _ k5⟩
  refine va_callv (va_runV (As := As) (rest := rest) (Pc := Pr E (.ref b :: As) wc H.size) ⟨hx, hb, hml, hown, hts⟩ (hc H.size) cw ⟨Pr.blind, by rw [← hq]; exact va_recv hK hPc hci hrc, fun U hU hW => ⟨rfl, by rw [hU], ⟨hN.warm hW, by rw [hU]; exact hO.go hS.2.1 hFc hW⟩, by rw [hU]; exact hPc, va_K.moved hW.alike hK, hDc.weaken (fun _ _ _ _ => trivial)⟩⟩ rfl rfl hls rfl (lv_room hst) hdg ⟨Nat.zero_le _, Nat.zero_le _⟩) hS (fun q _ h => hFc q h) hFc (fun u t H1 locs ht hvm hw hB hz1 hk1 hS => ?_)
  obtain ⟨hP1, hK1, hD1⟩ := hB
  rw [ht] at hP1
  obtain ⟨hP, hD⟩ := putC_join hP hD isC hC hn hl hk1 hFc hP1 hD1
  exact kk H1 locs hP hD hS
theorem k_SI (C : Cx E A y cc n r p s m args meth c) (K : KS y.cls idx y1 cc1 n1 r1 As.length) (hd : d1 < d) (hn1 : n1 ≤ 41) (hc : CI l E y1 cc1 n1 r1 d1 As wc wc' rv) (isC : List Nat)
    (hC : isC.map (fun i => ws[i]?) = wc.map some) (hn : va_nd isC = true) (hl : isC.length = wc'.length)
    (hP : va_P E.1 classes ws H) (hD : va_D A ws) (hS : va_S A s.heap H locs) (hA : ∀ q, s.heap.size ≤ q → A q) (hls : ls.size = n) (hst : (rest.map fun v => v.category).sum ≤ 8) {st0 : List Value} (hst0 : st0 = As.reverse ++ rest) (hdg : decode cc pc = .ok (.invokestatic idx, 3))
    (kk : ∀ (H1 : Heap) (locs1 : List Loc), va_P E.1 classes (putC ws isC wc') H1 → va_D A (putC ws isC wc') → va_S A s.heap H1 locs1 → W p l e (rmd d) s m args below meth c H1 locs1 0 0 Q (F0 m (pc + 3) ls (.int rv :: rest))) :
    W p l e (rmd d) s m args below meth c H locs 0 0 Q (F0 m pc ls st0) := by
  subst hst0
  obtain ⟨hx, hb, hml, hown, hts, hK, hr, hlk, hN, hO⟩ := C
  obtain ⟨k1, k2, k3, k4, k6⟩ := K
  have tg : ∀ w ∈ Tg, w.before args s = true := fun w h => hts w (List.mem_cons_of_mem _ h)
  have hPc : va_P E.1 classes wc H := fun k z hz => by
    have h1 : (isC.map (fun i => ws[i]?))[k]? = some (some z) := by rw [hC, List.getElem?_map, hz]; rfl
    rw [List.getElem?_map] at h1
    cases hi : isC[k]? with
    | none => rw [hi] at h1; cases h1
    | some i => rw [hi] at h1; exact hP i z (Option.some.inj h1)
  have hDc := hD.sub isC hn hC
  have hFc := va_free (wc := wc) hD hS hA isC hC
  have cw : CallB (rmd d) s args y.cls idx y1 cc1 n1 r1 (wl y1 cc1 n1 r1) (rmd d1) 0 0 As.length ∧ (Cond.static y1).before args s = true :=
    ⟨callB_of As.length hts (wl_good k1) rfl rfl rfl (tg _ k2) (tg _ k3) k6 (rm_ok hd hn1), tg _ k4⟩
  refine va_calli (va_runS (As := As) (rest := rest) (Pc := Pr E As wc H.size) ⟨hx, hb, hml, hown, hts⟩ (hc H.size) cw ⟨Pr.blind, fun U hU hW => ⟨rfl, by rw [hU], ⟨hN.warm hW, by rw [hU]; exact hO.go hS.2.1 hFc hW⟩, by rw [hU]; exact hPc, va_K.moved hW.alike hK, hDc.weaken (fun _ _ _ _ => trivial)⟩⟩ rfl rfl hls rfl (lv_room hst) hdg ⟨Nat.zero_le _, Nat.zero_le _⟩) hS (fun q _ h => hFc q h) hFc (fun r_2 u t H1 locs ht hvm hw hB hz1 hk1 hS => ?_)
  obtain ⟨hP1, hK1, hD1⟩ := hB
  rw [ht] at hP1
  subst hw
  obtain ⟨hP, hD⟩ := putC_join hP hD isC hC hn hl hk1 hFc hP1 hD1
  exact kk H1 locs hP hD hS
theorem k_SV (C : Cx E A y cc n r p s m args meth c) (K : KS y.cls idx y1 cc1 n1 none As.length) (hd : d1 < d) (hn1 : n1 ≤ 41) (hc : CV l E y1 cc1 n1 d1 As wc wc') (isC : List Nat)
    (hC : isC.map (fun i => ws[i]?) = wc.map some) (hn : va_nd isC = true) (hl : isC.length = wc'.length)
    (hP : va_P E.1 classes ws H) (hD : va_D A ws) (hS : va_S A s.heap H locs) (hA : ∀ q, s.heap.size ≤ q → A q) (hls : ls.size = n) (hst : (rest.map fun v => v.category).sum ≤ 8) {st0 : List Value} (hst0 : st0 = As.reverse ++ rest) (hdg : decode cc pc = .ok (.invokestatic idx, 3))
    (kk : ∀ (H1 : Heap) (locs1 : List Loc), va_P E.1 classes (putC ws isC wc') H1 → va_D A (putC ws isC wc') → va_S A s.heap H1 locs1 → W p l e (rmd d) s m args below meth c H1 locs1 0 0 Q (F0 m (pc + 3) ls rest)) :
    W p l e (rmd d) s m args below meth c H locs 0 0 Q (F0 m pc ls st0) := by
  subst hst0
  obtain ⟨hx, hb, hml, hown, hts, hK, hr, hlk, hN, hO⟩ := C
  obtain ⟨k1, k2, k3, k4, k6⟩ := K
  have tg : ∀ w ∈ Tg, w.before args s = true := fun w h => hts w (List.mem_cons_of_mem _ h)
  have hPc : va_P E.1 classes wc H := fun k z hz => by
    have h1 : (isC.map (fun i => ws[i]?))[k]? = some (some z) := by rw [hC, List.getElem?_map, hz]; rfl
    rw [List.getElem?_map] at h1
    cases hi : isC[k]? with
    | none => rw [hi] at h1; cases h1
    | some i => rw [hi] at h1; exact hP i z (Option.some.inj h1)
  have hDc := hD.sub isC hn hC
  have hFc := va_free (wc := wc) hD hS hA isC hC
  have cw : CallB (rmd d) s args y.cls idx y1 cc1 n1 none (wl y1 cc1 n1 none) (rmd d1) 0 0 As.length ∧ (Cond.static y1).before args s = true :=
    ⟨callB_of As.length hts (wl_good k1) rfl rfl rfl (tg _ k2) (tg _ k3) k6 (rm_ok hd hn1), tg _ k4⟩
  refine va_callv (va_runS (As := As) (rest := rest) (Pc := Pr E As wc H.size) ⟨hx, hb, hml, hown, hts⟩ (hc H.size) cw ⟨Pr.blind, fun U hU hW => ⟨rfl, by rw [hU], ⟨hN.warm hW, by rw [hU]; exact hO.go hS.2.1 hFc hW⟩, by rw [hU]; exact hPc, va_K.moved hW.alike hK, hDc.weaken (fun _ _ _ _ => trivial)⟩⟩ rfl rfl hls rfl (lv_room hst) hdg ⟨Nat.zero_le _, Nat.zero_le _⟩) hS (fun q _ h => hFc q h) hFc (fun u t H1 locs ht hvm hw hB hz1 hk1 hS => ?_)
  obtain ⟨hP1, hK1, hD1⟩ := hB
  rw [ht] at hP1
  obtain ⟨hP, hD⟩ := putC_join hP hD isC hC hn hl hk1 hFc hP1 hD1
  exact kk H1 locs hP hD hS
theorem k_SNI (C : Cx E A y cc n r p s m args meth c) (K : KSN y.cls idx y1 host cc1 n1 r1 As.length) (hd : d1 < d) (hn1 : n1 ≤ 41) (hc : CI l E y1 cc1 n1 r1 d1 As wc wc' rv) (isC : List Nat)
    (hC : isC.map (fun i => ws[i]?) = wc.map some) (hn : va_nd isC = true) (hl : isC.length = wc'.length)
    (hP : va_P E.1 classes ws H) (hD : va_D A ws) (hS : va_S A s.heap H locs) (hA : ∀ q, s.heap.size ≤ q → A q) (hls : ls.size = n) (hst : (rest.map fun v => v.category).sum ≤ 8) {st0 : List Value} (hst0 : st0 = As.reverse ++ rest) (hdg : decode cc pc = .ok (.invokestatic idx, 3))
    (kk : ∀ (H1 : Heap) (locs1 : List Loc), va_P E.1 classes (putC ws isC wc') H1 → va_D A (putC ws isC wc') → va_S A s.heap H1 locs1 → W p l e (rmd d) s m args below meth c H1 locs1 0 0 Q (F0 m (pc + 3) ls (.int rv :: rest))) :
    W p l e (rmd d) s m args below meth c H locs 0 0 Q (F0 m pc ls st0) := by
  subst hst0
  obtain ⟨hx, hb, hml, hown, hts, hK, hr, hlk, hN, hO⟩ := C
  obtain ⟨k1, k2, k3, k4, k6⟩ := K
  have tg : ∀ w ∈ Tg, w.before args s = true := fun w h => hts w (List.mem_cons_of_mem _ h)
  have hPc : va_P E.1 classes wc H := fun k z hz => by
    have h1 : (isC.map (fun i => ws[i]?))[k]? = some (some z) := by rw [hC, List.getElem?_map, hz]; rfl
    rw [List.getElem?_map] at h1
    cases hi : isC[k]? with
    | none => rw [hi] at h1; cases h1
    | some i => rw [hi] at h1; exact hP i z (Option.some.inj h1)
  have hDc := hD.sub isC hn hC
  have hFc := va_free (wc := wc) hD hS hA isC hC
  have cw : va_CN (rmd d) s args y.cls idx y1 host cc1 n1 r1 (wl y1 cc1 n1 r1) (rmd d1) 0 0 As.length ∧ (Cond.static y1).before args s = true ∧ True :=
    ⟨va_cnB As.length hts (wl_good k1) rfl rfl rfl (hN _ k3) (tg _ k2) k6 (rm_ok hd hn1), tg _ k4, trivial⟩
  refine va_calli (va_runSN (As := As) (rest := rest) (Pc := Pr E As wc H.size) ⟨hx, hb, hml, hown, hts⟩ (hc H.size) cw ⟨Pr.blind, fun U hU hW => ⟨rfl, by rw [hU], ⟨hN.warm hW, by rw [hU]; exact hO.go hS.2.1 hFc hW⟩, by rw [hU]; exact hPc, va_K.moved hW.alike hK, hDc.weaken (fun _ _ _ _ => trivial)⟩⟩ rfl rfl hls rfl (lv_room hst) hdg ⟨Nat.zero_le _, Nat.zero_le _⟩) hS (fun q _ h => hFc q h) hFc (fun r_2 u t H1 locs ht hvm hw hB hz1 hk1 hS => ?_)
  obtain ⟨hP1, hK1, hD1⟩ := hB
  rw [ht] at hP1
  subst hw
  obtain ⟨hP, hD⟩ := putC_join hP hD isC hC hn hl hk1 hFc hP1 hD1
  exact kk H1 locs hP hD hS
end CL

/-! returns by a rule, so that a body's end is a name -/
def RetI (ty : FieldType) (p : Program) (l : Launch) (e : Env) (d : Nat) (s : State) (m : MethodId) (args : Array Value) (below : List Frame) (meth : Method) (c : Code) (cc : ByteArray) (E : ENV) (A : Nat → Prop) (ws' : va_W) (rv : Int32) (Q : State → Prop) : Prop :=
  ∀ (H : Heap) (locs : List Loc) (ls : Array Slot) (pc : Nat), decode cc pc = .ok (.ireturn, 1) → narrow ty (.int rv) = .int rv → va_P E.1 classes ws' H → va_D A ws' → va_S A s.heap H locs → W p l e (rmd d) s m args below meth c H locs 0 0 Q (F0 m pc ls [.int rv])
def RetV (p : Program) (l : Launch) (e : Env) (d : Nat) (s : State) (m : MethodId) (args : Array Value) (below : List Frame) (meth : Method) (c : Code) (cc : ByteArray) (E : ENV) (A : Nat → Prop) (ws' : va_W) (Q : State → Prop) : Prop :=
  ∀ (H : Heap) (locs : List Loc) (ls : Array Slot) (pc : Nat), decode cc pc = .ok (.return_, 1) → va_P E.1 classes ws' H → va_D A ws' → va_S A s.heap H locs → W p l e (rmd d) s m args below meth c H locs 0 0 Q (F0 m pc ls [])
/-- from any heap that holds the world and any locals that hold these: the walk goes on at pc -/
abbrev GO (p : Program) (l : Launch) (e : Env) (d : Nat) (s : State) (m : MethodId) (args : Array Value) (below : List Frame) (meth : Method) (c : Code) (Q : State → Prop) (E : ENV) (A : Nat → Prop) (n pc : Nat) (st : List Value) (lv : List (Nat × Value)) (ws : va_W) : Prop :=
  ∀ (H : Heap) (locs : List Loc) (ls : Array Slot), lv_has ls n lv → va_P E.1 classes ws H → va_D A ws → va_S A s.heap H locs → W p l e (rmd d) s m args below meth c H locs 0 0 Q (F0 m pc ls st)
section ST2
variable {l : Launch} {E : ENV} {y : MethodName} {cc : ByteArray} {n : Nat} {d : Nat} {av : List Value} {ws ws' : va_W} {rv : Int32}
theorem begI {ty : FieldType} (hy : plainName y.cls = true) (hn : (lg_sl av).length ≤ n)
    (h : ∀ (p : Program) (e : Env) (s : State) (m : MethodId) (args : Array Value) (below : List Frame) (meth : Method) (c : Code) (A : Nat → Prop) (Q : State → Prop), Cx E A y cc n (some ty) p s m args meth c → (∀ q, s.heap.size ≤ q → A q) → RetI ty p l e d s m args below meth c cc E A ws' rv Q →
      GO p l e d s m args below meth c Q E A n 0 [] (lv_args 0 av) ws) : CI l E y cc n (some ty) d av ws ws' rv := by
  refine startI hy hn ?_
  intro p e s m below meth c A ls C hl hP hD hS hA
  exact h p e s m av.toArray below meth c A _ C hA (fun H locs ls pc hdg hn hP hD hS => W.zret C.1 C.2.1 C.2.2.2.2.2.2.1 hn (fun t ht hW => ⟨⟨rv, (), rfl, rfl, by rw [ht]; exact hP, va_K.moved hW.alike C.2.2.2.2.2.1, hD⟩, hS.F ht⟩) hS.2.2 hdg C.2.2.2.2.2.2.2.1) _ _ ls hl hP hD hS
theorem begV (hy : plainName y.cls = true) (hn : (lg_sl av).length ≤ n)
    (h : ∀ (p : Program) (e : Env) (s : State) (m : MethodId) (args : Array Value) (below : List Frame) (meth : Method) (c : Code) (A : Nat → Prop) (Q : State → Prop), Cx E A y cc n none p s m args meth c → (∀ q, s.heap.size ≤ q → A q) → RetV p l e d s m args below meth c cc E A ws' Q →
      GO p l e d s m args below meth c Q E A n 0 [] (lv_args 0 av) ws) : CV l E y cc n d av ws ws' := by
  refine startV hy hn ?_
  intro p e s m below meth c A ls C hl hP hD hS hA
  exact h p e s m av.toArray below meth c A _ C hA (fun H locs ls pc hdg hP hD hS => rv_ret C hP hD hS hdg) _ _ ls hl hP hD hS
end ST2
theorem q_mmax : Cond.static Lib.Math.max.name ∈ Tg ∧ Cond.initialized "java/lang/Math" ∈ Tg ∧ Cond.code Lib.Math.max.name Lib.Math.max.code 2 (some .int) ∈ Tg := ⟨Tg_mem 561 (by decide +kernel) (by decide +kernel), Tg_mem 103 (by decide +kernel) (by decide +kernel), Tg_mem 562 (by decide +kernel) (by decide +kernel)⟩
theorem q_mmin : Cond.static Lib.Math.min.name ∈ Tg ∧ Cond.initialized "java/lang/Math" ∈ Tg ∧ Cond.code Lib.Math.min.name Lib.Math.min.code 2 (some .int) ∈ Tg := ⟨Tg_mem 490 (by decide +kernel) (by decide +kernel), Tg_mem 103 (by decide +kernel) (by decide +kernel), Tg_mem 491 (by decide +kernel) (by decide +kernel)⟩
theorem q_cpy : Cond.native arraycopyName ∈ Tg ∧ Cond.static arraycopyName ∈ Tg ∧ Cond.initialized "java/lang/System" ∈ Tg := ⟨Tg_mem 687 (by decide +kernel) (by decide +kernel), Tg_mem 686 (by decide +kernel) (by decide +kernel), Tg_mem 109 (by decide +kernel) (by decide +kernel)⟩
section JR
variable {p : Program} {l : Launch} {e : Env} {s : State} {m : MethodId} {args : Array Value} {below : List Frame} {meth : Method} {c : Code} {H : Heap} {locs : List Loc} {Q : State → Prop} {d : Nat}
variable {E : ENV} {y : MethodName} {cc : ByteArray} {n : Nat} {r : Option FieldType} {pc : Nat} {ls : Array Slot} {rest : List Value} {A : Nat → Prop} {ws : va_W} {idx : Nat} {a : Nat} {H0 : Heap}
theorem r_max (C : Cx E A y cc n r p s m args meth c) (hq : Cond.methodLink y.cls idx Lib.Math.max.name ∈ Tg) (hd : 1 ≤ d) (hls : ls.size = n) (hst : (rest.map fun v => v.category).sum ≤ 8) {x z : Int32} (hdg : decode cc pc = .ok (.invokestatic idx, 3))
    (kk : W p l e (rmd d) s m args below meth c H locs 0 0 Q (F0 m (pc + 3) ls (.int (mx x z) :: rest))) : W p l e (rmd d) s m args below meth c H locs 0 0 Q (F0 m pc ls (.int z :: .int x :: rest)) := by
  have tg : ∀ w ∈ Tg, w.before args s = true := fun w h => C.2.2.2.2.1 w (List.mem_cons_of_mem _ h)
  exact va_mmax C.1 C.2.1 (C.2.2.1.trans hls.symm) C.2.2.2.1 (tg _ hq) (tg _ q_mmax.1) (tg _ q_mmax.2.1) (tg _ q_mmax.2.2) hd (by show _ ≤ 60 * d; omega) (Nat.zero_le _) (Nat.zero_le _) hdg kk
theorem r_min (C : Cx E A y cc n r p s m args meth c) (hq : Cond.methodLink y.cls idx Lib.Math.min.name ∈ Tg) (hd : 1 ≤ d) (hls : ls.size = n) (hst : (rest.map fun v => v.category).sum ≤ 8) {x z : Int32} (hdg : decode cc pc = .ok (.invokestatic idx, 3))
    (kk : W p l e (rmd d) s m args below meth c H locs 0 0 Q (F0 m (pc + 3) ls (.int (mn x z) :: rest))) : W p l e (rmd d) s m args below meth c H locs 0 0 Q (F0 m pc ls (.int z :: .int x :: rest)) := by
  have tg : ∀ w ∈ Tg, w.before args s = true := fun w h => C.2.2.2.2.1 w (List.mem_cons_of_mem _ h)
  exact va_mmin C.1 C.2.1 (C.2.2.1.trans hls.symm) C.2.2.2.1 (tg _ hq) (tg _ q_mmin.1) (tg _ q_mmin.2.1) (tg _ q_mmin.2.2) hd (by show _ ≤ 60 * d; omega) (Nat.zero_le _) (Nat.zero_le _) hdg kk
theorem r_cpy (C : Cx E A y cc n r p s m args meth c) (hq : Cond.methodLink y.cls idx arraycopyName ∈ Tg) (hd : 1 ≤ d) (hls : ls.size = n) (hst : (rest.map fun v => v.category).sum ≤ 8) (hP : va_P E.1 classes ws H) (hD : va_D A ws) (hS : va_S A H0 H locs) (q0 q1 k : Nat) {a0 : Nat} {f g : Nat → Int32} {n0 n1 : Nat} (ha0 : ws[q0]? = some (a0, .inl (E.2.1, n0, .inl f))) (ha1 : ws[q1]? = some (a, .inl (E.2.1, n1, .inl g))) {kI : Int32} (hk : kI.toNatClampNeg = k) (hk0 : ¬ kI < 0) (h0 : k ≤ n0) (h1 : k ≤ n1) (hdg : decode cc pc = .ok (.invokestatic idx, 3))
    (kk : ∀ (H1 : Heap) (locs1 : List Loc), va_P E.1 classes (ws.set q1 (a, .inl (E.2.1, n1, .inl (cpy k f g)))) H1 → va_D A (ws.set q1 (a, .inl (E.2.1, n1, .inl (cpy k f g)))) → va_S A H0 H1 locs1 → W p l e (rmd d) s m args below meth c H1 locs1 0 0 Q (F0 m (pc + 3) ls rest)) : W p l e (rmd d) s m args below meth c H locs 0 0 Q (F0 m pc ls (.int kI :: .int 0 :: .ref a :: .int 0 :: .ref a0 :: rest)) := by
  have tg : ∀ w ∈ Tg, w.before args s = true := fun w h => C.2.2.2.2.1 w (List.mem_cons_of_mem _ h)
  have z : (0 : Int32).toNatClampNeg = 0 := by decide
  refine va_copyi C.1 C.2.1 (C.2.2.1.trans hls.symm) C.2.2.2.1 (tg _ hq) (tg _ q_cpy.1) (tg _ q_cpy.2.1) (tg _ q_cpy.2.2) C.2.2.2.2.2.1 hP hD hS q0 q1 0 0 ha0 ha1 rfl rfl rfl (by decide) (by decide) hk0 (by rw [hk, z]; omega) (by rw [hk, z]; omega) (fun i _ => rfl) hd ?_ hdg (fun H1 locs1 hP hD hS => ?_)
  · have h9 : nativeFrameWords "java/lang/System" "arraycopy" 5 + 11 ≤ 50 := by decide +kernel
    show _ ≤ 60 * d
    omega
  · rw [hk, z, cpy_eq] at hP hD
    exact kk H1 locs1 hP hD hS
theorem r_tsw (C : Cx E A y cc n r p s m args meth c) {dflt lo hi : Int} {offs : Array Int} {len : Nat} {x : Int32} {off : Int} {tgt : Nat} (hdg : decode cc pc = .ok (.tableswitch dflt lo hi offs, len)) (v : Int32) (e0 : x = v) (h1 : ¬ v.toInt < lo) (h2 : ¬ hi < v.toInt) (ho : offs[(v.toInt - lo).toNat]? = some off) (ht : (pc : Int) + off = (tgt : Int))
    (k : W p l e (rmd d) s m args below meth c H locs 0 0 Q (F0 m tgt ls rest)) : W p l e (rmd d) s m args below meth c H locs 0 0 Q (F0 m pc ls (.int x :: rest)) := by
  subst e0
  exact lv_tableIn C.1 C.2.1 hdg h1 h2 ho ht k
end JR

section IR
variable {p : Program} {l : Launch} {e : Env} {R : Room} {s : State} {m : MethodId} {args : Array Value} {below : List Frame} {meth : Method} {c : Code} {H : Heap} {locs : List Loc} {cells slots : Nat} {Q : State → Prop} {cc : ByteArray} {pc : Nat} {ls : Array Slot} {rest : List Value}
theorem r_irem (hexec : p.tables.exec = Jvm.exec) (hb : c.code = cc) {x y : Int32} (hdg : decode cc pc = .ok (.irem, 1)) (hne : ¬ y = 0)
    (k : W p l e R s m args below meth c H locs cells slots Q (F0 m (pc + 1) ls (.int (rem x y) :: rest))) : W p l e R s m args below meth c H locs cells slots Q (F0 m pc ls (.int y :: .int x :: rest)) := lv_irem hexec hb hdg hne k
end IR

/-- the reading's row: 0 none, 1 the text, 2 the rule -/
def rdv : Nat → Nat → Nat → Value
  | 0, _, _ => .null
  | 1, a, _ => .ref a
  | _ + 2, _, b => .ref b
section AL
variable {p : Program} {l : Launch} {e : Env} {R : Room} {s : State} {m : MethodId} {args : Array Value} {below : List Frame} {meth : Method} {c : Code} {H : Heap} {locs : List Loc} {cells slots : Nat} {Q : State → Prop} {E : ENV} {y : MethodName} {cc : ByteArray} {n : Nat} {r : Option FieldType} {pc : Nat} {ls : Array Slot} {rest : List Value} {a : Nat} {ws : va_W} {A : Nat → Prop}
theorem r_ald (C : Cx E A y cc n r p s m args meth c) (hP : va_P E.1 classes ws H) (q0 t0 : Nat) {cA : ClassId} {CN : String} {k0 : Nat} {f : Nat → Option Nat} (ha : ws[q0]? = some (a, .inl (cA, k0, .inr (.inr (.inr (.inr f)))))) (ht : (tyl E)[t0]? = some (cA, .object CN)) {i v : Int32} (e0 : i = v) {k b : Nat} (hv : v.toNatClampNeg = k ∧ ¬ v < 0) (hk : k < k0) (hb : f k = some b) (hdg : decode cc pc = .ok (.aaload, 1))
    (kk : W p l e R s m args below meth c H locs cells slots Q (F0 m (pc + 1) ls (.ref b :: rest))) : W p l e R s m args below meth c H locs cells slots Q (F0 m pc ls (.int i :: .ref a :: rest)) := by
  subst e0
  refine va_aldq C.1 C.2.1 C.2.2.2.2.2.1 hP q0 t0 ha ht (fun h => ?_) hdg ?_
  · rcases h with h | h
    · exact hv.2 h
    · rw [hv.1] at h
      omega
  · rw [hv.1, hb]
    exact kk
end AL

