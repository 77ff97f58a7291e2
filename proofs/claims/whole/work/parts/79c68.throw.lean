theorem putC_same {ws wc : va_W} {is : List Nat} (hC : is.map (fun i => ws[i]?) = wc.map some) (hn : va_nd is = true) (hl : is.length = wc.length) : putC ws is wc = ws := by
  apply List.ext_getElem?
  intro k
  by_cases h : k ∈ is
  · obtain ⟨j, hj⟩ := List.getElem?_of_mem h
    have h1 := congrArg (fun l => l[j]?) hC
    simp only [List.getElem?_map, hj, Option.map_some] at h1
    cases hw : wc[j]? with
    | none => rw [hw] at h1; simp at h1
    | some w =>
      rw [hw] at h1
      have h2 : ws[k]? = some w := by simpa using h1
      rw [putC_in is wc ws j k hn hl hj (List.getElem?_eq_some_iff.1 h2).1, hw, h2]
  · exact putC_out is wc ws k h
def CxG (E : ENV) (A : Nat → Prop) (cc : ByteArray) (n : Nat) (p : Program) (s : State) (m : MethodId) (args : Array Value) (c : Code) : Prop :=
  p.tables.exec = Jvm.exec ∧ c.code = cc ∧ c.maxLocals = n ∧ s.vm.findClass R_law = some m.cls ∧ (∀ w ∈ Tg, w.before args s = true) ∧ va_K E.1 classes (tyl E) s ∧ Nst s ∧ OX E A s s.heap
section LWG
variable {p : Program} {l : Launch} {e : Env} {R : Room} {s : State} {m : MethodId} {args : Array Value} {below : List Frame} {meth : Method} {c : Code} {H : Heap} {locs : List Loc} {cells slots : Nat} {Q : State → Prop}
variable {E : ENV} {pc n : Nat} {cc : ByteArray} {ls : Array Slot} {rest : List Value} {A : Nat → Prop} {ws : va_W} {idx : Nat}
variable {y1 : MethodName} {cc1 : ByteArray} {n1 : Nat} {r1 : Option FieldType} {d1 b : Nat} {As : List Value} {wc wc' : va_W} {rv : Int32} {host : String}
theorem k_Gi (C : CxG E A cc n p s m args c) (K : KV R_law idx y1 cc1 n1 r1 As.length) (hR9 : (rmd d1).frames + 1 ≤ R.frames ∧ 8 + (n1 + 11) + (rmd d1).locals ≤ R.locals) (hcl : cells ≤ R.cells) (hsl : slots ≤ R.slots) (hc : CI l E y1 cc1 n1 r1 d1 (.ref b :: As) wc wc' rv) (isC : List Nat)
    (hC : isC.map (fun i => ws[i]?) = wc.map some) (hn : va_nd isC = true) (hl : isC.length = wc'.length) {ci q0 : Nat} {q : vw_C} {fs : List Value} (hci : classes[ci]? = some q) (hq : q.1 = y1.cls) (hrc : wc[q0]? = some (b, .inr (ci, fs)))
    (hP : va_P E.1 classes ws H) (hD : va_D A ws) (hS : va_S A s.heap H locs) (hA : ∀ q, s.heap.size ≤ q → A q) (hls : ls.size = n) (hst : (rest.map fun v => v.category).sum ≤ 8) {st0 : List Value} (hst0 : st0 = As.reverse ++ .ref b :: rest) (hdg : decode cc pc = .ok (.invokevirtual idx, 3))
    (kk : ∀ (H1 : Heap) (locs1 : List Loc), va_P E.1 classes (putC ws isC wc') H1 → va_D A (putC ws isC wc') → va_S A s.heap H1 locs1 → W p l e R s m args below meth c H1 locs1 cells slots Q (F0 m (pc + 3) ls (.int rv :: rest))) :
    W p l e R s m args below meth c H locs cells slots Q (F0 m pc ls st0) := by
  subst hst0
  obtain ⟨hx, hb, hml, hown, hts, hK, hN, hO⟩ := C
  obtain ⟨k1, k2, k3, k4, k5, k6⟩ := K
  have tg := hts
  have hPc : va_P E.1 classes wc H := fun k z hz => by
    have h1 : (isC.map (fun i => ws[i]?))[k]? = some (some z) := by rw [hC, List.getElem?_map, hz]; rfl
    rw [List.getElem?_map] at h1
    cases hi : isC[k]? with
    | none => rw [hi] at h1; cases h1
    | some i => rw [hi] at h1; exact hP i z (Option.some.inj h1)
  have hDc := hD.sub isC hn hC
  have hFc := va_free (wc := wc) hD hS hA isC hC
  have cw : CallW R s args R_law y1.cls idx y1 cc1 n1 r1 (wl y1 cc1 n1 r1) (rmd d1) 0 0 As.length :=
    ⟨callB_of As.length hts (tg_good k1) rfl rfl rfl (tg _ k2) (tg _ k3) k6 hR9, tg _ k4, tg _ k5⟩
  refine va_calli (va_runV (As := As) (rest := rest) (Pc := Pr E (.ref b :: As) wc H.size) ⟨hx, hb, hml, hown, hts⟩ (hc H.size) cw ⟨Pr.blind, by rw [← hq]; exact va_recv hK hPc hci hrc, fun U hU hW => ⟨rfl, by rw [hU], ⟨hN.warm hW, by rw [hU]; exact hO.go hS.2.1 hFc hW⟩, by rw [hU]; exact hPc, va_K.moved hW.alike hK, hDc.weaken (fun _ _ _ _ => trivial)⟩⟩ rfl rfl hls rfl (lv_room hst) hdg ⟨hcl, hsl⟩) hS (fun q _ h => hFc q h) hFc (fun r_2 u t H1 locs ht hvm hw hB hz1 hk1 hS => ?_)
  obtain ⟨hP1, hK1, hD1⟩ := hB
  rw [ht] at hP1
  subst hw
  obtain ⟨hP, hD⟩ := putC_join hP hD isC hC hn hl hk1 hFc hP1 hD1
  exact kk H1 locs hP hD hS
theorem k_G (C : CxG E A cc n p s m args c) (K : KV R_law idx y1 cc1 n1 r1 As.length) (hR9 : (rmd d1).frames + 1 ≤ R.frames ∧ 8 + (n1 + 11) + (rmd d1).locals ≤ R.locals) (hcl : cells ≤ R.cells) (hsl : slots ≤ R.slots) {ws' : va_W} (hc : CI l E y1 cc1 n1 r1 d1 (.ref b :: As) ws ws' rv) (hl : ws.length = ws'.length) {ci q0 : Nat} {q : vw_C} {fs : List Value} (hci : classes[ci]? = some q) (hq : q.1 = y1.cls) (hrc : ws[q0]? = some (b, .inr (ci, fs)))
    (hP : va_P E.1 classes ws H) (hD : va_D A ws) (hS : va_S A s.heap H locs) (hA : ∀ q, s.heap.size ≤ q → A q) (hls : ls.size = n) (hst : (rest.map fun v => v.category).sum ≤ 8) {st0 : List Value} (hst0 : st0 = As.reverse ++ .ref b :: rest) (hdg : decode cc pc = .ok (.invokevirtual idx, 3))
    (kk : ∀ (H1 : Heap) (locs1 : List Loc), va_P E.1 classes ws' H1 → va_D A ws' → va_S A s.heap H1 locs1 → W p l e R s m args below meth c H1 locs1 cells slots Q (F0 m (pc + 3) ls (.int rv :: rest))) :
    W p l e R s m args below meth c H locs cells slots Q (F0 m pc ls st0) :=
  k_Gi C K hR9 hcl hsl hc (List.range ws.length) (range_get ws) (nd_range _) (by rw [List.length_range]; exact hl) hci hq hrc hP hD hS hA hls hst hst0 hdg
    (fun H1 locs1 h1 h2 h3 => kk H1 locs1 (by rw [putC_all ws ws' hl] at h1; exact h1) (by rw [putC_all ws ws' hl] at h2; exact h2) h3)
theorem k_TX (C : CxG E A cc n p s m args c) (K : KV R_law idx y1 cc1 n1 r1 As.length) (hTX : TX A s s.heap) (hR9 : (rmc d1 1 6).frames + 1 ≤ R.frames ∧ 8 + (n1 + 11) + (rmc d1 1 6).locals ≤ R.locals) (hcl : cells + 1 ≤ R.cells) (hsl : slots + 6 ≤ R.slots) (hc : CT l E y1 cc1 n1 r1 d1 (.ref b :: As) wc) (isC : List Nat)
    (hC : isC.map (fun i => ws[i]?) = wc.map some) (hn : va_nd isC = true) (hl : isC.length = wc.length) {ci q0 : Nat} {q : vw_C} {fs : List Value} (hci : classes[ci]? = some q) (hq : q.1 = y1.cls) (hrc : wc[q0]? = some (b, .inr (ci, fs)))
    (hP : va_P E.1 classes ws H) (hD : va_D A ws) (hS : va_S A s.heap H locs) (hA : ∀ q, s.heap.size ≤ q → A q) (hls : ls.size = n) (hst : (rest.map fun v => v.category).sum ≤ 8) {st0 : List Value} (hst0 : st0 = As.reverse ++ .ref b :: rest) (hdg : decode cc pc = .ok (.invokevirtual idx, 3))
    (kk : ∀ (H1 : Heap) (locs1 : List Loc) (q9 : Addr) (ce : Cell), va_P E.1 classes ws H1 → va_D A ws → va_S A s.heap H1 locs1 → H1[q9]? = some ce → ce.vm = .none → s.vm.findClass XN = some ce.cls → vx_W p l e R s m args below meth c H1 locs1 (cells + 1) (slots + 6) Q (F0 m pc ls rest) q9) :
    W p l e R s m args below meth c H locs cells slots Q (F0 m pc ls st0) := by
  subst hst0
  obtain ⟨hx, hb, hml, hown, hts, hK, hN, hO⟩ := C
  obtain ⟨k1, k2, k3, k4, k5, k6⟩ := K
  have tg := hts
  have hPc : va_P E.1 classes wc H := fun k z hz => by
    have h1 : (isC.map (fun i => ws[i]?))[k]? = some (some z) := by rw [hC, List.getElem?_map, hz]; rfl
    rw [List.getElem?_map] at h1
    cases hi : isC[k]? with
    | none => rw [hi] at h1; cases h1
    | some i => rw [hi] at h1; exact hP i z (Option.some.inj h1)
  have hDc := hD.sub isC hn hC
  have hFc := va_free (wc := wc) hD hS hA isC hC
  have cw : CallW R s args R_law y1.cls idx y1 cc1 n1 r1 (wl y1 cc1 n1 r1) (rmc d1 1 6) 1 6 As.length :=
    ⟨callB_of As.length hts (tg_good k1) rfl rfl rfl (tg _ k2) (tg _ k3) k6 hR9, tg _ k4, tg _ k5⟩
  have hr := vx_runV (l := l) (e := e) (below := below) (meth := meth) (cells := cells) (slots := slots) (locs := locs) (g := F0 m pc ls (As.reverse ++ .ref b :: rest)) (As := As) (rest := rest) (Pc := PrX E (.ref b :: As) wc H.size) ⟨hx, hb, hml, hown, hts⟩ (hc H.size) cw ⟨PrX.blind, by rw [← hq]; exact va_recv hK hPc hci hrc, fun U hU hW => ⟨⟨rfl, by rw [hU], ⟨hN.warm hW, by rw [hU]; exact hO.go hS.2.1 hFc hW⟩, by rw [hU]; exact hPc, va_K.moved hW.alike hK, hDc.weaken (fun _ _ _ _ => trivial)⟩, by rw [hU]; exact hTX.go hS.2.1 hFc hW⟩⟩ rfl rfl hls rfl (lv_room hst) hdg ⟨hcl, hsl⟩
  have hr2 : vx_Run p l e R s m args below meth c H locs cells slots 1 6 (F0 m pc ls (As.reverse ++ .ref b :: rest)) rest (va_Qi (fun _ (_ : Unit) => False) (fun _ _ => True) (fun _ => False) #[]) (XX E (va_A wc H.size) wc) (va_A wc H.size) := by
    intro T hT X
    rcases hr T hT X with ⟨v, st0, t, T', L, h0, X', hL, e1, e2, h9, _⟩ | h
    · exact h9.elim
    · exact Or.inr h
  refine vx_calli hr2 hS (fun q _ h => h.elim) hFc (fun q _ h => hFc q h) (fun E9 ce q9 u t H1 locs1 ht hvm hpx hB hz1 hk1 hS hce hcv hcl9 => ?_) (fun r u t H1 locs1 ht hvm hp => hp.elim)
  obtain ⟨rfl, hP1, hK1, hD1⟩ := hB
  rw [ht] at hP1
  obtain ⟨hP, hD⟩ := putC_join hP hD isC hC hn hl hk1 hFc hP1 hD1
  rw [putC_same hC hn hl] at hP hD
  exact kk H1 locs1 q9 ce hP hD hS hce hcv hcl9
end LWG
theorem castable_refl {args : Array Value} {s : State} {k : ClassId} {X : String} (h : s.vm.findClass X = some k) : (Cond.castable X X).before args s = true := by
  simp [Cond.before, Cond.holds, Cond.value, h, va_asg]
/-- what a catch does: held apart, for it is proved over the whole library -/
def CatchP (l : Launch) : Prop := ∀ (p : Program) (e : Env) (R : Room) (s : State) (m : MethodId) (args : Array Value) (below : List Frame) (meth : Method) (c : Code) (H : Heap) (locs : List Loc) (cells slots : Nat) (Q : State → Prop) (pc : Nat) (ls : Array Slot) (rest : List Value) (x : ExceptionTableEntry) (ce : Cell) (q : Addr),
  s.vm.findClass R_law = some m.cls → c.exceptionTable.toList = [x] → covers x pc = true → x.catchType ≠ 0 → (Cond.classLink R_law x.catchType XN).before args s = true → H[q]? = some ce → ce.vm = .none → s.vm.findClass XN = some ce.cls →
  W p l e R s m args below meth c H locs cells slots Q (F0 m x.handlerPc ls [.ref q]) → vx_W p l e R s m args below meth c H locs cells slots Q (F0 m pc ls rest) q
/-- a contract of a method of the law with a table -/
def CHm (l : Launch) (E : ENV) (y : MethodName) (cc : ByteArray) (n : Nat) (hh : List (Nat × Nat × Nat × Nat)) (av : List Value) (ws ws' : va_W) (rv : Int32) : Prop :=
  ∀ sz, vx_Met l y (Cond.codeWith y cc n (some .int) hh :: Tg) (rmc 120 1 6) (PrX E av ws sz) (QI E (va_A ws sz) ws' rv) (vx_X (fun _ : Unit => False) (fun _ _ _ => False) (fun _ => False)) 1 6 (va_A ws sz)
theorem begH {l : Launch} {E : ENV} {nm ds : String} {cc : ByteArray} {n : Nat} {hh : List (Nat × Nat × Nat × Nat)} {av : List Value} {ws ws' : va_W} {rv : Int32} (hn : (lg_sl av).length ≤ n)
    (h : ∀ (p : Program) (e : Env) (s : State) (m : MethodId) (args : Array Value) (below : List Frame) (meth : Method) (c : Code) (A : Nat → Prop) (Q : State → Prop) (ls : Array Slot), CxG E A cc n p s m args c → TX A s s.heap → c.exceptionTable.toList = tableOf hh → (∀ q, s.heap.size ≤ q → A q) →
      (∀ (H : Heap) (locs : List Loc) (ls : Array Slot) (pc : Nat), decode cc pc = .ok (.ireturn, 1) → va_P E.1 classes ws' H → va_D A ws' → va_S A s.heap H locs → W p l e (rmc 120 1 6) s m args below meth c H locs 1 6 Q (F0 m pc ls [.int rv])) →
      lv_has ls n (lv_args 0 av) → va_P E.1 classes ws s.heap → va_D A ws → va_S A s.heap s.heap [] → W p l e (rmc 120 1 6) s m args below meth c s.heap [] 0 0 Q (F0 m 0 ls [])) : CHm l E ⟨RL, nm, ds⟩ cc n hh av ws ws' rv := by
  intro sz
  refine vx_ofWH (cc := cc) (maxL := n) (ret := some .int) (hh := hh) (by show plainName RL = true; decide +kernel) rfl ?_
  intro p e s m args below meth c s₁ B hml hv
  obtain ⟨⟨rfl, hsz, ⟨hN, hO⟩, hP, hK, hD0⟩, hT⟩ := hv
  have hx := B.exec
  have hb := B.bytes
  have hr := B.returns
  have hts := atoms_spec (ws := Cond.codeWith ⟨RL, nm, ds⟩ cc n (some .int) hh :: Tg) B.pre
  have hown : s.vm.findClass RL = some m.cls := findClass_of_methodNamed B.named
  have hlocks := B.notSynchronized
  have htab := vx_table (x := ⟨RL, nm, ds⟩) B (hts _ List.mem_cons_self)
  subst hsz
  have hD := hD0.self (sz := s.heap.size)
  have hA : ∀ q : Nat, s.heap.size ≤ q → va_A ws s.heap.size q := fun q h => Or.inr h
  have tg : ∀ w ∈ Tg, w.before av.toArray s = true := fun w h => hts w (List.mem_cons_of_mem _ h)
  rw [lg_entry_eq]
  exact h p e s m av.toArray below meth c (va_A ws s.heap.size) _ _ ⟨hx, hb, hml, hown, tg, hK, hN, hO⟩ hT htab hA (fun H locs ls pc hdg hP hD hS => vx_ret (W.iret hx hb hr (fun t ht hW => ⟨⟨rv, (), rfl, rfl, by rw [ht]; exact hP, va_K.moved hW.alike hK, hD⟩, hS.F ht⟩) hS.2.2 hdg hlocks)) (lv_entry av hn) hP hD va_S.rf
theorem WL_set {E : ENV} {qx qm qo : Nat} {u v : List Nat} {σ : CS} {τ : MS} {lo lo2 : Nat → Int64} : (WL E qx qm qo u v σ τ lo).set 163 (qo, .inl (E.2.2.2.2.2.2.1, 1, .inr (.inl lo2))) = WL E qx qm qo u v σ τ lo2 := by
  unfold WL
  rw [List.set_append_right _ _ (by rw [WC_len]; omega), WC_len, List.set_append_right _ _ (by rw [WM_len]; omega), WM_len]
  rfl
