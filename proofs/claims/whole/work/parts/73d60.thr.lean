section CLG
variable {p : Program} {l : Launch} {e : Env} {R : Room} {s : State} {m : MethodId} {args : Array Value} {below : List Frame} {meth : Method} {c : Code} {H : Heap} {locs : List Loc} {cells slots : Nat} {Q : State → Prop}
variable {E : ENV} {y : MethodName} {cc : ByteArray} {n : Nat} {r : Option FieldType} {pc : Nat} {ls : Array Slot} {rest : List Value} {A : Nat → Prop} {ws : va_W} {idx : Nat}
variable {y1 : MethodName} {cc1 : ByteArray} {n1 : Nat} {r1 : Option FieldType} {d1 b : Nat} {As : List Value} {wc wc' : va_W} {rv : Int32} {host : String}
theorem k_VIg (C : Cx E A y cc n r p s m args meth c) (K : KV y.cls idx y1 cc1 n1 r1 As.length) (hR9 : (rmd d1).frames + 1 ≤ R.frames ∧ 8 + (n1 + 11) + (rmd d1).locals ≤ R.locals) (hcl : cells ≤ R.cells) (hsl : slots ≤ R.slots) (hc : CI l E y1 cc1 n1 r1 d1 (.ref b :: As) wc wc' rv) (isC : List Nat)
    (hC : isC.map (fun i => ws[i]?) = wc.map some) (hn : va_nd isC = true) (hl : isC.length = wc'.length) {ci q0 : Nat} {q : vw_C} {fs : List Value} (hci : classes[ci]? = some q) (hq : q.1 = y1.cls) (hrc : wc[q0]? = some (b, .inr (ci, fs)))
    (hP : va_P E.1 classes ws H) (hD : va_D A ws) (hS : va_S A s.heap H locs) (hA : ∀ q, s.heap.size ≤ q → A q) (hls : ls.size = n) (hst : (rest.map fun v => v.category).sum ≤ 8) {st0 : List Value} (hst0 : st0 = As.reverse ++ .ref b :: rest) (hdg : decode cc pc = .ok (.invokevirtual idx, 3))
    (kk : ∀ (H1 : Heap) (locs1 : List Loc), va_P E.1 classes (putC ws isC wc') H1 → va_D A (putC ws isC wc') → va_S A s.heap H1 locs1 → W p l e R s m args below meth c H1 locs1 cells slots Q (F0 m (pc + 3) ls (.int rv :: rest))) :
    W p l e R s m args below meth c H locs cells slots Q (F0 m pc ls st0) := by
  subst hst0
  obtain ⟨hx, hb, hml, hown, hts, hK, hr, hlk, hN, hO⟩ := C
  obtain ⟨k1, k2, k3, k4, k5, k6⟩ := K
  have tg : ∀ w ∈ Tg, w.before args s = true := fun w h => hts w (List.mem_cons_of_mem _ h)
  have hPc : va_P E.1 classes wc H := fun k z hz => by
    have h1 : (isC.map (fun i => ws[i]?))[k]? = some (some z) := by rw [hC, List.getElem?_map, hz]; rfl
    rw [List.getElem?_map] at h1
    cases hi : isC[k]? with
    | none => rw [hi] at h1; cases h1
    | some i => rw [hi] at h1; exact hP i z (Option.some.inj h1)
  have hDc := hD.sub isC hn hC
  have hFc := va_free (wc := wc) hD hS hA isC hC
  have cw : CallW R s args y.cls y1.cls idx y1 cc1 n1 r1 (wl y1 cc1 n1 r1) (rmd d1) 0 0 As.length :=
    ⟨callB_of As.length hts (wl_good k1) rfl rfl rfl (tg _ k2) (tg _ k3) k6 hR9, tg _ k4, tg _ k5⟩
  refine va_calli (va_runV (As := As) (rest := rest) (Pc := Pr E (.ref b :: As) wc H.size) ⟨hx, hb, hml, hown, hts⟩ (hc H.size) cw ⟨Pr.blind, by rw [← hq]; exact va_recv hK hPc hci hrc, fun U hU hW => ⟨rfl, by rw [hU], ⟨hN.warm hW, by rw [hU]; exact hO.go hS.2.1 hFc hW⟩, by rw [hU]; exact hPc, va_K.moved hW.alike hK, hDc.weaken (fun _ _ _ _ => trivial)⟩⟩ rfl rfl hls rfl (lv_room hst) hdg ⟨hcl, hsl⟩) hS (fun q _ h => hFc q h) hFc (fun r_2 u t H1 locs ht hvm hw hB hz1 hk1 hS => ?_)
  obtain ⟨hP1, hK1, hD1⟩ := hB
  rw [ht] at hP1
  subst hw
  obtain ⟨hP, hD⟩ := putC_join hP hD isC hC hn hl hk1 hFc hP1 hD1
  exact kk H1 locs hP hD hS
theorem k_VVg (C : Cx E A y cc n r p s m args meth c) (K : KV y.cls idx y1 cc1 n1 none As.length) (hR9 : (rmd d1).frames + 1 ≤ R.frames ∧ 8 + (n1 + 11) + (rmd d1).locals ≤ R.locals) (hcl : cells ≤ R.cells) (hsl : slots ≤ R.slots) (hc : CV l E y1 cc1 n1 d1 (.ref b :: As) wc wc') (isC : List Nat)
    (hC : isC.map (fun i => ws[i]?) = wc.map some) (hn : va_nd isC = true) (hl : isC.length = wc'.length) {ci q0 : Nat} {q : vw_C} {fs : List Value} (hci : classes[ci]? = some q) (hq : q.1 = y1.cls) (hrc : wc[q0]? = some (b, .inr (ci, fs)))
    (hP : va_P E.1 classes ws H) (hD : va_D A ws) (hS : va_S A s.heap H locs) (hA : ∀ q, s.heap.size ≤ q → A q) (hls : ls.size = n) (hst : (rest.map fun v => v.category).sum ≤ 8) {st0 : List Value} (hst0 : st0 = As.reverse ++ .ref b :: rest) (hdg : decode cc pc = .ok (.invokevirtual idx, 3))
    (kk : ∀ (H1 : Heap) (locs1 : List Loc), va_P E.1 classes (putC ws isC wc') H1 → va_D A (putC ws isC wc') → va_S A s.heap H1 locs1 → W p l e R s m args below meth c H1 locs1 cells slots Q (F0 m (pc + 3) ls rest)) :
    W p l e R s m args below meth c H locs cells slots Q (F0 m pc ls st0) := by
  subst hst0
  obtain ⟨hx, hb, hml, hown, hts, hK, hr, hlk, hN, hO⟩ := C
  obtain ⟨k1, k2, k3, k4, k5, k6⟩ := K
  have tg : ∀ w ∈ Tg, w.before args s = true := fun w h => hts w (List.mem_cons_of_mem _ h)
  have hPc : va_P E.1 classes wc H := fun k z hz => by
    have h1 : (isC.map (fun i => ws[i]?))[k]? = some (some z) := by rw [hC, List.getElem?_map, hz]; rfl
    rw [List.getElem?_map] at h1
    cases hi : isC[k]? with
    | none => rw [hi] at h1; cases h1
    | some i => rw [hi] at h1; exact hP i z (Option.some.inj h1)
  have hDc := hD.sub isC hn hC
  have hFc := va_free (wc := wc) hD hS hA isC hC
  have cw : CallW R s args y.cls y1.cls idx y1 cc1 n1 none (wl y1 cc1 n1 none) (rmd d1) 0 0 As.length :=
    ⟨callB_of As.length hts (wl_good k1) rfl rfl rfl (tg _ k2) (tg _ k3) k6 hR9, tg _ k4, tg _ k5⟩
  refine va_callv (va_runV (As := As) (rest := rest) (Pc := Pr E (.ref b :: As) wc H.size) ⟨hx, hb, hml, hown, hts⟩ (hc H.size) cw ⟨Pr.blind, by rw [← hq]; exact va_recv hK hPc hci hrc, fun U hU hW => ⟨rfl, by rw [hU], ⟨hN.warm hW, by rw [hU]; exact hO.go hS.2.1 hFc hW⟩, by rw [hU]; exact hPc, va_K.moved hW.alike hK, hDc.weaken (fun _ _ _ _ => trivial)⟩⟩ rfl rfl hls rfl (lv_room hst) hdg ⟨hcl, hsl⟩) hS (fun q _ h => hFc q h) hFc (fun u t H1 locs ht hvm hw hB hz1 hk1 hS => ?_)
  obtain ⟨hP1, hK1, hD1⟩ := hB
  rw [ht] at hP1
  obtain ⟨hP, hD⟩ := putC_join hP hD isC hC hn hl hk1 hFc hP1 hD1
  exact kk H1 locs hP hD hS
theorem k_SIg (C : Cx E A y cc n r p s m args meth c) (K : KS y.cls idx y1 cc1 n1 r1 As.length) (hR9 : (rmd d1).frames + 1 ≤ R.frames ∧ 8 + (n1 + 11) + (rmd d1).locals ≤ R.locals) (hcl : cells ≤ R.cells) (hsl : slots ≤ R.slots) (hc : CI l E y1 cc1 n1 r1 d1 As wc wc' rv) (isC : List Nat)
    (hC : isC.map (fun i => ws[i]?) = wc.map some) (hn : va_nd isC = true) (hl : isC.length = wc'.length)
    (hP : va_P E.1 classes ws H) (hD : va_D A ws) (hS : va_S A s.heap H locs) (hA : ∀ q, s.heap.size ≤ q → A q) (hls : ls.size = n) (hst : (rest.map fun v => v.category).sum ≤ 8) {st0 : List Value} (hst0 : st0 = As.reverse ++ rest) (hdg : decode cc pc = .ok (.invokestatic idx, 3))
    (kk : ∀ (H1 : Heap) (locs1 : List Loc), va_P E.1 classes (putC ws isC wc') H1 → va_D A (putC ws isC wc') → va_S A s.heap H1 locs1 → W p l e R s m args below meth c H1 locs1 cells slots Q (F0 m (pc + 3) ls (.int rv :: rest))) :
    W p l e R s m args below meth c H locs cells slots Q (F0 m pc ls st0) := by
  subst hst0
  obtain ⟨hx, hb, hml, hown, hts, hK, hr, hlk, hN, hO⟩ := C
  obtain ⟨k1, k2, k3, k4, k6⟩ := K
  have tg : ∀ w ∈ Tg, w.before args s = true := fun w h => hts w (List.mem_cons_of_mem _ h)
  have hPc : va_P E.1 classes wc H := fun k z hz => by
    have h1 : (isC.map (fun i => ws[i]?))[k]? = some (some z) := by rw [hC, List.getElem?_map, hz]; rfl
    rw [List.getElem?_map] at h1
    cases hi : isC[k]? with
    | none => rw [hi] at h1; cases h1
    | some i => rw [hi] at h1; exact hP i z (Option.some.inj h1)
  have hDc := hD.sub isC hn hC
  have hFc := va_free (wc := wc) hD hS hA isC hC
  have cw : CallB R s args y.cls idx y1 cc1 n1 r1 (wl y1 cc1 n1 r1) (rmd d1) 0 0 As.length ∧ (Cond.static y1).before args s = true :=
    ⟨callB_of As.length hts (wl_good k1) rfl rfl rfl (tg _ k2) (tg _ k3) k6 hR9, tg _ k4⟩
  refine va_calli (va_runS (As := As) (rest := rest) (Pc := Pr E As wc H.size) ⟨hx, hb, hml, hown, hts⟩ (hc H.size) cw ⟨Pr.blind, fun U hU hW => ⟨rfl, by rw [hU], ⟨hN.warm hW, by rw [hU]; exact hO.go hS.2.1 hFc hW⟩, by rw [hU]; exact hPc, va_K.moved hW.alike hK, hDc.weaken (fun _ _ _ _ => trivial)⟩⟩ rfl rfl hls rfl (lv_room hst) hdg ⟨hcl, hsl⟩) hS (fun q _ h => hFc q h) hFc (fun r_2 u t H1 locs ht hvm hw hB hz1 hk1 hS => ?_)
  obtain ⟨hP1, hK1, hD1⟩ := hB
  rw [ht] at hP1
  subst hw
  obtain ⟨hP, hD⟩ := putC_join hP hD isC hC hn hl hk1 hFc hP1 hD1
  exact kk H1 locs hP hD hS
end CLG
/-! the side of a method on which it throws: nothing is written, one exception's cell comes -/
def XN : String := "java/util/NoSuchElementException"
def XA : List Cond := vx_at0 RX11 144 XN ["java/lang/RuntimeException", "java/lang/Exception"]
def isT : Cond → Bool
  | .declares _ => true
  | .castable .. => true
  | _ => false
def XL : List Cond := XA.filter isT
theorem XA_ok : XA.all (fun w => (goodWord w && decide (w ∈ Tg)) || isT w) = true := by decide +kernel
def TX (A : Nat → Prop) (U : State) (H : Heap) : Prop := (∀ w ∈ XL, va_Nw w U) ∧ vx_Zq Bundle.tN "UNASSIGNED_STACK" Bundle.steD A U H ∧ vx_Zq Bundle.tN "SUPPRESSED_SENTINEL" Bundle.listD A U H
theorem XL_warm {s U : State} (hW : s.WarmedH U.vm) (h : ∀ w ∈ XL, va_Nw w s) : ∀ w ∈ XL, va_Nw w U := by
  intro w hw
  have h1 := h w hw
  have h2 := (List.mem_filter.mp hw).2
  cases w <;> first | exact va_Nw.warmD hW h1 | exact va_Nw.warmC hW h1 | (simp [isT] at h2; done)
theorem XL_same {u U : State} (hv : u.vm = U.vm) (h : ∀ w ∈ XL, va_Nw w u) : ∀ w ∈ XL, va_Nw w U := by
  intro w hw
  have h1 := h w hw
  have h2 := (List.mem_filter.mp hw).2
  cases w <;> first | exact va_Nw.same rfl hv h1 | (simp [isT] at h2; done)
theorem TX.go {A B : Nat → Prop} {s U : State} {H0 H : Heap} (h : TX A s H0) (hq : ∀ a : Nat, a < H0.size → ¬ A a → H[a]? = H0[a]?) (hAB : ∀ q, B q → A q) (hW : s.WarmedH U.vm) : TX B U H :=
  ⟨XL_warm hW h.1, ((h.2.1.kept hq).narrow hAB).moved hW.alike, ((h.2.2.kept hq).narrow hAB).moved hW.alike⟩
theorem TX.same {A : Nat → Prop} {u U : State} {H : Heap} (hv : U.vm = u.vm) (h : TX A u H) : TX A U H :=
  ⟨XL_same hv.symm h.1, h.2.1.moved (by rw [hv]; exact Vm.Alike.refl _), h.2.2.moved (by rw [hv]; exact Vm.Alike.refl _)⟩
def PrX (E : ENV) (av : List Value) (ws : va_W) (sz : Nat) : Array Value → State → Prop := fun a U => Pr E av ws sz a U ∧ TX (va_A ws sz) U U.heap
theorem PrX.blind {E : ENV} {av : List Value} {ws : va_W} {sz : Nat} : FrameBlind (PrX E av ws sz) := by
  intro a U g mk q
  exact ⟨Pr.blind a U g mk q.1, TX.same (u := U) rfl q.2⟩
abbrev XX (E : ENV) (A : Nat → Prop) (ws : va_W) : String → State → State → Prop := vx_X (fun _ : Unit => True) (fun En _ t => En = XN ∧ Wd E A ws t) A
/-- the contract of the thrown side -/
def CT (l : Launch) (E : ENV) (y : MethodName) (cc : ByteArray) (n : Nat) (r : Option FieldType) (d : Nat) (av : List Value) (ws : va_W) : Prop :=
  ∀ sz, vx_Met l y (wl y cc n r) (rmc d 1 6) (PrX E av ws sz) (fun _ _ _ _ => False) (XX E (va_A ws sz) ws) 1 6 (va_A ws sz)
/-- what a throw needs where it stands -/
def ThrX (p : Program) (l : Launch) (e : Env) (d : Nat) (s : State) (m : MethodId) (args : Array Value) (below : List Frame) (meth : Method) (c : Code) (cc : ByteArray) (n : Nat) (E : ENV) (A : Nat → Prop) (ws : va_W) (Q : State → Prop) : Prop :=
  ∀ (H : Heap) (locs : List Loc) (ls : Array Slot) (pc : Nat) (rest : List Value), ls.size = n → (rest.map fun v => v.category).sum ≤ 8 → decode cc pc = .ok (.new 142, 3) → decode cc (pc + 3) = .ok (.dup, 1) → decode cc (pc + 4) = .ok (.invokespecial 144, 3) → decode cc (pc + 7) = .ok (.athrow, 1) →
    va_P E.1 classes ws H → va_D A ws → va_S A s.heap H locs → W p l e (rmc d 1 6) s m args below meth c H locs 0 0 Q (F0 m pc ls rest)
theorem q_xcl : Cond.classLink RX11 142 XN ∈ Tg := Tg_mem 1231 (by decide +kernel) (by decide +kernel)
theorem q_xin : Cond.initialized XN ∈ Tg := Tg_mem 113 (by decide +kernel) (by decide +kernel)
theorem begT {l : Launch} (hlt : l.stackTraces = false) {E : ENV} {nm ds : String} {cc : ByteArray} {n d : Nat} {r : Option FieldType} {av : List Value} {ws : va_W} (hd6 : 6 ≤ d) (hn : (lg_sl av).length ≤ n)
    (h : ∀ (p : Program) (e : Env) (s : State) (m : MethodId) (args : Array Value) (below : List Frame) (meth : Method) (c : Code) (A : Nat → Prop) (Q : State → Prop) (ls : Array Slot), Cx E A ⟨RX11, nm, ds⟩ cc n r p s m args meth c → (∀ q, s.heap.size ≤ q → A q) → ThrX p l e d s m args below meth c cc n E A ws Q →
      lv_has ls n (lv_args 0 av) → va_P E.1 classes ws s.heap → va_D A ws → va_S A s.heap s.heap [] → W p l e (rmc d 1 6) s m args below meth c s.heap [] 0 0 Q (F0 m 0 ls [])) : CT l E ⟨RX11, nm, ds⟩ cc n r d av ws := by
  intro sz
  refine vx_ofW (cc := cc) (maxL := n) (ret := r) (by show plainName RX11 = true; decide +kernel) rfl ?_
  intro p e s m args below meth c s₁ B hml hno hv
  obtain ⟨⟨rfl, hsz, ⟨hN, hO⟩, hP, hK, hD0⟩, hT⟩ := hv
  have hx := B.exec
  have hb := B.bytes
  have hr := B.returns
  have hts := atoms_spec (ws := wl ⟨RX11, nm, ds⟩ cc n r) B.pre
  have hown : s.vm.findClass RX11 = some m.cls := findClass_of_methodNamed B.named
  have hlocks := B.notSynchronized
  subst hsz
  have hD := hD0.self (sz := s.heap.size)
  have hA : ∀ q : Nat, s.heap.size ≤ q → va_A ws s.heap.size q := fun q h => Or.inr h
  have tg : ∀ w ∈ Tg, w.before av.toArray s = true := fun w h => hts w (List.mem_cons_of_mem _ h)
  rw [lg_entry_eq]
  refine h p e s m av.toArray below meth c (va_A ws s.heap.size) _ _ ⟨hx, hb, hml, hown, hts, hK, hr, hlocks, hN, hO⟩ hA ?_ (lv_entry av hn) hP hD va_S.rf
  intro H locs ls pc rest hls hst d0 d3 d4 d7 hP1 hD1 hS1
  refine vx_throw0 hx hb hlt (own := RX11) (cls := XN) (names := ["java/lang/RuntimeException", "java/lang/Exception"]) (ik := 142) (ic := 144) hown (by decide +kernel) (by decide +kernel) (tg _ q_xcl) (tg _ q_xin) ?_ ?_ hT.2.1 hT.2.2 hS1 (by rw [hml]; exact hls) d0 d3 d4 d7 (fun x hx => (hno x hx).elim) ?_ ?_ (Nat.le_refl 1) (Nat.le_refl 6) hlocks ?_ hS1.2.2 (Nat.le_refl 1) (Nat.le_refl 6)
  · intro w hw
    have h1 := List.all_eq_true.mp XA_ok w hw
    simp only [Bool.or_eq_true, Bool.and_eq_true, decide_eq_true_eq] at h1
    rcases h1 with h1 | h1
    · exact tg w h1.2
    · have h2 : w ∈ XL := List.mem_filter.mpr ⟨hw, h1⟩
      have h3 := hT.1 w h2
      cases w <;> first | exact va_Nw.use rfl h3 | (simp [isT] at h1; done)
  · decide +kernel
  · show 2 + 3 < d
    omega
  · show _ + (13 * (2 + 1) + 42) ≤ 60 * d
    omega
  · intro t hal hsz2 hq2
    refine ⟨(), trivial, ⟨rfl, ?_, va_K.moved hal hK, hD1⟩, ?_⟩
    · exact hP1.kept (fun k q hk => hq2 q.1 ((hP1 k q hk).lt))
    · exact ⟨Nat.le_trans hS1.1 hsz2, fun q h1 h2 => by rw [hq2 q (Nat.lt_of_lt_of_le h1 hS1.1)]; exact hS1.2.1 q h1 h2⟩
