/-! THE CLAIM OUT OF ONE WALK OF THE LAW'S BODY. Your part is whole_start (and what it stands on); all else here is the same for every law, but numbers. -/
def R_law : String := "SnowForSummerLaw"
def lw_P (b : Addr) (xs : List Int32) (args : Array Value) (s : State) : Prop := args = #[.ref b] ∧ s.IntsAt b xs ∧ xs.length ≤ 2560 ∧ (Jvm.Cond.and given_1 narrow_1).before args s = true
def lw_Q (_ : Array Value) (s : State) (o : Outcome) (t : State) : Prop := o = .returned (some (.int 1)) ∧ Framed s o t [] 601024 7293034
def lw_Z (below : List Frame) (a : Array Value) (s : State) : State → Prop := fun t => ∃ o, t.status = .running ∧ Ended t below o ∧ lw_Q a s o t
/-- the law's own end, with 1 on the stack, nothing written that was there before, its room as the claim has it -/
theorem lw_ret {p : Program} {l : Launch} {e : Env} {s : State} {m : MethodId} {below : List Frame} {meth : Method} {c : Code} {b : Nat} (hx : p.tables.exec = Jvm.exec) (hb : c.code = code) (hr : meth.sig.returnType = ret) (hlocks : meth.locks = false) {pc : Nat} {H : Heap} {ls : Array Slot} (hdg : decode code pc = .ok (.ireturn, 1)) : W p l e room_1 s m #[Value.ref b] below meth c H [] 601024 7293034 (lw_Z below #[Value.ref b] s) (F0 m pc ls [.int 1]) := by
  intro T hT X
  obtain ⟨fs, hret, hrun, hended, hW, hframe⟩ := X.leave (v := some (.int 1)) (hlocks := hlocks) (fun h => by rw [hr] at h; cases h)
  have hmeth' : T.vm.method? m = some meth := X.method'
  refine ⟨T.setFrames fs, ?_, .returned (some (.int 1)), hrun, hended, rfl, ⟨_, rfl⟩, hW, hframe⟩
  jvm_step X.here [X.here.top, hx, hb, hdg, hmeth', hr, ret, narrow_b1]
  (try refine ⟨rfl, ?_⟩); (try refine ⟨rfl, ?_⟩)
  first | (intro acts; rw [hret _ acts rfl rfl rfl]) | rw [hret _ _ rfl rfl rfl]
  exact Steps.refl _
/-- what holds at the law's entry: the machine, the code, the tables' words (any of lw_tbl by 'hts w (by decide +kernel)'), the script of L ints xs at the cell b, what the Statement gives of the start (any of its parts by flat_of_before) -/
def lw_At (p : Program) (s : State) (m : MethodId) (meth : Method) (c : Code) (b L : Nat) (xs : Nat → Int32) : Prop :=
  p.tables.exec = Jvm.exec ∧ c.code = code ∧ meth.sig.returnType = ret ∧ c.maxLocals = 7 ∧ s.vm.findClass R_law = some m.cls ∧ (∀ w ∈ lw_tbl, w.before #[Value.ref b] s = true) ∧ va_X b L xs s s.heap ∧ b < s.heap.size ∧ meth.locks = false ∧ (Jvm.Cond.and given_1 narrow_1).before #[Value.ref b] s = true
theorem tg_good {y : MethodName} {cc : ByteArray} {n : Nat} {r : Option FieldType} (h : Cond.code y cc n r ∈ Tg) : GoodIn Tg (wl y cc n r) := by
  intro w hw
  have hw2 : w ∈ Tg := by
    rcases List.mem_cons.mp hw with rfl | hw
    · exact h
    · exact hw
  exact ⟨hw2, good_of_word (List.mem_filter.mp hw2).2⟩
/-- what the law stands on -/
def CxL (E : ENV) (A : Nat → Prop) (p : Program) (s : State) (m : MethodId) (args : Array Value) (c : Code) : Prop :=
  p.tables.exec = Jvm.exec ∧ c.code = code ∧ c.maxLocals = 7 ∧ s.vm.findClass R_law = some m.cls ∧ (∀ w ∈ Tg, w.before args s = true) ∧ va_K E.1 classes (tyl E) s ∧ Nst s ∧ OX E A s s.heap ∧ TX A s s.heap ∧ AOs s
theorem mid_get (L wc R : va_W) : (List.range' L.length wc.length).map (fun i => (L ++ (wc ++ R))[i]?) = wc.map some := by
  apply List.ext_getElem?
  intro k
  rw [List.getElem?_map, List.getElem?_map]
  by_cases h : k < wc.length
  · rw [List.getElem?_range' h, List.getElem?_eq_getElem h]
    show some ((L ++ (wc ++ R))[L.length + 1 * k]?) = some (some wc[k])
    rw [List.getElem?_append_right (by omega), show L.length + 1 * k - L.length = k by omega, List.getElem?_append_left h, List.getElem?_eq_getElem h]
  · rw [List.getElem?_eq_none (by rw [List.length_range']; omega), List.getElem?_eq_none (by omega)]
    rfl
theorem mid_put (L wc wc' R : va_W) (hl : wc.length = wc'.length) : putC (L ++ (wc ++ R)) (List.range' L.length wc.length) wc' = L ++ (wc' ++ R) := by
  apply List.ext_getElem?
  intro k
  by_cases h1 : k < L.length
  · rw [putC_out _ _ _ _ (fun z => by have := List.mem_range'_1.1 z; omega), List.getElem?_append_left h1, List.getElem?_append_left h1]
  · by_cases h2 : k < L.length + wc.length
    · have hj : (List.range' L.length wc.length)[k - L.length]? = some k := by
        rw [List.getElem?_range' (by omega)]
        congr 1
        omega
      rw [putC_in _ _ _ (k - L.length) k (nd_range' _ _) (by rw [List.length_range']; exact hl) hj (by rw [List.length_append, List.length_append]; omega), List.getElem?_append_right (by omega), List.getElem?_append_left (by omega)]
    · rw [putC_out _ _ _ _ (fun z => by have := List.mem_range'_1.1 z; omega), List.getElem?_append_right (by omega), List.getElem?_append_right (by omega), List.getElem?_append_right (by omega), List.getElem?_append_right (by omega), hl]
theorem CI.mid {l : Launch} {E : ENV} {y : MethodName} {cc : ByteArray} {n : Nat} {r : Option FieldType} {d : Nat} {av : List Value} {wc wc' : va_W} {rv : Int32} (h : CI l E y cc n r d av wc wc' rv) (L R : va_W) (hl : wc.length = wc'.length) : CI l E y cc n r d av (L ++ (wc ++ R)) (L ++ (wc' ++ R)) rv := by
  have := h.frame (ws := L ++ (wc ++ R)) (List.range' L.length wc.length) (mid_get L wc R) (nd_range' _ _) (by rw [List.length_range']; exact hl)
  rw [mid_put L wc wc' R hl] at this
  exact this
section LWR
variable {p : Program} {l : Launch} {e : Env} {R : Room} {s : State} {m : MethodId} {args : Array Value} {below : List Frame} {meth : Method} {c : Code} {H : Heap} {locs : List Loc} {cells slots : Nat} {Q : State → Prop}
variable {E : ENV} {pc : Nat} {ls : Array Slot} {rest : List Value} {A : Nat → Prop} {ws : va_W} {idx : Nat}
variable {y1 : MethodName} {cc1 : ByteArray} {n1 : Nat} {r1 : Option FieldType} {d1 b : Nat} {As : List Value} {wc wc' : va_W} {rv : Int32} {host : String}
theorem k_Li (C : CxL E A p s m args c) (K : KV R_law idx y1 cc1 n1 r1 As.length) (hR9 : (rmd d1).frames + 1 ≤ R.frames ∧ 8 + (n1 + 11) + (rmd d1).locals ≤ R.locals) (hcl : cells ≤ R.cells) (hsl : slots ≤ R.slots) (hc : CI l E y1 cc1 n1 r1 d1 (.ref b :: As) wc wc' rv) (isC : List Nat)
    (hC : isC.map (fun i => ws[i]?) = wc.map some) (hn : va_nd isC = true) (hl : isC.length = wc'.length) {ci q0 : Nat} {q : vw_C} {fs : List Value} (hci : classes[ci]? = some q) (hq : q.1 = y1.cls) (hrc : wc[q0]? = some (b, .inr (ci, fs)))
    (hP : va_P E.1 classes ws H) (hD : va_D A ws) (hS : va_S A s.heap H locs) (hA : ∀ q, s.heap.size ≤ q → A q) (hls : ls.size = 7) (hst : (rest.map fun v => v.category).sum ≤ 8) {st0 : List Value} (hst0 : st0 = As.reverse ++ .ref b :: rest) (hdg : decode code pc = .ok (.invokevirtual idx, 3))
    (kk : ∀ (H1 : Heap) (locs1 : List Loc), va_P E.1 classes (putC ws isC wc') H1 → va_D A (putC ws isC wc') → va_S A s.heap H1 locs1 → W p l e R s m args below meth c H1 locs1 cells slots Q (F0 m (pc + 3) ls (.int rv :: rest))) :
    W p l e R s m args below meth c H locs cells slots Q (F0 m pc ls st0) := by
  subst hst0
  obtain ⟨hx, hb, hml, hown, hts, hK, hN, hO, hT9, hAO⟩ := C
  obtain ⟨k1, k2, k3, k4, k5, k6⟩ := K
  have tg := hts
  have hPc : va_P E.1 classes wc H := fun k z hz => by
    have h1 : (isC.map (fun i => ws[i]?))[k]? = some (some z) := by rw [hC, List.getElem?_map, hz]; rfl
    rw [List.getElem?_map] at h1
    cases hi : isC[k]? with
    | none => rw [hi] at h1; cases h1
    | some i => rw [hi] at h1; exact hP i z (Option.some.inj h1)
  have hDc := hD.sub isC hn hC
  have hFc := va_free (wc := wc) hD hS hA isC hC
  have cw : CallW R s args R_law y1.cls idx y1 cc1 n1 r1 (wl y1 cc1 n1 r1) (rmd d1) 0 0 As.length :=
    ⟨callB_of As.length hts (tg_good k1) rfl rfl rfl (tg _ k2) (tg _ k3) k6 hR9, tg _ k4, tg _ k5⟩
  refine va_calli (va_runV (As := As) (rest := rest) (Pc := Pr E (.ref b :: As) wc H.size) ⟨hx, hb, hml, hown, hts⟩ (hc H.size) cw ⟨Pr.blind, by rw [← hq]; exact va_recv hK hPc hci hrc, fun U hU hW => ⟨rfl, by rw [hU], ⟨hN.warm hW, by rw [hU]; exact hO.go hS.2.1 hFc hW⟩, by rw [hU]; exact hPc, va_K.moved hW.alike hK, hDc.weaken (fun _ _ _ _ => trivial)⟩⟩ rfl rfl hls rfl (lv_room hst) hdg ⟨hcl, hsl⟩) hS (fun q _ h => hFc q h) hFc (fun r_2 u t H1 locs ht hvm hw hB hz1 hk1 hS => ?_)
  obtain ⟨hP1, hK1, hD1⟩ := hB
  rw [ht] at hP1
  subst hw
  obtain ⟨hP, hD⟩ := putC_join hP hD isC hC hn hl hk1 hFc hP1 hD1
  exact kk H1 locs hP hD hS
theorem k_L (C : CxL E A p s m args c) (K : KV R_law idx y1 cc1 n1 r1 As.length) (hR9 : (rmd d1).frames + 1 ≤ R.frames ∧ 8 + (n1 + 11) + (rmd d1).locals ≤ R.locals) (hcl : cells ≤ R.cells) (hsl : slots ≤ R.slots) {ws' : va_W} (hc : CI l E y1 cc1 n1 r1 d1 (.ref b :: As) ws ws' rv) (hl : ws.length = ws'.length) {ci q0 : Nat} {q : vw_C} {fs : List Value} (hci : classes[ci]? = some q) (hq : q.1 = y1.cls) (hrc : ws[q0]? = some (b, .inr (ci, fs)))
    (hP : va_P E.1 classes ws H) (hD : va_D A ws) (hS : va_S A s.heap H locs) (hA : ∀ q, s.heap.size ≤ q → A q) (hls : ls.size = 7) (hst : (rest.map fun v => v.category).sum ≤ 8) {st0 : List Value} (hst0 : st0 = As.reverse ++ .ref b :: rest) (hdg : decode code pc = .ok (.invokevirtual idx, 3))
    (kk : ∀ (H1 : Heap) (locs1 : List Loc), va_P E.1 classes ws' H1 → va_D A ws' → va_S A s.heap H1 locs1 → W p l e R s m args below meth c H1 locs1 cells slots Q (F0 m (pc + 3) ls (.int rv :: rest))) :
    W p l e R s m args below meth c H locs cells slots Q (F0 m pc ls st0) :=
  k_Li C K hR9 hcl hsl hc (List.range ws.length) (range_get ws) (nd_range _) (by rw [List.length_range]; exact hl) hci hq hrc hP hD hS hA hls hst hst0 hdg
    (fun H1 locs1 h1 h2 h3 => kk H1 locs1 (by rw [putC_all ws ws' hl] at h1; exact h1) (by rw [putC_all ws ws' hl] at h2; exact h2) h3)
end LWR
/-- the law's whole world -/
def WL (E : ENV) (qx qm qo : Nat) (u v : List Nat) (σ : CS) (τ : MS) (lo : Nat → Int64) : va_W := WC E qx u σ ++ (WM E qm v τ ++ [(qo, .inl (E.2.2.2.2.2.2.1, 1, .inr (.inl lo)))])
set_option maxRecDepth 20000 in
theorem WL_x {E : ENV} {qx qm qo : Nat} {u v : List Nat} {σ : CS} {τ : MS} {lo : Nat → Int64} : ∃ fs, (WL E qx qm qo u v σ τ lo)[0]? = some (qx, .inr (11, fs)) := ⟨_, rfl⟩
set_option maxRecDepth 20000 in
theorem WC_len {E : ENV} {qx : Nat} {u : List Nat} {σ : CS} : (WC E qx u σ).length = 137 := rfl
set_option maxRecDepth 20000 in
theorem WM_len {E : ENV} {qm : Nat} {v : List Nat} {τ : MS} : (WM E qm v τ).length = 26 := rfl
theorem WL_len {E : ENV} {qx qm qo : Nat} {u v : List Nat} {σ : CS} {τ : MS} {lo : Nat → Int64} : (WL E qx qm qo u v σ τ lo).length = 164 := by
  unfold WL
  rw [List.length_append, List.length_append, WC_len, WM_len]
  rfl
set_option maxRecDepth 20000 in
theorem WL_m {E : ENV} {qx qm qo : Nat} {u v : List Nat} {σ : CS} {τ : MS} {lo : Nat → Int64} : ∃ fs, (WL E qx qm qo u v σ τ lo)[137]? = some (qm, .inr (12, fs)) := by
  unfold WL
  rw [List.getElem?_append_right (by rw [WC_len]; exact Nat.le_refl _), WC_len]
  exact ⟨_, rfl⟩
theorem WL_o {E : ENV} {qx qm qo : Nat} {u v : List Nat} {σ : CS} {τ : MS} {lo : Nat → Int64} : (WL E qx qm qo u v σ τ lo)[163]? = some (qo, .inl (E.2.2.2.2.2.2.1, 1, .inr (.inl lo))) := by
  unfold WL
  rw [List.getElem?_append_right (by rw [WC_len]; omega), WC_len, List.getElem?_append_right (by rw [WM_len]; omega), WM_len]
  rfl
theorem CI.x {l : Launch} {E : ENV} {y : MethodName} {cc : ByteArray} {n : Nat} {r : Option FieldType} {d : Nat} {av : List Value} {qx : Nat} {u : List Nat} {σ σ' : CS} {rv : Int32} (h : CI l E y cc n r d av (WC E qx u σ) (WC E qx u σ') rv) (qm qo : Nat) (v : List Nat) (τ : MS) (lo : Nat → Int64) : CI l E y cc n r d av (WL E qx qm qo u v σ τ lo) (WL E qx qm qo u v σ' τ lo) rv :=
  by
  have := h.mid [] (WM E qm v τ ++ [(qo, .inl (E.2.2.2.2.2.2.1, 1, .inr (.inl lo)))]) (by rw [WC_len, WC_len])
  rw [List.nil_append, List.nil_append] at this
  unfold WL
  exact this
theorem CI.m {l : Launch} {E : ENV} {y : MethodName} {cc : ByteArray} {n : Nat} {r : Option FieldType} {d : Nat} {av : List Value} {qm : Nat} {v : List Nat} {τ τ' : MS} {rv : Int32} (h : CI l E y cc n r d av (WM E qm v τ) (WM E qm v τ') rv) (qx qo : Nat) (u : List Nat) (σ : CS) (lo : Nat → Int64) : CI l E y cc n r d av (WL E qx qm qo u v σ τ lo) (WL E qx qm qo u v σ τ' lo) rv :=
  by
  have := h.mid (WC E qx u σ) [(qo, .inl (E.2.2.2.2.2.2.1, 1, .inr (.inl lo)))] (by rw [WM_len, WM_len])
  unfold WL
  exact this
