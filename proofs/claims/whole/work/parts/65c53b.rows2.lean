/-! calls in a large world: the world behind is named, and looked at place by place -/
def nthW : va_W → Nat → Option (Nat × va_E)
  | [], _ => none
  | a :: _, 0 => some a
  | _ :: r, n + 1 => nthW r n
theorem nthW_eq : ∀ (ws : va_W) (i : Nat), nthW ws i = ws[i]?
  | [], i => by simp [nthW]
  | a :: r, 0 => rfl
  | a :: r, i + 1 => by
    rw [nthW, nthW_eq r i, List.getElem?_cons_succ]
def gA (ws : va_W) : List Nat → List (Option (Nat × va_E))
  | [] => []
  | i :: r => ws[i]? :: gA ws r
def gB (ws : va_W) : List Nat → List (Option (Nat × va_E))
  | [] => []
  | i :: r => nthW ws i :: gB ws r
theorem gAB {ws ws' : va_W} : ∀ (l : List Nat), gA ws' l = gB ws l → ∀ i, i ∈ l → ws'[i]? = ws[i]?
  | [], _, i, h => by cases h
  | j :: r, e, i, h => by
    rw [gA, gB, nthW_eq] at e
    have e1 := (List.cons.inj e).1
    have e2 := (List.cons.inj e).2
    rcases List.mem_cons.1 h with rfl | h
    · exact e1
    · exact gAB r e2 i h
def cov (N : Nat) (a b : List Nat) : Bool := (List.range N).all (fun i => a.contains i || b.contains i)
theorem putC_len : ∀ (is : List Nat) (wc ws : va_W), (putC ws is wc).length = ws.length
  | [], wc, ws => by rw [putC]; intro _ _ _ _ h; cases h
  | i :: is, [], ws => by rw [putC]; intro _ _ _ _ _ h; cases h
  | i :: is, w :: wc, ws => by rw [putC, putC_len is wc, List.length_set]
theorem putC_out : ∀ (is : List Nat) (wc ws : va_W) (k : Nat), k ∉ is → (putC ws is wc)[k]? = ws[k]?
  | [], wc, ws, k, _ => by rw [putC]; intro _ _ _ _ h; cases h
  | i :: is, [], ws, k, _ => by rw [putC]; intro _ _ _ _ _ h; cases h
  | i :: is, w :: wc, ws, k, h => by
    rw [putC, putC_out is wc _ k (fun z => h (List.mem_cons_of_mem _ z)), List.getElem?_set_ne (fun z => h (by rw [z]; exact List.mem_cons_self ..))]
theorem putC_in : ∀ (is : List Nat) (wc ws : va_W) (j k : Nat), va_nd is = true → is.length = wc.length → is[j]? = some k → k < ws.length → (putC ws is wc)[k]? = wc[j]?
  | [], wc, ws, j, k, _, _, h, _ => by simp at h
  | i :: is, [], ws, j, k, _, hl, _, _ => by simp at hl
  | i :: is, w :: wc, ws, 0, k, hn, hl, h, hk => by
    simp only [va_nd, Bool.and_eq_true, decide_eq_true_eq] at hn
    have e : i = k := by simpa using h
    subst e
    rw [putC, putC_out is wc _ i hn.1, List.getElem?_set_self hk]
    rfl
  | i :: is, w :: wc, ws, j + 1, k, hn, hl, h, hk => by
    simp only [va_nd, Bool.and_eq_true, decide_eq_true_eq] at hn
    rw [putC, putC_in is wc _ j k hn.2 (by simpa using hl) (by simpa using h) (by rw [List.length_set]; exact hk)]
    rfl
theorem putC_is {ws ws2 wc : va_W} {is oth : List Nat} {N : Nat} (hn : va_nd is = true) (hl : is.length = wc.length) (n1 : ws.length = N) (n2 : ws2.length = N) (e1 : is.map (fun i => ws2[i]?) = wc.map some) (e2 : gA ws2 oth = gB ws oth) (ec : cov N is oth = true) : putC ws is wc = ws2 := by
  apply List.ext_getElem?
  intro k
  by_cases q : k < N
  · have hk := List.all_eq_true.1 ec k (List.mem_range.2 q)
    by_cases h : k ∈ is
    · obtain ⟨j, hj⟩ := List.getElem?_of_mem h
      rw [putC_in is wc ws j k hn hl hj (by omega)]
      have := congrArg (fun l => l[j]?) e1
      simp only [List.getElem?_map, hj, Option.map_some] at this
      cases hw : wc[j]? with
      | none => rw [hw] at this; simp at this
      | some w => rw [hw] at this; simpa using this.symm
    · rw [putC_out is wc ws k h]
      have : k ∈ oth := by
        rw [Bool.or_eq_true] at hk
        rcases hk with z | z
        · exact absurd (List.contains_iff_mem.1 z) h
        · exact List.contains_iff_mem.1 z
      exact (gAB oth e2 k this).symm
  · rw [List.getElem?_eq_none (by rw [putC_len]; omega), List.getElem?_eq_none (by omega)]
section CL2
variable {p : Program} {l : Launch} {e : Env} {s : State} {m : MethodId} {args : Array Value} {below : List Frame} {meth : Method} {c : Code} {H : Heap} {locs : List Loc} {Q : State → Prop} {d : Nat}
variable {E : ENV} {y : MethodName} {cc : ByteArray} {n : Nat} {r : Option FieldType} {pc : Nat} {ls : Array Slot} {rest : List Value} {A : Nat → Prop} {ws : va_W} {idx : Nat}
variable {y1 : MethodName} {cc1 : ByteArray} {n1 : Nat} {r1 : Option FieldType} {d1 b : Nat} {As : List Value} {wc wc' : va_W} {rv : Int32} {host : String}
theorem k_VI2 (C : Cx E A y cc n r p s m args meth c) (K : KV y.cls idx y1 cc1 n1 r1 As.length) (hd : d1 < d) (hn1 : n1 ≤ 41) (hc : CI l E y1 cc1 n1 r1 d1 (.ref b :: As) wc wc' rv) (isC : List Nat)
    (hC : isC.map (fun i => ws[i]?) = wc.map some) (hn : va_nd isC = true) (hl : isC.length = wc'.length) {ci q0 : Nat} {q : vw_C} {fs : List Value} (hci : classes[ci]? = some q) (hq : q.1 = y1.cls) (hrc : wc[q0]? = some (b, .inr (ci, fs)))
    (hP : va_P E.1 classes ws H) (hD : va_D A ws) (hS : va_S A s.heap H locs) (hA : ∀ q, s.heap.size ≤ q → A q) (hls : ls.size = n) (hst : (rest.map fun v => v.category).sum ≤ 8) {st0 : List Value} (hst0 : st0 = As.reverse ++ .ref b :: rest) (hdg : decode cc pc = .ok (.invokevirtual idx, 3))
    {ws2 : va_W} (N : Nat) (oth : List Nat) (eN : ws.length = N) (eN2 : ws2.length = N) (e1 : isC.map (fun i => ws2[i]?) = wc'.map some) (e2 : gA ws2 oth = gB ws oth) (ec : cov N isC oth = true)
    (kk : ∀ (H1 : Heap) (locs1 : List Loc), va_P E.1 classes ws2 H1 → va_D A ws2 → va_S A s.heap H1 locs1 → W p l e (rmd d) s m args below meth c H1 locs1 0 0 Q (F0 m (pc + 3) ls (.int rv :: rest))) :
    W p l e (rmd d) s m args below meth c H locs 0 0 Q (F0 m pc ls st0) := by
  have eq := putC_is (ws := ws) hn hl eN eN2 e1 e2 ec
  refine k_VI C K hd hn1 hc isC hC hn hl hci hq hrc hP hD hS hA hls hst hst0 hdg (fun H1 locs1 h1 h2 h3 => ?_)
  rw [eq] at h1 h2
  exact kk H1 locs1 h1 h2 h3
theorem k_VV2 (C : Cx E A y cc n r p s m args meth c) (K : KV y.cls idx y1 cc1 n1 none As.length) (hd : d1 < d) (hn1 : n1 ≤ 41) (hc : CV l E y1 cc1 n1 d1 (.ref b :: As) wc wc') (isC : List Nat)
    (hC : isC.map (fun i => ws[i]?) = wc.map some) (hn : va_nd isC = true) (hl : isC.length = wc'.length) {ci q0 : Nat} {q : vw_C} {fs : List Value} (hci : classes[ci]? = some q) (hq : q.1 = y1.cls) (hrc : wc[q0]? = some (b, .inr (ci, fs)))
    (hP : va_P E.1 classes ws H) (hD : va_D A ws) (hS : va_S A s.heap H locs) (hA : ∀ q, s.heap.size ≤ q → A q) (hls : ls.size = n) (hst : (rest.map fun v => v.category).sum ≤ 8) {st0 : List Value} (hst0 : st0 = As.reverse ++ .ref b :: rest) (hdg : decode cc pc = .ok (.invokevirtual idx, 3))
    {ws2 : va_W} (N : Nat) (oth : List Nat) (eN : ws.length = N) (eN2 : ws2.length = N) (e1 : isC.map (fun i => ws2[i]?) = wc'.map some) (e2 : gA ws2 oth = gB ws oth) (ec : cov N isC oth = true)
    (kk : ∀ (H1 : Heap) (locs1 : List Loc), va_P E.1 classes ws2 H1 → va_D A ws2 → va_S A s.heap H1 locs1 → W p l e (rmd d) s m args below meth c H1 locs1 0 0 Q (F0 m (pc + 3) ls rest)) :
    W p l e (rmd d) s m args below meth c H locs 0 0 Q (F0 m pc ls st0) := by
  have eq := putC_is (ws := ws) hn hl eN eN2 e1 e2 ec
  refine k_VV C K hd hn1 hc isC hC hn hl hci hq hrc hP hD hS hA hls hst hst0 hdg (fun H1 locs1 h1 h2 h3 => ?_)
  rw [eq] at h1 h2
  exact kk H1 locs1 h1 h2 h3
theorem k_SI2 (C : Cx E A y cc n r p s m args meth c) (K : KS y.cls idx y1 cc1 n1 r1 As.length) (hd : d1 < d) (hn1 : n1 ≤ 41) (hc : CI l E y1 cc1 n1 r1 d1 As wc wc' rv) (isC : List Nat)
    (hC : isC.map (fun i => ws[i]?) = wc.map some) (hn : va_nd isC = true) (hl : isC.length = wc'.length)
    (hP : va_P E.1 classes ws H) (hD : va_D A ws) (hS : va_S A s.heap H locs) (hA : ∀ q, s.heap.size ≤ q → A q) (hls : ls.size = n) (hst : (rest.map fun v => v.category).sum ≤ 8) {st0 : List Value} (hst0 : st0 = As.reverse ++ rest) (hdg : decode cc pc = .ok (.invokestatic idx, 3))
    {ws2 : va_W} (N : Nat) (oth : List Nat) (eN : ws.length = N) (eN2 : ws2.length = N) (e1 : isC.map (fun i => ws2[i]?) = wc'.map some) (e2 : gA ws2 oth = gB ws oth) (ec : cov N isC oth = true)
    (kk : ∀ (H1 : Heap) (locs1 : List Loc), va_P E.1 classes ws2 H1 → va_D A ws2 → va_S A s.heap H1 locs1 → W p l e (rmd d) s m args below meth c H1 locs1 0 0 Q (F0 m (pc + 3) ls (.int rv :: rest))) :
    W p l e (rmd d) s m args below meth c H locs 0 0 Q (F0 m pc ls st0) := by
  have eq := putC_is (ws := ws) hn hl eN eN2 e1 e2 ec
  refine k_SI C K hd hn1 hc isC hC hn hl hP hD hS hA hls hst hst0 hdg (fun H1 locs1 h1 h2 h3 => ?_)
  rw [eq] at h1 h2
  exact kk H1 locs1 h1 h2 h3
theorem k_SV2 (C : Cx E A y cc n r p s m args meth c) (K : KS y.cls idx y1 cc1 n1 none As.length) (hd : d1 < d) (hn1 : n1 ≤ 41) (hc : CV l E y1 cc1 n1 d1 As wc wc') (isC : List Nat)
    (hC : isC.map (fun i => ws[i]?) = wc.map some) (hn : va_nd isC = true) (hl : isC.length = wc'.length)
    (hP : va_P E.1 classes ws H) (hD : va_D A ws) (hS : va_S A s.heap H locs) (hA : ∀ q, s.heap.size ≤ q → A q) (hls : ls.size = n) (hst : (rest.map fun v => v.category).sum ≤ 8) {st0 : List Value} (hst0 : st0 = As.reverse ++ rest) (hdg : decode cc pc = .ok (.invokestatic idx, 3))
    {ws2 : va_W} (N : Nat) (oth : List Nat) (eN : ws.length = N) (eN2 : ws2.length = N) (e1 : isC.map (fun i => ws2[i]?) = wc'.map some) (e2 : gA ws2 oth = gB ws oth) (ec : cov N isC oth = true)
    (kk : ∀ (H1 : Heap) (locs1 : List Loc), va_P E.1 classes ws2 H1 → va_D A ws2 → va_S A s.heap H1 locs1 → W p l e (rmd d) s m args below meth c H1 locs1 0 0 Q (F0 m (pc + 3) ls rest)) :
    W p l e (rmd d) s m args below meth c H locs 0 0 Q (F0 m pc ls st0) := by
  have eq := putC_is (ws := ws) hn hl eN eN2 e1 e2 ec
  refine k_SV C K hd hn1 hc isC hC hn hl hP hD hS hA hls hst hst0 hdg (fun H1 locs1 h1 h2 h3 => ?_)
  rw [eq] at h1 h2
  exact kk H1 locs1 h1 h2 h3
theorem k_SNI2 (C : Cx E A y cc n r p s m args meth c) (K : KSN y.cls idx y1 host cc1 n1 r1 As.length) (hd : d1 < d) (hn1 : n1 ≤ 41) (hc : CI l E y1 cc1 n1 r1 d1 As wc wc' rv) (isC : List Nat)
    (hC : isC.map (fun i => ws[i]?) = wc.map some) (hn : va_nd isC = true) (hl : isC.length = wc'.length)
    (hP : va_P E.1 classes ws H) (hD : va_D A ws) (hS : va_S A s.heap H locs) (hA : ∀ q, s.heap.size ≤ q → A q) (hls : ls.size = n) (hst : (rest.map fun v => v.category).sum ≤ 8) {st0 : List Value} (hst0 : st0 = As.reverse ++ rest) (hdg : decode cc pc = .ok (.invokestatic idx, 3))
    {ws2 : va_W} (N : Nat) (oth : List Nat) (eN : ws.length = N) (eN2 : ws2.length = N) (e1 : isC.map (fun i => ws2[i]?) = wc'.map some) (e2 : gA ws2 oth = gB ws oth) (ec : cov N isC oth = true)
    (kk : ∀ (H1 : Heap) (locs1 : List Loc), va_P E.1 classes ws2 H1 → va_D A ws2 → va_S A s.heap H1 locs1 → W p l e (rmd d) s m args below meth c H1 locs1 0 0 Q (F0 m (pc + 3) ls (.int rv :: rest))) :
    W p l e (rmd d) s m args below meth c H locs 0 0 Q (F0 m pc ls st0) := by
  have eq := putC_is (ws := ws) hn hl eN eN2 e1 e2 ec
  refine k_SNI C K hd hn1 hc isC hC hn hl hP hD hS hA hls hst hst0 hdg (fun H1 locs1 h1 h2 h3 => ?_)
  rw [eq] at h1 h2
  exact kk H1 locs1 h1 h2 h3
end CL2
