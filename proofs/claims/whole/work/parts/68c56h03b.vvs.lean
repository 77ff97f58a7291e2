theorem nd_range' : ∀ (n k : Nat), va_nd (List.range' k n) = true
  | 0, _ => rfl
  | n + 1, k => by
    rw [List.range'_succ, va_nd, nd_range' n (k + 1), Bool.and_true]
    refine decide_eq_true ?_
    intro h
    have h := List.mem_range'_1.1 h
    omega
theorem nd_range (n : Nat) : va_nd (List.range n) = true := by
  rw [List.range_eq_range']
  exact nd_range' n 0
theorem putC_all (ws wc : va_W) (h : ws.length = wc.length) : putC ws (List.range ws.length) wc = wc := by
  apply List.ext_getElem?
  intro k
  cases hq : (putC ws (List.range ws.length) wc)[k]? with
  | none =>
    have h1 := List.getElem?_eq_none_iff.1 hq
    rw [putC_len] at h1
    exact (List.getElem?_eq_none_iff.2 (by omega)).symm
  | some q =>
    rcases putC_get _ wc ws k q (nd_range _) (by rw [List.length_range]; exact h) hq with ⟨j, h1, h2⟩ | ⟨h1, h2⟩
    · have h3 := List.getElem?_eq_some_iff.1 h2
      obtain ⟨h4, h5⟩ := h3
      rw [List.getElem_range] at h5
      rw [← h5]
      exact h1.symm
    · exfalso
      apply h1
      have h3 := (List.getElem?_eq_some_iff.1 h2).1
      exact List.mem_range.2 h3
theorem range_get (ws : va_W) : (List.range ws.length).map (fun i => ws[i]?) = ws.map some := by
  apply List.ext_getElem?
  intro k
  rw [List.getElem?_map, List.getElem?_map]
  by_cases h : k < ws.length
  · rw [List.getElem?_range h, List.getElem?_eq_getElem h]
    show some (ws[k]?) = some (some ws[k])
    rw [List.getElem?_eq_getElem h]
  · rw [List.getElem?_eq_none_iff.2 (by rw [List.length_range]; omega), List.getElem?_eq_none_iff.2 (by omega)]
    rfl
theorem k_VVs {p : Program} {l : Launch} {e : Env} {E : ENV} {A : Nat → Prop} {s : State} {y y1 : MethodName} {cc cc1 : ByteArray} {n n1 : Nat} {r : Option FieldType} {m : MethodId} {args : Array Value} {below : List Frame} {meth : Method} {c : Code} {H : Heap} {locs : List Loc} {Q : State → Prop} {ls : Array Slot} {rest As : List Value} {idx pc d d1 : Nat} {b : Nat} {ws ws' : va_W}
    (C : Cx E A y cc n r p s m args meth c) (K : KV y.cls idx y1 cc1 n1 none As.length) (hd : d1 < d) (hn1 : n1 ≤ 41) (hc : CV l E y1 cc1 n1 d1 (.ref b :: As) ws ws') (hl : ws.length = ws'.length) {ci q0 : Nat} {q : vw_C} {fs : List Value} (hci : classes[ci]? = some q) (hq : q.1 = y1.cls) (hrc : ws[q0]? = some (b, .inr (ci, fs)))
    (hP : va_P E.1 classes ws H) (hD : va_D A ws) (hS : va_S A s.heap H locs) (hA : ∀ q, s.heap.size ≤ q → A q) (hls : ls.size = n) (hst : (rest.map fun v => v.category).sum ≤ 8) {st0 : List Value} (hst0 : st0 = As.reverse ++ .ref b :: rest) (hdg : decode cc pc = .ok (.invokevirtual idx, 3))
    (kk : ∀ (H1 : Heap) (locs1 : List Loc), va_P E.1 classes ws' H1 → va_D A ws' → va_S A s.heap H1 locs1 → W p l e (rmd d) s m args below meth c H1 locs1 0 0 Q (F0 m (pc + 3) ls rest)) :
    W p l e (rmd d) s m args below meth c H locs 0 0 Q (F0 m pc ls st0) :=
  k_VV C K hd hn1 hc (List.range ws.length) (range_get ws) (nd_range _) (by rw [List.length_range]; exact hl) hci hq hrc hP hD hS hA hls hst hst0 hdg
    (fun H1 locs1 h1 h2 h3 => kk H1 locs1 (by rw [putC_all ws ws' hl] at h1; exact h1) (by rw [putC_all ws ws' hl] at h2; exact h2) h3)
