/-! the frame rule for contracts: a method's world may be a part of a greater one -/
theorem OX.narrow {E : ENV} {A B : Nat → Prop} {U : State} {H : Heap} (h : OX E A U H) (hAB : ∀ q, B q → A q) : OX E B U H := ⟨h.1, h.2.1.narrow hAB, h.2.2.narrow hAB⟩
theorem va_A_sub {ws wc : va_W} {sz : Nat} (isC : List Nat) (hC : isC.map (fun i => ws[i]?) = wc.map some) : ∀ q, va_A wc sz q → va_A ws sz q := by
  intro q h
  rcases h with ⟨k, e, h⟩ | h
  · have h1 : (isC.map (fun i => ws[i]?))[k]? = some (some (q, e)) := by rw [hC, List.getElem?_map, h]; rfl
    rw [List.getElem?_map] at h1
    cases hi : isC[k]? with
    | none => rw [hi] at h1; cases h1
    | some i => rw [hi] at h1; exact Or.inl ⟨i, e, Option.some.inj h1⟩
  · exact Or.inr h
theorem va_P_sub {D : va_G} {ws wc : va_W} {H : Heap} (isC : List Nat) (hC : isC.map (fun i => ws[i]?) = wc.map some) (hP : va_P D classes ws H) : va_P D classes wc H := fun k z hz => by
  have h1 : (isC.map (fun i => ws[i]?))[k]? = some (some z) := by rw [hC, List.getElem?_map, hz]; rfl
  rw [List.getElem?_map] at h1
  cases hi : isC[k]? with
  | none => rw [hi] at h1; cases h1
  | some i => rw [hi] at h1; exact hP i z (Option.some.inj h1)
theorem CI.frame {l : Launch} {E : ENV} {y : MethodName} {cc : ByteArray} {n : Nat} {r : Option FieldType} {d : Nat} {av : List Value} {ws wc wc' : va_W} {rv : Int32} (h : CI l E y cc n r d av wc wc' rv) (isC : List Nat) (hC : isC.map (fun i => ws[i]?) = wc.map some) (hn : va_nd isC = true) (hl : isC.length = wc'.length) : CI l E y cc n r d av ws (putC ws isC wc') rv := by
  intro sz p e ha hc hk s m args below hf happ hP hK
  obtain ⟨hav, hsz, ⟨hN, hO⟩, hPw, hKw, hDw⟩ := hP
  subst hsz
  have hsub := va_A_sub (sz := s.heap.size) isC hC
  have hDs := hDw.self (sz := s.heap.size)
  obtain ⟨k, o, h1, h2, h3, hq, L, hF, hLf⟩ := h s.heap.size p e ha hc hk s m args below hf happ ⟨hav, rfl, ⟨hN, hO.narrow hsub⟩, va_P_sub isC hC hPw, hKw, hDw.sub isC hn hC⟩ hK
  obtain ⟨⟨r', u, ho, hr, hP1, hK1, hD1⟩, hfr⟩ := hq
  have hj := putC_join hPw hDs isC hC hn hl hfr.2 hsub hP1 hD1
  exact ⟨k, o, h1, h2, h3, ⟨⟨r', u, ho, hr, hj.1, hK1, hj.2⟩, hfr.1, fun q h1 h2 => hfr.2 q h1 (fun z => h2 (hsub q z))⟩, L, hF, fun q hq => hsub _ (hLf q hq)⟩
theorem CV.frame {l : Launch} {E : ENV} {y : MethodName} {cc : ByteArray} {n : Nat} {d : Nat} {av : List Value} {ws wc wc' : va_W} (h : CV l E y cc n d av wc wc') (isC : List Nat) (hC : isC.map (fun i => ws[i]?) = wc.map some) (hn : va_nd isC = true) (hl : isC.length = wc'.length) : CV l E y cc n d av ws (putC ws isC wc') := by
  intro sz p e ha hc hk s m args below hf happ hP hK
  obtain ⟨hav, hsz, ⟨hN, hO⟩, hPw, hKw, hDw⟩ := hP
  subst hsz
  have hsub := va_A_sub (sz := s.heap.size) isC hC
  have hDs := hDw.self (sz := s.heap.size)
  obtain ⟨k, o, h1, h2, h3, hq, L, hF, hLf⟩ := h s.heap.size p e ha hc hk s m args below hf happ ⟨hav, rfl, ⟨hN, hO.narrow hsub⟩, va_P_sub isC hC hPw, hKw, hDw.sub isC hn hC⟩ hK
  obtain ⟨⟨u, ho, hr, hP1, hK1, hD1⟩, hfr⟩ := hq
  have hj := putC_join hPw hDs isC hC hn hl hfr.2 hsub hP1 hD1
  exact ⟨k, o, h1, h2, h3, ⟨⟨u, ho, hr, hj.1, hK1, hj.2⟩, hfr.1, fun q h1 h2 => hfr.2 q h1 (fun z => h2 (hsub q z))⟩, L, hF, fun q hq => hsub _ (hLf q hq)⟩
