theorem sn_all {E : EN} (G : EnG E) {cy ho le : Int32} {hold below inches code : Nat → Int32} (C : EnC E ho cy le hold below inches code) {h hs : Int} (h1 : 1 ≤ h) (h2 : h ≤ 99) (s0 : -1 ≤ hs) (s1 : hs < 7) {n : Nat} (n1 : 1 ≤ n) (n3 : n ≤ 3) : SN E h hs n cy ho le inches hold below code (ftrn 5) 0 n := by
  have e : n = 1 ∨ n = 2 ∨ n = 3 := by omega
  rcases e with rfl | rfl | rfl
  · exact c_node_0 G C h1 h2 s0 s1 (by omega) (by omega) (by omega) (c_leaf s0 s1 (K := 1) (by omega) (by omega) 3)
  · exact c_node_0 G C h1 h2 s0 s1 (by omega) (by omega) (by omega) (c_node_1 G C h1 h2 s0 s1 (by omega) (by omega) (by omega) (c_leaf s0 s1 (K := 2) (by omega) (by omega) 2))
  · exact c_node_0 G C h1 h2 s0 s1 (by omega) (by omega) (by omega) (c_node_1 G C h1 h2 s0 s1 (by omega) (by omega) (by omega) (c_node_2 G C h1 h2 s0 s1 (by omega) (by omega) (by omega) (c_leaf s0 s1 (K := 3) (by omega) (by omega) 1)))
theorem c_look {E : EN} (G : EnG E) {cy ho le : Int32} {hold below inches code : Nat → Int32} (C : EnC E ho cy le hold below inches code) {A : Int → Int} (g : GT E (ws0 A)) (hA : A 70 + 3 < 2147483648) {now : Int32} {snow path debt : Nat → Int32} (S : StC A now snow path debt) {h hs : Int} (h1 : 1 ≤ h) (h2 : h ≤ 99) (s0 : -1 ≤ hs) (s1 : hs < 7) {n : Nat} (n1 : 1 ≤ n) (n3 : n ≤ 3)
    (i1 i2 i3 i4 : Int32) (w1 w2 w3 w4 w5 : Nat → Int32) (w6 w7 w8 w9 : Nat → Nat → Int32) (bestRow chosen things stack : Nat → Int32) :
    So (fX1_look i1 i2 i3 i4 w1 w2 w3 w4 w5 w6 w7 w8 w9 cy ho le bestRow chosen inches hold below things stack code now snow path debt (iI hs) (iI n) (iI h)) (fun o => o.1 = iI (bM E h hs n (ws0 A) [] (1000000, [])).1 ∧ o.2.2.1 = iI n ∧ Re o.2.2.2.2.2.2.2.2.2.2.2.2.2.2.1 (bM E h hs n (ws0 A) [] (1000000, [])).2) := by
  have z1 := win_t (a := (n : Int)) (b := 1) (c := 3) (by omega) (by omega) (by omega)
  have z2 := win_t (a := h) (b := 1) (c := 99) (by omega) (by omega) (by omega)
  have c0 := cst_0 hs A
  unfold fX1_look fX1_tryNight
  rw [show (1 : Int32) = iI 1 from rfl, show (3 : Int32) = iI 3 from rfl, show (99 : Int32) = iI 99 from rfl, z1, Option.bind_some, if_neg (by decide), z2, Option.bind_some, if_neg (by decide), so_bind]
  refine so_mono (c_beginAt S _ _ _ _ _ _ _ _ _) ?_
  rintro o ⟨k1, k2, k3, k4, k5, k6⟩
  have N : NS (ws0 A) 0 (va_up w1 0 o.1) (va_up w5 0 o.2.2.2.2.1) (va_up w9 0 o.2.2.2.2.2.2.2.2) (va_up w6 0 o.2.2.2.2.2.1) (va_up w7 0 o.2.2.2.2.2.2.1) (va_up w8 0 o.2.2.2.2.2.2.2.1) := by
    unfold NS
    rw [va_up_self, va_up_self, va_up_self, va_up_self, va_up_self, va_up_self]
    exact ⟨k1, k5, k6⟩
  have T := sn_all G C h1 h2 s0 s1 n1 n3 (ws0 A) [] (1000000, []) (va_up w1 0 o.1) (va_up w2 0 o.2.1) (va_up w3 0 o.2.2.1) (va_up w4 0 o.2.2.2.1) (va_up w9 0 o.2.2.2.2.2.2.2.2) bestRow chosen (va_up w5 0 o.2.2.2.2.1) (va_up w6 0 o.2.2.2.2.2.1) (va_up w7 0 o.2.2.2.2.2.2.1) (va_up w8 0 o.2.2.2.2.2.2.2.1) things stack g (by show A 70 + _ < _; omega) rfl (fun j x hx => by cases hx) (fun j x hx => by cases hx) (by omega) (by show cst hs (ws0 A) < 1000000; omega) (Int.le_refl _) N
  rw [so_bind]
  refine so_mono T ?_
  rintro v ⟨v1, v2, -, -⟩
  rw [so_some]
  exact ⟨v1, rfl, v2⟩
theorem c_tellSw {B : BE} {n : Nat} (n3 : n ≤ 3) (hl : B.2.length = n) (b0 : 0 ≤ B.1) (b1 : B.1 ≤ 1000000) {br : Nat → Int32} (hr : Re br B.2) (c : Int32) (told : Nat → Int32) : So (fX11_tellSweeping c (iI n) br told (iI B.1)) (fun o => o.1 = iI B.1 ∧ Rw (B.2.map iI) o.2.1 o.2.2) := by
  have key : ∀ (m : Nat) (k : Nat) (f : Nat) (c : Int32) (a : Nat → Int32), k + m = n → m < f → Rw ((B.2.take k).map iI) c a → So (fX11_tellSweeping_L11 (iI n) br f (iI k) c a) (fun o => Rw (B.2.map iI) o.1 o.2) := by
    intro m
    induction m with
    | zero =>
      intro k f c a km hf hR
      obtain ⟨f, rfl⟩ : ∃ g, f = g + 1 := ⟨f - 1, by omega⟩
      rw [fX11_tellSweeping_L11]
      simp (disch := omega) only [gd_t, so_some, so_bind, so_gd, so_none, Option.bind_some, iI_add, iI_sub, iI_mul, iI_neg, iI_clamp, iI_nat, vin_i, iI_le, iI_lt, iI_eq, mn_i, mx_i, if_true, if_false, if_pos, if_neg, li_0, li_1, li_2, li_3, li_4, li_5, li_6, li_7, li_8, li_9, li_10, li_11, li_12, li_14, li_15, li_16, li_20, li_21, li_24, li_28, li_30, li_31, li_40, li_41, li_42, li_43, li_44, li_45, li_47, li_48, li_49, li_57, li_59, li_60, li_61, li_62, li_63, li_70, li_71, li_76, li_80, li_96, li_97, li_98, li_99, li_100, li_101, li_102, li_103, li_104, li_105, li_106, li_107, li_108, li_109, li_110, li_111, li_112, li_113, li_114, li_115, li_116, li_117, li_118, li_119, li_120, li_128, li_142, li_255, li_320, li_781, li_852, li_999, li_1000, li_2000, li_3000, li_9999, li_12345, li_65536, li_1000000, li_252645135, li_858993459, li_1103515245, li_1431655765]
      rw [List.take_of_length_le (by omega)] at hR
      exact hR
    | succ m ih =>
      intro k f c a km hf hR
      obtain ⟨f, rfl⟩ : ∃ g, f = g + 1 := ⟨f - 1, by omega⟩
      have kl : k < B.2.length := by omega
      have hx := hr k _ (List.getElem?_eq_getElem kl)
      rw [fX11_tellSweeping_L11]
      simp (disch := omega) only [gd_t, so_some, so_bind, so_gd, so_none, Option.bind_some, iI_add, iI_sub, iI_mul, iI_neg, iI_clamp, iI_nat, vin_i, iI_le, iI_lt, iI_eq, mn_i, mx_i, if_true, if_false, if_pos, if_neg, li_0, li_1, li_2, li_3, li_4, li_5, li_6, li_7, li_8, li_9, li_10, li_11, li_12, li_14, li_15, li_16, li_20, li_21, li_24, li_28, li_30, li_31, li_40, li_41, li_42, li_43, li_44, li_45, li_47, li_48, li_49, li_57, li_59, li_60, li_61, li_62, li_63, li_70, li_71, li_76, li_80, li_96, li_97, li_98, li_99, li_100, li_101, li_102, li_103, li_104, li_105, li_106, li_107, li_108, li_109, li_110, li_111, li_112, li_113, li_114, li_115, li_116, li_117, li_118, li_119, li_120, li_128, li_142, li_255, li_320, li_781, li_852, li_999, li_1000, li_2000, li_3000, li_9999, li_12345, li_65536, li_1000000, li_252645135, li_858993459, li_1103515245, li_1431655765, Int.toNat_natCast, hx]
      refine so_mono (c_more hR (by rw [List.length_map, List.length_take]; omega) (iI B.2[k])) ?_
      intro o ho
      rw [show (k : Int) + 1 = ((k + 1 : Nat) : Int) by omega]
      refine ih (k + 1) f o.1 o.2 (by omega) (by omega) ?_
      rw [List.take_succ_eq_append_getElem kl, List.map_append]
      exact ho
  unfold fX11_tellSweeping
  simp (disch := omega) only [gd_t, so_some, so_bind, so_gd, so_none, Option.bind_some, iI_add, iI_sub, iI_mul, iI_neg, iI_clamp, iI_nat, vin_i, iI_le, iI_lt, iI_eq, mn_i, mx_i, if_true, if_false, if_pos, if_neg, li_0, li_1, li_2, li_3, li_4, li_5, li_6, li_7, li_8, li_9, li_10, li_11, li_12, li_14, li_15, li_16, li_20, li_21, li_24, li_28, li_30, li_31, li_40, li_41, li_42, li_43, li_44, li_45, li_47, li_48, li_49, li_57, li_59, li_60, li_61, li_62, li_63, li_70, li_71, li_76, li_80, li_96, li_97, li_98, li_99, li_100, li_101, li_102, li_103, li_104, li_105, li_106, li_107, li_108, li_109, li_110, li_111, li_112, li_113, li_114, li_115, li_116, li_117, li_118, li_119, li_120, li_128, li_142, li_255, li_320, li_781, li_852, li_999, li_1000, li_2000, li_3000, li_9999, li_12345, li_65536, li_1000000, li_252645135, li_858993459, li_1103515245, li_1431655765]
  refine so_mono (key n 0 FU (iI 0) told (by omega) (show n < 4000 by omega) (Rw.nil told)) ?_
  intro o ho
  exact ⟨(by first | rfl | trivial), ho⟩
theorem best_b {E : EN} (G : EnG E) (h hs : Int) (A : Int → Int) {n : Nat} (n3 : n ≤ 3) : (bM E h hs n (ws0 A) [] (1000000, [])).2.length = n ∧ 0 ≤ (bM E h hs n (ws0 A) [] (1000000, [])).1 ∧ (bM E h hs n (ws0 A) [] (1000000, [])).1 ≤ 1000000 := by
  have c0 := cst_0 hs A
  have st := bM_st G (h := h) (hs := hs) n (ws0 A) [] (1000000, [])
  have rl := bM_rl (E := E) (h := h) (hs := hs) (M := 1000000) n n (ws0 A) [] (1000000, []) (Nat.zero_add n) (fun z => absurd z (by show ¬ (1000000 : Int) < 1000000; omega))
  have nn := bM_nn G (h := h) (hs := hs) n (ws0 A) [] (1000000, []) (by omega) (by show (0 : Int) ≤ 1000000; omega)
  have le := bM_le (E := E) (h := h) (hs := hs) n (ws0 A) [] (1000000, [])
  rw [c0] at st
  exact ⟨rl (by omega), nn, le⟩
theorem s_best {n : Int} {σ : CS} {τ : MS} (h : R n σ τ) (hn : n < 1000) (p1 p2 : Int32) : Ok n (x_best σ p1 p2) (y_best τ p1 p2) := by
  obtain ⟨n0, g, c, m, G⟩ := h
  obtain ⟨P, rfl, b0, b1⟩ := iI_of p1
  obtain ⟨Q, rfl, b2, b3⟩ := iI_of p2
  obtain ⟨c1, c2, c3, c4, c5, c6, c7, c8, c9⟩ := c
  obtain ⟨m1, m2, m3, m4, m5, m6, m7, m8, m9⟩ := m
  have e := G.1.1
  have hS := G.2.2.1
  have a7 := hS.2.2
  unfold Ok x_best y_best fX11_best fX12_best
  by_cases q : (1 ≤ P ∧ P ≤ 3) ∧ (1 ≤ Q ∧ Q ≤ 99)
  · have eP : P = ((P.toNat : Nat) : Int) := by omega
    have gt : GT g.1 (ws0 g.2.2.1) := ⟨hS.1, hS.2.1⟩
    have cl := c_look (h := Q) (hs := -1) (n := P.toNat) G.1 c1 gt (by omega) c3 (by omega) (by omega) (by omega) (by omega) (by omega) (by omega) (σ.1 6) (σ.1 4) (σ.1 7) (σ.1 5) (σ.2.2.1 2) (σ.2.2.1 4) (σ.2.2.1 6) (σ.2.2.1 3) (σ.2.2.1 5) (σ.2.2.2 9) (σ.2.2.2 8) (σ.2.2.2 7) (σ.2.2.2 6) (σ.2.1 7) (σ.2.1 8) (σ.2.1 20) (σ.2.1 19)
    have ml := m_bestBy (h := Q) (hs := -1) (n := P.toNat) G.1 m1 gt (by omega) m3 (by omega) (by omega) (by omega) (by omega) (by omega) (by omega) (τ.1 14) τ.2.2 (τ.1 11) (τ.1 20) (τ.1 6) (τ.1 25) (τ.1 10) (τ.1 2) (τ.1 4) (τ.1 1) (τ.1 5) (τ.1 0) (τ.1 3) (τ.1 18) (τ.1 13) (τ.1 17) (τ.2.1 14) (τ.2.1 13) (τ.2.1 19) (τ.2.1 3) (τ.2.1 16)
    have bb := best_b G.1 Q (-1) g.2.2.1 (n := P.toNat) (by omega)
    rw [← eP] at cl ml
    have z1 := in_t (a := P) (b := 1) (c := 3) (by omega) (by omega) q.1
    have z2 := in_t (a := Q) (b := 1) (c := 99) (by omega) (by omega) q.2
    simp only [li_1, li_3, li_99, z1, z2, Option.bind_some, iI_neg]
    rw [if_neg (by decide), if_neg (by decide)]
    simp only [so_bind]
    refine so_mono cl ?_
    rintro o ⟨o1, o2, o3⟩
    rw [o1, o2, eP]
    refine so_mono (c_tellSw (n := P.toNat) (by omega) bb.1 bb.2.1 bb.2.2 o3 _ _) ?_
    rintro u ⟨u1, hr⟩
    simp only [so_some]
    rw [← eP]
    refine so_mono ml ?_
    rintro v ⟨v1, hs⟩
    refine ⟨u1.trans v1.symm, R.tol ⟨n0.1, hn⟩ G hr (by rw [List.length_map]; omega) ⟨c1, c2, c3, c4, c5, c6, hr, c8, c9⟩ ⟨m1, m2, m3, m4, m5, m6, hs, m8, m9⟩⟩
  · have cl : So (fX1_look (σ.1 6) (σ.1 4) (σ.1 7) (σ.1 5) (σ.2.2.1 2) (σ.2.2.1 4) (σ.2.2.1 6) (σ.2.2.1 3) (σ.2.2.1 5) (σ.2.2.2 9) (σ.2.2.2 8) (σ.2.2.2 7) (σ.2.2.2 6) (σ.1 33) (σ.1 26) (σ.1 19) (σ.2.1 7) (σ.2.1 8) (σ.2.1 36) (σ.2.1 28) (σ.2.1 26) (σ.2.1 20) (σ.2.1 19) (σ.2.1 17) (σ.1 11) (σ.2.1 12) (σ.2.1 11) (σ.2.1 10) (-1) (iI P) (iI Q)) (fun o => o.1 = iI (-1)) := by
      unfold fX1_look
      by_cases q1 : 1 ≤ P ∧ P ≤ 3
      · have z1 := win_t (a := P) (b := 1) (c := 3) (by omega) (by omega) q1
        have z2 := win_f (a := Q) (b := 1) (c := 99) (by omega) (by omega) (by omega) (by omega) (by omega) (by omega) (by omega)
        rw [show (1 : Int32) = iI 1 from rfl, show (3 : Int32) = iI 3 from rfl, show (99 : Int32) = iI 99 from rfl, z1, Option.bind_some, if_neg (by decide), z2, Option.bind_some, if_pos (by rfl), so_some]
        rfl
      · have z1 := win_f (a := P) (b := 1) (c := 3) (by omega) (by omega) (by omega) (by omega) (by omega) (by omega) q1
        rw [show (1 : Int32) = iI 1 from rfl, show (3 : Int32) = iI 3 from rfl, z1, Option.bind_some, if_pos (by rfl), so_some]
        rfl
    simp only [so_bind]
    refine so_mono cl ?_
    intro o o1
    rw [o1]
    unfold fX11_tellSweeping
    rw [if_pos (by decide)]
    by_cases q1 : 1 ≤ P ∧ P ≤ 3
    · have z1 := in_t (a := P) (b := 1) (c := 3) (by omega) (by omega) q1
      have z2 := in_f (a := Q) (b := 1) (c := 99) (by omega) (by omega) (by omega) (by omega) (by omega) (by omega) (by omega)
      simp only [so_some, li_1, li_3, li_99, z1, z2, Option.bind_some]
      rw [if_neg (by decide), if_pos (by rfl)]
      simp only [so_some]
      exact ⟨(by first | rfl | trivial), R.same ⟨n0.1, hn⟩ G ⟨c1, c2, c3, c4, c5, c6, c7, c8, c9⟩ ⟨m1, m2, m3, m4, m5, m6, m7, m8, m9⟩⟩
    · have z1 := in_f (a := P) (b := 1) (c := 3) (by omega) (by omega) (by omega) (by omega) (by omega) (by omega) q1
      simp only [so_some, li_1, li_3, z1, Option.bind_some]
      rw [if_pos (by rfl)]
      simp only [so_some]
      exact ⟨(by first | rfl | trivial), R.same ⟨n0.1, hn⟩ G ⟨c1, c2, c3, c4, c5, c6, c7, c8, c9⟩ ⟨m1, m2, m3, m4, m5, m6, m7, m8, m9⟩⟩
theorem s_own {n : Int} {σ : CS} {τ : MS} (h : R n σ τ) (hn : n < 1000) (p0 p1 p2 : Int32) : Ok n (x_own σ p0 p1 p2) (y_own τ p0 p1 p2) := by
  obtain ⟨n0, g, c, m, G⟩ := h
  obtain ⟨H, rfl, b4, b5⟩ := iI_of p0
  obtain ⟨P, rfl, b0, b1⟩ := iI_of p1
  obtain ⟨Q, rfl, b2, b3⟩ := iI_of p2
  obtain ⟨c1, c2, c3, c4, c5, c6, c7, c8, c9⟩ := c
  obtain ⟨m1, m2, m3, m4, m5, m6, m7, m8, m9⟩ := m
  have e := G.1.1
  have hS := G.2.2.1
  have a7 := hS.2.2
  unfold Ok x_own y_own fX11_own fX12_own
  by_cases qh : 0 ≤ H ∧ H < g.1.1
  · have y1 : fX7_has (σ.1 26) (iI H) = some (iI 1) := by rw [c1.1]; exact has_t e.1 e.2 qh
    have y2 : fX12_isHouse (τ.1 9) (iI H) = some (iI 1) := by rw [m1.1]; exact isH_t e.1 e.2 qh
    simp only [y1, y2, Option.bind_some]
    rw [if_neg (by decide), if_neg (by decide)]
    by_cases q : (1 ≤ P ∧ P ≤ 3) ∧ (1 ≤ Q ∧ Q ≤ 99)
    · have eP : P = ((P.toNat : Nat) : Int) := by omega
      have gt : GT g.1 (ws0 g.2.2.1) := ⟨hS.1, hS.2.1⟩
      have cl := c_look (h := Q) (hs := H) (n := P.toNat) G.1 c1 gt (by omega) c3 (by omega) (by omega) (by omega) (by omega) (by omega) (by omega) (σ.1 6) (σ.1 4) (σ.1 7) (σ.1 5) (σ.2.2.1 2) (σ.2.2.1 4) (σ.2.2.1 6) (σ.2.2.1 3) (σ.2.2.1 5) (σ.2.2.2 9) (σ.2.2.2 8) (σ.2.2.2 7) (σ.2.2.2 6) (σ.2.1 7) (σ.2.1 8) (σ.2.1 20) (σ.2.1 19)
      have ml := m_bestBy (h := Q) (hs := H) (n := P.toNat) G.1 m1 gt (by omega) m3 (by omega) (by omega) (by omega) (by omega) (by omega) (by omega) (τ.1 14) τ.2.2 (τ.1 11) (τ.1 20) (τ.1 6) (τ.1 25) (τ.1 10) (τ.1 2) (τ.1 4) (τ.1 1) (τ.1 5) (τ.1 0) (τ.1 3) (τ.1 18) (τ.1 13) (τ.1 17) (τ.2.1 14) (τ.2.1 13) (τ.2.1 19) (τ.2.1 3) (τ.2.1 16)
      have bb := best_b G.1 Q H g.2.2.1 (n := P.toNat) (by omega)
      rw [← eP] at cl ml
      have z1 := in_t (a := P) (b := 1) (c := 3) (by omega) (by omega) q.1
      have z2 := in_t (a := Q) (b := 1) (c := 99) (by omega) (by omega) q.2
      simp only [li_1, li_3, li_99, z1, z2, Option.bind_some, iI_neg]
      rw [if_neg (by decide), if_neg (by decide)]
      simp only [so_bind]
      refine so_mono cl ?_
      rintro o ⟨o1, o2, o3⟩
      rw [o1, o2, eP]
      refine so_mono (c_tellSw (n := P.toNat) (by omega) bb.1 bb.2.1 bb.2.2 o3 _ _) ?_
      rintro u ⟨u1, hr⟩
      simp only [so_some]
      rw [← eP]
      refine so_mono ml ?_
      rintro v ⟨v1, hs⟩
      refine ⟨u1.trans v1.symm, R.tol ⟨n0.1, hn⟩ G hr (by rw [List.length_map]; omega) ⟨c1, c2, c3, c4, c5, c6, hr, c8, c9⟩ ⟨m1, m2, m3, m4, m5, m6, hs, m8, m9⟩⟩
    · have cl : So (fX1_look (σ.1 6) (σ.1 4) (σ.1 7) (σ.1 5) (σ.2.2.1 2) (σ.2.2.1 4) (σ.2.2.1 6) (σ.2.2.1 3) (σ.2.2.1 5) (σ.2.2.2 9) (σ.2.2.2 8) (σ.2.2.2 7) (σ.2.2.2 6) (σ.1 33) (σ.1 26) (σ.1 19) (σ.2.1 7) (σ.2.1 8) (σ.2.1 36) (σ.2.1 28) (σ.2.1 26) (σ.2.1 20) (σ.2.1 19) (σ.2.1 17) (σ.1 11) (σ.2.1 12) (σ.2.1 11) (σ.2.1 10) (iI H) (iI P) (iI Q)) (fun o => o.1 = iI (-1)) := by
        unfold fX1_look
        by_cases q1 : 1 ≤ P ∧ P ≤ 3
        · have z1 := win_t (a := P) (b := 1) (c := 3) (by omega) (by omega) q1
          have z2 := win_f (a := Q) (b := 1) (c := 99) (by omega) (by omega) (by omega) (by omega) (by omega) (by omega) (by omega)
          rw [show (1 : Int32) = iI 1 from rfl, show (3 : Int32) = iI 3 from rfl, show (99 : Int32) = iI 99 from rfl, z1, Option.bind_some, if_neg (by decide), z2, Option.bind_some, if_pos (by rfl), so_some]
          rfl
        · have z1 := win_f (a := P) (b := 1) (c := 3) (by omega) (by omega) (by omega) (by omega) (by omega) (by omega) q1
          rw [show (1 : Int32) = iI 1 from rfl, show (3 : Int32) = iI 3 from rfl, z1, Option.bind_some, if_pos (by rfl), so_some]
          rfl
      simp only [so_bind]
      refine so_mono cl ?_
      intro o o1
      rw [o1]
      unfold fX11_tellSweeping
      rw [if_pos (by decide)]
      by_cases q1 : 1 ≤ P ∧ P ≤ 3
      · have z1 := in_t (a := P) (b := 1) (c := 3) (by omega) (by omega) q1
        have z2 := in_f (a := Q) (b := 1) (c := 99) (by omega) (by omega) (by omega) (by omega) (by omega) (by omega) (by omega)
        simp only [so_some, li_1, li_3, li_99, z1, z2, Option.bind_some]
        rw [if_neg (by decide), if_pos (by rfl)]
        simp only [so_some]
        exact ⟨(by first | rfl | trivial), R.same ⟨n0.1, hn⟩ G ⟨c1, c2, c3, c4, c5, c6, c7, c8, c9⟩ ⟨m1, m2, m3, m4, m5, m6, m7, m8, m9⟩⟩
      · have z1 := in_f (a := P) (b := 1) (c := 3) (by omega) (by omega) (by omega) (by omega) (by omega) (by omega) q1
        simp only [so_some, li_1, li_3, z1, Option.bind_some]
        rw [if_pos (by rfl)]
        simp only [so_some]
        exact ⟨(by first | rfl | trivial), R.same ⟨n0.1, hn⟩ G ⟨c1, c2, c3, c4, c5, c6, c7, c8, c9⟩ ⟨m1, m2, m3, m4, m5, m6, m7, m8, m9⟩⟩
  · have y1 : fX7_has (σ.1 26) (iI H) = some (iI 0) := by rw [c1.1]; exact has_f e.1 e.2 b4 b5 qh
    have y2 : fX12_isHouse (τ.1 9) (iI H) = some (iI 0) := by rw [m1.1]; exact isH_f e.1 e.2 b4 b5 qh
    simp only [y1, y2, Option.bind_some]
    rw [if_pos (by rfl), if_pos (by rfl)]
    simp only [Option.bind_some, so_some]
    exact ⟨(by first | rfl | trivial), R.same ⟨n0.1, hn⟩ G ⟨c1, c2, c3, c4, c5, c6, c7, c8, c9⟩ ⟨m1, m2, m3, m4, m5, m6, m7, m8, m9⟩⟩
