/-! slides, worst, lazy -/
theorem bt_sld {E : EN} (G : EnG E) {x : FW} {P : Int} (p0 : 0 ≤ P) (p1 : P < 2 * E.1) :
    (((fdy E x).2.2.2 >>> (iI P &&& 31)) &&& 1) = if dyF E x.1.1 P ≤ max 0 (E.2.1 (P / 2) - thw E x.1.1) then iI 0 else iI 1 := by
  have g := G.1
  show ((bts E (thw E x.1.1) (dyF E x.1.1) (2 * E.1).toNat 0 0 >>> (iI P &&& 31)) &&& 1) = _
  rw [bt_test _ p0 (by omega), bt_bts _ _ _ _ (by omega) (by omega) (by omega), bt_0, Bool.false_or, show ((P.toNat : Nat) : Int) = P by omega]
  by_cases q : dyF E x.1.1 P ≤ max 0 (E.2.1 (P / 2) - thw E x.1.1)
  · rw [if_pos q, decide_eq_false (fun z => z.2.2 q), if_neg (by decide)]
  · rw [if_neg q, decide_eq_true ⟨by omega, by omega, q⟩, if_pos rfl]
theorem s_slides_L {E : EN} (G : EnG E) {hoC cy le : Int32} {hold below inches code : Nat → Int32} (C : EnC E hoC cy le hold below inches code) {hoM many size : Int32} {holdM belowM weather rule : Nat → Int32} (M : EnM E hoM many size holdM belowM weather rule) {P : Int} (p0 : 0 ≤ P) (p1 : P < 2 * E.1) (thrown : Int32) :
    ∀ (m : Nat) (k : Int) (f : Nat) (x : FW) (y : MW) (owed slides struck slid now : Int32) (snow path debt owedBy things stack : Nat → Int32) (rr : Nat) (len top at' wrong asked i1 i2 i3 i4 i5 i6 sm on si : Int32) (th oM : Nat → Int32),
    1 ≤ k → k + m = 61 → m < f → WA x.1.1 → x.1.1 70 + m < 2147483648 → x.1.1 = y.1.1 → Wk x owed slides struck slid now snow path debt owedBy → Mk y sm on si oM th →
    So (fX11_slides_L29 hoC cy le inches hold below code (iI P) f (iI k) owed slides struck slid now snow path debt owedBy things stack)
      (fun o => So (fX12_slides_L29 hoM many size weather holdM belowM rule (iI P) thrown f (iI k) rr len top at' wrong asked i1 i2 i3 i4 i5 i6 sm on si th oM) (fun p => (∃ a b, o = Sum.inl a ∧ p = Sum.inl b) ∨ (∃ a b, o = Sum.inr a ∧ p = Sum.inr b ∧ a.1 = b.1)))
  | 0, k, f + 1, x, y, owed, slides, struck, slid, now, snow, path, debt, owedBy, things, stack, rr, len, top, at', wrong, asked, i1, i2, i3, i4, i5, i6, sm, on, si, th, oM, h0, hk, hf, hA, hn, hxy, K, L => by
    rw [fX11_slides_L29, fX12_slides_L29]
    simp (disch := omega) only [gd_t, so_some, so_bind, so_gd, so_none, Option.bind_some, iI_add, iI_sub, iI_mul, iI_neg, iI_clamp, iI_nat, vin_i, iI_le, iI_lt, iI_eq, mn_i, mx_i, if_true, if_false, if_pos, if_neg, li_0, li_1, li_2, li_3, li_4, li_5, li_6, li_7, li_8, li_9, li_10, li_11, li_12, li_14, li_15, li_16, li_20, li_21, li_24, li_28, li_30, li_31, li_40, li_41, li_42, li_43, li_44, li_45, li_47, li_48, li_49, li_57, li_59, li_60, li_61, li_62, li_63, li_70, li_71, li_76, li_80, li_96, li_97, li_98, li_99, li_100, li_101, li_102, li_103, li_104, li_105, li_106, li_107, li_108, li_109, li_110, li_111, li_112, li_113, li_114, li_115, li_116, li_117, li_118, li_119, li_120, li_128, li_142, li_255, li_320, li_781, li_852, li_999, li_1000, li_2000, li_3000, li_9999, li_12345, li_65536, li_1000000, li_252645135, li_858993459, li_1103515245, li_1431655765]
    exact Or.inl ⟨_, _, rfl, rfl⟩
  | m + 1, k, f + 1, x, y, owed, slides, struck, slid, now, snow, path, debt, owedBy, things, stack, rr, len, top, at', wrong, asked, i1, i2, i3, i4, i5, i6, sm, on, si, th, oM, h0, hk, hf, hA, hn, hxy, K, L => by
    have g := G.1
    obtain ⟨p, hp, hpK⟩ := m_goDay G M (x := y) (by rw [← hxy]; exact hA) (by rw [← hxy]; omega) L rr len top at' wrong asked i1 i2 i3 i4 i5 i6
    have e2 : (fdy E x).1.1 = (mdy E y).1.1 := dy_A hxy
    have wd : WA (fdy E x).1.1 := wa_dy G hA
    have d70 : (fdy E x).1.1 70 = x.1.1 70 + 1 := dy_70 E x.1
    have hm7 := L.2.2.2.2
    rw [← hxy] at hm7
    have a70 := hA.2.2
    have wv := G.2.2.2.1 (x.1.1 70)
    have hwv := M.2.2.2.1 (x.1.1 70) (by omega) (by omega)
    have htw : fX12_thawOf many weather (iI (x.1.1 70)) = some (iI (max 0 (-(E.2.2.2.1 (x.1.1 70))))) := by
      unfold fX12_thawOf
      rw [hwv]
      simp (disch := omega) only [gd_t, so_some, so_bind, so_gd, so_none, Option.bind_some, iI_add, iI_sub, iI_mul, iI_neg, iI_clamp, iI_nat, vin_i, iI_le, iI_lt, iI_eq, mn_i, mx_i, if_true, if_false, if_pos, if_neg, li_0, li_1, li_2, li_3, li_4, li_5, li_6, li_7, li_8, li_9, li_10, li_11, li_12, li_14, li_15, li_16, li_20, li_21, li_24, li_28, li_30, li_31, li_40, li_41, li_42, li_43, li_44, li_45, li_47, li_48, li_49, li_57, li_59, li_60, li_61, li_62, li_63, li_70, li_71, li_76, li_80, li_96, li_97, li_98, li_99, li_100, li_101, li_102, li_103, li_104, li_105, li_106, li_107, li_108, li_109, li_110, li_111, li_112, li_113, li_114, li_115, li_116, li_117, li_118, li_119, li_120, li_128, li_142, li_255, li_320, li_781, li_852, li_999, li_1000, li_2000, li_3000, li_9999, li_12345, li_65536, li_1000000, li_252645135, li_858993459, li_1103515245, li_1431655765]
    have aP := hA.1 P p0 (by omega)
    have hh := G.2.1 (P / 2) (by omega) (by omega)
    have hdv := M.2.1
    have dv : iI P / iI 2 = iI (P / 2) := iI_div2 p0 (by omega)
    have t1 := bt_sld G (x := x) p0 p1
    have dF : dyF E x.1.1 P = max 0 (min 999 (x.1.1 P + E.2.2.2.1 (x.1.1 70))) := by
      unfold dyF faA ly
      rw [if_pos (by omega)]
    have tw : thw E x.1.1 = max 0 (-(E.2.2.2.1 (x.1.1 70))) := rfl
    rw [dF, tw] at t1
    rw [fX11_slides_L29, fX12_slides_L29]
    unfold fX12_slides_J97
    simp only [li_2, li_70, dv, hp, Option.bind_some]
    by_cases q : max 0 (min 999 (x.1.1 P + E.2.2.2.1 (x.1.1 70))) ≤ max 0 (E.2.1 (P / 2) - max 0 (-(E.2.2.2.1 (x.1.1 70))))
    · rw [if_pos q] at t1
      simp (disch := omega) only [gd_t, so_some, so_bind, so_gd, so_none, Option.bind_some, iI_add, iI_sub, iI_mul, iI_neg, iI_clamp, iI_nat, vin_i, iI_le, iI_lt, iI_eq, mn_i, mx_i, if_true, if_false, if_pos, if_neg, li_0, li_1, li_2, li_3, li_4, li_5, li_6, li_7, li_8, li_9, li_10, li_11, li_12, li_14, li_15, li_16, li_20, li_21, li_24, li_28, li_30, li_31, li_40, li_41, li_42, li_43, li_44, li_45, li_47, li_48, li_49, li_57, li_59, li_60, li_61, li_62, li_63, li_70, li_71, li_76, li_80, li_96, li_97, li_98, li_99, li_100, li_101, li_102, li_103, li_104, li_105, li_106, li_107, li_108, li_109, li_110, li_111, li_112, li_113, li_114, li_115, li_116, li_117, li_118, li_119, li_120, li_128, li_142, li_255, li_320, li_781, li_852, li_999, li_1000, li_2000, li_3000, li_9999, li_12345, li_65536, li_1000000, li_252645135, li_858993459, li_1103515245, li_1431655765, hm7.at, hwv, htw, hdv.at]
      refine so_mono (c_goDay G C hA (by omega) K things stack) ?_
      intro o ho
      rw [ho.2.2.2.1]
      rw [li_1, li_31] at t1
      rw [t1]
      simp (disch := omega) only [gd_t, so_some, so_bind, so_gd, so_none, Option.bind_some, iI_add, iI_sub, iI_mul, iI_neg, iI_clamp, iI_nat, vin_i, iI_le, iI_lt, iI_eq, mn_i, mx_i, if_true, if_false, if_pos, if_neg, li_0, li_1, li_2, li_3, li_4, li_5, li_6, li_7, li_8, li_9, li_10, li_11, li_12, li_14, li_15, li_16, li_20, li_21, li_24, li_28, li_30, li_31, li_40, li_41, li_42, li_43, li_44, li_45, li_47, li_48, li_49, li_57, li_59, li_60, li_61, li_62, li_63, li_70, li_71, li_76, li_80, li_96, li_97, li_98, li_99, li_100, li_101, li_102, li_103, li_104, li_105, li_106, li_107, li_108, li_109, li_110, li_111, li_112, li_113, li_114, li_115, li_116, li_117, li_118, li_119, li_120, li_128, li_142, li_255, li_320, li_781, li_852, li_999, li_1000, li_2000, li_3000, li_9999, li_12345, li_65536, li_1000000, li_252645135, li_858993459, li_1103515245, li_1431655765]
      rw [← ho.2.2.2.1]
      exact s_slides_L G C M p0 p1 thrown m (k + 1) f (fdy E x) (mdy E y) _ _ _ _ _ _ _ _ _ _ _ _ _ _ _ _ _ _ _ _ _ _ _ _ _ _ _ _ (by omega) (by omega) (by omega) wd (by omega) e2 ho hpK
    · rw [if_neg q] at t1
      simp (disch := omega) only [gd_t, so_some, so_bind, so_gd, so_none, Option.bind_some, iI_add, iI_sub, iI_mul, iI_neg, iI_clamp, iI_nat, vin_i, iI_le, iI_lt, iI_eq, mn_i, mx_i, if_true, if_false, if_pos, if_neg, li_0, li_1, li_2, li_3, li_4, li_5, li_6, li_7, li_8, li_9, li_10, li_11, li_12, li_14, li_15, li_16, li_20, li_21, li_24, li_28, li_30, li_31, li_40, li_41, li_42, li_43, li_44, li_45, li_47, li_48, li_49, li_57, li_59, li_60, li_61, li_62, li_63, li_70, li_71, li_76, li_80, li_96, li_97, li_98, li_99, li_100, li_101, li_102, li_103, li_104, li_105, li_106, li_107, li_108, li_109, li_110, li_111, li_112, li_113, li_114, li_115, li_116, li_117, li_118, li_119, li_120, li_128, li_142, li_255, li_320, li_781, li_852, li_999, li_1000, li_2000, li_3000, li_9999, li_12345, li_65536, li_1000000, li_252645135, li_858993459, li_1103515245, li_1431655765, hm7.at, hwv, htw, hdv.at]
      refine so_mono (c_goDay G C hA (by omega) K things stack) ?_
      intro o ho
      rw [ho.2.2.2.1]
      rw [li_1, li_31] at t1
      rw [t1]
      simp (disch := omega) only [gd_t, so_some, so_bind, so_gd, so_none, Option.bind_some, iI_add, iI_sub, iI_mul, iI_neg, iI_clamp, iI_nat, vin_i, iI_le, iI_lt, iI_eq, mn_i, mx_i, if_true, if_false, if_pos, if_neg, li_0, li_1, li_2, li_3, li_4, li_5, li_6, li_7, li_8, li_9, li_10, li_11, li_12, li_14, li_15, li_16, li_20, li_21, li_24, li_28, li_30, li_31, li_40, li_41, li_42, li_43, li_44, li_45, li_47, li_48, li_49, li_57, li_59, li_60, li_61, li_62, li_63, li_70, li_71, li_76, li_80, li_96, li_97, li_98, li_99, li_100, li_101, li_102, li_103, li_104, li_105, li_106, li_107, li_108, li_109, li_110, li_111, li_112, li_113, li_114, li_115, li_116, li_117, li_118, li_119, li_120, li_128, li_142, li_255, li_320, li_781, li_852, li_999, li_1000, li_2000, li_3000, li_9999, li_12345, li_65536, li_1000000, li_252645135, li_858993459, li_1103515245, li_1431655765]
      exact Or.inr ⟨_, _, rfl, rfl, rfl⟩
theorem s_slides {n : Int} {σ : CS} {τ : MS} (h : R n σ τ) (hn : n < 1000) (p1 : Int32) : Ok n (x_slides σ p1) (y_slides τ p1) := by
  obtain ⟨n0, g, c, m, G⟩ := h
  obtain ⟨Q, rfl, b2, b3⟩ := iI_of p1
  obtain ⟨c1, c2, c3, c4, c5, c6, c7, c8, c9⟩ := c
  obtain ⟨m1, m2, m3, m4, m5, m6, m7, m8, m9⟩ := m
  have e := G.1.1
  have hS := G.2.2.1
  have a7 := hS.2.2
  unfold Ok x_slides y_slides fX11_slides fX12_slides
  by_cases q2 : 0 ≤ Q ∧ Q < 2 * g.1.1
  · have z3 := hasS_t e.1 e.2 q2
    have z4 := isS_t e.1 e.2 q2
    rw [← c1.1] at z3
    rw [← m1.1] at z4
    obtain ⟨w, hw, hw2⟩ := m_lay0 (b := (τ.2.1 19)) m3
    rw [li_0] at hw
    simp only [li_0, li_1, z3, z4, Option.bind_some]
    simp (disch := omega) only [gd_t, so_some, so_bind, so_gd, so_none, Option.bind_some, iI_add, iI_sub, iI_mul, iI_neg, iI_clamp, iI_nat, vin_i, iI_le, iI_lt, iI_eq, mn_i, mx_i, if_true, if_false, if_pos, if_neg, li_0, li_1, li_2, li_3, li_4, li_5, li_6, li_7, li_8, li_9, li_10, li_11, li_12, li_14, li_15, li_16, li_20, li_21, li_24, li_28, li_30, li_31, li_40, li_41, li_42, li_43, li_44, li_45, li_47, li_48, li_49, li_57, li_59, li_60, li_61, li_62, li_63, li_70, li_71, li_76, li_80, li_96, li_97, li_98, li_99, li_100, li_101, li_102, li_103, li_104, li_105, li_106, li_107, li_108, li_109, li_110, li_111, li_112, li_113, li_114, li_115, li_116, li_117, li_118, li_119, li_120, li_128, li_142, li_255, li_320, li_781, li_852, li_999, li_1000, li_2000, li_3000, li_9999, li_12345, li_65536, li_1000000, li_252645135, li_858993459, li_1103515245, li_1431655765, hw]
    refine so_mono (c_beginAt c3 _ _ _ _ _ _ _ _ _) ?_
    intro o ho
    refine so_mono (s_slides_L G.1 c1 m1 q2.1 q2.2 (iI 0) 60 1 FU (fw0 g.2.2.1) _ _ _ _ _ _ _ _ _ _ (σ.2.1 20) (σ.2.1 19) τ.2.2 (τ.1 11) (τ.1 20) (τ.1 6) (τ.1 25) (τ.1 10) (τ.1 2) (τ.1 4) (τ.1 1) (τ.1 5) (τ.1 0) (τ.1 3) (τ.1 18) (τ.1 13) (τ.1 17) w (τ.2.1 13) (by omega) (by omega) (show _ < 4000 by omega) hS.1 (by show g.2.2.1 70 + _ < _; omega) rfl ho (any_Mk hw2 _ _ _ _)) ?_
    rintro r ⟨p, hp, hh⟩
    rcases hh with ⟨a, b, rfl, rfl⟩ | ⟨a, b, rfl, rfl, ab⟩
    · simp only [hp, so_some, so_bind, Sum.elim_inl]
      exact ⟨(by first | rfl | trivial), R.same ⟨n0.1, hn⟩ G ⟨c1, c2, c3, c4, c5, c6, c7, c8, c9⟩ ⟨m1, m2, m3, m4, m5, m6, m7, m8, m9⟩⟩
    · simp only [hp, so_some, so_bind, Sum.elim_inr]
      exact ⟨ab, R.same ⟨n0.1, hn⟩ G ⟨c1, c2, c3, c4, c5, c6, c7, c8, c9⟩ ⟨m1, m2, m3, m4, m5, m6, m7, m8, m9⟩⟩
  · have z3 := hasS_f e.1 e.2 b2 b3 q2
    have z4 := isS_f e.1 e.2 b2 b3 q2
    rw [← c1.1] at z3
    rw [← m1.1] at z4
    simp only [z3, z4, Option.bind_some]
    simp (disch := omega) only [gd_t, so_some, so_bind, so_gd, so_none, Option.bind_some, iI_add, iI_sub, iI_mul, iI_neg, iI_clamp, iI_nat, vin_i, iI_le, iI_lt, iI_eq, mn_i, mx_i, if_true, if_false, if_pos, if_neg, li_0, li_1, li_2, li_3, li_4, li_5, li_6, li_7, li_8, li_9, li_10, li_11, li_12, li_14, li_15, li_16, li_20, li_21, li_24, li_28, li_30, li_31, li_40, li_41, li_42, li_43, li_44, li_45, li_47, li_48, li_49, li_57, li_59, li_60, li_61, li_62, li_63, li_70, li_71, li_76, li_80, li_96, li_97, li_98, li_99, li_100, li_101, li_102, li_103, li_104, li_105, li_106, li_107, li_108, li_109, li_110, li_111, li_112, li_113, li_114, li_115, li_116, li_117, li_118, li_119, li_120, li_128, li_142, li_255, li_320, li_781, li_852, li_999, li_1000, li_2000, li_3000, li_9999, li_12345, li_65536, li_1000000, li_252645135, li_858993459, li_1103515245, li_1431655765]
    exact ⟨(by first | rfl | trivial), R.same ⟨n0.1, hn⟩ G ⟨c1, c2, c3, c4, c5, c6, c7, c8, c9⟩ ⟨m1, m2, m3, m4, m5, m6, m7, m8, m9⟩⟩
theorem cnt_b (E : EN) (th : Int) (A : Int → Int) : ∀ (m : Nat) (k : Int), 0 ≤ cnt E th A m k ∧ cnt E th A m k ≤ m
  | 0, _ => by rw [cnt]; omega
  | m + 1, k => by
    have := cnt_b E th A m (k + 1)
    rw [cnt]
    split <;> omega
theorem s_worst_L {E : EN} (G : EnG E) {hoC cy le : Int32} {hold below inches code : Nat → Int32} (C : EnC E hoC cy le hold below inches code) {hoM many size : Int32} {holdM belowM weather rule : Nat → Int32} (M : EnM E hoM many size holdM belowM weather rule) {N : Int} (hN : N ≤ 60) :
    ∀ (m : Nat) (k : Int) (f : Nat) (v w : Int) (x : FW) (y : MW) (owed slides struck slid now : Int32) (snow path debt owedBy things stack : Nat → Int32) (rr : Nat) (len top at' wrong asked i1 i2 i3 i4 i5 i6 sm on si : Int32) (th oM : Nat → Int32),
    1 ≤ k → k + m = N + 1 → m < f → (v = -2 ∧ w = 0 ∨ 1 ≤ v ∧ v < k ∧ 0 < w ∧ w ≤ 14) → WA x.1.1 → x.1.1 70 + m < 2147483648 → x.1.1 = y.1.1 → Wk x owed slides struck slid now snow path debt owedBy → Mk y sm on si oM th →
    So (fX11_worst_L34 cy hoC le inches hold below code (iI N) f (iI v) (iI w) (iI k) owed slides struck slid now snow path debt owedBy things stack)
      (fun o => So (fX12_worst_L37 hoM many size weather holdM belowM rule (iI N) f (iI v) (iI w) (iI k) rr len top at' wrong asked i1 i2 i3 i4 i5 i6 sm on si th oM) (fun p => ∃ v' w' : Int, (v' = -2 ∧ w' = 0 ∨ 1 ≤ v' ∧ v' ≤ 60 ∧ 0 < w' ∧ w' ≤ 14) ∧ o.1 = iI v' ∧ p.1 = iI v' ∧ o.2.1 = iI w' ∧ p.2.1 = iI w'))
  | 0, k, f + 1, v, w, x, y, owed, slides, struck, slid, now, snow, path, debt, owedBy, things, stack, rr, len, top, at', wrong, asked, i1, i2, i3, i4, i5, i6, sm, on, si, th, oM, h0, hk, hf, hv, hA, hn, hxy, K, L => by
    rw [fX11_worst_L34, fX12_worst_L37]
    simp (disch := omega) only [gd_t, so_some, so_bind, so_gd, so_none, Option.bind_some, iI_add, iI_sub, iI_mul, iI_neg, iI_clamp, iI_nat, vin_i, iI_le, iI_lt, iI_eq, mn_i, mx_i, if_true, if_false, if_pos, if_neg, li_0, li_1, li_2, li_3, li_4, li_5, li_6, li_7, li_8, li_9, li_10, li_11, li_12, li_14, li_15, li_16, li_20, li_21, li_24, li_28, li_30, li_31, li_40, li_41, li_42, li_43, li_44, li_45, li_47, li_48, li_49, li_57, li_59, li_60, li_61, li_62, li_63, li_70, li_71, li_76, li_80, li_96, li_97, li_98, li_99, li_100, li_101, li_102, li_103, li_104, li_105, li_106, li_107, li_108, li_109, li_110, li_111, li_112, li_113, li_114, li_115, li_116, li_117, li_118, li_119, li_120, li_128, li_142, li_255, li_320, li_781, li_852, li_999, li_1000, li_2000, li_3000, li_9999, li_12345, li_65536, li_1000000, li_252645135, li_858993459, li_1103515245, li_1431655765]
    exact ⟨v, w, by omega, rfl, rfl, rfl, rfl⟩
  | m + 1, k, f + 1, v, w, x, y, owed, slides, struck, slid, now, snow, path, debt, owedBy, things, stack, rr, len, top, at', wrong, asked, i1, i2, i3, i4, i5, i6, sm, on, si, th, oM, h0, hk, hf, hv, hA, hn, hxy, K, L => by
    have g := G.1
    obtain ⟨b, hb, hb1, hb2, hb3, hb4⟩ := m_beginCount sm on si oM
    have L2 : Mk ((y.1.1, 0, fun _ => 0), 0, 0) b.1 b.2.1 b.2.2.1 b.2.2.2 th := ⟨hb1, hb2, hb3, hb4, L.2.2.2.2⟩
    obtain ⟨p, hp, hpK⟩ := m_goDay G M (x := ((y.1.1, 0, fun _ => 0), 0, 0)) (by show WA y.1.1; rw [← hxy]; exact hA) (by show y.1.1 70 < _; rw [← hxy]; omega) L2 rr len top at' wrong asked i1 i2 i3 i4 i5 i6
    have e2 : (fdy E x).1.1 = (mdy E ((y.1.1, 0, fun _ => 0), 0, 0)).1.1 := dy_A hxy
    have wd : WA (fdy E x).1.1 := wa_dy G hA
    have d70 : (fdy E x).1.1 70 = x.1.1 70 + 1 := dy_70 E x.1
    have ec : p.2.2.2.2.2.2.2.2.2.2.2.2.1 = iI (cnt E (thw E x.1.1) (dyF E x.1.1) (2 * E.1).toNat 0) := by
      rw [hpK.1, hxy]
      show iI (0 + _) = _
      rw [Int.zero_add]
    have bc := bts_cnt (E := E) (th := thw E x.1.1) (A := dyF E x.1.1) g.1 g.2
    have cb := cnt_b E (thw E x.1.1) (dyF E x.1.1) (2 * E.1).toNat 0
    obtain ⟨c, hc⟩ : ∃ c, cnt E (thw E x.1.1) (dyF E x.1.1) (2 * E.1).toNat 0 = c := ⟨_, rfl⟩
    rw [hc] at ec bc cb
    rw [fX11_worst_L34, fX12_worst_L37]
    simp only [hb, hp, Option.bind_some]
    by_cases q : c ≤ w
    · simp (disch := omega) only [gd_t, so_some, so_bind, so_gd, so_none, Option.bind_some, iI_add, iI_sub, iI_mul, iI_neg, iI_clamp, iI_nat, vin_i, iI_le, iI_lt, iI_eq, mn_i, mx_i, if_true, if_false, if_pos, if_neg, li_0, li_1, li_2, li_3, li_4, li_5, li_6, li_7, li_8, li_9, li_10, li_11, li_12, li_14, li_15, li_16, li_20, li_21, li_24, li_28, li_30, li_31, li_40, li_41, li_42, li_43, li_44, li_45, li_47, li_48, li_49, li_57, li_59, li_60, li_61, li_62, li_63, li_70, li_71, li_76, li_80, li_96, li_97, li_98, li_99, li_100, li_101, li_102, li_103, li_104, li_105, li_106, li_107, li_108, li_109, li_110, li_111, li_112, li_113, li_114, li_115, li_116, li_117, li_118, li_119, li_120, li_128, li_142, li_255, li_320, li_781, li_852, li_999, li_1000, li_2000, li_3000, li_9999, li_12345, li_65536, li_1000000, li_252645135, li_858993459, li_1103515245, li_1431655765, ec]
      refine so_mono (c_goDay G C hA (by omega) K things stack) ?_
      intro o ho
      have bo : fJ6_bitCount_0f7a4 o.2.2.2.1 = some (iI c) := by rw [ho.2.2.2.1]; exact bc
      simp (disch := omega) only [gd_t, so_some, so_bind, so_gd, so_none, Option.bind_some, iI_add, iI_sub, iI_mul, iI_neg, iI_clamp, iI_nat, vin_i, iI_le, iI_lt, iI_eq, mn_i, mx_i, if_true, if_false, if_pos, if_neg, li_0, li_1, li_2, li_3, li_4, li_5, li_6, li_7, li_8, li_9, li_10, li_11, li_12, li_14, li_15, li_16, li_20, li_21, li_24, li_28, li_30, li_31, li_40, li_41, li_42, li_43, li_44, li_45, li_47, li_48, li_49, li_57, li_59, li_60, li_61, li_62, li_63, li_70, li_71, li_76, li_80, li_96, li_97, li_98, li_99, li_100, li_101, li_102, li_103, li_104, li_105, li_106, li_107, li_108, li_109, li_110, li_111, li_112, li_113, li_114, li_115, li_116, li_117, li_118, li_119, li_120, li_128, li_142, li_255, li_320, li_781, li_852, li_999, li_1000, li_2000, li_3000, li_9999, li_12345, li_65536, li_1000000, li_252645135, li_858993459, li_1103515245, li_1431655765, bo]
      rw [← ec]
      exact s_worst_L G C M hN m (k + 1) f v w (fdy E x) (mdy E ((y.1.1, 0, fun _ => 0), 0, 0)) _ _ _ _ _ _ _ _ _ _ _ _ _ _ _ _ _ _ _ _ _ _ _ _ _ _ _ _ (by omega) (by omega) (by omega) (by omega) wd (by omega) e2 ho hpK
    · simp (disch := omega) only [gd_t, so_some, so_bind, so_gd, so_none, Option.bind_some, iI_add, iI_sub, iI_mul, iI_neg, iI_clamp, iI_nat, vin_i, iI_le, iI_lt, iI_eq, mn_i, mx_i, if_true, if_false, if_pos, if_neg, li_0, li_1, li_2, li_3, li_4, li_5, li_6, li_7, li_8, li_9, li_10, li_11, li_12, li_14, li_15, li_16, li_20, li_21, li_24, li_28, li_30, li_31, li_40, li_41, li_42, li_43, li_44, li_45, li_47, li_48, li_49, li_57, li_59, li_60, li_61, li_62, li_63, li_70, li_71, li_76, li_80, li_96, li_97, li_98, li_99, li_100, li_101, li_102, li_103, li_104, li_105, li_106, li_107, li_108, li_109, li_110, li_111, li_112, li_113, li_114, li_115, li_116, li_117, li_118, li_119, li_120, li_128, li_142, li_255, li_320, li_781, li_852, li_999, li_1000, li_2000, li_3000, li_9999, li_12345, li_65536, li_1000000, li_252645135, li_858993459, li_1103515245, li_1431655765, ec]
      refine so_mono (c_goDay G C hA (by omega) K things stack) ?_
      intro o ho
      have bo : fJ6_bitCount_0f7a4 o.2.2.2.1 = some (iI c) := by rw [ho.2.2.2.1]; exact bc
      simp (disch := omega) only [gd_t, so_some, so_bind, so_gd, so_none, Option.bind_some, iI_add, iI_sub, iI_mul, iI_neg, iI_clamp, iI_nat, vin_i, iI_le, iI_lt, iI_eq, mn_i, mx_i, if_true, if_false, if_pos, if_neg, li_0, li_1, li_2, li_3, li_4, li_5, li_6, li_7, li_8, li_9, li_10, li_11, li_12, li_14, li_15, li_16, li_20, li_21, li_24, li_28, li_30, li_31, li_40, li_41, li_42, li_43, li_44, li_45, li_47, li_48, li_49, li_57, li_59, li_60, li_61, li_62, li_63, li_70, li_71, li_76, li_80, li_96, li_97, li_98, li_99, li_100, li_101, li_102, li_103, li_104, li_105, li_106, li_107, li_108, li_109, li_110, li_111, li_112, li_113, li_114, li_115, li_116, li_117, li_118, li_119, li_120, li_128, li_142, li_255, li_320, li_781, li_852, li_999, li_1000, li_2000, li_3000, li_9999, li_12345, li_65536, li_1000000, li_252645135, li_858993459, li_1103515245, li_1431655765, bo]
      exact s_worst_L G C M hN m (k + 1) f k c (fdy E x) (mdy E ((y.1.1, 0, fun _ => 0), 0, 0)) _ _ _ _ _ _ _ _ _ _ _ _ _ _ _ _ _ _ _ _ _ _ _ _ _ _ _ _ (by omega) (by omega) (by omega) (by omega) wd (by omega) e2 ho (by rw [← ec]; exact hpK)
theorem s_worst {n : Int} {σ : CS} {τ : MS} (h : R n σ τ) (hn : n < 1000) (p1 : Int32) : Ok n (x_worst σ p1) (y_worst τ p1) := by
  obtain ⟨n0, g, c, m, G⟩ := h
  obtain ⟨P, rfl, b0, b1⟩ := iI_of p1
  obtain ⟨c1, c2, c3, c4, c5, c6, c7, c8, c9⟩ := c
  obtain ⟨m1, m2, m3, m4, m5, m6, m7, m8, m9⟩ := m
  have e := G.1.1
  have hS := G.2.2.1
  have a7 := hS.2.2
  unfold Ok x_worst y_worst fX11_worst fX12_worst
  by_cases q : 1 ≤ P ∧ P ≤ 60
  · have z1 := win_t (a := P) (b := 1) (c := 60) (by omega) (by omega) q
    have z2 := in_t (a := P) (b := 1) (c := 60) (by omega) (by omega) q
    obtain ⟨w, hw, hw2⟩ := m_lay0 (b := (τ.2.1 19)) m3
    rw [li_0] at hw
    simp only [li_0, li_1, li_2, iI_neg, li_60, z1, z2, Option.bind_some]
    simp (disch := omega) only [gd_t, so_some, so_bind, so_gd, so_none, Option.bind_some, iI_add, iI_sub, iI_mul, iI_neg, iI_clamp, iI_nat, vin_i, iI_le, iI_lt, iI_eq, mn_i, mx_i, if_true, if_false, if_pos, if_neg, li_0, li_1, li_2, li_3, li_4, li_5, li_6, li_7, li_8, li_9, li_10, li_11, li_12, li_14, li_15, li_16, li_20, li_21, li_24, li_28, li_30, li_31, li_40, li_41, li_42, li_43, li_44, li_45, li_47, li_48, li_49, li_57, li_59, li_60, li_61, li_62, li_63, li_70, li_71, li_76, li_80, li_96, li_97, li_98, li_99, li_100, li_101, li_102, li_103, li_104, li_105, li_106, li_107, li_108, li_109, li_110, li_111, li_112, li_113, li_114, li_115, li_116, li_117, li_118, li_119, li_120, li_128, li_142, li_255, li_320, li_781, li_852, li_999, li_1000, li_2000, li_3000, li_9999, li_12345, li_65536, li_1000000, li_252645135, li_858993459, li_1103515245, li_1431655765, hw]
    refine so_mono (c_beginAt c3 _ _ _ _ _ _ _ _ _) ?_
    intro o ho
    refine so_mono (s_worst_L G.1 c1 m1 q.2 P.toNat 1 FU (-2) 0 (fw0 g.2.2.1) _ _ _ _ _ _ _ _ _ _ (σ.2.1 20) (σ.2.1 19) τ.2.2 (τ.1 11) (τ.1 20) (τ.1 6) (τ.1 25) (τ.1 10) (τ.1 2) (τ.1 4) (τ.1 1) (τ.1 5) (τ.1 0) (τ.1 3) (τ.1 18) (τ.1 13) (τ.1 17) w (τ.2.1 13) (by omega) (by omega) (show _ < 4000 by omega) (by omega) hS.1 (by show g.2.2.1 70 + _ < _; omega) rfl ho (any_Mk hw2 _ _ _ _)) ?_
    rintro r ⟨p, hp, v, u, hv, r1, r2, r3, r4⟩
    simp only [hp, Option.bind_some, so_bind, so_some, r1, r2, r3, r4]
    rcases hv with ⟨rfl, rfl⟩ | hv
    · simp (disch := omega) only [gd_t, so_some, so_bind, so_gd, so_none, Option.bind_some, iI_add, iI_sub, iI_mul, iI_neg, iI_clamp, iI_nat, vin_i, iI_le, iI_lt, iI_eq, mn_i, mx_i, if_true, if_false, if_pos, if_neg, li_0, li_1, li_2, li_3, li_4, li_5, li_6, li_7, li_8, li_9, li_10, li_11, li_12, li_14, li_15, li_16, li_20, li_21, li_24, li_28, li_30, li_31, li_40, li_41, li_42, li_43, li_44, li_45, li_47, li_48, li_49, li_57, li_59, li_60, li_61, li_62, li_63, li_70, li_71, li_76, li_80, li_96, li_97, li_98, li_99, li_100, li_101, li_102, li_103, li_104, li_105, li_106, li_107, li_108, li_109, li_110, li_111, li_112, li_113, li_114, li_115, li_116, li_117, li_118, li_119, li_120, li_128, li_142, li_255, li_320, li_781, li_852, li_999, li_1000, li_2000, li_3000, li_9999, li_12345, li_65536, li_1000000, li_252645135, li_858993459, li_1103515245, li_1431655765]
      exact ⟨(by first | rfl | trivial), R.same ⟨n0.1, hn⟩ G ⟨c1, c2, c3, c4, c5, c6, c7, c8, c9⟩ ⟨m1, m2, m3, m4, m5, m6, m7, m8, m9⟩⟩
    · simp (disch := omega) only [gd_t, so_some, so_bind, so_gd, so_none, Option.bind_some, iI_add, iI_sub, iI_mul, iI_neg, iI_clamp, iI_nat, vin_i, iI_le, iI_lt, iI_eq, mn_i, mx_i, if_true, if_false, if_pos, if_neg, li_0, li_1, li_2, li_3, li_4, li_5, li_6, li_7, li_8, li_9, li_10, li_11, li_12, li_14, li_15, li_16, li_20, li_21, li_24, li_28, li_30, li_31, li_40, li_41, li_42, li_43, li_44, li_45, li_47, li_48, li_49, li_57, li_59, li_60, li_61, li_62, li_63, li_70, li_71, li_76, li_80, li_96, li_97, li_98, li_99, li_100, li_101, li_102, li_103, li_104, li_105, li_106, li_107, li_108, li_109, li_110, li_111, li_112, li_113, li_114, li_115, li_116, li_117, li_118, li_119, li_120, li_128, li_142, li_255, li_320, li_781, li_852, li_999, li_1000, li_2000, li_3000, li_9999, li_12345, li_65536, li_1000000, li_252645135, li_858993459, li_1103515245, li_1431655765]
      refine so_mono (c_tell _ _ _) ?_
      intro t hr
      refine so_mono (m_tell _ _) ?_
      intro u hs
      exact ⟨(by first | rfl | trivial), R.tol ⟨n0.1, hn⟩ G hr (by simp) ⟨c1, c2, c3, c4, c5, c6, hr, c8, c9⟩ ⟨m1, m2, m3, m4, m5, m6, hs, m8, m9⟩⟩
  · have z1 := win_f (a := P) (b := 1) (c := 60) b0 b1 (by omega) (by omega) (by omega) (by omega) q
    have z2 := in_f (a := P) (b := 1) (c := 60) b0 b1 (by omega) (by omega) (by omega) (by omega) q
    simp only [li_0, li_1, li_60, z1, z2, Option.bind_some]
    simp (disch := omega) only [gd_t, so_some, so_bind, so_gd, so_none, Option.bind_some, iI_add, iI_sub, iI_mul, iI_neg, iI_clamp, iI_nat, vin_i, iI_le, iI_lt, iI_eq, mn_i, mx_i, if_true, if_false, if_pos, if_neg, li_0, li_1, li_2, li_3, li_4, li_5, li_6, li_7, li_8, li_9, li_10, li_11, li_12, li_14, li_15, li_16, li_20, li_21, li_24, li_28, li_30, li_31, li_40, li_41, li_42, li_43, li_44, li_45, li_47, li_48, li_49, li_57, li_59, li_60, li_61, li_62, li_63, li_70, li_71, li_76, li_80, li_96, li_97, li_98, li_99, li_100, li_101, li_102, li_103, li_104, li_105, li_106, li_107, li_108, li_109, li_110, li_111, li_112, li_113, li_114, li_115, li_116, li_117, li_118, li_119, li_120, li_128, li_142, li_255, li_320, li_781, li_852, li_999, li_1000, li_2000, li_3000, li_9999, li_12345, li_65536, li_1000000, li_252645135, li_858993459, li_1103515245, li_1431655765]
    exact ⟨(by first | rfl | trivial), R.same ⟨n0.1, hn⟩ G ⟨c1, c2, c3, c4, c5, c6, c7, c8, c9⟩ ⟨m1, m2, m3, m4, m5, m6, m7, m8, m9⟩⟩
theorem Int32_or0 (x : Int32) : x ||| iI 0 = x := Int32.toBitVec_inj.1 (by
  rw [Int32.toBitVec_or]
  exact BitVec.or_zero)
/-- lazy() -/
theorem s_lazy_L {h : Int} (h7 : h ≤ 7) {a b : Nat → Int32} {B : Int → Int} (ha : Arr 7 a B) (hb : Arr 7 b B) (hB : ∀ i, 0 ≤ i → i < 7 → -2147483648 ≤ B i ∧ B i < 2147483648) : ∀ (m : Nat) (k : Int) (f : Nat) (v : Int32), 0 ≤ k → k + m = h → m < f →
    So (fX11_lazy_L31 (iI h) a f v (iI k)) (fun o => fX12_lazy_L23 (iI h) b f v (iI k) = some o)
  | 0, k, f + 1, v, k0, hk, hf => by
    rw [fX11_lazy_L31, fX12_lazy_L23]
    simp (disch := omega) only [gd_t, so_some, so_bind, so_gd, so_none, Option.bind_some, iI_add, iI_sub, iI_mul, iI_neg, iI_clamp, iI_nat, vin_i, iI_le, iI_lt, iI_eq, mn_i, mx_i, if_true, if_false, if_pos, if_neg, li_0, li_1, li_2, li_3, li_4, li_5, li_6, li_7, li_8, li_9, li_10, li_11, li_12, li_14, li_15, li_16, li_20, li_21, li_24, li_28, li_30, li_31, li_40, li_41, li_42, li_43, li_44, li_45, li_47, li_48, li_49, li_57, li_59, li_60, li_61, li_62, li_63, li_70, li_71, li_76, li_80, li_96, li_97, li_98, li_99, li_100, li_101, li_102, li_103, li_104, li_105, li_106, li_107, li_108, li_109, li_110, li_111, li_112, li_113, li_114, li_115, li_116, li_117, li_118, li_119, li_120, li_128, li_142, li_255, li_320, li_781, li_852, li_999, li_1000, li_2000, li_3000, li_9999, li_12345, li_65536, li_1000000, li_252645135, li_858993459, li_1103515245, li_1431655765]
  | m + 1, k, f + 1, v, k0, hk, hf => by
    have x := hB k k0 (by omega)
    rw [fX11_lazy_L31, fX12_lazy_L23]
    by_cases q : B k = 0
    · simp (disch := omega) only [gd_t, so_some, so_bind, so_gd, so_none, Option.bind_some, iI_add, iI_sub, iI_mul, iI_neg, iI_clamp, iI_nat, vin_i, iI_le, iI_lt, iI_eq, mn_i, mx_i, if_true, if_false, if_pos, if_neg, li_0, li_1, li_2, li_3, li_4, li_5, li_6, li_7, li_8, li_9, li_10, li_11, li_12, li_14, li_15, li_16, li_20, li_21, li_24, li_28, li_30, li_31, li_40, li_41, li_42, li_43, li_44, li_45, li_47, li_48, li_49, li_57, li_59, li_60, li_61, li_62, li_63, li_70, li_71, li_76, li_80, li_96, li_97, li_98, li_99, li_100, li_101, li_102, li_103, li_104, li_105, li_106, li_107, li_108, li_109, li_110, li_111, li_112, li_113, li_114, li_115, li_116, li_117, li_118, li_119, li_120, li_128, li_142, li_255, li_320, li_781, li_852, li_999, li_1000, li_2000, li_3000, li_9999, li_12345, li_65536, li_1000000, li_252645135, li_858993459, li_1103515245, li_1431655765, ha.at, hb.at]
      exact s_lazy_L h7 ha hb hB m (k + 1) f _ (by omega) (by omega) (by omega)
    · simp (disch := omega) only [gd_t, so_some, so_bind, so_gd, so_none, Option.bind_some, iI_add, iI_sub, iI_mul, iI_neg, iI_clamp, iI_nat, vin_i, iI_le, iI_lt, iI_eq, mn_i, mx_i, if_true, if_false, if_pos, if_neg, li_0, li_1, li_2, li_3, li_4, li_5, li_6, li_7, li_8, li_9, li_10, li_11, li_12, li_14, li_15, li_16, li_20, li_21, li_24, li_28, li_30, li_31, li_40, li_41, li_42, li_43, li_44, li_45, li_47, li_48, li_49, li_57, li_59, li_60, li_61, li_62, li_63, li_70, li_71, li_76, li_80, li_96, li_97, li_98, li_99, li_100, li_101, li_102, li_103, li_104, li_105, li_106, li_107, li_108, li_109, li_110, li_111, li_112, li_113, li_114, li_115, li_116, li_117, li_118, li_119, li_120, li_128, li_142, li_255, li_320, li_781, li_852, li_999, li_1000, li_2000, li_3000, li_9999, li_12345, li_65536, li_1000000, li_252645135, li_858993459, li_1103515245, li_1431655765, ha.at, hb.at, Int32_or0]
      exact s_lazy_L h7 ha hb hB m (k + 1) f _ (by omega) (by omega) (by omega)
/-- what is struck: the bits of the houses are the same -/
def bq (h : Int) (x y : Int32) : Prop := ∀ j : Nat, (j : Int) < h → bt x j = bt y j
theorem st_bq {E : EN} (G : EnG E) {th : Int} {A : Int → Int} : ∀ (m : Nat) (k : Int) (b c : Int32), 0 ≤ k → k + m = 2 * E.1 → bq E.1 b c → bq E.1 (stC E th A m k b) (stM E th A m k c)
  | 0, k, b, c, k0, hk, H => H
  | m + 1, k, b, c, k0, hk, H => by
    have g := G.1
    have bl := G.2.2.1 k k0 (by omega)
    rw [stC, stM]
    refine st_bq G m (k + 1) _ _ (by omega) (by omega) ?_
    by_cases q : A k ≤ max 0 (E.2.1 (k / 2) - th)
    · rw [if_pos q, if_pos q]; exact H
    · rw [if_neg q, if_neg q]
      by_cases q2 : E.2.2.1 k = k / 2
      · rw [if_pos q2, if_pos (by omega), if_pos q2.symm]
        rw [show (b ||| 0) = b from Int32_or0 b]
        exact H
      · rw [if_neg q2]
        by_cases q3 : E.2.2.1 k < E.1
        · rw [if_pos q3, if_neg (by omega)]
          intro j hj
          rw [bt_or, bt_or, H j hj]
        · rw [if_neg q3]
          intro j hj
          rw [bt_or, bt_one bl.1 (by omega) (by omega), decide_eq_false (by omega), Bool.or_false]
          exact H j hj
theorem dys_bq {E : EN} (G : EnG E) : ∀ (n : Nat) (x : FW) (y : MW), x.1.1 = y.1.1 → bq E.1 x.2.2.1 y.2.2 → bq E.1 (fdys E n x).2.2.1 (mdys E n y).2.2
  | 0, x, y, _, H => H
  | n + 1, x, y, hxy, H => by
    have g := G.1
    rw [fdys, mdys]
    refine dys_bq G n (fdy E x) (mdy E y) (dy_A hxy) ?_
    unfold fdy mdy
    dsimp only
    rw [← hxy]
    exact st_bq G _ _ _ _ (by omega) (by omega) H
theorem one_sh : ∀ h : Fin 8, ∀ j : Fin 32, bt ((1 <<< (iI (h.val : Int) &&& 31)) - 1) j.val = decide (j.val < h.val) := by decide
theorem bt_and (x y : Int32) (j : Nat) : bt (x &&& y) j = (bt x j && bt y j) := by
  unfold bt
  rw [Int32.toBitVec_and, BitVec.getLsbD_and]
theorem bt_xor (x y : Int32) (j : Nat) : bt (x ^^^ y) j = (bt x j ^^ bt y j) := by
  unfold bt
  rw [Int32.toBitVec_xor, BitVec.getLsbD_xor]
theorem msk_eq {h : Int} (h0 : 0 ≤ h) (h7 : h ≤ 7) {x y : Int32} (H : bq h x y) (m : Int32) : ((((1 : Int32) <<< (iI h &&& 31)) - 1) &&& (x ^^^ m)) = ((((1 : Int32) <<< (iI h &&& 31)) - 1) &&& (y ^^^ m)) := by
  apply bt_ext
  intro j hj
  have o := one_sh ⟨h.toNat, by omega⟩ ⟨j, hj⟩
  rw [show (((⟨h.toNat, by omega⟩ : Fin 8).val : Nat) : Int) = h by show ((h.toNat : Nat) : Int) = h; omega] at o
  rw [bt_and, bt_and, bt_xor, bt_xor, o]
  by_cases q : (j : Int) < h
  · rw [H j q]
  · rw [decide_eq_false (show ¬ j < h.toNat by omega), Bool.false_and, Bool.false_and]
theorem s_lazy {n : Int} {σ : CS} {τ : MS} (h : R n σ τ) (hn : n < 1000) (p1 : Int32) : Ok n (x_lazy σ p1) (y_lazy τ p1) := by
  obtain ⟨n0, g, c, m, G⟩ := h
  obtain ⟨P, rfl, b0, b1⟩ := iI_of p1
  obtain ⟨c1, c2, c3, c4, c5, c6, c7, c8, c9⟩ := c
  obtain ⟨m1, m2, m3, m4, m5, m6, m7, m8, m9⟩ := m
  have e := G.1.1
  have hS := G.2.2.1
  have a7 := hS.2.2
  unfold Ok x_lazy y_lazy fX11_lazy fX12_lazy
  by_cases q : 0 ≤ P ∧ P ≤ 60
  · have hw := c_walkFrom G.1 c1 hS.1 q.1 (by omega) (by omega) c3 (σ.1 28) (σ.1 30) (σ.1 32) (σ.1 29) (σ.1 31) (σ.2.1 35) (σ.2.1 34) (σ.2.1 33) (σ.2.1 32) (σ.2.1 20) (σ.2.1 19)
    obtain ⟨go, hgo, k1, k2, k3, k4, k5⟩ := m_goOn G.1 m1 hS.1 q.1 (by omega) (by omega) m3 τ.2.2 (τ.1 11) (τ.1 20) (τ.1 6) (τ.1 25) (τ.1 10) (τ.1 2) (τ.1 4) (τ.1 1) (τ.1 5) (τ.1 0) (τ.1 3) (τ.1 18) (τ.1 13) (τ.1 17) (τ.2.1 13) (τ.2.1 19)
    have z1 := win_t (a := P) (b := 0) (c := 60) (by omega) (by omega) q
    have z2 := isD_t q
    have hbq := dys_bq G.1 P.toNat (fw0 g.2.2.1) (mw0 g.2.2.1) rfl (fun j _ => rfl)
    simp only [li_0, li_60, z1, z2, Option.bind_some, hgo]
    simp (disch := omega) only [gd_t, so_some, so_bind, so_gd, so_none, Option.bind_some, iI_add, iI_sub, iI_mul, iI_neg, iI_clamp, iI_nat, vin_i, iI_le, iI_lt, iI_eq, mn_i, mx_i, if_true, if_false, if_pos, if_neg, li_0, li_1, li_2, li_3, li_4, li_5, li_6, li_7, li_8, li_9, li_10, li_11, li_12, li_14, li_15, li_16, li_20, li_21, li_24, li_28, li_30, li_31, li_40, li_41, li_42, li_43, li_44, li_45, li_47, li_48, li_49, li_57, li_59, li_60, li_61, li_62, li_63, li_70, li_71, li_76, li_80, li_96, li_97, li_98, li_99, li_100, li_101, li_102, li_103, li_104, li_105, li_106, li_107, li_108, li_109, li_110, li_111, li_112, li_113, li_114, li_115, li_116, li_117, li_118, li_119, li_120, li_128, li_142, li_255, li_320, li_781, li_852, li_999, li_1000, li_2000, li_3000, li_9999, li_12345, li_65536, li_1000000, li_252645135, li_858993459, li_1103515245, li_1431655765]
    refine so_mono hw ?_
    rintro o ⟨d1, d2, d3, d4, d5, d9⟩
    rw [fdys_1] at d9
    rw [mdys_1] at k4
    have ob : ∀ i, 0 ≤ (dys g.1 P.toNat (ws0 g.2.2.1)).2.2 i ∧ (dys g.1 P.toNat (ws0 g.2.2.1)).2.2 i ≤ 0 + 1386 * (P.toNat : Int) := fun i => dys_ob G.1 i P.toNat (ws0 g.2.2.1)
    have e9 : Arr 7 _ (dys g.1 P.toNat (ws0 g.2.2.1)).2.2 := d9
    have e4 : Arr 7 _ (dys g.1 P.toNat (ws0 g.2.2.1)).2.2 := k4
    rw [c1.1, m1.1]
    refine so_mono (s_lazy_L e.2 e9 e4 (fun i i0 i1 => by have := ob i; omega) g.1.1.toNat 0 FU _ (by omega) (by omega) (show _ < 4000 by omega)) ?_
    intro r hr
    unfold fX7_allBits
    have mq := msk_eq e.1 e.2 hbq (iI (-1))
    simp only [hr, so_some, so_bind, Option.bind_some, d3, k3]
    refine so_mono (c_tell _ _ _) ?_
    intro t ht
    refine so_mono (m_tell _ _) ?_
    intro u hs
    simp only [li_31, li_1] at ht hs mq
    rw [mq] at ht
    exact ⟨(by first | rfl | trivial), R.tol ⟨n0.1, hn⟩ G ht (by simp) ⟨c1, c2, c3, c4, c5, c6, ht, c8, c9⟩ ⟨m1, m2, m3, m4, m5, m6, hs, m8, m9⟩⟩
  · have z1 := win_f (a := P) (b := 0) (c := 60) b0 b1 (by omega) (by omega) (by omega) (by omega) q
    have z2 := isD_f b0 b1 q
    simp only [li_0, li_60, z1, z2, Option.bind_some]
    simp (disch := omega) only [gd_t, so_some, so_bind, so_gd, so_none, Option.bind_some, iI_add, iI_sub, iI_mul, iI_neg, iI_clamp, iI_nat, vin_i, iI_le, iI_lt, iI_eq, mn_i, mx_i, if_true, if_false, if_pos, if_neg, li_0, li_1, li_2, li_3, li_4, li_5, li_6, li_7, li_8, li_9, li_10, li_11, li_12, li_14, li_15, li_16, li_20, li_21, li_24, li_28, li_30, li_31, li_40, li_41, li_42, li_43, li_44, li_45, li_47, li_48, li_49, li_57, li_59, li_60, li_61, li_62, li_63, li_70, li_71, li_76, li_80, li_96, li_97, li_98, li_99, li_100, li_101, li_102, li_103, li_104, li_105, li_106, li_107, li_108, li_109, li_110, li_111, li_112, li_113, li_114, li_115, li_116, li_117, li_118, li_119, li_120, li_128, li_142, li_255, li_320, li_781, li_852, li_999, li_1000, li_2000, li_3000, li_9999, li_12345, li_65536, li_1000000, li_252645135, li_858993459, li_1103515245, li_1431655765]
    exact ⟨(by first | rfl | trivial), R.same ⟨n0.1, hn⟩ G ⟨c1, c2, c3, c4, c5, c6, c7, c8, c9⟩ ⟨m1, m2, m3, m4, m5, m6, m7, m8, m9⟩⟩
