theorem dyS_A {E : EN} {th : Int} {t t' : WS} {k : Int} (h : t.1 = t'.1) : (dyS E th t k).1 = (dyS E th t' k).1 := by
  unfold dyS
  rw [h]
  split
  · exact h
  · show slA E t.1 k (k / 2) 0 = slA E t'.1 k (k / 2) 0
    rw [h]
theorem dyI_A {E : EN} {th : Int} : ∀ (m : Nat) (k : Int) (t t' : WS), t.1 = t'.1 → (dyI E th m k t).1 = (dyI E th m k t').1
  | 0, _, _, _, h => h
  | m + 1, k, t, t', h => dyI_A m (k + 1) (dyS E th t k) (dyS E th t' k) (dyS_A h)
theorem dy_A {E : EN} {t t' : WS} (h : t.1 = t'.1) : (dy E t).1 = (dy E t').1 := by
  have e := dyI_A (E := E) (th := thw E t.1) (2 * E.1).toNat 0 (dyF E t.1, t.2) (dyF E t.1, t'.2) rfl
  unfold dy
  rw [← h]
  dsimp only
  rw [e]
theorem any_Mk {A : Int → Int} {a : Nat → Int32} (ha : Arr 71 a A) (sm on si : Int32) (owedBy : Nat → Int32) : Mk ((A, on.toInt, fun x => (owedBy x.toNat).toInt), sm.toInt, si) sm on si owedBy a :=
  ⟨(Int32.ofInt_toInt _).symm, (Int32.ofInt_toInt _).symm, rfl, arr_any 7 owedBy, ha⟩
theorem s_deep_L {E : EN} (G : EnG E) {hoC cy le : Int32} {hold below inches code : Nat → Int32} (C : EnC E hoC cy le hold below inches code) {hoM many size : Int32} {holdM belowM weather rule : Nat → Int32} (M : EnM E hoM many size holdM belowM weather rule) {N b : Int} (hN : N ≤ 60) (b0 : 0 ≤ b) (b1 : b < E.1) :
    ∀ (m : Nat) (k : Int) (f : Nat) (v w : Int) (x : FW) (y : MW) (owed slides struck slid now : Int32) (snow path debt owedBy things stack : Nat → Int32) (rr : Nat) (len top at' wrong asked i1 i2 i3 i4 i5 i6 sm on si : Int32) (th oM : Nat → Int32),
    1 ≤ k → k + m = N + 1 → m < f → 0 ≤ v → v ≤ 999 → WA x.1.1 → x.1.1 70 + m < 2147483648 → x.1.1 = y.1.1 → Wk x owed slides struck slid now snow path debt owedBy → Mk y sm on si oM th →
    So (fX11_deepest_L56 hoC cy le inches hold below code (iI b) (iI N) f (iI v) (iI w) (iI k) owed slides struck slid now snow path debt owedBy things stack)
      (fun o => So (fX12_deepest_L50 hoM many size weather holdM belowM rule (iI b) (iI N) f (iI v) (iI w) (iI k) rr len top at' wrong asked i1 i2 i3 i4 i5 i6 sm on si th oM) (fun p => o.1 = p.1 ∧ o.2.1 = p.2.1))
  | 0, k, f + 1, v, w, x, y, owed, slides, struck, slid, now, snow, path, debt, owedBy, things, stack, rr, len, top, at', wrong, asked, i1, i2, i3, i4, i5, i6, sm, on, si, th, oM, h0, hk, hf, v0, v1, hA, hn, hxy, K, L => by
    rw [fX11_deepest_L56, fX12_deepest_L50]
    simp (disch := omega) only [gd_t, so_some, so_bind, so_gd, so_none, Option.bind_some, iI_add, iI_sub, iI_mul, iI_neg, iI_clamp, iI_nat, vin_i, iI_le, iI_lt, iI_eq, mn_i, mx_i, if_true, if_false, if_pos, if_neg, li_0, li_1, li_2, li_3, li_4, li_5, li_6, li_7, li_8, li_9, li_10, li_11, li_12, li_14, li_15, li_16, li_20, li_21, li_24, li_28, li_30, li_31, li_40, li_41, li_42, li_43, li_44, li_45, li_47, li_48, li_49, li_57, li_59, li_60, li_61, li_62, li_63, li_70, li_71, li_76, li_80, li_96, li_97, li_98, li_99, li_100, li_101, li_102, li_103, li_104, li_105, li_106, li_107, li_108, li_109, li_110, li_111, li_112, li_113, li_114, li_115, li_116, li_117, li_118, li_119, li_120, li_128, li_142, li_255, li_320, li_781, li_852, li_999, li_1000, li_2000, li_3000, li_9999, li_12345, li_65536, li_1000000, li_252645135, li_858993459, li_1103515245, li_1431655765]
    exact ⟨(by first | rfl | trivial), (by first | rfl | trivial)⟩
  | m + 1, k, f + 1, v, w, x, y, owed, slides, struck, slid, now, snow, path, debt, owedBy, things, stack, rr, len, top, at', wrong, asked, i1, i2, i3, i4, i5, i6, sm, on, si, th, oM, h0, hk, hf, v0, v1, hA, hn, hxy, K, L => by
    have g := G.1
    obtain ⟨p, hp, hpK⟩ := m_goDay G M (x := y) (by rw [← hxy]; exact hA) (by rw [← hxy]; omega) L rr len top at' wrong asked i1 i2 i3 i4 i5 i6
    rw [fX11_deepest_L56, fX12_deepest_L50]
    simp (disch := omega) only [gd_t, so_some, so_bind, so_gd, so_none, Option.bind_some, iI_add, iI_sub, iI_mul, iI_neg, iI_clamp, iI_nat, vin_i, iI_le, iI_lt, iI_eq, mn_i, mx_i, if_true, if_false, if_pos, if_neg, li_0, li_1, li_2, li_3, li_4, li_5, li_6, li_7, li_8, li_9, li_10, li_11, li_12, li_14, li_15, li_16, li_20, li_21, li_24, li_28, li_30, li_31, li_40, li_41, li_42, li_43, li_44, li_45, li_47, li_48, li_49, li_57, li_59, li_60, li_61, li_62, li_63, li_70, li_71, li_76, li_80, li_96, li_97, li_98, li_99, li_100, li_101, li_102, li_103, li_104, li_105, li_106, li_107, li_108, li_109, li_110, li_111, li_112, li_113, li_114, li_115, li_116, li_117, li_118, li_119, li_120, li_128, li_142, li_255, li_320, li_781, li_852, li_999, li_1000, li_2000, li_3000, li_9999, li_12345, li_65536, li_1000000, li_252645135, li_858993459, li_1103515245, li_1431655765, hp]
    refine so_mono (c_goDay G C hA (by omega) K things stack) ?_
    intro o ho
    have e2 : (fdy E x).1.1 = (mdy E y).1.1 := dy_A hxy
    have wd : WA (fdy E x).1.1 := wa_dy G hA
    have a1 := wd.1 (14 + b) (by omega) (by omega)
    have hp7 := ho.2.2.2.2.1.2.2.1
    have hm7 := hpK.2.2.2.2
    have d70 : (fdy E x).1.1 70 = x.1.1 70 + 1 := dy_70 E x.1
    have r1 := hp7.at b0 (by omega)
    have r2 := hm7.at (x := 14 + b) (by omega) (by omega)
    rw [← e2] at r2
    rw [r1, r2]
    by_cases q : (fdy E x).1.1 (14 + b) ≤ v
    · simp (disch := omega) only [gd_t, so_some, so_bind, so_gd, so_none, Option.bind_some, iI_add, iI_sub, iI_mul, iI_neg, iI_clamp, iI_nat, vin_i, iI_le, iI_lt, iI_eq, mn_i, mx_i, if_true, if_false, if_pos, if_neg, li_0, li_1, li_2, li_3, li_4, li_5, li_6, li_7, li_8, li_9, li_10, li_11, li_12, li_14, li_15, li_16, li_20, li_21, li_24, li_28, li_30, li_31, li_40, li_41, li_42, li_43, li_44, li_45, li_47, li_48, li_49, li_57, li_59, li_60, li_61, li_62, li_63, li_70, li_71, li_76, li_80, li_96, li_97, li_98, li_99, li_100, li_101, li_102, li_103, li_104, li_105, li_106, li_107, li_108, li_109, li_110, li_111, li_112, li_113, li_114, li_115, li_116, li_117, li_118, li_119, li_120, li_128, li_142, li_255, li_320, li_781, li_852, li_999, li_1000, li_2000, li_3000, li_9999, li_12345, li_65536, li_1000000, li_252645135, li_858993459, li_1103515245, li_1431655765]
      exact s_deep_L G C M hN b0 b1 m (k + 1) f v w (fdy E x) (mdy E y) _ _ _ _ _ _ _ _ _ _ _ _ _ _ _ _ _ _ _ _ _ _ _ _ _ _ _ _ (by omega) (by omega) (by omega) v0 v1 wd (by omega) e2 ho hpK
    · simp (disch := omega) only [gd_t, so_some, so_bind, so_gd, so_none, Option.bind_some, iI_add, iI_sub, iI_mul, iI_neg, iI_clamp, iI_nat, vin_i, iI_le, iI_lt, iI_eq, mn_i, mx_i, if_true, if_false, if_pos, if_neg, li_0, li_1, li_2, li_3, li_4, li_5, li_6, li_7, li_8, li_9, li_10, li_11, li_12, li_14, li_15, li_16, li_20, li_21, li_24, li_28, li_30, li_31, li_40, li_41, li_42, li_43, li_44, li_45, li_47, li_48, li_49, li_57, li_59, li_60, li_61, li_62, li_63, li_70, li_71, li_76, li_80, li_96, li_97, li_98, li_99, li_100, li_101, li_102, li_103, li_104, li_105, li_106, li_107, li_108, li_109, li_110, li_111, li_112, li_113, li_114, li_115, li_116, li_117, li_118, li_119, li_120, li_128, li_142, li_255, li_320, li_781, li_852, li_999, li_1000, li_2000, li_3000, li_9999, li_12345, li_65536, li_1000000, li_252645135, li_858993459, li_1103515245, li_1431655765]
      exact s_deep_L G C M hN b0 b1 m (k + 1) f _ k (fdy E x) (mdy E y) _ _ _ _ _ _ _ _ _ _ _ _ _ _ _ _ _ _ _ _ _ _ _ _ _ _ _ _ (by omega) (by omega) (by omega) (by omega) (by omega) wd (by omega) e2 ho hpK
theorem s_deepest {n : Int} {σ : CS} {τ : MS} (h : R n σ τ) (hn : n < 1000) (p1 p2 : Int32) : Ok n (x_deepest σ p1 p2) (y_deepest τ p1 p2) := by
  obtain ⟨n0, g, c, m, G⟩ := h
  obtain ⟨Q, rfl, b2, b3⟩ := iI_of p1
  obtain ⟨P, rfl, b0, b1⟩ := iI_of p2
  obtain ⟨c1, c2, c3, c4, c5, c6, c7, c8, c9⟩ := c
  obtain ⟨m1, m2, m3, m4, m5, m6, m7, m8, m9⟩ := m
  have e := G.1.1
  have hS := G.2.2.1
  have a7 := hS.2.2
  unfold Ok x_deepest y_deepest fX11_deepest fX12_deepest
  by_cases q2 : 0 ≤ Q ∧ Q < g.1.1
  · have z3 := has_t e.1 e.2 q2
    have z4 := isH_t e.1 e.2 q2
    rw [← c1.1] at z3
    rw [← m1.1] at z4
    by_cases q : 0 ≤ P ∧ P ≤ 60
    · have z1 := win_t (a := P) (b := 0) (c := 60) (by omega) (by omega) q
      have z2 := isD_t q
      have a := hS.1.1 (14 + Q) (by omega) (by omega)
      have hp := c3.2.2.1
      obtain ⟨w, hw, hw2⟩ := m_lay0 (b := (τ.2.1 19)) m3
      rw [li_0] at hw
      simp only [li_0, li_60, z1, z2, z3, z4, Option.bind_some]
      simp (disch := omega) only [gd_t, so_some, so_bind, so_gd, so_none, Option.bind_some, iI_add, iI_sub, iI_mul, iI_neg, iI_clamp, iI_nat, vin_i, iI_le, iI_lt, iI_eq, mn_i, mx_i, if_true, if_false, if_pos, if_neg, li_0, li_1, li_2, li_3, li_4, li_5, li_6, li_7, li_8, li_9, li_10, li_11, li_12, li_14, li_15, li_16, li_20, li_21, li_24, li_28, li_30, li_31, li_40, li_41, li_42, li_43, li_44, li_45, li_47, li_48, li_49, li_57, li_59, li_60, li_61, li_62, li_63, li_70, li_71, li_76, li_80, li_96, li_97, li_98, li_99, li_100, li_101, li_102, li_103, li_104, li_105, li_106, li_107, li_108, li_109, li_110, li_111, li_112, li_113, li_114, li_115, li_116, li_117, li_118, li_119, li_120, li_128, li_142, li_255, li_320, li_781, li_852, li_999, li_1000, li_2000, li_3000, li_9999, li_12345, li_65536, li_1000000, li_252645135, li_858993459, li_1103515245, li_1431655765, hp.at, hw, hw2.at]
      refine so_mono (c_beginAt c3 _ _ _ _ _ _ _ _ _) ?_
      intro o ho
      refine so_mono (s_deep_L G.1 c1 m1 q.2 q2.1 q2.2 P.toNat 1 FU (g.2.2.1 (14 + Q)) 0 (fw0 g.2.2.1) _ _ _ _ _ _ _ _ _ _ (σ.2.1 20) (σ.2.1 19) τ.2.2 (τ.1 11) (τ.1 20) (τ.1 6) (τ.1 25) (τ.1 10) (τ.1 2) (τ.1 4) (τ.1 1) (τ.1 5) (τ.1 0) (τ.1 3) (τ.1 18) (τ.1 13) (τ.1 17) w (τ.2.1 13) (by omega) (by omega) (show _ < 4000 by omega) a.1 a.2 hS.1 (by show g.2.2.1 70 + _ < _; omega) rfl ho (any_Mk hw2 _ _ _ _)) ?_
      rintro r ⟨p, hp, r1, r2⟩
      simp only [hp, so_some]
      rw [r2]
      refine so_mono (c_tell _ _ _) ?_
      intro t hr
      refine so_mono (m_tell _ _) ?_
      intro u hs
      exact ⟨r1, R.tol ⟨n0.1, hn⟩ G hr (by simp) ⟨c1, c2, c3, c4, c5, c6, hr, c8, c9⟩ ⟨m1, m2, m3, m4, m5, m6, hs, m8, m9⟩⟩
    · have z1 := win_f (a := P) (b := 0) (c := 60) b0 b1 (by omega) (by omega) (by omega) (by omega) q
      have z2 := isD_f b0 b1 q
      simp only [li_0, li_60, z1, z2, z3, z4, Option.bind_some]
      simp (disch := omega) only [gd_t, so_some, so_bind, so_gd, so_none, Option.bind_some, iI_add, iI_sub, iI_mul, iI_neg, iI_clamp, iI_nat, vin_i, iI_le, iI_lt, iI_eq, mn_i, mx_i, if_true, if_false, if_pos, if_neg, li_0, li_1, li_2, li_3, li_4, li_5, li_6, li_7, li_8, li_9, li_10, li_11, li_12, li_14, li_15, li_16, li_20, li_21, li_24, li_28, li_30, li_31, li_40, li_41, li_42, li_43, li_44, li_45, li_47, li_48, li_49, li_57, li_59, li_60, li_61, li_62, li_63, li_70, li_71, li_76, li_80, li_96, li_97, li_98, li_99, li_100, li_101, li_102, li_103, li_104, li_105, li_106, li_107, li_108, li_109, li_110, li_111, li_112, li_113, li_114, li_115, li_116, li_117, li_118, li_119, li_120, li_128, li_142, li_255, li_320, li_781, li_852, li_999, li_1000, li_2000, li_3000, li_9999, li_12345, li_65536, li_1000000, li_252645135, li_858993459, li_1103515245, li_1431655765]
      exact ⟨(by first | rfl | trivial), R.same ⟨n0.1, hn⟩ G ⟨c1, c2, c3, c4, c5, c6, c7, c8, c9⟩ ⟨m1, m2, m3, m4, m5, m6, m7, m8, m9⟩⟩
  · have z3 := has_f e.1 e.2 b2 b3 q2
    have z4 := isH_f e.1 e.2 b2 b3 q2
    rw [← c1.1] at z3
    rw [← m1.1] at z4
    simp only [z3, z4, Option.bind_some]
    simp (disch := omega) only [gd_t, so_some, so_bind, so_gd, so_none, Option.bind_some, iI_add, iI_sub, iI_mul, iI_neg, iI_clamp, iI_nat, vin_i, iI_le, iI_lt, iI_eq, mn_i, mx_i, if_true, if_false, if_pos, if_neg, li_0, li_1, li_2, li_3, li_4, li_5, li_6, li_7, li_8, li_9, li_10, li_11, li_12, li_14, li_15, li_16, li_20, li_21, li_24, li_28, li_30, li_31, li_40, li_41, li_42, li_43, li_44, li_45, li_47, li_48, li_49, li_57, li_59, li_60, li_61, li_62, li_63, li_70, li_71, li_76, li_80, li_96, li_97, li_98, li_99, li_100, li_101, li_102, li_103, li_104, li_105, li_106, li_107, li_108, li_109, li_110, li_111, li_112, li_113, li_114, li_115, li_116, li_117, li_118, li_119, li_120, li_128, li_142, li_255, li_320, li_781, li_852, li_999, li_1000, li_2000, li_3000, li_9999, li_12345, li_65536, li_1000000, li_252645135, li_858993459, li_1103515245, li_1431655765]
    exact ⟨(by first | rfl | trivial), R.same ⟨n0.1, hn⟩ G ⟨c1, c2, c3, c4, c5, c6, c7, c8, c9⟩ ⟨m1, m2, m3, m4, m5, m6, m7, m8, m9⟩⟩
