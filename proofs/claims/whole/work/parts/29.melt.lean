theorem sI_sh (f : Int → Int) (d : Int) : ∀ (m : Nat) (k : Int), sI f m (d + k) = sI (fun i => f (d + i)) m k
  | 0, _ => rfl
  | m + 1, k => by
    rw [sI, sI, show d + k + 1 = d + (k + 1) by omega, sI_sh f d m (k + 1)]
theorem bare_L {A : Int → Int} (hA : WA A) {a : Nat → Int32} (ha : Arr 71 a A) : ∀ (m : Nat) (k : Int) (f : Nat), 0 ≤ k → k + m = 21 → m < f →
    fX12_isBareOf_L2 a f (iI k) = some (if sI A m k = 0 then Sum.inl () else Sum.inr (iI 0))
  | 0, k, f + 1, h0, hk, hf => by
    rw [fX12_isBareOf_L2]
    simp (disch := omega) only [gd_t, so_some, so_bind, so_gd, so_none, Option.bind_some, iI_add, iI_sub, iI_mul, iI_neg, iI_clamp, iI_nat, vin_i, iI_le, iI_lt, iI_eq, mn_i, mx_i, if_true, if_false, if_pos, if_neg, li_0, li_1, li_2, li_3, li_4, li_5, li_6, li_7, li_8, li_9, li_10, li_11, li_12, li_14, li_15, li_16, li_20, li_21, li_24, li_28, li_30, li_31, li_40, li_41, li_42, li_43, li_44, li_45, li_47, li_48, li_49, li_57, li_59, li_60, li_61, li_62, li_63, li_70, li_71, li_76, li_80, li_96, li_97, li_98, li_99, li_100, li_101, li_102, li_103, li_104, li_105, li_106, li_107, li_108, li_109, li_110, li_111, li_112, li_113, li_114, li_115, li_116, li_117, li_118, li_119, li_120, li_128, li_142, li_255, li_320, li_781, li_852, li_999, li_1000, li_2000, li_3000, li_9999, li_12345, li_65536, li_1000000, li_252645135, li_858993459, li_1103515245, li_1431655765, sI]
  | m + 1, k, f + 1, h0, hk, hf => by
    have a1 := hA.1 k h0 (by omega)
    have b := sI_b (f := A) (c := 999) (m := m) (k := k + 1) (fun j j0 j1 => hA.1 j (by omega) (by omega))
    rw [fX12_isBareOf_L2]
    by_cases q : A k ≤ 0
    · simp (disch := omega) only [gd_t, so_some, so_bind, so_gd, so_none, Option.bind_some, iI_add, iI_sub, iI_mul, iI_neg, iI_clamp, iI_nat, vin_i, iI_le, iI_lt, iI_eq, mn_i, mx_i, if_true, if_false, if_pos, if_neg, li_0, li_1, li_2, li_3, li_4, li_5, li_6, li_7, li_8, li_9, li_10, li_11, li_12, li_14, li_15, li_16, li_20, li_21, li_24, li_28, li_30, li_31, li_40, li_41, li_42, li_43, li_44, li_45, li_47, li_48, li_49, li_57, li_59, li_60, li_61, li_62, li_63, li_70, li_71, li_76, li_80, li_96, li_97, li_98, li_99, li_100, li_101, li_102, li_103, li_104, li_105, li_106, li_107, li_108, li_109, li_110, li_111, li_112, li_113, li_114, li_115, li_116, li_117, li_118, li_119, li_120, li_128, li_142, li_255, li_320, li_781, li_852, li_999, li_1000, li_2000, li_3000, li_9999, li_12345, li_65536, li_1000000, li_252645135, li_858993459, li_1103515245, li_1431655765, ha.at]
      rw [bare_L hA ha m (k + 1) f (by omega) (by omega) (by omega), sI, show A k = 0 by omega, Int.zero_add]
    · simp (disch := omega) only [gd_t, so_some, so_bind, so_gd, so_none, Option.bind_some, iI_add, iI_sub, iI_mul, iI_neg, iI_clamp, iI_nat, vin_i, iI_le, iI_lt, iI_eq, mn_i, mx_i, if_true, if_false, if_pos, if_neg, li_0, li_1, li_2, li_3, li_4, li_5, li_6, li_7, li_8, li_9, li_10, li_11, li_12, li_14, li_15, li_16, li_20, li_21, li_24, li_28, li_30, li_31, li_40, li_41, li_42, li_43, li_44, li_45, li_47, li_48, li_49, li_57, li_59, li_60, li_61, li_62, li_63, li_70, li_71, li_76, li_80, li_96, li_97, li_98, li_99, li_100, li_101, li_102, li_103, li_104, li_105, li_106, li_107, li_108, li_109, li_110, li_111, li_112, li_113, li_114, li_115, li_116, li_117, li_118, li_119, li_120, li_128, li_142, li_255, li_320, li_781, li_852, li_999, li_1000, li_2000, li_3000, li_9999, li_12345, li_65536, li_1000000, li_252645135, li_858993459, li_1103515245, li_1431655765, ha.at]
      rw [sI, if_neg (by omega)]
def bz (A : Int → Int) : Prop := sI A 14 0 = 0 ∧ sI (fun i => A (14 + i)) 7 0 = 0
theorem m_isBare {A : Int → Int} (hA : WA A) {a : Nat → Int32} (ha : Arr 71 a A) : (bz A → fX12_isBareOf a = some (iI 1)) ∧ (¬ bz A → fX12_isBareOf a = some (iI 0)) := by
  have h := bare_L hA ha 21 0 FU (by omega) (by omega) (show _ < 4000 by omega)
  have e : sI A 21 0 = sI A 14 0 + sI (fun i => A (14 + i)) 7 0 := by
    rw [show (21 : Nat) = 14 + 7 from rfl, sI_split A 14 7 0, ← sI_sh A 14 7 0]
    rfl
  have b1 := sI_b (f := A) (c := 999) (m := 14) (k := 0) (fun j j0 j1 => hA.1 j (by omega) (by omega))
  have b2 := sI_b (f := fun i => A (14 + i)) (c := 999) (m := 7) (k := 0) (fun j j0 j1 => hA.1 (14 + j) (by omega) (by omega))
  unfold fX12_isBareOf bz
  rw [li_0, h]
  constructor
  · intro q
    rw [if_pos (by omega)]
    rfl
  · intro q
    rw [if_neg (by omega)]
    rfl
theorem s_melt_L {E : EN} (G : EnG E) {hoC cy le : Int32} {hold below inches code : Nat → Int32} (C : EnC E hoC cy le hold below inches code) {hoM many size : Int32} {holdM belowM weather rule : Nat → Int32} (M : EnM E hoM many size holdM belowM weather rule) (z : Int32) :
    ∀ (m : Nat) (k : Int) (f : Nat) (x : FW) (y : MW) (owed slides struck slid now : Int32) (snow path debt owedBy things stack : Nat → Int32) (rr : Nat) (len top at' wrong asked i1 i2 i3 i4 i5 i6 sm on si : Int32) (th oM : Nat → Int32),
    0 ≤ k → k + m = 61 → m < f → WA x.1.1 → x.1.1 70 + m < 2147483648 → x.1.1 = y.1.1 → Wk x owed slides struck slid now snow path debt owedBy → Mk y sm on si oM th →
    So (fX11_melt_L16 cy hoC le inches hold below code f (iI k) owed slides struck slid now snow path debt owedBy things stack)
      (fun o => So (fX12_melt_L19 hoM many size weather holdM belowM rule z f (iI k) rr len top at' wrong asked i1 i2 i3 i4 i5 i6 sm on si th oM) (fun p => (∃ o' p', o = Sum.inl o' ∧ p = Sum.inl p') ∨ (∃ o' p', o = Sum.inr o' ∧ p = Sum.inr p' ∧ o'.1 = p'.1 ∧ p'.2.1 = z)))
  | 0, k, f + 1, x, y, owed, slides, struck, slid, now, snow, path, debt, owedBy, things, stack, rr, len, top, at', wrong, asked, i1, i2, i3, i4, i5, i6, sm, on, si, th, oM, h0, hk, hf, hA, hn, hxy, K, L => by
    rw [fX11_melt_L16, fX12_melt_L19]
    simp (disch := omega) only [gd_t, so_some, so_bind, so_gd, so_none, Option.bind_some, iI_add, iI_sub, iI_mul, iI_neg, iI_clamp, iI_nat, vin_i, iI_le, iI_lt, iI_eq, mn_i, mx_i, if_true, if_false, if_pos, if_neg, li_0, li_1, li_2, li_3, li_4, li_5, li_6, li_7, li_8, li_9, li_10, li_11, li_12, li_14, li_15, li_16, li_20, li_21, li_24, li_28, li_30, li_31, li_40, li_41, li_42, li_43, li_44, li_45, li_47, li_48, li_49, li_57, li_59, li_60, li_61, li_62, li_63, li_70, li_71, li_76, li_80, li_96, li_97, li_98, li_99, li_100, li_101, li_102, li_103, li_104, li_105, li_106, li_107, li_108, li_109, li_110, li_111, li_112, li_113, li_114, li_115, li_116, li_117, li_118, li_119, li_120, li_128, li_142, li_255, li_320, li_781, li_852, li_999, li_1000, li_2000, li_3000, li_9999, li_12345, li_65536, li_1000000, li_252645135, li_858993459, li_1103515245, li_1431655765]
    exact Or.inl ⟨_, _, rfl, rfl⟩
  | m + 1, k, f + 1, x, y, owed, slides, struck, slid, now, snow, path, debt, owedBy, things, stack, rr, len, top, at', wrong, asked, i1, i2, i3, i4, i5, i6, sm, on, si, th, oM, h0, hk, hf, hA, hn, hxy, K, L => by
    have g := G.1
    have L5 : Arr 71 th x.1.1 := by rw [hxy]; exact L.2.2.2.2
    have ib := m_isBare hA L5
    have d1 := c_onRoofs K.2.2.2.2.1.2.1
    have d2 : fX5_onPaths path = some (iI (sI (fun i => x.1.1 (14 + i)) 7 0)) := by
      unfold fX5_onPaths
      rw [t_sumOf (n := 7) (by omega) K.2.2.2.2.1.2.2.1, Option.bind_some]
    have b1 := sI_b (f := x.1.1) (c := 999) (m := 14) (k := 0) (fun j j0 j1 => hA.1 j (by omega) (by omega))
    have b2 := sI_b (f := fun i => x.1.1 (14 + i)) (c := 999) (m := 7) (k := 0) (fun j j0 j1 => hA.1 (14 + j) (by omega) (by omega))
    obtain ⟨p, hp, hpK⟩ := m_goDay G M (x := y) (by rw [← hxy]; exact hA) (by rw [← hxy]; omega) L rr len top at' wrong asked i1 i2 i3 i4 i5 i6
    have hstep : So (fX9_goDay owed slides struck slid now cy inches hoC snow path hold below le things stack code debt owedBy) (fun o => So (fX11_melt_L16 cy hoC le inches hold below code f (iI (k + 1)) o.1 o.2.1 o.2.2.1 o.2.2.2.1 o.2.2.2.2.1 o.2.2.2.2.2.1 o.2.2.2.2.2.2.1 o.2.2.2.2.2.2.2.2.2.1 o.2.2.2.2.2.2.2.2.2.2 o.2.2.2.2.2.2.2.1 o.2.2.2.2.2.2.2.2.1)
        (fun o => So (fX12_melt_L19 hoM many size weather holdM belowM rule z f (iI (k + 1)) p.1 p.2.1 p.2.2.1 p.2.2.2.1 p.2.2.2.2.1 p.2.2.2.2.2.1 p.2.2.2.2.2.2.1 p.2.2.2.2.2.2.2.1 p.2.2.2.2.2.2.2.2.1 p.2.2.2.2.2.2.2.2.2.1 p.2.2.2.2.2.2.2.2.2.2.1 p.2.2.2.2.2.2.2.2.2.2.2.1 p.2.2.2.2.2.2.2.2.2.2.2.2.1 p.2.2.2.2.2.2.2.2.2.2.2.2.2.1 p.2.2.2.2.2.2.2.2.2.2.2.2.2.2.1 p.2.2.2.2.2.2.2.2.2.2.2.2.2.2.2.2 p.2.2.2.2.2.2.2.2.2.2.2.2.2.2.2.1) (fun p => (∃ o' p', o = Sum.inl o' ∧ p = Sum.inl p') ∨ (∃ o' p', o = Sum.inr o' ∧ p = Sum.inr p' ∧ o'.1 = p'.1 ∧ p'.2.1 = z)))) := by
      refine so_mono (c_goDay G C hA (by omega) K things stack) ?_
      intro o ho
      have e2 : (fdy E x).1.1 = (mdy E y).1.1 := dy_A hxy
      have d70 : (fdy E x).1.1 70 = x.1.1 70 + 1 := dy_70 E x.1
      exact s_melt_L G C M z m (k + 1) f (fdy E x) (mdy E y) _ _ _ _ _ _ _ _ _ _ _ _ _ _ _ _ _ _ _ _ _ _ _ _ _ _ _ _ (by omega) (by omega) (by omega) (wa_dy G hA) (by omega) e2 ho hpK
    rw [fX11_melt_L16, fX12_melt_L19]
    by_cases q1 : sI x.1.1 14 0 = 0
    · by_cases q2 : sI (fun i => x.1.1 (14 + i)) 7 0 = 0
      · have ib := ib.1 ⟨q1, q2⟩
        simp (disch := omega) only [gd_t, so_some, so_bind, so_gd, so_none, Option.bind_some, iI_add, iI_sub, iI_mul, iI_neg, iI_clamp, iI_nat, vin_i, iI_le, iI_lt, iI_eq, mn_i, mx_i, if_true, if_false, if_pos, if_neg, li_0, li_1, li_2, li_3, li_4, li_5, li_6, li_7, li_8, li_9, li_10, li_11, li_12, li_14, li_15, li_16, li_20, li_21, li_24, li_28, li_30, li_31, li_40, li_41, li_42, li_43, li_44, li_45, li_47, li_48, li_49, li_57, li_59, li_60, li_61, li_62, li_63, li_70, li_71, li_76, li_80, li_96, li_97, li_98, li_99, li_100, li_101, li_102, li_103, li_104, li_105, li_106, li_107, li_108, li_109, li_110, li_111, li_112, li_113, li_114, li_115, li_116, li_117, li_118, li_119, li_120, li_128, li_142, li_255, li_320, li_781, li_852, li_999, li_1000, li_2000, li_3000, li_9999, li_12345, li_65536, li_1000000, li_252645135, li_858993459, li_1103515245, li_1431655765, d1, d2, ib]
        exact Or.inr ⟨_, _, rfl, rfl, rfl, rfl⟩
      · have ib := ib.2 (fun x => q2 x.2)
        simp (disch := omega) only [gd_t, so_some, so_bind, so_gd, so_none, Option.bind_some, iI_add, iI_sub, iI_mul, iI_neg, iI_clamp, iI_nat, vin_i, iI_le, iI_lt, iI_eq, mn_i, mx_i, if_true, if_false, if_pos, if_neg, li_0, li_1, li_2, li_3, li_4, li_5, li_6, li_7, li_8, li_9, li_10, li_11, li_12, li_14, li_15, li_16, li_20, li_21, li_24, li_28, li_30, li_31, li_40, li_41, li_42, li_43, li_44, li_45, li_47, li_48, li_49, li_57, li_59, li_60, li_61, li_62, li_63, li_70, li_71, li_76, li_80, li_96, li_97, li_98, li_99, li_100, li_101, li_102, li_103, li_104, li_105, li_106, li_107, li_108, li_109, li_110, li_111, li_112, li_113, li_114, li_115, li_116, li_117, li_118, li_119, li_120, li_128, li_142, li_255, li_320, li_781, li_852, li_999, li_1000, li_2000, li_3000, li_9999, li_12345, li_65536, li_1000000, li_252645135, li_858993459, li_1103515245, li_1431655765, d1, d2, ib, hp]
        exact hstep
    · have ib := ib.2 (fun x => q1 x.1)
      simp (disch := omega) only [gd_t, so_some, so_bind, so_gd, so_none, Option.bind_some, iI_add, iI_sub, iI_mul, iI_neg, iI_clamp, iI_nat, vin_i, iI_le, iI_lt, iI_eq, mn_i, mx_i, if_true, if_false, if_pos, if_neg, li_0, li_1, li_2, li_3, li_4, li_5, li_6, li_7, li_8, li_9, li_10, li_11, li_12, li_14, li_15, li_16, li_20, li_21, li_24, li_28, li_30, li_31, li_40, li_41, li_42, li_43, li_44, li_45, li_47, li_48, li_49, li_57, li_59, li_60, li_61, li_62, li_63, li_70, li_71, li_76, li_80, li_96, li_97, li_98, li_99, li_100, li_101, li_102, li_103, li_104, li_105, li_106, li_107, li_108, li_109, li_110, li_111, li_112, li_113, li_114, li_115, li_116, li_117, li_118, li_119, li_120, li_128, li_142, li_255, li_320, li_781, li_852, li_999, li_1000, li_2000, li_3000, li_9999, li_12345, li_65536, li_1000000, li_252645135, li_858993459, li_1103515245, li_1431655765, d1, ib, hp]
      exact hstep
theorem s_melt {n : Int} {σ : CS} {τ : MS} (h : R n σ τ) (hn : n < 1000) : Ok n (x_melt σ) (y_melt τ) := by
  obtain ⟨n0, g, c, m, G⟩ := h
  obtain ⟨c1, c2, c3, c4, c5, c6, c7, c8, c9⟩ := c
  obtain ⟨m1, m2, m3, m4, m5, m6, m7, m8, m9⟩ := m
  have e := G.1.1
  have hS := G.2.2.1
  have a7 := hS.2.2
  unfold Ok x_melt y_melt fX11_melt fX12_melt
  obtain ⟨w, hw, hw2⟩ := m_lay0 (b := (τ.2.1 19)) m3
  rw [li_0] at hw
  simp only [so_bind, hw, so_some, li_0]
  refine so_mono (c_beginAt c3 _ _ _ _ _ _ _ _ _) ?_
  intro o ho
  refine so_mono (s_melt_L G.1 c1 m1 (iI 0) 61 0 FU (fw0 g.2.2.1) _ _ _ _ _ _ _ _ _ _ (σ.2.1 20) (σ.2.1 19) τ.2.2 (τ.1 11) (τ.1 20) (τ.1 6) (τ.1 25) (τ.1 10) (τ.1 2) (τ.1 4) (τ.1 1) (τ.1 5) (τ.1 0) (τ.1 3) (τ.1 18) (τ.1 13) (τ.1 17) w (τ.2.1 13) (by omega) (by omega) (show _ < 4000 by omega) hS.1 (by show g.2.2.1 70 + _ < _; omega) rfl ho (any_Mk hw2 _ _ _ _)) ?_
  rintro r ⟨p, hp, hr⟩
  rcases hr with ⟨o', p', rfl, rfl⟩ | ⟨o', p', rfl, rfl, e1, e2⟩
  · simp only [hp, Sum.elim_inl, so_some]
    exact ⟨(by first | rfl | trivial), R.same ⟨n0.1, hn⟩ G ⟨c1, c2, c3, c4, c5, c6, c7, c8, c9⟩ ⟨m1, m2, m3, m4, m5, m6, m7, m8, m9⟩⟩
  · simp only [hp, Sum.elim_inr, so_some]
    exact ⟨e1, R.same ⟨n0.1, hn⟩ G ⟨c1, c2, c3, c4, c5, c6, c7, c8, c9⟩ ⟨m1, m2, m3, m4, m5, m6, m7, m8, m9⟩⟩
