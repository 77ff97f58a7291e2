theorem c_least_L {A : Int → Int} (hA : WA A) {debt : Nat → Int32} (hd : Arr 49 debt (fun i => A (21 + i))) {h : Int} (h7 : h ≤ 7) : ∀ (m : Nat) (k s : Int) (f : Nat), 0 ≤ k → k + m = h → m < f →
    fX11_least_L4 (iI h) debt f (iI s) (iI k) = some (iI (s + sI (fun b => max 0 (oTo A b - oBy A b)) m k))
  | 0, k, s, f + 1, k0, hk, hf => by
    rw [fX11_least_L4]
    simp (disch := omega) only [gd_t, so_some, so_bind, so_gd, so_none, Option.bind_some, iI_add, iI_sub, iI_mul, iI_neg, iI_clamp, iI_nat, vin_i, iI_le, iI_lt, iI_eq, mn_i, mx_i, if_true, if_false, if_pos, if_neg, li_0, li_1, li_2, li_3, li_4, li_5, li_6, li_7, li_8, li_9, li_10, li_11, li_12, li_14, li_15, li_16, li_20, li_21, li_24, li_28, li_30, li_31, li_40, li_41, li_42, li_43, li_44, li_45, li_47, li_48, li_49, li_57, li_59, li_60, li_61, li_62, li_63, li_70, li_71, li_76, li_80, li_96, li_97, li_98, li_99, li_100, li_101, li_102, li_103, li_104, li_105, li_106, li_107, li_108, li_109, li_110, li_111, li_112, li_113, li_114, li_115, li_116, li_117, li_118, li_119, li_120, li_128, li_142, li_255, li_320, li_781, li_852, li_999, li_1000, li_2000, li_3000, li_9999, li_12345, li_65536, li_1000000, li_252645135, li_858993459, li_1103515245, li_1431655765, sI, Int.add_zero]
  | m + 1, k, s, f + 1, k0, hk, hf => by
    have x1 := oTo_b hA (b := k) k0 (by omega)
    have x2 := oBy_b hA (b := k) k0 (by omega)
    have d := c_balance hd (b := k) k0 (by omega)
    rw [fX11_least_L4]
    simp (disch := omega) only [gd_t, so_some, so_bind, so_gd, so_none, Option.bind_some, iI_add, iI_sub, iI_mul, iI_neg, iI_clamp, iI_nat, vin_i, iI_le, iI_lt, iI_eq, mn_i, mx_i, if_true, if_false, if_pos, if_neg, li_0, li_1, li_2, li_3, li_4, li_5, li_6, li_7, li_8, li_9, li_10, li_11, li_12, li_14, li_15, li_16, li_20, li_21, li_24, li_28, li_30, li_31, li_40, li_41, li_42, li_43, li_44, li_45, li_47, li_48, li_49, li_57, li_59, li_60, li_61, li_62, li_63, li_70, li_71, li_76, li_80, li_96, li_97, li_98, li_99, li_100, li_101, li_102, li_103, li_104, li_105, li_106, li_107, li_108, li_109, li_110, li_111, li_112, li_113, li_114, li_115, li_116, li_117, li_118, li_119, li_120, li_128, li_142, li_255, li_320, li_781, li_852, li_999, li_1000, li_2000, li_3000, li_9999, li_12345, li_65536, li_1000000, li_252645135, li_858993459, li_1103515245, li_1431655765, d]
    rw [c_least_L hA hd h7 m (k + 1) _ f (by omega) (by omega) (by omega), sI, Int.add_assoc]
theorem m_least_L {A : Int → Int} (hA : WA A) {a : Nat → Int32} (ha : Arr 71 a A) {h : Int} (h7 : h ≤ 7) : ∀ (m : Nat) (k s : Int) (f : Nat), 0 ≤ k → k + m = h → m < f →
    fX12_least_L9 (iI h) a f (iI s) (iI k) = some (iI (s + sI (fun b => max 0 (oTo A b - oBy A b)) m k))
  | 0, k, s, f + 1, k0, hk, hf => by
    rw [fX12_least_L9]
    simp (disch := omega) only [gd_t, so_some, so_bind, so_gd, so_none, Option.bind_some, iI_add, iI_sub, iI_mul, iI_neg, iI_clamp, iI_nat, vin_i, iI_le, iI_lt, iI_eq, mn_i, mx_i, if_true, if_false, if_pos, if_neg, li_0, li_1, li_2, li_3, li_4, li_5, li_6, li_7, li_8, li_9, li_10, li_11, li_12, li_14, li_15, li_16, li_20, li_21, li_24, li_28, li_30, li_31, li_40, li_41, li_42, li_43, li_44, li_45, li_47, li_48, li_49, li_57, li_59, li_60, li_61, li_62, li_63, li_70, li_71, li_76, li_80, li_96, li_97, li_98, li_99, li_100, li_101, li_102, li_103, li_104, li_105, li_106, li_107, li_108, li_109, li_110, li_111, li_112, li_113, li_114, li_115, li_116, li_117, li_118, li_119, li_120, li_128, li_142, li_255, li_320, li_781, li_852, li_999, li_1000, li_2000, li_3000, li_9999, li_12345, li_65536, li_1000000, li_252645135, li_858993459, li_1103515245, li_1431655765, sI, Int.add_zero]
  | m + 1, k, s, f + 1, k0, hk, hf => by
    have x1 := oTo_b hA (b := k) k0 (by omega)
    have x2 := oBy_b hA (b := k) k0 (by omega)
    have d := m_netOf ha (b := k) k0 (by omega)
    rw [fX12_least_L9]
    simp (disch := omega) only [gd_t, so_some, so_bind, so_gd, so_none, Option.bind_some, iI_add, iI_sub, iI_mul, iI_neg, iI_clamp, iI_nat, vin_i, iI_le, iI_lt, iI_eq, mn_i, mx_i, if_true, if_false, if_pos, if_neg, li_0, li_1, li_2, li_3, li_4, li_5, li_6, li_7, li_8, li_9, li_10, li_11, li_12, li_14, li_15, li_16, li_20, li_21, li_24, li_28, li_30, li_31, li_40, li_41, li_42, li_43, li_44, li_45, li_47, li_48, li_49, li_57, li_59, li_60, li_61, li_62, li_63, li_70, li_71, li_76, li_80, li_96, li_97, li_98, li_99, li_100, li_101, li_102, li_103, li_104, li_105, li_106, li_107, li_108, li_109, li_110, li_111, li_112, li_113, li_114, li_115, li_116, li_117, li_118, li_119, li_120, li_128, li_142, li_255, li_320, li_781, li_852, li_999, li_1000, li_2000, li_3000, li_9999, li_12345, li_65536, li_1000000, li_252645135, li_858993459, li_1103515245, li_1431655765, d]
    rw [m_least_L hA ha h7 m (k + 1) _ f (by omega) (by omega) (by omega), sI, Int.add_assoc]
theorem s_least {n : Int} {σ : CS} {τ : MS} (h : R n σ τ) (hn : n < 1000) : Ok n (x_least σ) (y_least τ) := by
  obtain ⟨n0, g, c, m, G⟩ := h
  obtain ⟨c1, c2, c3, c4, c5, c6, c7, c8, c9⟩ := c
  obtain ⟨m1, m2, m3, m4, m5, m6, m7, m8, m9⟩ := m
  have e := G.1.1
  have hS := G.2.2.1
  have a7 := hS.2.2
  have d1 := c_least_L hS.1 c3.2.2.2 e.2 g.1.1.toNat 0 0 FU (by omega) (by omega) (show _ < 4000 by omega)
  have d2 := m_least_L hS.1 m3 e.2 g.1.1.toNat 0 0 FU (by omega) (by omega) (show _ < 4000 by omega)
  have d3 := c_owedInAll e.1 e.2 hS.2.1 c3.2.2.2
  have d4 := m_allOwed m3 e.1 e.2
  unfold Ok x_least y_least fX11_least fX12_least
  rw [c1.1, m1.1]
  simp only [li_0, d1, d2, d3, d4, so_bind, so_some]
  refine so_mono (c_tell _ _ _) ?_
  intro t hr
  refine so_mono (m_tell _ _) ?_
  intro u hs
  exact ⟨(by first | rfl | trivial), R.tol ⟨n0.1, hn⟩ G hr (by simp) ⟨c1, c2, c3, c4, c5, c6, hr, c8, c9⟩ ⟨m1, m2, m3, m4, m5, m6, hs, m8, m9⟩⟩
/-- the greatest debtor so far, and what it owes -/
def gdv (A : Int → Int) (b : Int) : Int := if b = -1 then 0 else oBy A b
def gdS (A : Int → Int) (b k : Int) : Int := if gdv A b < oBy A k then k else b
def gdL (A : Int → Int) : Nat → Int → Int → Int
  | 0, _, b => b
  | m + 1, k, b => gdL A m (k + 1) (gdS A b k)
theorem m_gd_L {A : Int → Int} (hA : WA A) {a : Nat → Int32} (ha : Arr 71 a A) {h : Int} (h7 : h ≤ 7) : ∀ (m : Nat) (k b : Int) (f : Nat), 0 ≤ k → k + m = h → m < f → -1 ≤ b → b < k →
    fX12_greatestDebtor_L4 (iI h) a f (iI b) (iI k) = some (iI (gdL A m k b))
  | 0, k, b, f + 1, k0, hk, hf, b0, b1 => by
    rw [fX12_greatestDebtor_L4]
    simp (disch := omega) only [gd_t, so_some, so_bind, so_gd, so_none, Option.bind_some, iI_add, iI_sub, iI_mul, iI_neg, iI_clamp, iI_nat, vin_i, iI_le, iI_lt, iI_eq, mn_i, mx_i, if_true, if_false, if_pos, if_neg, li_0, li_1, li_2, li_3, li_4, li_5, li_6, li_7, li_8, li_9, li_10, li_11, li_12, li_14, li_15, li_16, li_20, li_21, li_24, li_28, li_30, li_31, li_40, li_41, li_42, li_43, li_44, li_45, li_47, li_48, li_49, li_57, li_59, li_60, li_61, li_62, li_63, li_70, li_71, li_76, li_80, li_96, li_97, li_98, li_99, li_100, li_101, li_102, li_103, li_104, li_105, li_106, li_107, li_108, li_109, li_110, li_111, li_112, li_113, li_114, li_115, li_116, li_117, li_118, li_119, li_120, li_128, li_142, li_255, li_320, li_781, li_852, li_999, li_1000, li_2000, li_3000, li_9999, li_12345, li_65536, li_1000000, li_252645135, li_858993459, li_1103515245, li_1431655765, gdL]
  | m + 1, k, b, f + 1, k0, hk, hf, b0, b1 => by
    have x2 := oBy_b hA (b := k) k0 (by omega)
    have d := m_owes ha (b := k) k0 (by omega)
    have ih1 := m_gd_L hA ha h7 m (k + 1) b f (by omega) (by omega) (by omega) b0 (by omega)
    have ih2 := m_gd_L hA ha h7 m (k + 1) k f (by omega) (by omega) (by omega) (by omega) (by omega)
    rw [fX12_greatestDebtor_L4]
    by_cases q : b = -1
    · have e : gdv A b = 0 := if_pos q
      by_cases q2 : oBy A k ≤ 0
      · simp (disch := omega) only [gd_t, so_some, so_bind, so_gd, so_none, Option.bind_some, iI_add, iI_sub, iI_mul, iI_neg, iI_clamp, iI_nat, vin_i, iI_le, iI_lt, iI_eq, mn_i, mx_i, if_true, if_false, if_pos, if_neg, li_0, li_1, li_2, li_3, li_4, li_5, li_6, li_7, li_8, li_9, li_10, li_11, li_12, li_14, li_15, li_16, li_20, li_21, li_24, li_28, li_30, li_31, li_40, li_41, li_42, li_43, li_44, li_45, li_47, li_48, li_49, li_57, li_59, li_60, li_61, li_62, li_63, li_70, li_71, li_76, li_80, li_96, li_97, li_98, li_99, li_100, li_101, li_102, li_103, li_104, li_105, li_106, li_107, li_108, li_109, li_110, li_111, li_112, li_113, li_114, li_115, li_116, li_117, li_118, li_119, li_120, li_128, li_142, li_255, li_320, li_781, li_852, li_999, li_1000, li_2000, li_3000, li_9999, li_12345, li_65536, li_1000000, li_252645135, li_858993459, li_1103515245, li_1431655765, d]
        rw [ih1, gdL, gdS, e, if_neg (by omega)]
      · simp (disch := omega) only [gd_t, so_some, so_bind, so_gd, so_none, Option.bind_some, iI_add, iI_sub, iI_mul, iI_neg, iI_clamp, iI_nat, vin_i, iI_le, iI_lt, iI_eq, mn_i, mx_i, if_true, if_false, if_pos, if_neg, li_0, li_1, li_2, li_3, li_4, li_5, li_6, li_7, li_8, li_9, li_10, li_11, li_12, li_14, li_15, li_16, li_20, li_21, li_24, li_28, li_30, li_31, li_40, li_41, li_42, li_43, li_44, li_45, li_47, li_48, li_49, li_57, li_59, li_60, li_61, li_62, li_63, li_70, li_71, li_76, li_80, li_96, li_97, li_98, li_99, li_100, li_101, li_102, li_103, li_104, li_105, li_106, li_107, li_108, li_109, li_110, li_111, li_112, li_113, li_114, li_115, li_116, li_117, li_118, li_119, li_120, li_128, li_142, li_255, li_320, li_781, li_852, li_999, li_1000, li_2000, li_3000, li_9999, li_12345, li_65536, li_1000000, li_252645135, li_858993459, li_1103515245, li_1431655765, d]
        rw [ih2, gdL, gdS, e, if_pos (by omega)]
    · have e : gdv A b = oBy A b := if_neg q
      have d2 := m_owes ha (b := b) (by omega) (by omega)
      have x3 := oBy_b hA (b := b) (by omega) (by omega)
      by_cases q2 : oBy A k ≤ oBy A b
      · simp (disch := omega) only [gd_t, so_some, so_bind, so_gd, so_none, Option.bind_some, iI_add, iI_sub, iI_mul, iI_neg, iI_clamp, iI_nat, vin_i, iI_le, iI_lt, iI_eq, mn_i, mx_i, if_true, if_false, if_pos, if_neg, li_0, li_1, li_2, li_3, li_4, li_5, li_6, li_7, li_8, li_9, li_10, li_11, li_12, li_14, li_15, li_16, li_20, li_21, li_24, li_28, li_30, li_31, li_40, li_41, li_42, li_43, li_44, li_45, li_47, li_48, li_49, li_57, li_59, li_60, li_61, li_62, li_63, li_70, li_71, li_76, li_80, li_96, li_97, li_98, li_99, li_100, li_101, li_102, li_103, li_104, li_105, li_106, li_107, li_108, li_109, li_110, li_111, li_112, li_113, li_114, li_115, li_116, li_117, li_118, li_119, li_120, li_128, li_142, li_255, li_320, li_781, li_852, li_999, li_1000, li_2000, li_3000, li_9999, li_12345, li_65536, li_1000000, li_252645135, li_858993459, li_1103515245, li_1431655765, d, d2]
        rw [ih1, gdL, gdS, e, if_neg (by omega)]
      · simp (disch := omega) only [gd_t, so_some, so_bind, so_gd, so_none, Option.bind_some, iI_add, iI_sub, iI_mul, iI_neg, iI_clamp, iI_nat, vin_i, iI_le, iI_lt, iI_eq, mn_i, mx_i, if_true, if_false, if_pos, if_neg, li_0, li_1, li_2, li_3, li_4, li_5, li_6, li_7, li_8, li_9, li_10, li_11, li_12, li_14, li_15, li_16, li_20, li_21, li_24, li_28, li_30, li_31, li_40, li_41, li_42, li_43, li_44, li_45, li_47, li_48, li_49, li_57, li_59, li_60, li_61, li_62, li_63, li_70, li_71, li_76, li_80, li_96, li_97, li_98, li_99, li_100, li_101, li_102, li_103, li_104, li_105, li_106, li_107, li_108, li_109, li_110, li_111, li_112, li_113, li_114, li_115, li_116, li_117, li_118, li_119, li_120, li_128, li_142, li_255, li_320, li_781, li_852, li_999, li_1000, li_2000, li_3000, li_9999, li_12345, li_65536, li_1000000, li_252645135, li_858993459, li_1103515245, li_1431655765, d, d2]
        rw [ih2, gdL, gdS, e, if_pos (by omega)]
theorem gd_ok {A : Int → Int} (hA : WA A) {h : Int} (h7 : h ≤ 7) : ∀ (m : Nat) (k b : Int), 0 ≤ k → k + m = h → -1 ≤ b → b < k → (b ≠ -1 → 0 < oBy A b) → (∀ j, 0 ≤ j → j < k → oBy A j ≤ gdv A b) → (∀ j, 0 ≤ j → j < b → oBy A j < gdv A b) →
    (-1 ≤ gdL A m k b ∧ gdL A m k b < h) ∧ (gdL A m k b ≠ -1 → 0 < oBy A (gdL A m k b)) ∧ (∀ j, 0 ≤ j → j < h → oBy A j ≤ gdv A (gdL A m k b)) ∧ (∀ j, 0 ≤ j → j < gdL A m k b → oBy A j < gdv A (gdL A m k b))
  | 0, k, b, k0, hk, b0, b1, p1, p2, p3 => ⟨⟨b0, by show b < h; omega⟩, p1, fun j j0 j1 => p2 j j0 (by omega), p3⟩
  | m + 1, k, b, k0, hk, b0, b1, p1, p2, p3 => by
    have x2 := oBy_b hA (b := k) k0 (by omega)
    have g0 : 0 ≤ gdv A b := by
      unfold gdv
      split
      · omega
      · exact (oBy_b hA (b := b) (by omega) (by omega)).1
    rw [gdL]
    unfold gdS
    by_cases q : gdv A b < oBy A k
    · rw [if_pos q]
      have e : gdv A k = oBy A k := if_neg (by omega)
      refine gd_ok hA h7 m (k + 1) k (by omega) (by omega) (by omega) (by omega) (fun _ => by omega) (fun j j0 j1 => ?_) (fun j j0 j1 => ?_)
      · rw [e]
        by_cases qj : j = k
        · rw [qj]; omega
        · have := p2 j j0 (by omega); omega
      · rw [e]
        have := p2 j j0 (by omega); omega
    · rw [if_neg q]
      refine gd_ok hA h7 m (k + 1) b (by omega) (by omega) b0 (by omega) p1 (fun j j0 j1 => ?_) p3
      by_cases qj : j = k
      · rw [qj]; omega
      · exact p2 j j0 (by omega)
theorem c_most_L {A : Int → Int} (hA : WA A) {debt : Nat → Int32} (hd : Arr 49 debt (fun i => A (21 + i))) {h : Int} (h7 : h ≤ 7) : ∀ (m : Nat) (k b : Int) (f : Nat), 0 ≤ k → k + m = h → m < f → -1 ≤ b → b < k →
    fX11_mostOwing_L4 (iI h) debt f (iI (gdv A b)) (iI k) = some (iI (gdv A (gdL A m k b)))
  | 0, k, b, f + 1, k0, hk, hf, b0, b1 => by
    rw [fX11_mostOwing_L4]
    simp (disch := omega) only [gd_t, so_some, so_bind, so_gd, so_none, Option.bind_some, iI_add, iI_sub, iI_mul, iI_neg, iI_clamp, iI_nat, vin_i, iI_le, iI_lt, iI_eq, mn_i, mx_i, if_true, if_false, if_pos, if_neg, li_0, li_1, li_2, li_3, li_4, li_5, li_6, li_7, li_8, li_9, li_10, li_11, li_12, li_14, li_15, li_16, li_20, li_21, li_24, li_28, li_30, li_31, li_40, li_41, li_42, li_43, li_44, li_45, li_47, li_48, li_49, li_57, li_59, li_60, li_61, li_62, li_63, li_70, li_71, li_76, li_80, li_96, li_97, li_98, li_99, li_100, li_101, li_102, li_103, li_104, li_105, li_106, li_107, li_108, li_109, li_110, li_111, li_112, li_113, li_114, li_115, li_116, li_117, li_118, li_119, li_120, li_128, li_142, li_255, li_320, li_781, li_852, li_999, li_1000, li_2000, li_3000, li_9999, li_12345, li_65536, li_1000000, li_252645135, li_858993459, li_1103515245, li_1431655765, gdL]
  | m + 1, k, b, f + 1, k0, hk, hf, b0, b1 => by
    have x2 := oBy_b hA (b := k) k0 (by omega)
    have d := c_owedBy hd (b := k) k0 (by omega)
    have g0 : 0 ≤ gdv A b ∧ gdv A b ≤ 69993 := by
      unfold gdv
      split
      · omega
      · exact oBy_b hA (b := b) (by omega) (by omega)
    have ih := c_most_L hA hd h7 m (k + 1) (gdS A b k) f (by omega) (by omega) (by omega) (by unfold gdS; split <;> omega) (by unfold gdS; split <;> omega)
    have e : gdv A (gdS A b k) = max (gdv A b) (oBy A k) := by
      unfold gdS
      by_cases q : gdv A b < oBy A k
      · rw [if_pos q, show gdv A k = oBy A k from if_neg (by omega)]; omega
      · rw [if_neg q]; omega
    rw [e] at ih
    rw [fX11_mostOwing_L4]
    simp (disch := omega) only [gd_t, so_some, so_bind, so_gd, so_none, Option.bind_some, iI_add, iI_sub, iI_mul, iI_neg, iI_clamp, iI_nat, vin_i, iI_le, iI_lt, iI_eq, mn_i, mx_i, if_true, if_false, if_pos, if_neg, li_0, li_1, li_2, li_3, li_4, li_5, li_6, li_7, li_8, li_9, li_10, li_11, li_12, li_14, li_15, li_16, li_20, li_21, li_24, li_28, li_30, li_31, li_40, li_41, li_42, li_43, li_44, li_45, li_47, li_48, li_49, li_57, li_59, li_60, li_61, li_62, li_63, li_70, li_71, li_76, li_80, li_96, li_97, li_98, li_99, li_100, li_101, li_102, li_103, li_104, li_105, li_106, li_107, li_108, li_109, li_110, li_111, li_112, li_113, li_114, li_115, li_116, li_117, li_118, li_119, li_120, li_128, li_142, li_255, li_320, li_781, li_852, li_999, li_1000, li_2000, li_3000, li_9999, li_12345, li_65536, li_1000000, li_252645135, li_858993459, li_1103515245, li_1431655765, d]
    rw [ih, gdL]
theorem c_first_L {A : Int → Int} (hA : WA A) {debt : Nat → Int32} (hd : Arr 49 debt (fun i => A (21 + i))) {h b : Int} (h7 : h ≤ 7) (b0 : 0 ≤ b) (b1 : b < h) (hb : ∀ j, 0 ≤ j → j < b → oBy A j ≠ oBy A b) : ∀ (m : Nat) (k : Int) (f : Nat), 0 ≤ k → k + m = h → m < f → k ≤ b →
    fX11_firstOwing_L2 (iI h) debt (iI (oBy A b)) f (iI k) = some (Sum.inr (iI b))
  | 0, k, f + 1, k0, hk, hf, kb => by omega
  | m + 1, k, f + 1, k0, hk, hf, kb => by
    have x2 := oBy_b hA (b := k) k0 (by omega)
    have x3 := oBy_b hA (b := b) b0 (by omega)
    have d := c_owedBy hd (b := k) k0 (by omega)
    rw [fX11_firstOwing_L2]
    by_cases q : k = b
    · subst q
      simp (disch := omega) only [gd_t, so_some, so_bind, so_gd, so_none, Option.bind_some, iI_add, iI_sub, iI_mul, iI_neg, iI_clamp, iI_nat, vin_i, iI_le, iI_lt, iI_eq, mn_i, mx_i, if_true, if_false, if_pos, if_neg, li_0, li_1, li_2, li_3, li_4, li_5, li_6, li_7, li_8, li_9, li_10, li_11, li_12, li_14, li_15, li_16, li_20, li_21, li_24, li_28, li_30, li_31, li_40, li_41, li_42, li_43, li_44, li_45, li_47, li_48, li_49, li_57, li_59, li_60, li_61, li_62, li_63, li_70, li_71, li_76, li_80, li_96, li_97, li_98, li_99, li_100, li_101, li_102, li_103, li_104, li_105, li_106, li_107, li_108, li_109, li_110, li_111, li_112, li_113, li_114, li_115, li_116, li_117, li_118, li_119, li_120, li_128, li_142, li_255, li_320, li_781, li_852, li_999, li_1000, li_2000, li_3000, li_9999, li_12345, li_65536, li_1000000, li_252645135, li_858993459, li_1103515245, li_1431655765, d]
    · have := hb k k0 (by omega)
      simp (disch := omega) only [gd_t, so_some, so_bind, so_gd, so_none, Option.bind_some, iI_add, iI_sub, iI_mul, iI_neg, iI_clamp, iI_nat, vin_i, iI_le, iI_lt, iI_eq, mn_i, mx_i, if_true, if_false, if_pos, if_neg, li_0, li_1, li_2, li_3, li_4, li_5, li_6, li_7, li_8, li_9, li_10, li_11, li_12, li_14, li_15, li_16, li_20, li_21, li_24, li_28, li_30, li_31, li_40, li_41, li_42, li_43, li_44, li_45, li_47, li_48, li_49, li_57, li_59, li_60, li_61, li_62, li_63, li_70, li_71, li_76, li_80, li_96, li_97, li_98, li_99, li_100, li_101, li_102, li_103, li_104, li_105, li_106, li_107, li_108, li_109, li_110, li_111, li_112, li_113, li_114, li_115, li_116, li_117, li_118, li_119, li_120, li_128, li_142, li_255, li_320, li_781, li_852, li_999, li_1000, li_2000, li_3000, li_9999, li_12345, li_65536, li_1000000, li_252645135, li_858993459, li_1103515245, li_1431655765, d]
      exact c_first_L hA hd h7 b0 b1 hb m (k + 1) f (by omega) (by omega) (by omega) (by omega)
/-- what debtor() and june() begin with -/
theorem gd_both {h : Int} (h0 : 0 ≤ h) (h7 : h ≤ 7) {A : Int → Int} (hA : WA A) {debt a : Nat → Int32} (hd : Arr 49 debt (fun i => A (21 + i))) (ha : Arr 71 a A) :
    ∃ b : Int, fX12_greatestDebtor (iI h) a = some (iI b) ∧ ((b = -1 ∧ fX11_mostOwing (iI h) debt = some (iI 0)) ∨ (0 ≤ b ∧ b < h ∧ 0 < oBy A b ∧ fX11_mostOwing (iI h) debt = some (iI (oBy A b)) ∧ fX11_firstOwing (iI h) debt (iI (oBy A b)) = some (iI b))) := by
  have d1 := m_gd_L hA ha h7 h.toNat 0 (-1) FU (by omega) (by omega) (show _ < 4000 by omega) (by omega) (by omega)
  have d2 := c_most_L hA hd h7 h.toNat 0 (-1) FU (by omega) (by omega) (show _ < 4000 by omega) (by omega) (by omega)
  obtain ⟨k1, k2, k3, k4⟩ := gd_ok hA h7 h.toNat 0 (-1) (by omega) (by omega) (by omega) (by omega) (fun x => absurd rfl x) (fun j j0 j1 => by omega) (fun j j0 j1 => by omega)
  rw [show gdv A (-1) = 0 from if_pos rfl] at d2
  refine ⟨gdL A h.toNat 0 (-1), ?_, ?_⟩
  · unfold fX12_greatestDebtor
    rw [li_0, li_1, iI_neg, d1]
    rfl
  · have d2' : fX11_mostOwing (iI h) debt = some (iI (gdv A (gdL A h.toNat 0 (-1)))) := by
      unfold fX11_mostOwing
      rw [li_0, d2]
      rfl
    by_cases q : gdL A h.toNat 0 (-1) = -1
    · left
      refine ⟨q, ?_⟩
      rw [d2', q]
      rfl
    · right
      have e : gdv A (gdL A h.toNat 0 (-1)) = oBy A (gdL A h.toNat 0 (-1)) := if_neg q
      rw [e] at d2' k4
      refine ⟨by omega, by omega, k2 q, d2', ?_⟩
      have d3 := c_first_L hA hd h7 (b := gdL A h.toNat 0 (-1)) (by omega) k1.2 (fun j j0 j1 => by have := k4 j j0 j1; omega) h.toNat 0 FU (by omega) (by omega) (show _ < 4000 by omega) (by omega)
      unfold fX11_firstOwing
      rw [li_0, d3]
      rfl
theorem s_june {n : Int} {σ : CS} {τ : MS} (h : R n σ τ) (hn : n < 1000) : Ok n (x_june σ) (y_june τ) := by
  obtain ⟨n0, g, c, m, G⟩ := h
  obtain ⟨c1, c2, c3, c4, c5, c6, c7, c8, c9⟩ := c
  obtain ⟨m1, m2, m3, m4, m5, m6, m7, m8, m9⟩ := m
  have e := G.1.1
  have hS := G.2.2.1
  have a7 := hS.2.2
  obtain ⟨b, d1, d2⟩ := gd_both e.1 e.2 hS.1 c3.2.2.2 m3
  unfold Ok x_june y_june fX11_june fX12_june
  rw [c1.1, m1.1, d1]
  rcases d2 with ⟨rfl, d2⟩ | ⟨b0, b1, b2, d2, d3⟩
  · rw [d2]
    simp (disch := omega) only [gd_t, so_some, so_bind, so_gd, so_none, Option.bind_some, iI_add, iI_sub, iI_mul, iI_neg, iI_clamp, iI_nat, vin_i, iI_le, iI_lt, iI_eq, mn_i, mx_i, if_true, if_false, if_pos, if_neg, li_0, li_1, li_2, li_3, li_4, li_5, li_6, li_7, li_8, li_9, li_10, li_11, li_12, li_14, li_15, li_16, li_20, li_21, li_24, li_28, li_30, li_31, li_40, li_41, li_42, li_43, li_44, li_45, li_47, li_48, li_49, li_57, li_59, li_60, li_61, li_62, li_63, li_70, li_71, li_76, li_80, li_96, li_97, li_98, li_99, li_100, li_101, li_102, li_103, li_104, li_105, li_106, li_107, li_108, li_109, li_110, li_111, li_112, li_113, li_114, li_115, li_116, li_117, li_118, li_119, li_120, li_128, li_142, li_255, li_320, li_781, li_852, li_999, li_1000, li_2000, li_3000, li_9999, li_12345, li_65536, li_1000000, li_252645135, li_858993459, li_1103515245, li_1431655765]
    refine so_mono (c_tell _ _ _) ?_
    intro t hr
    refine so_mono (m_tell _ _) ?_
    intro u hs
    exact ⟨(by first | rfl | trivial), R.tol ⟨n0.1, hn⟩ G hr (by simp) ⟨c1, c2, c3, c4, c5, c6, hr, c8, c9⟩ ⟨m1, m2, m3, m4, m5, m6, hs, m8, m9⟩⟩
  · have x := oBy_b hS.1 (b := b) b0 (by omega)
    have d4 := m_owes m3 (b := b) b0 (by omega)
    rw [d2]
    simp (disch := omega) only [gd_t, so_some, so_bind, so_gd, so_none, Option.bind_some, iI_add, iI_sub, iI_mul, iI_neg, iI_clamp, iI_nat, vin_i, iI_le, iI_lt, iI_eq, mn_i, mx_i, if_true, if_false, if_pos, if_neg, li_0, li_1, li_2, li_3, li_4, li_5, li_6, li_7, li_8, li_9, li_10, li_11, li_12, li_14, li_15, li_16, li_20, li_21, li_24, li_28, li_30, li_31, li_40, li_41, li_42, li_43, li_44, li_45, li_47, li_48, li_49, li_57, li_59, li_60, li_61, li_62, li_63, li_70, li_71, li_76, li_80, li_96, li_97, li_98, li_99, li_100, li_101, li_102, li_103, li_104, li_105, li_106, li_107, li_108, li_109, li_110, li_111, li_112, li_113, li_114, li_115, li_116, li_117, li_118, li_119, li_120, li_128, li_142, li_255, li_320, li_781, li_852, li_999, li_1000, li_2000, li_3000, li_9999, li_12345, li_65536, li_1000000, li_252645135, li_858993459, li_1103515245, li_1431655765, d3, d4]
    refine so_mono (c_tell _ _ _) ?_
    intro t hr
    refine so_mono (m_tell _ _) ?_
    intro u hs
    exact ⟨(by first | rfl | trivial), R.tol ⟨n0.1, hn⟩ G hr (by simp) ⟨c1, c2, c3, c4, c5, c6, hr, c8, c9⟩ ⟨m1, m2, m3, m4, m5, m6, hs, m8, m9⟩⟩
def crd (A : Int → Int) (b : Int) : Int → Int := fun j => if A (21 + (b * 7 + j)) ≤ 0 then 0 else 1
theorem c_cred_L {A : Int → Int} (hA : WA A) {debt : Nat → Int32} (hd : Arr 49 debt (fun i => A (21 + i))) {b : Int} (b0 : 0 ≤ b) (b1 : b < 7) : ∀ (m : Nat) (k s : Int) (f : Nat), 0 ≤ k → k + m = 7 → m < f →
    fX5_creditorsOf_L4 debt (iI b) f (iI s) (iI k) = some (iI (s + sI (crd A b) m k))
  | 0, k, s, f + 1, k0, hk, hf => by
    rw [fX5_creditorsOf_L4]
    simp (disch := omega) only [gd_t, so_some, so_bind, so_gd, so_none, Option.bind_some, iI_add, iI_sub, iI_mul, iI_neg, iI_clamp, iI_nat, vin_i, iI_le, iI_lt, iI_eq, mn_i, mx_i, if_true, if_false, if_pos, if_neg, li_0, li_1, li_2, li_3, li_4, li_5, li_6, li_7, li_8, li_9, li_10, li_11, li_12, li_14, li_15, li_16, li_20, li_21, li_24, li_28, li_30, li_31, li_40, li_41, li_42, li_43, li_44, li_45, li_47, li_48, li_49, li_57, li_59, li_60, li_61, li_62, li_63, li_70, li_71, li_76, li_80, li_96, li_97, li_98, li_99, li_100, li_101, li_102, li_103, li_104, li_105, li_106, li_107, li_108, li_109, li_110, li_111, li_112, li_113, li_114, li_115, li_116, li_117, li_118, li_119, li_120, li_128, li_142, li_255, li_320, li_781, li_852, li_999, li_1000, li_2000, li_3000, li_9999, li_12345, li_65536, li_1000000, li_252645135, li_858993459, li_1103515245, li_1431655765, sI, Int.add_zero]
  | m + 1, k, s, f + 1, k0, hk, hf => by
    have x := hA.2.1 (21 + (b * 7 + k)) (by omega) (by omega)
    have ih1 := c_cred_L hA hd b0 b1 m (k + 1) s f (by omega) (by omega) (by omega)
    have ih2 := c_cred_L hA hd b0 b1 m (k + 1) (s + 1) f (by omega) (by omega) (by omega)
    rw [fX5_creditorsOf_L4]
    by_cases q : A (21 + (b * 7 + k)) ≤ 0
    · have e : crd A b k = 0 := if_pos q
      simp (disch := omega) only [gd_t, so_some, so_bind, so_gd, so_none, Option.bind_some, iI_add, iI_sub, iI_mul, iI_neg, iI_clamp, iI_nat, vin_i, iI_le, iI_lt, iI_eq, mn_i, mx_i, if_true, if_false, if_pos, if_neg, li_0, li_1, li_2, li_3, li_4, li_5, li_6, li_7, li_8, li_9, li_10, li_11, li_12, li_14, li_15, li_16, li_20, li_21, li_24, li_28, li_30, li_31, li_40, li_41, li_42, li_43, li_44, li_45, li_47, li_48, li_49, li_57, li_59, li_60, li_61, li_62, li_63, li_70, li_71, li_76, li_80, li_96, li_97, li_98, li_99, li_100, li_101, li_102, li_103, li_104, li_105, li_106, li_107, li_108, li_109, li_110, li_111, li_112, li_113, li_114, li_115, li_116, li_117, li_118, li_119, li_120, li_128, li_142, li_255, li_320, li_781, li_852, li_999, li_1000, li_2000, li_3000, li_9999, li_12345, li_65536, li_1000000, li_252645135, li_858993459, li_1103515245, li_1431655765, hd.at]
      rw [ih1, sI, e, Int.zero_add]
    · have e : crd A b k = 1 := if_neg q
      simp (disch := omega) only [gd_t, so_some, so_bind, so_gd, so_none, Option.bind_some, iI_add, iI_sub, iI_mul, iI_neg, iI_clamp, iI_nat, vin_i, iI_le, iI_lt, iI_eq, mn_i, mx_i, if_true, if_false, if_pos, if_neg, li_0, li_1, li_2, li_3, li_4, li_5, li_6, li_7, li_8, li_9, li_10, li_11, li_12, li_14, li_15, li_16, li_20, li_21, li_24, li_28, li_30, li_31, li_40, li_41, li_42, li_43, li_44, li_45, li_47, li_48, li_49, li_57, li_59, li_60, li_61, li_62, li_63, li_70, li_71, li_76, li_80, li_96, li_97, li_98, li_99, li_100, li_101, li_102, li_103, li_104, li_105, li_106, li_107, li_108, li_109, li_110, li_111, li_112, li_113, li_114, li_115, li_116, li_117, li_118, li_119, li_120, li_128, li_142, li_255, li_320, li_781, li_852, li_999, li_1000, li_2000, li_3000, li_9999, li_12345, li_65536, li_1000000, li_252645135, li_858993459, li_1103515245, li_1431655765, hd.at]
      rw [ih2, sI, e, Int.add_assoc]
theorem m_cred_L {A : Int → Int} (hA : WA A) {a : Nat → Int32} (ha : Arr 71 a A) {b h : Int} (h7 : h ≤ 7) (b0 : 0 ≤ b) (b1 : b < 7) : ∀ (m : Nat) (k s : Int) (f : Nat), 0 ≤ k → k + m = h → m < f →
    fX12_debtor_L22 (iI h) a (iI b) f (iI s) (iI k) = some (iI (s + sI (crd A b) m k))
  | 0, k, s, f + 1, k0, hk, hf => by
    rw [fX12_debtor_L22]
    simp (disch := omega) only [gd_t, so_some, so_bind, so_gd, so_none, Option.bind_some, iI_add, iI_sub, iI_mul, iI_neg, iI_clamp, iI_nat, vin_i, iI_le, iI_lt, iI_eq, mn_i, mx_i, if_true, if_false, if_pos, if_neg, li_0, li_1, li_2, li_3, li_4, li_5, li_6, li_7, li_8, li_9, li_10, li_11, li_12, li_14, li_15, li_16, li_20, li_21, li_24, li_28, li_30, li_31, li_40, li_41, li_42, li_43, li_44, li_45, li_47, li_48, li_49, li_57, li_59, li_60, li_61, li_62, li_63, li_70, li_71, li_76, li_80, li_96, li_97, li_98, li_99, li_100, li_101, li_102, li_103, li_104, li_105, li_106, li_107, li_108, li_109, li_110, li_111, li_112, li_113, li_114, li_115, li_116, li_117, li_118, li_119, li_120, li_128, li_142, li_255, li_320, li_781, li_852, li_999, li_1000, li_2000, li_3000, li_9999, li_12345, li_65536, li_1000000, li_252645135, li_858993459, li_1103515245, li_1431655765, sI, Int.add_zero]
  | m + 1, k, s, f + 1, k0, hk, hf => by
    have x := hA.2.1 (21 + (b * 7 + k)) (by omega) (by omega)
    have ix : 21 + 7 * b + k = 21 + (b * 7 + k) := by omega
    have ih1 := m_cred_L hA ha h7 b0 b1 m (k + 1) s f (by omega) (by omega) (by omega)
    have ih2 := m_cred_L hA ha h7 b0 b1 m (k + 1) (s + 1) f (by omega) (by omega) (by omega)
    rw [fX12_debtor_L22]
    by_cases q : A (21 + (b * 7 + k)) ≤ 0
    · have e : crd A b k = 0 := if_pos q
      simp (disch := omega) only [gd_t, so_some, so_bind, so_gd, so_none, Option.bind_some, iI_add, iI_sub, iI_mul, iI_neg, iI_clamp, iI_nat, vin_i, iI_le, iI_lt, iI_eq, mn_i, mx_i, if_true, if_false, if_pos, if_neg, li_0, li_1, li_2, li_3, li_4, li_5, li_6, li_7, li_8, li_9, li_10, li_11, li_12, li_14, li_15, li_16, li_20, li_21, li_24, li_28, li_30, li_31, li_40, li_41, li_42, li_43, li_44, li_45, li_47, li_48, li_49, li_57, li_59, li_60, li_61, li_62, li_63, li_70, li_71, li_76, li_80, li_96, li_97, li_98, li_99, li_100, li_101, li_102, li_103, li_104, li_105, li_106, li_107, li_108, li_109, li_110, li_111, li_112, li_113, li_114, li_115, li_116, li_117, li_118, li_119, li_120, li_128, li_142, li_255, li_320, li_781, li_852, li_999, li_1000, li_2000, li_3000, li_9999, li_12345, li_65536, li_1000000, li_252645135, li_858993459, li_1103515245, li_1431655765, ix, ha.at, Int.add_zero]
      rw [ih1, sI, e, Int.zero_add]
    · have e : crd A b k = 1 := if_neg q
      simp (disch := omega) only [gd_t, so_some, so_bind, so_gd, so_none, Option.bind_some, iI_add, iI_sub, iI_mul, iI_neg, iI_clamp, iI_nat, vin_i, iI_le, iI_lt, iI_eq, mn_i, mx_i, if_true, if_false, if_pos, if_neg, li_0, li_1, li_2, li_3, li_4, li_5, li_6, li_7, li_8, li_9, li_10, li_11, li_12, li_14, li_15, li_16, li_20, li_21, li_24, li_28, li_30, li_31, li_40, li_41, li_42, li_43, li_44, li_45, li_47, li_48, li_49, li_57, li_59, li_60, li_61, li_62, li_63, li_70, li_71, li_76, li_80, li_96, li_97, li_98, li_99, li_100, li_101, li_102, li_103, li_104, li_105, li_106, li_107, li_108, li_109, li_110, li_111, li_112, li_113, li_114, li_115, li_116, li_117, li_118, li_119, li_120, li_128, li_142, li_255, li_320, li_781, li_852, li_999, li_1000, li_2000, li_3000, li_9999, li_12345, li_65536, li_1000000, li_252645135, li_858993459, li_1103515245, li_1431655765, ix, ha.at]
      rw [ih2, sI, e, Int.add_assoc]
theorem s_debtor {n : Int} {σ : CS} {τ : MS} (h : R n σ τ) (hn : n < 1000) : Ok n (x_debtor σ) (y_debtor τ) := by
  obtain ⟨n0, g, c, m, G⟩ := h
  obtain ⟨c1, c2, c3, c4, c5, c6, c7, c8, c9⟩ := c
  obtain ⟨m1, m2, m3, m4, m5, m6, m7, m8, m9⟩ := m
  have e := G.1.1
  have hS := G.2.2.1
  have a7 := hS.2.2
  obtain ⟨b, d1, d2⟩ := gd_both e.1 e.2 hS.1 c3.2.2.2 m3
  unfold Ok x_debtor y_debtor fX11_debtor fX12_debtor
  rw [c1.1, m1.1, d1]
  rcases d2 with ⟨rfl, d2⟩ | ⟨b0, b1, b2, d2, d3⟩
  · rw [d2]
    simp (disch := omega) only [gd_t, so_some, so_bind, so_gd, so_none, Option.bind_some, iI_add, iI_sub, iI_mul, iI_neg, iI_clamp, iI_nat, vin_i, iI_le, iI_lt, iI_eq, mn_i, mx_i, if_true, if_false, if_pos, if_neg, li_0, li_1, li_2, li_3, li_4, li_5, li_6, li_7, li_8, li_9, li_10, li_11, li_12, li_14, li_15, li_16, li_20, li_21, li_24, li_28, li_30, li_31, li_40, li_41, li_42, li_43, li_44, li_45, li_47, li_48, li_49, li_57, li_59, li_60, li_61, li_62, li_63, li_70, li_71, li_76, li_80, li_96, li_97, li_98, li_99, li_100, li_101, li_102, li_103, li_104, li_105, li_106, li_107, li_108, li_109, li_110, li_111, li_112, li_113, li_114, li_115, li_116, li_117, li_118, li_119, li_120, li_128, li_142, li_255, li_320, li_781, li_852, li_999, li_1000, li_2000, li_3000, li_9999, li_12345, li_65536, li_1000000, li_252645135, li_858993459, li_1103515245, li_1431655765]
    exact ⟨(by first | rfl | trivial), R.same ⟨n0.1, hn⟩ G ⟨c1, c2, c3, c4, c5, c6, c7, c8, c9⟩ ⟨m1, m2, m3, m4, m5, m6, m7, m8, m9⟩⟩
  · have x := oBy_b hS.1 (b := b) b0 (by omega)
    have d4 := m_owes m3 (b := b) b0 (by omega)
    have d5 := c_cred_L hS.1 c3.2.2.2 (b := b) b0 (by omega) 7 0 0 FU (by omega) (by omega) (show _ < 4000 by omega)
    have d6 := m_cred_L hS.1 m3 (b := b) e.2 b0 (by omega) g.1.1.toNat 0 0 FU (by omega) (by omega) (show _ < 4000 by omega)
    rw [← sI_cut (f := crd g.2.2.1 b) e.1 (n := 7) (by omega) (fun j j0 j1 => if_pos (by rw [hS.2.1.2.2 b j b0 (by omega) (by omega) j1 (Or.inr (Or.inl j0))]; omega))] at d6
    rw [d2]
    simp (disch := omega) only [gd_t, so_some, so_bind, so_gd, so_none, Option.bind_some, iI_add, iI_sub, iI_mul, iI_neg, iI_clamp, iI_nat, vin_i, iI_le, iI_lt, iI_eq, mn_i, mx_i, if_true, if_false, if_pos, if_neg, li_0, li_1, li_2, li_3, li_4, li_5, li_6, li_7, li_8, li_9, li_10, li_11, li_12, li_14, li_15, li_16, li_20, li_21, li_24, li_28, li_30, li_31, li_40, li_41, li_42, li_43, li_44, li_45, li_47, li_48, li_49, li_57, li_59, li_60, li_61, li_62, li_63, li_70, li_71, li_76, li_80, li_96, li_97, li_98, li_99, li_100, li_101, li_102, li_103, li_104, li_105, li_106, li_107, li_108, li_109, li_110, li_111, li_112, li_113, li_114, li_115, li_116, li_117, li_118, li_119, li_120, li_128, li_142, li_255, li_320, li_781, li_852, li_999, li_1000, li_2000, li_3000, li_9999, li_12345, li_65536, li_1000000, li_252645135, li_858993459, li_1103515245, li_1431655765, d3, d4, fX5_creditorsOf, d5, d6]
    refine so_mono (c_tell2 _ _ _ _) ?_
    intro t hr
    refine so_mono (m_tell _ _) ?_
    intro u hu
    refine so_mono (m_more hu (by simp) _) ?_
    intro v hs
    exact ⟨(by first | rfl | trivial), R.tol ⟨n0.1, hn⟩ G hr (by simp) ⟨c1, c2, c3, c4, c5, c6, hr, c8, c9⟩ ⟨m1, m2, m3, m4, m5, m6, hs, m8, m9⟩⟩
