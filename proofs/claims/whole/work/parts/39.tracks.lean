/-! suspects, gang -/
/-- who was out in a night -/
def ou (tH tD : Int → Int) (d : Int) : Nat → Int → Int32 → Int32
  | 0, _, v => v
  | m + 1, k, v => ou tH tD d m (k + 1) (if tD k = d then v ||| (1 <<< (iI (tH k) &&& 31)) else v)
theorem c_gather_L {t : Int} (t1 : t ≤ 20) {tH tD : Int → Int} {night house : Nat → Int32} (hN : Arr t night tD) (hH : Arr t house tH) (hd : ∀ k, 0 ≤ k → k < t → 0 ≤ tD k ∧ tD k ≤ 999) :
    ∀ (m : Nat) (k : Int) (f : Nat) (a : Nat → Int32), 0 ≤ k → k + m = t → m < f →
    So (fX8_gather_L10 (iI t) night house f (iI k) a) (fun o => ∀ d : Int, 0 ≤ d → d < 31 → o d.toNat = ou tH tD d m k (a d.toNat))
  | 0, k, f + 1, a, k0, hk, hf => by
    rw [fX8_gather_L10]
    simp (disch := omega) only [gd_t, so_some, so_bind, so_gd, so_none, Option.bind_some, iI_add, iI_sub, iI_mul, iI_neg, iI_clamp, iI_nat, vin_i, iI_le, iI_lt, iI_eq, mn_i, mx_i, if_true, if_false, if_pos, if_neg, li_0, li_1, li_2, li_3, li_4, li_5, li_6, li_7, li_8, li_9, li_10, li_11, li_12, li_14, li_15, li_16, li_20, li_21, li_24, li_28, li_30, li_31, li_40, li_41, li_42, li_43, li_44, li_45, li_47, li_48, li_49, li_57, li_59, li_60, li_61, li_62, li_63, li_70, li_71, li_76, li_80, li_96, li_97, li_98, li_99, li_100, li_101, li_102, li_103, li_104, li_105, li_106, li_107, li_108, li_109, li_110, li_111, li_112, li_113, li_114, li_115, li_116, li_117, li_118, li_119, li_120, li_128, li_142, li_255, li_320, li_781, li_852, li_999, li_1000, li_2000, li_3000, li_9999, li_12345, li_65536, li_1000000, li_252645135, li_858993459, li_1103515245, li_1431655765]
    exact fun d _ _ => rfl
  | m + 1, k, f + 1, a, k0, hk, hf => by
    have x := hd k k0 (by omega)
    rw [fX8_gather_L10]
    by_cases q : 31 ≤ tD k
    · simp (disch := omega) only [gd_t, so_some, so_bind, so_gd, so_none, Option.bind_some, iI_add, iI_sub, iI_mul, iI_neg, iI_clamp, iI_nat, vin_i, iI_le, iI_lt, iI_eq, mn_i, mx_i, if_true, if_false, if_pos, if_neg, li_0, li_1, li_2, li_3, li_4, li_5, li_6, li_7, li_8, li_9, li_10, li_11, li_12, li_14, li_15, li_16, li_20, li_21, li_24, li_28, li_30, li_31, li_40, li_41, li_42, li_43, li_44, li_45, li_47, li_48, li_49, li_57, li_59, li_60, li_61, li_62, li_63, li_70, li_71, li_76, li_80, li_96, li_97, li_98, li_99, li_100, li_101, li_102, li_103, li_104, li_105, li_106, li_107, li_108, li_109, li_110, li_111, li_112, li_113, li_114, li_115, li_116, li_117, li_118, li_119, li_120, li_128, li_142, li_255, li_320, li_781, li_852, li_999, li_1000, li_2000, li_3000, li_9999, li_12345, li_65536, li_1000000, li_252645135, li_858993459, li_1103515245, li_1431655765, hN.at, hH.at]
      refine so_mono (c_gather_L t1 hN hH hd m (k + 1) f a (by omega) (by omega) (by omega)) ?_
      intro o ho d d0 d1
      rw [ho d d0 d1, ou, if_neg (by omega)]
    · simp (disch := omega) only [gd_t, so_some, so_bind, so_gd, so_none, Option.bind_some, iI_add, iI_sub, iI_mul, iI_neg, iI_clamp, iI_nat, vin_i, iI_le, iI_lt, iI_eq, mn_i, mx_i, if_true, if_false, if_pos, if_neg, li_0, li_1, li_2, li_3, li_4, li_5, li_6, li_7, li_8, li_9, li_10, li_11, li_12, li_14, li_15, li_16, li_20, li_21, li_24, li_28, li_30, li_31, li_40, li_41, li_42, li_43, li_44, li_45, li_47, li_48, li_49, li_57, li_59, li_60, li_61, li_62, li_63, li_70, li_71, li_76, li_80, li_96, li_97, li_98, li_99, li_100, li_101, li_102, li_103, li_104, li_105, li_106, li_107, li_108, li_109, li_110, li_111, li_112, li_113, li_114, li_115, li_116, li_117, li_118, li_119, li_120, li_128, li_142, li_255, li_320, li_781, li_852, li_999, li_1000, li_2000, li_3000, li_9999, li_12345, li_65536, li_1000000, li_252645135, li_858993459, li_1103515245, li_1431655765, hN.at, hH.at]
      refine so_mono (c_gather_L t1 hN hH hd m (k + 1) f _ (by omega) (by omega) (by omega)) ?_
      intro o ho d d0 d1
      rw [ho d d0 d1, ou]
      by_cases w : tD k = d
      · rw [if_pos w, ← w, upd, if_pos rfl]
        rfl
      · rw [if_neg w, upd, if_neg (by omega)]
theorem c_gather {t : Int} (t0 : 0 ≤ t) (t1 : t ≤ 20) {tH tD : Int → Int} {night house : Nat → Int32} (hN : Arr t night tD) (hH : Arr t house tH) (hd : ∀ k, 0 ≤ k → k < t → 0 ≤ tD k ∧ tD k ≤ 999) (a : Nat → Int32) :
    So (fX8_gather (iI t) a night house) (fun o => ∀ d : Int, 0 ≤ d → d < 31 → o d.toNat = ou tH tD d t.toNat 0 (iI 0)) := by
  unfold fX8_gather
  simp only [so_bind, li_0]
  refine so_mono (t_fill (n := 31) (by omega) 0 a) ?_
  intro b hb
  simp only [so_bind, so_some]
  refine so_mono (c_gather_L t1 hN hH hd t.toNat 0 FU b (by omega) (by omega) (show _ < 4000 by omega)) ?_
  intro o ho d d0 d1
  rw [ho d d0 d1, hb.at d0 d1]
theorem m_outIn_L {t : Int} (t1 : t ≤ 20) {tH tD : Int → Int} {a : Nat → Int32} (ha : ∀ k, 0 ≤ k → k < t → a (2 * k).toNat = iI (tH k) ∧ a (2 * k + 1).toNat = iI (tD k)) (hd : ∀ k, 0 ≤ k → k < t → 0 ≤ tD k ∧ tD k ≤ 999) {d : Int} (d0 : 0 ≤ d) (d1 : d < 31) :
    ∀ (m : Nat) (k : Int) (f : Nat) (v : Int32), 0 ≤ k → k + m = t → m < f → fX12_outIn_L4 (iI t) a (iI d) f v (iI k) = some (ou tH tD d m k v)
  | 0, k, f + 1, v, k0, hk, hf => by
    rw [fX12_outIn_L4]
    simp (disch := omega) only [gd_t, so_some, so_bind, so_gd, so_none, Option.bind_some, iI_add, iI_sub, iI_mul, iI_neg, iI_clamp, iI_nat, vin_i, iI_le, iI_lt, iI_eq, mn_i, mx_i, if_true, if_false, if_pos, if_neg, li_0, li_1, li_2, li_3, li_4, li_5, li_6, li_7, li_8, li_9, li_10, li_11, li_12, li_14, li_15, li_16, li_20, li_21, li_24, li_28, li_30, li_31, li_40, li_41, li_42, li_43, li_44, li_45, li_47, li_48, li_49, li_57, li_59, li_60, li_61, li_62, li_63, li_70, li_71, li_76, li_80, li_96, li_97, li_98, li_99, li_100, li_101, li_102, li_103, li_104, li_105, li_106, li_107, li_108, li_109, li_110, li_111, li_112, li_113, li_114, li_115, li_116, li_117, li_118, li_119, li_120, li_128, li_142, li_255, li_320, li_781, li_852, li_999, li_1000, li_2000, li_3000, li_9999, li_12345, li_65536, li_1000000, li_252645135, li_858993459, li_1103515245, li_1431655765]
    rfl
  | m + 1, k, f + 1, v, k0, hk, hf => by
    have x := hd k k0 (by omega)
    have y := ha k k0 (by omega)
    rw [fX12_outIn_L4, ou]
    by_cases q : tD k = d
    · simp (disch := omega) only [gd_t, so_some, so_bind, so_gd, so_none, Option.bind_some, iI_add, iI_sub, iI_mul, iI_neg, iI_clamp, iI_nat, vin_i, iI_le, iI_lt, iI_eq, mn_i, mx_i, if_true, if_false, if_pos, if_neg, li_0, li_1, li_2, li_3, li_4, li_5, li_6, li_7, li_8, li_9, li_10, li_11, li_12, li_14, li_15, li_16, li_20, li_21, li_24, li_28, li_30, li_31, li_40, li_41, li_42, li_43, li_44, li_45, li_47, li_48, li_49, li_57, li_59, li_60, li_61, li_62, li_63, li_70, li_71, li_76, li_80, li_96, li_97, li_98, li_99, li_100, li_101, li_102, li_103, li_104, li_105, li_106, li_107, li_108, li_109, li_110, li_111, li_112, li_113, li_114, li_115, li_116, li_117, li_118, li_119, li_120, li_128, li_142, li_255, li_320, li_781, li_852, li_999, li_1000, li_2000, li_3000, li_9999, li_12345, li_65536, li_1000000, li_252645135, li_858993459, li_1103515245, li_1431655765, y.1, y.2]
      rw [m_outIn_L t1 ha hd d0 d1 m (k + 1) f _ (by omega) (by omega) (by omega)]
    · simp (disch := omega) only [gd_t, so_some, so_bind, so_gd, so_none, Option.bind_some, iI_add, iI_sub, iI_mul, iI_neg, iI_clamp, iI_nat, vin_i, iI_le, iI_lt, iI_eq, mn_i, mx_i, if_true, if_false, if_pos, if_neg, li_0, li_1, li_2, li_3, li_4, li_5, li_6, li_7, li_8, li_9, li_10, li_11, li_12, li_14, li_15, li_16, li_20, li_21, li_24, li_28, li_30, li_31, li_40, li_41, li_42, li_43, li_44, li_45, li_47, li_48, li_49, li_57, li_59, li_60, li_61, li_62, li_63, li_70, li_71, li_76, li_80, li_96, li_97, li_98, li_99, li_100, li_101, li_102, li_103, li_104, li_105, li_106, li_107, li_108, li_109, li_110, li_111, li_112, li_113, li_114, li_115, li_116, li_117, li_118, li_119, li_120, li_128, li_142, li_255, li_320, li_781, li_852, li_999, li_1000, li_2000, li_3000, li_9999, li_12345, li_65536, li_1000000, li_252645135, li_858993459, li_1103515245, li_1431655765, y.1, y.2, Int32_or0]
      rw [m_outIn_L t1 ha hd d0 d1 m (k + 1) f _ (by omega) (by omega) (by omega)]
theorem m_outIn {t : Int} (t0 : 0 ≤ t) (t1 : t ≤ 20) {tH tD : Int → Int} {a : Nat → Int32} (ha : ∀ k, 0 ≤ k → k < t → a (2 * k).toNat = iI (tH k) ∧ a (2 * k + 1).toNat = iI (tD k)) (hd : ∀ k, 0 ≤ k → k < t → 0 ≤ tD k ∧ tD k ≤ 999) {d : Int} (d0 : 0 ≤ d) (d1 : d < 31) :
    fX12_outIn (iI t) a (iI d) = some (ou tH tD d t.toNat 0 (iI 0)) := by
  unfold fX12_outIn
  rw [li_0, m_outIn_L t1 ha hd d0 d1 t.toNat 0 FU (iI 0) (by omega) (by omega) (show _ < 4000 by omega)]
  rfl
theorem s_susp_L {p : Int32} {out : Nat → Int32} {t : Int32} {a : Nat → Int32} (H : ∀ d : Int, 0 ≤ d → d < 31 → fX12_outIn t a (iI d) = some (out d.toNat)) : ∀ (m : Nat) (k : Int) (f : Nat) (v : Int32), 0 ≤ k → k + m = 31 → m < f →
    So (fX11_suspects_L23 p out f v (iI k)) (fun o => fX12_suspects_L22 t a p f v (iI k) = some o)
  | 0, k, f + 1, v, k0, hk, hf => by
    rw [fX11_suspects_L23, fX12_suspects_L22]
    simp (disch := omega) only [gd_t, so_some, so_bind, so_gd, so_none, Option.bind_some, iI_add, iI_sub, iI_mul, iI_neg, iI_clamp, iI_nat, vin_i, iI_le, iI_lt, iI_eq, mn_i, mx_i, if_true, if_false, if_pos, if_neg, li_0, li_1, li_2, li_3, li_4, li_5, li_6, li_7, li_8, li_9, li_10, li_11, li_12, li_14, li_15, li_16, li_20, li_21, li_24, li_28, li_30, li_31, li_40, li_41, li_42, li_43, li_44, li_45, li_47, li_48, li_49, li_57, li_59, li_60, li_61, li_62, li_63, li_70, li_71, li_76, li_80, li_96, li_97, li_98, li_99, li_100, li_101, li_102, li_103, li_104, li_105, li_106, li_107, li_108, li_109, li_110, li_111, li_112, li_113, li_114, li_115, li_116, li_117, li_118, li_119, li_120, li_128, li_142, li_255, li_320, li_781, li_852, li_999, li_1000, li_2000, li_3000, li_9999, li_12345, li_65536, li_1000000, li_252645135, li_858993459, li_1103515245, li_1431655765]
  | m + 1, k, f + 1, v, k0, hk, hf => by
    have T := bt_test p (s := k) k0 (by omega)
    have X := H k k0 (by omega)
    rw [fX11_suspects_L23, fX12_suspects_L22]
    unfold fX12_has
    rw [T]
    by_cases q : bt p k.toNat = true
    · rw [if_pos q]
      simp (disch := omega) only [gd_t, so_some, so_bind, so_gd, so_none, Option.bind_some, iI_add, iI_sub, iI_mul, iI_neg, iI_clamp, iI_nat, vin_i, iI_le, iI_lt, iI_eq, mn_i, mx_i, if_true, if_false, if_pos, if_neg, li_0, li_1, li_2, li_3, li_4, li_5, li_6, li_7, li_8, li_9, li_10, li_11, li_12, li_14, li_15, li_16, li_20, li_21, li_24, li_28, li_30, li_31, li_40, li_41, li_42, li_43, li_44, li_45, li_47, li_48, li_49, li_57, li_59, li_60, li_61, li_62, li_63, li_70, li_71, li_76, li_80, li_96, li_97, li_98, li_99, li_100, li_101, li_102, li_103, li_104, li_105, li_106, li_107, li_108, li_109, li_110, li_111, li_112, li_113, li_114, li_115, li_116, li_117, li_118, li_119, li_120, li_128, li_142, li_255, li_320, li_781, li_852, li_999, li_1000, li_2000, li_3000, li_9999, li_12345, li_65536, li_1000000, li_252645135, li_858993459, li_1103515245, li_1431655765, X]
      exact s_susp_L H m (k + 1) f _ (by omega) (by omega) (by omega)
    · rw [if_neg q]
      simp (disch := omega) only [gd_t, so_some, so_bind, so_gd, so_none, Option.bind_some, iI_add, iI_sub, iI_mul, iI_neg, iI_clamp, iI_nat, vin_i, iI_le, iI_lt, iI_eq, mn_i, mx_i, if_true, if_false, if_pos, if_neg, li_0, li_1, li_2, li_3, li_4, li_5, li_6, li_7, li_8, li_9, li_10, li_11, li_12, li_14, li_15, li_16, li_20, li_21, li_24, li_28, li_30, li_31, li_40, li_41, li_42, li_43, li_44, li_45, li_47, li_48, li_49, li_57, li_59, li_60, li_61, li_62, li_63, li_70, li_71, li_76, li_80, li_96, li_97, li_98, li_99, li_100, li_101, li_102, li_103, li_104, li_105, li_106, li_107, li_108, li_109, li_110, li_111, li_112, li_113, li_114, li_115, li_116, li_117, li_118, li_119, li_120, li_128, li_142, li_255, li_320, li_781, li_852, li_999, li_1000, li_2000, li_3000, li_9999, li_12345, li_65536, li_1000000, li_252645135, li_858993459, li_1103515245, li_1431655765, X]
      exact s_susp_L H m (k + 1) f _ (by omega) (by omega) (by omega)
theorem s_suspects {n : Int} {σ : CS} {τ : MS} (h : R n σ τ) (hn : n < 1000) (p1 : Int32) : Ok n (x_suspects σ p1) (y_suspects τ p1) := by
  obtain ⟨n0, g, c, m, G⟩ := h
  obtain ⟨P, rfl, b0, b1⟩ := iI_of p1
  obtain ⟨c1, c2, c3, c4, c5, c6, c7, c8, c9⟩ := c
  obtain ⟨m1, m2, m3, m4, m5, m6, m7, m8, m9⟩ := m
  have e := G.1.1
  have hS := G.2.2.1
  have a7 := hS.2.2
  have g9 := G.2.2.2.2.2.2.2.2
  have hd : ∀ k, 0 ≤ k → k < g.2.2.2.2.2.2.2.2.2.2.2.2.2.1 → 0 ≤ g.2.2.2.2.2.2.2.2.2.2.2.2.2.2.2 k ∧ g.2.2.2.2.2.2.2.2.2.2.2.2.2.2.2 k ≤ 999 := fun k k0 k1 => (g9.2.2 k k0 k1).2
  unfold Ok x_suspects y_suspects fX11_suspects fX12_suspects fX7_allBits
  rw [c1.1, m1.1, c9.1, m9.1]
  by_cases q : 0 ≤ P
  · simp (disch := omega) only [gd_t, so_some, so_bind, so_gd, so_none, Option.bind_some, iI_add, iI_sub, iI_mul, iI_neg, iI_clamp, iI_nat, vin_i, iI_le, iI_lt, iI_eq, mn_i, mx_i, if_true, if_false, if_pos, if_neg, li_0, li_1, li_2, li_3, li_4, li_5, li_6, li_7, li_8, li_9, li_10, li_11, li_12, li_14, li_15, li_16, li_20, li_21, li_24, li_28, li_30, li_31, li_40, li_41, li_42, li_43, li_44, li_45, li_47, li_48, li_49, li_57, li_59, li_60, li_61, li_62, li_63, li_70, li_71, li_76, li_80, li_96, li_97, li_98, li_99, li_100, li_101, li_102, li_103, li_104, li_105, li_106, li_107, li_108, li_109, li_110, li_111, li_112, li_113, li_114, li_115, li_116, li_117, li_118, li_119, li_120, li_128, li_142, li_255, li_320, li_781, li_852, li_999, li_1000, li_2000, li_3000, li_9999, li_12345, li_65536, li_1000000, li_252645135, li_858993459, li_1103515245, li_1431655765]
    refine so_mono (c_gather g9.1 g9.2.1 c9.2.2 c9.2.1 hd _) ?_
    intro o ho
    have H : ∀ d : Int, 0 ≤ d → d < 31 → fX12_outIn (iI g.2.2.2.2.2.2.2.2.2.2.2.2.2.1) (τ.2.1 20) (iI d) = some (o d.toNat) := fun d d0 d1 => by
      rw [ho d d0 d1]
      exact m_outIn g9.1 g9.2.1 m9.2 hd d0 d1
    refine so_mono (s_susp_L (p := iI P) H 31 0 FU _ (by omega) (by omega) (show _ < 4000 by omega)) ?_
    intro r hr
    simp only [hr, so_some]
    exact ⟨(by first | rfl | trivial), R.same ⟨n0.1, hn⟩ G ⟨c1, c2, c3, c4, c5, c6, c7, c8, ⟨c9.1, c9.2⟩⟩ ⟨m1, m2, m3, m4, m5, m6, m7, m8, ⟨m9.1, m9.2⟩⟩⟩
  · simp (disch := omega) only [gd_t, so_some, so_bind, so_gd, so_none, Option.bind_some, iI_add, iI_sub, iI_mul, iI_neg, iI_clamp, iI_nat, vin_i, iI_le, iI_lt, iI_eq, mn_i, mx_i, if_true, if_false, if_pos, if_neg, li_0, li_1, li_2, li_3, li_4, li_5, li_6, li_7, li_8, li_9, li_10, li_11, li_12, li_14, li_15, li_16, li_20, li_21, li_24, li_28, li_30, li_31, li_40, li_41, li_42, li_43, li_44, li_45, li_47, li_48, li_49, li_57, li_59, li_60, li_61, li_62, li_63, li_70, li_71, li_76, li_80, li_96, li_97, li_98, li_99, li_100, li_101, li_102, li_103, li_104, li_105, li_106, li_107, li_108, li_109, li_110, li_111, li_112, li_113, li_114, li_115, li_116, li_117, li_118, li_119, li_120, li_128, li_142, li_255, li_320, li_781, li_852, li_999, li_1000, li_2000, li_3000, li_9999, li_12345, li_65536, li_1000000, li_252645135, li_858993459, li_1103515245, li_1431655765]
    exact ⟨(by first | rfl | trivial), R.same ⟨n0.1, hn⟩ G ⟨c1, c2, c3, c4, c5, c6, c7, c8, ⟨c9.1, c9.2⟩⟩ ⟨m1, m2, m3, m4, m5, m6, m7, m8, ⟨m9.1, m9.2⟩⟩⟩
/-! gang -/
def isB (O : Int → Int32) (days s : Int32) : Nat → Int → Bool
  | 0, _ => true
  | m + 1, k => (if bt days k.toNat = true ∧ (O k &&& s) = iI 0 then false else true) && isB O days s m (k + 1)
theorem isB_t {O : Int → Int32} {days s : Int32} {m : Nat} {k : Int} (q : bt days k.toNat = true) (w : (O k &&& s) = iI 0) : isB O days s (m + 1) k = false := by
  rw [isB, if_pos ⟨q, w⟩, Bool.false_and]
theorem isB_f {O : Int → Int32} {days s : Int32} {m : Nat} {k : Int} (w : ¬ (bt days k.toNat = true ∧ (O k &&& s) = iI 0)) : isB O days s (m + 1) k = isB O days s m (k + 1) := by
  rw [isB, if_neg w, Bool.true_and]
theorem isB_ext {O : Int → Int32} {days s s' : Int32} (h : ∀ d, 0 ≤ d → d < 31 → (O d &&& s) = (O d &&& s')) : ∀ (m : Nat) (k : Int), 0 ≤ k → k + m = 31 → isB O days s m k = isB O days s' m k
  | 0, _, _, _ => rfl
  | m + 1, k, k0, hk => by rw [isB, isB, h k k0 (by omega), isB_ext h m (k + 1) (by omega) (by omega)]
theorem c_seen_L {O : Int → Int32} {days s : Int32} {out : Nat → Int32} (ho : ∀ d : Int, 0 ≤ d → d < 31 → out d.toNat = O d) : ∀ (m : Nat) (k : Int) (f : Nat), 0 ≤ k → k + m = 31 → m < f →
    fX8_areSeen_L2 out s days f (iI k) = some (if isB O days s m k = true then Sum.inl () else Sum.inr (iI 0))
  | 0, k, f + 1, k0, hk, hf => by
    rw [fX8_areSeen_L2]
    simp (disch := omega) only [gd_t, so_some, so_bind, so_gd, so_none, Option.bind_some, iI_add, iI_sub, iI_mul, iI_neg, iI_clamp, iI_nat, vin_i, iI_le, iI_lt, iI_eq, mn_i, mx_i, if_true, if_false, if_pos, if_neg, li_0, li_1, li_2, li_3, li_4, li_5, li_6, li_7, li_8, li_9, li_10, li_11, li_12, li_14, li_15, li_16, li_20, li_21, li_24, li_28, li_30, li_31, li_40, li_41, li_42, li_43, li_44, li_45, li_47, li_48, li_49, li_57, li_59, li_60, li_61, li_62, li_63, li_70, li_71, li_76, li_80, li_96, li_97, li_98, li_99, li_100, li_101, li_102, li_103, li_104, li_105, li_106, li_107, li_108, li_109, li_110, li_111, li_112, li_113, li_114, li_115, li_116, li_117, li_118, li_119, li_120, li_128, li_142, li_255, li_320, li_781, li_852, li_999, li_1000, li_2000, li_3000, li_9999, li_12345, li_65536, li_1000000, li_252645135, li_858993459, li_1103515245, li_1431655765]
    rfl
  | m + 1, k, f + 1, k0, hk, hf => by
    have T := bt_test days (s := k) k0 (by omega)
    have ih := c_seen_L ho (days := days) (s := s) m (k + 1) f (by omega) (by omega) (by omega)
    rw [fX8_areSeen_L2, T]
    by_cases q : bt days k.toNat = true
    · rw [if_pos q]
      simp (disch := omega) only [gd_t, so_some, so_bind, so_gd, so_none, Option.bind_some, iI_add, iI_sub, iI_mul, iI_neg, iI_clamp, iI_nat, vin_i, iI_le, iI_lt, iI_eq, mn_i, mx_i, if_true, if_false, if_pos, if_neg, li_0, li_1, li_2, li_3, li_4, li_5, li_6, li_7, li_8, li_9, li_10, li_11, li_12, li_14, li_15, li_16, li_20, li_21, li_24, li_28, li_30, li_31, li_40, li_41, li_42, li_43, li_44, li_45, li_47, li_48, li_49, li_57, li_59, li_60, li_61, li_62, li_63, li_70, li_71, li_76, li_80, li_96, li_97, li_98, li_99, li_100, li_101, li_102, li_103, li_104, li_105, li_106, li_107, li_108, li_109, li_110, li_111, li_112, li_113, li_114, li_115, li_116, li_117, li_118, li_119, li_120, li_128, li_142, li_255, li_320, li_781, li_852, li_999, li_1000, li_2000, li_3000, li_9999, li_12345, li_65536, li_1000000, li_252645135, li_858993459, li_1103515245, li_1431655765, ho]
      by_cases w : (O k &&& s) = iI 0
      · rw [if_pos w, isB_t q w]
        rfl
      · rw [if_neg w, isB_f (fun z => w z.2)]
        exact ih
    · rw [if_neg q, isB_f (fun z => q z.1)]
      simp (disch := omega) only [gd_t, so_some, so_bind, so_gd, so_none, Option.bind_some, iI_add, iI_sub, iI_mul, iI_neg, iI_clamp, iI_nat, vin_i, iI_le, iI_lt, iI_eq, mn_i, mx_i, if_true, if_false, if_pos, if_neg, li_0, li_1, li_2, li_3, li_4, li_5, li_6, li_7, li_8, li_9, li_10, li_11, li_12, li_14, li_15, li_16, li_20, li_21, li_24, li_28, li_30, li_31, li_40, li_41, li_42, li_43, li_44, li_45, li_47, li_48, li_49, li_57, li_59, li_60, li_61, li_62, li_63, li_70, li_71, li_76, li_80, li_96, li_97, li_98, li_99, li_100, li_101, li_102, li_103, li_104, li_105, li_106, li_107, li_108, li_109, li_110, li_111, li_112, li_113, li_114, li_115, li_116, li_117, li_118, li_119, li_120, li_128, li_142, li_255, li_320, li_781, li_852, li_999, li_1000, li_2000, li_3000, li_9999, li_12345, li_65536, li_1000000, li_252645135, li_858993459, li_1103515245, li_1431655765]
      exact ih
theorem c_seen {O : Int → Int32} {days s : Int32} {out : Nat → Int32} (ho : ∀ d : Int, 0 ≤ d → d < 31 → out d.toNat = O d) : fX8_areSeen out s days = some (if isB O days s 31 0 = true then iI 1 else iI 0) := by
  unfold fX8_areSeen
  rw [li_0, c_seen_L ho 31 0 FU (by omega) (by omega) (show _ < 4000 by omega), Option.bind_some]
  cases isB O days s 31 0
  · rfl
  · rfl
theorem m_is_0 {t : Int32} {a : Nat → Int32} {days s : Int32} : ∀ (m : Nat) (k : Int) (f : Nat), 0 ≤ k → k + m = 31 → m < f → fX12_gang_L47 t a days s f (iI 0) (iI k) = some (iI 0)
  | 0, k, f + 1, k0, hk, hf => by
    rw [fX12_gang_L47]
    simp (disch := omega) only [gd_t, so_some, so_bind, so_gd, so_none, Option.bind_some, iI_add, iI_sub, iI_mul, iI_neg, iI_clamp, iI_nat, vin_i, iI_le, iI_lt, iI_eq, mn_i, mx_i, if_true, if_false, if_pos, if_neg, li_0, li_1, li_2, li_3, li_4, li_5, li_6, li_7, li_8, li_9, li_10, li_11, li_12, li_14, li_15, li_16, li_20, li_21, li_24, li_28, li_30, li_31, li_40, li_41, li_42, li_43, li_44, li_45, li_47, li_48, li_49, li_57, li_59, li_60, li_61, li_62, li_63, li_70, li_71, li_76, li_80, li_96, li_97, li_98, li_99, li_100, li_101, li_102, li_103, li_104, li_105, li_106, li_107, li_108, li_109, li_110, li_111, li_112, li_113, li_114, li_115, li_116, li_117, li_118, li_119, li_120, li_128, li_142, li_255, li_320, li_781, li_852, li_999, li_1000, li_2000, li_3000, li_9999, li_12345, li_65536, li_1000000, li_252645135, li_858993459, li_1103515245, li_1431655765]
  | m + 1, k, f + 1, k0, hk, hf => by
    rw [fX12_gang_L47]
    simp (disch := omega) only [gd_t, so_some, so_bind, so_gd, so_none, Option.bind_some, iI_add, iI_sub, iI_mul, iI_neg, iI_clamp, iI_nat, vin_i, iI_le, iI_lt, iI_eq, mn_i, mx_i, if_true, if_false, if_pos, if_neg, li_0, li_1, li_2, li_3, li_4, li_5, li_6, li_7, li_8, li_9, li_10, li_11, li_12, li_14, li_15, li_16, li_20, li_21, li_24, li_28, li_30, li_31, li_40, li_41, li_42, li_43, li_44, li_45, li_47, li_48, li_49, li_57, li_59, li_60, li_61, li_62, li_63, li_70, li_71, li_76, li_80, li_96, li_97, li_98, li_99, li_100, li_101, li_102, li_103, li_104, li_105, li_106, li_107, li_108, li_109, li_110, li_111, li_112, li_113, li_114, li_115, li_116, li_117, li_118, li_119, li_120, li_128, li_142, li_255, li_320, li_781, li_852, li_999, li_1000, li_2000, li_3000, li_9999, li_12345, li_65536, li_1000000, li_252645135, li_858993459, li_1103515245, li_1431655765]
    exact m_is_0 m (k + 1) f (by omega) (by omega) (by omega)
theorem m_is_L {O : Int → Int32} {t : Int32} {a : Nat → Int32} {days s : Int32} (H : ∀ d : Int, 0 ≤ d → d < 31 → fX12_outIn t a (iI d) = some (O d)) : ∀ (m : Nat) (k : Int) (f : Nat), 0 ≤ k → k + m = 31 → m < f →
    fX12_gang_L47 t a days s f (iI 1) (iI k) = some (if isB O days s m k = true then iI 1 else iI 0)
  | 0, k, f + 1, k0, hk, hf => by
    rw [fX12_gang_L47]
    simp (disch := omega) only [gd_t, so_some, so_bind, so_gd, so_none, Option.bind_some, iI_add, iI_sub, iI_mul, iI_neg, iI_clamp, iI_nat, vin_i, iI_le, iI_lt, iI_eq, mn_i, mx_i, if_true, if_false, if_pos, if_neg, li_0, li_1, li_2, li_3, li_4, li_5, li_6, li_7, li_8, li_9, li_10, li_11, li_12, li_14, li_15, li_16, li_20, li_21, li_24, li_28, li_30, li_31, li_40, li_41, li_42, li_43, li_44, li_45, li_47, li_48, li_49, li_57, li_59, li_60, li_61, li_62, li_63, li_70, li_71, li_76, li_80, li_96, li_97, li_98, li_99, li_100, li_101, li_102, li_103, li_104, li_105, li_106, li_107, li_108, li_109, li_110, li_111, li_112, li_113, li_114, li_115, li_116, li_117, li_118, li_119, li_120, li_128, li_142, li_255, li_320, li_781, li_852, li_999, li_1000, li_2000, li_3000, li_9999, li_12345, li_65536, li_1000000, li_252645135, li_858993459, li_1103515245, li_1431655765]
    rfl
  | m + 1, k, f + 1, k0, hk, hf => by
    have T := bt_test days (s := k) k0 (by omega)
    have X := H k k0 (by omega)
    have ih := m_is_L H (days := days) (s := s) m (k + 1) f (by omega) (by omega) (by omega)
    have ih0 := m_is_0 (t := t) (a := a) (days := days) (s := s) m (k + 1) f (by omega) (by omega) (by omega)
    rw [fX12_gang_L47]
    unfold fX12_has
    rw [T]
    by_cases q : bt days k.toNat = true
    · rw [if_pos q]
      simp (disch := omega) only [gd_t, so_some, so_bind, so_gd, so_none, Option.bind_some, iI_add, iI_sub, iI_mul, iI_neg, iI_clamp, iI_nat, vin_i, iI_le, iI_lt, iI_eq, mn_i, mx_i, if_true, if_false, if_pos, if_neg, li_0, li_1, li_2, li_3, li_4, li_5, li_6, li_7, li_8, li_9, li_10, li_11, li_12, li_14, li_15, li_16, li_20, li_21, li_24, li_28, li_30, li_31, li_40, li_41, li_42, li_43, li_44, li_45, li_47, li_48, li_49, li_57, li_59, li_60, li_61, li_62, li_63, li_70, li_71, li_76, li_80, li_96, li_97, li_98, li_99, li_100, li_101, li_102, li_103, li_104, li_105, li_106, li_107, li_108, li_109, li_110, li_111, li_112, li_113, li_114, li_115, li_116, li_117, li_118, li_119, li_120, li_128, li_142, li_255, li_320, li_781, li_852, li_999, li_1000, li_2000, li_3000, li_9999, li_12345, li_65536, li_1000000, li_252645135, li_858993459, li_1103515245, li_1431655765, X]
      by_cases w : (O k &&& s) = iI 0
      · rw [if_pos w, isB_t q w, ih0]
        rfl
      · rw [if_neg w, isB_f (fun z => w z.2)]
        exact ih
    · rw [if_neg q, isB_f (fun z => q z.1)]
      simp (disch := omega) only [gd_t, so_some, so_bind, so_gd, so_none, Option.bind_some, iI_add, iI_sub, iI_mul, iI_neg, iI_clamp, iI_nat, vin_i, iI_le, iI_lt, iI_eq, mn_i, mx_i, if_true, if_false, if_pos, if_neg, li_0, li_1, li_2, li_3, li_4, li_5, li_6, li_7, li_8, li_9, li_10, li_11, li_12, li_14, li_15, li_16, li_20, li_21, li_24, li_28, li_30, li_31, li_40, li_41, li_42, li_43, li_44, li_45, li_47, li_48, li_49, li_57, li_59, li_60, li_61, li_62, li_63, li_70, li_71, li_76, li_80, li_96, li_97, li_98, li_99, li_100, li_101, li_102, li_103, li_104, li_105, li_106, li_107, li_108, li_109, li_110, li_111, li_112, li_113, li_114, li_115, li_116, li_117, li_118, li_119, li_120, li_128, li_142, li_255, li_320, li_781, li_852, li_999, li_1000, li_2000, li_3000, li_9999, li_12345, li_65536, li_1000000, li_252645135, li_858993459, li_1103515245, li_1431655765]
      exact ih
def pcI (b : Int) : Int := (pcN b.toNat : Int)
theorem bitI {b : Int} (b0 : 0 ≤ b) (b1 : b < 16384) : fJ6_bitCount_0f7a4 (iI b) = some (iI (pcI b)) := by
  have e1 := b1_i (x := b.toNat) (by omega)
  have e2 := b2_i e1.2
  have e3 := b3_i e2.2
  have e4 := b4_i e3.2
  have e5 := b5_i e4.2
  have d := bc_d ⟨b.toNat % 128, by omega⟩ ⟨b.toNat / 128, by omega⟩
  dsimp only at d
  rw [show b.toNat % 128 + 128 * (b.toNat / 128) = b.toNat by omega] at d
  unfold fJ6_bitCount_0f7a4 pcI
  rw [show iI b = iI ((b.toNat : Nat) : Int) by congr 1; omega, e1.1, e2.1, e3.1, e4.1, e5, d]
theorem pc_7 : ∀ n : Fin 128, pcN n.val ≤ 7 := by decide +kernel
theorem pc_m : ∀ h : Fin 8, ∀ n : Fin 128, 2 ^ h.val ≤ n.val → pcN (n.val % 2 ^ h.val) < pcN n.val := by decide +kernel
theorem pcI_7 {b : Int} (b0 : 0 ≤ b) (b1 : b < 128) : 0 ≤ pcI b ∧ pcI b ≤ 7 := by
  have := pc_7 ⟨b.toNat, by omega⟩
  unfold pcI
  dsimp only at this
  omega
def gaS (O : Int → Int32) (days : Int32) (b k : Int) : Int := if (b = -1 ∨ pcI k < pcI b) ∧ isB O days (iI k) 31 0 = true then k else b
def gaL (O : Int → Int32) (days : Int32) : Nat → Int → Int → Int
  | 0, _, b => b
  | m + 1, k, b => gaL O days m (k + 1) (gaS O days b k)
theorem gaL_add (O : Int → Int32) (days : Int32) : ∀ (m j : Nat) (k b : Int), gaL O days (m + j) k b = gaL O days j (k + m) (gaL O days m k b)
  | 0, j, k, b => by rw [Nat.zero_add, show k + ((0 : Nat) : Int) = k by omega]; rfl
  | m + 1, j, k, b => by
    rw [show m + 1 + j = (m + j) + 1 by omega, gaL, gaL_add O days m j (k + 1) _, gaL, show k + 1 + (m : Int) = k + ((m + 1 : Nat) : Int) by omega]
def gaI (O : Int → Int32) (days : Int32) (k b : Int) : Prop := -1 ≤ b ∧ b < k ∧ ∀ s, 0 ≤ s → s < k → isB O days (iI s) 31 0 = true → b ≠ -1 ∧ pcI b ≤ pcI s
theorem gaI_S {O : Int → Int32} {days : Int32} {k b : Int} (k0 : 0 ≤ k) (I : gaI O days k b) : gaI O days (k + 1) (gaS O days b k) := by
  obtain ⟨i1, i2, i3⟩ := I
  unfold gaS
  by_cases q : (b = -1 ∨ pcI k < pcI b) ∧ isB O days (iI k) 31 0 = true
  · rw [if_pos q]
    refine ⟨by omega, by omega, fun s s0 s1 hs => ⟨by omega, ?_⟩⟩
    by_cases w : s = k
    · rw [w]; omega
    · have := i3 s s0 (by omega) hs
      omega
  · rw [if_neg q]
    refine ⟨i1, by omega, fun s s0 s1 hs => ?_⟩
    by_cases w : s = k
    · rw [w] at hs
      have : ¬ (b = -1 ∨ pcI k < pcI b) := fun z => q ⟨z, hs⟩
      rw [w]
      omega
    · exact i3 s s0 (by omega) hs
theorem gaI_L {O : Int → Int32} {days : Int32} : ∀ (m : Nat) (k b : Int), 0 ≤ k → gaI O days k b → gaI O days (k + m) (gaL O days m k b)
  | 0, k, b, _, I => by rw [show k + ((0 : Nat) : Int) = k by omega]; exact I
  | m + 1, k, b, k0, I => by
    rw [gaL, show k + ((m + 1 : Nat) : Int) = k + 1 + (m : Int) by omega]
    exact gaI_L m (k + 1) _ (by omega) (gaI_S k0 I)
/-- houses that the town hasn't add nothing -/
theorem gaL_id {O : Int → Int32} {days : Int32} {h : Nat} (h7 : h ≤ 7) (hO : ∀ d, 0 ≤ d → d < 31 → ∀ j : Nat, h ≤ j → bt (O d) j = false) : ∀ (m : Nat) (k b : Int), ((2 ^ h : Nat) : Int) ≤ k → k + m = 128 → gaI O days k b → gaL O days m k b = b
  | 0, _, _, _, _, _ => rfl
  | m + 1, k, b, hk, hm, I => by
    have p1 : 0 < 2 ^ h := Nat.two_pow_pos h
    have e : gaS O days b k = b := by
      unfold gaS
      refine if_neg (fun q => ?_)
      have hm := pc_m ⟨h, by omega⟩ ⟨k.toNat, by omega⟩ (by show 2 ^ h ≤ k.toNat; omega)
      dsimp only at hm
      have lt : k.toNat % 2 ^ h < 2 ^ h := Nat.mod_lt _ p1
      have ex : ∀ d, 0 ≤ d → d < 31 → (O d &&& iI k) = (O d &&& iI ((k.toNat % 2 ^ h : Nat) : Int)) := by
        intro d d0 d1
        apply bt_ext
        intro j hj
        rw [bt_and, bt_and]
        by_cases w : h ≤ j
        · rw [hO d d0 d1 j w, Bool.false_and, Bool.false_and]
        · congr 1
          rw [show iI k = iI ((k.toNat : Nat) : Int) by congr 1; omega]
          unfold bt
          rw [iI_tn (by omega), iI_tn (by omega)]
          show (BitVec.ofNat 32 _).toNat.testBit j = (BitVec.ofNat 32 _).toNat.testBit j
          rw [BitVec.toNat_ofNat, BitVec.toNat_ofNat, Nat.mod_eq_of_lt (show k.toNat < 2 ^ 32 by omega), Nat.mod_eq_of_lt (show k.toNat % 2 ^ h < 2 ^ 32 by omega), Nat.testBit_mod_two_pow, decide_eq_true (by omega), Bool.true_and]
      have i3 := I.2.2 ((k.toNat % 2 ^ h : Nat) : Int) (by omega) (by omega) (by rw [← isB_ext ex 31 0 (by omega) (by omega)]; exact q.2)
      have z : pcI ((k.toNat % 2 ^ h : Nat) : Int) < pcI k := by
        unfold pcI
        rw [show (((k.toNat % 2 ^ h : Nat) : Int)).toNat = k.toNat % 2 ^ h by omega]
        omega
      omega
    rw [gaL, e]
    exact gaL_id h7 hO m (k + 1) b (by omega) (by omega) ⟨I.1, by have := I.2.1; omega, by have := (gaI_S (by omega) I).2.2; rw [e] at this; exact this⟩
theorem ou_b {tH tD : Int → Int} {t h : Int} (h7 : h ≤ 7) (ht : ∀ k, 0 ≤ k → k < t → 0 ≤ tH k ∧ tH k < h) {d : Int} {j : Nat} (hj : h ≤ (j : Int)) : ∀ (m : Nat) (k : Int) (v : Int32), 0 ≤ k → k + m = t → bt v j = false → bt (ou tH tD d m k v) j = false
  | 0, _, _, _, _, hv => hv
  | m + 1, k, v, k0, hk, hv => by
    have x := ht k k0 (by omega)
    rw [ou]
    refine ou_b h7 ht hj m (k + 1) _ (by omega) (by omega) ?_
    split
    · rw [bt_or, hv, Bool.false_or]
      by_cases q : j < 32
      · rw [bt_one x.1 (by omega) q, decide_eq_false (by omega)]
      · exact bt_hi _ (by omega)
    · exact hv
theorem ab_d : ∀ h : Fin 8, ((1 : Int32) <<< (iI (h.val : Int) &&& 31)) - 1 = iI ((2 ^ h.val : Nat) - 1 : Int) := by decide
theorem c_allBits {h : Int} (h0 : 0 ≤ h) (h7 : h ≤ 7) : fX7_allBits (iI h) = some (iI (((2 ^ h.toNat : Nat) : Int) - 1)) := by
  have o := ab_d ⟨h.toNat, by omega⟩
  rw [show (((⟨h.toNat, by omega⟩ : Fin 8).val : Nat) : Int) = h by show ((h.toNat : Nat) : Int) = h; omega] at o
  unfold fX7_allBits
  rw [o]
def gaZ (b : Int) : Int := if b = -1 then 8 else pcI b
theorem c_gang_L {h : Int} (h0 : 0 ≤ h) (h7 : h ≤ 7) (h8 : 2 ^ h.toNat ≤ 128) {O : Int → Int32} {days : Int32} {out : Nat → Int32} (ho : ∀ d : Int, 0 ≤ d → d < 31 → out d.toNat = O d) : ∀ (m : Nat) (k b : Int) (f : Nat), 0 ≤ k → k + m = ((2 ^ h.toNat : Nat) : Int) → m < f → -1 ≤ b → b < k →
    fX11_gang_L21 (iI h) days out f (iI b) (iI (gaZ b)) (iI k) = some (iI (gaL O days m k b), iI (gaZ (gaL O days m k b)))
  | 0, k, b, f + 1, k0, hk, hf, b0, b1 => by
    rw [fX11_gang_L21, c_allBits h0 h7]
    simp (disch := omega) only [gd_t, so_some, so_bind, so_gd, so_none, Option.bind_some, iI_add, iI_sub, iI_mul, iI_neg, iI_clamp, iI_nat, vin_i, iI_le, iI_lt, iI_eq, mn_i, mx_i, if_true, if_false, if_pos, if_neg, li_0, li_1, li_2, li_3, li_4, li_5, li_6, li_7, li_8, li_9, li_10, li_11, li_12, li_14, li_15, li_16, li_20, li_21, li_24, li_28, li_30, li_31, li_40, li_41, li_42, li_43, li_44, li_45, li_47, li_48, li_49, li_57, li_59, li_60, li_61, li_62, li_63, li_70, li_71, li_76, li_80, li_96, li_97, li_98, li_99, li_100, li_101, li_102, li_103, li_104, li_105, li_106, li_107, li_108, li_109, li_110, li_111, li_112, li_113, li_114, li_115, li_116, li_117, li_118, li_119, li_120, li_128, li_142, li_255, li_320, li_781, li_852, li_999, li_1000, li_2000, li_3000, li_9999, li_12345, li_65536, li_1000000, li_252645135, li_858993459, li_1103515245, li_1431655765]
    rfl
  | m + 1, k, b, f + 1, k0, hk, hf, b0, b1 => by
    have pk := pcI_7 (b := k) k0 (by omega)
    have bk := bitI (b := k) k0 (by omega)
    have ih1 := c_gang_L h0 h7 h8 (days := days) ho m (k + 1) b f (by omega) (by omega) (by omega) (by omega) (by omega)
    have ih2 := c_gang_L h0 h7 h8 (days := days) ho m (k + 1) k f (by omega) (by omega) (by omega) (by omega) (by omega)
    have zk : gaZ k = pcI k := if_neg (by omega)
    rw [zk] at ih2
    have zb : 0 ≤ gaZ b ∧ gaZ b ≤ 8 ∧ ((b = -1 ∨ pcI k < pcI b) ↔ pcI k < gaZ b) := by
      unfold gaZ
      by_cases w : b = -1
      · rw [if_pos w]; omega
      · have := pcI_7 (b := b) (by omega) (by omega)
        rw [if_neg w]; omega
    have sn := c_seen ho (days := days) (s := iI k)
    rw [fX11_gang_L21, c_allBits h0 h7, gaL]
    by_cases q : gaZ b ≤ pcI k
    · have e : gaS O days b k = b := if_neg (fun z => by have := zb.2.2.1 z.1; omega)
      simp (disch := omega) only [gd_t, so_some, so_bind, so_gd, so_none, Option.bind_some, iI_add, iI_sub, iI_mul, iI_neg, iI_clamp, iI_nat, vin_i, iI_le, iI_lt, iI_eq, mn_i, mx_i, if_true, if_false, if_pos, if_neg, li_0, li_1, li_2, li_3, li_4, li_5, li_6, li_7, li_8, li_9, li_10, li_11, li_12, li_14, li_15, li_16, li_20, li_21, li_24, li_28, li_30, li_31, li_40, li_41, li_42, li_43, li_44, li_45, li_47, li_48, li_49, li_57, li_59, li_60, li_61, li_62, li_63, li_70, li_71, li_76, li_80, li_96, li_97, li_98, li_99, li_100, li_101, li_102, li_103, li_104, li_105, li_106, li_107, li_108, li_109, li_110, li_111, li_112, li_113, li_114, li_115, li_116, li_117, li_118, li_119, li_120, li_128, li_142, li_255, li_320, li_781, li_852, li_999, li_1000, li_2000, li_3000, li_9999, li_12345, li_65536, li_1000000, li_252645135, li_858993459, li_1103515245, li_1431655765, bk]
      rw [e]
      exact ih1
    · by_cases w : isB O days (iI k) 31 0 = true
      · have e : gaS O days b k = k := if_pos ⟨zb.2.2.2 (by omega), w⟩
        rw [if_pos w] at sn
        simp (disch := omega) only [gd_t, so_some, so_bind, so_gd, so_none, Option.bind_some, iI_add, iI_sub, iI_mul, iI_neg, iI_clamp, iI_nat, vin_i, iI_le, iI_lt, iI_eq, mn_i, mx_i, if_true, if_false, if_pos, if_neg, li_0, li_1, li_2, li_3, li_4, li_5, li_6, li_7, li_8, li_9, li_10, li_11, li_12, li_14, li_15, li_16, li_20, li_21, li_24, li_28, li_30, li_31, li_40, li_41, li_42, li_43, li_44, li_45, li_47, li_48, li_49, li_57, li_59, li_60, li_61, li_62, li_63, li_70, li_71, li_76, li_80, li_96, li_97, li_98, li_99, li_100, li_101, li_102, li_103, li_104, li_105, li_106, li_107, li_108, li_109, li_110, li_111, li_112, li_113, li_114, li_115, li_116, li_117, li_118, li_119, li_120, li_128, li_142, li_255, li_320, li_781, li_852, li_999, li_1000, li_2000, li_3000, li_9999, li_12345, li_65536, li_1000000, li_252645135, li_858993459, li_1103515245, li_1431655765, bk, sn]
        rw [e]
        exact ih2
      · have e : gaS O days b k = b := if_neg (fun z => w z.2)
        rw [if_neg w] at sn
        simp (disch := omega) only [gd_t, so_some, so_bind, so_gd, so_none, Option.bind_some, iI_add, iI_sub, iI_mul, iI_neg, iI_clamp, iI_nat, vin_i, iI_le, iI_lt, iI_eq, mn_i, mx_i, if_true, if_false, if_pos, if_neg, li_0, li_1, li_2, li_3, li_4, li_5, li_6, li_7, li_8, li_9, li_10, li_11, li_12, li_14, li_15, li_16, li_20, li_21, li_24, li_28, li_30, li_31, li_40, li_41, li_42, li_43, li_44, li_45, li_47, li_48, li_49, li_57, li_59, li_60, li_61, li_62, li_63, li_70, li_71, li_76, li_80, li_96, li_97, li_98, li_99, li_100, li_101, li_102, li_103, li_104, li_105, li_106, li_107, li_108, li_109, li_110, li_111, li_112, li_113, li_114, li_115, li_116, li_117, li_118, li_119, li_120, li_128, li_142, li_255, li_320, li_781, li_852, li_999, li_1000, li_2000, li_3000, li_9999, li_12345, li_65536, li_1000000, li_252645135, li_858993459, li_1103515245, li_1431655765, bk, sn]
        rw [e]
        exact ih1
theorem m_gang_L {O : Int → Int32} {t : Int32} {a : Nat → Int32} {days : Int32} (H : ∀ d : Int, 0 ≤ d → d < 31 → fX12_outIn t a (iI d) = some (O d)) : ∀ (m : Nat) (k b : Int) (f : Nat), 0 ≤ k → k + m = 128 → m < f → -1 ≤ b → b < k →
    fX12_gang_L15 t a days f (iI b) (iI k) = some (iI (gaL O days m k b))
  | 0, k, b, f + 1, k0, hk, hf, b0, b1 => by
    rw [fX12_gang_L15]
    simp (disch := omega) only [gd_t, so_some, so_bind, so_gd, so_none, Option.bind_some, iI_add, iI_sub, iI_mul, iI_neg, iI_clamp, iI_nat, vin_i, iI_le, iI_lt, iI_eq, mn_i, mx_i, if_true, if_false, if_pos, if_neg, li_0, li_1, li_2, li_3, li_4, li_5, li_6, li_7, li_8, li_9, li_10, li_11, li_12, li_14, li_15, li_16, li_20, li_21, li_24, li_28, li_30, li_31, li_40, li_41, li_42, li_43, li_44, li_45, li_47, li_48, li_49, li_57, li_59, li_60, li_61, li_62, li_63, li_70, li_71, li_76, li_80, li_96, li_97, li_98, li_99, li_100, li_101, li_102, li_103, li_104, li_105, li_106, li_107, li_108, li_109, li_110, li_111, li_112, li_113, li_114, li_115, li_116, li_117, li_118, li_119, li_120, li_128, li_142, li_255, li_320, li_781, li_852, li_999, li_1000, li_2000, li_3000, li_9999, li_12345, li_65536, li_1000000, li_252645135, li_858993459, li_1103515245, li_1431655765]
    rfl
  | m + 1, k, b, f + 1, k0, hk, hf, b0, b1 => by
    have pk := pcI_7 (b := k) k0 (by omega)
    have bk := bitI (b := k) k0 (by omega)
    have ih1 := m_gang_L (days := days) H m (k + 1) b f (by omega) (by omega) (by omega) (by omega) (by omega)
    have ih2 := m_gang_L (days := days) H m (k + 1) k f (by omega) (by omega) (by omega) (by omega) (by omega)
    have sn := m_is_L H (days := days) (s := iI k) 31 0 FU (by omega) (by omega) (show _ < 4000 by omega)
    rw [fX12_gang_L15, gaL]
    by_cases w : isB O days (iI k) 31 0 = true
    · rw [if_pos w] at sn
      by_cases q : b = -1
      · have e : gaS O days b k = k := if_pos ⟨Or.inl q, w⟩
        simp (disch := omega) only [gd_t, so_some, so_bind, so_gd, so_none, Option.bind_some, iI_add, iI_sub, iI_mul, iI_neg, iI_clamp, iI_nat, vin_i, iI_le, iI_lt, iI_eq, mn_i, mx_i, if_true, if_false, if_pos, if_neg, li_0, li_1, li_2, li_3, li_4, li_5, li_6, li_7, li_8, li_9, li_10, li_11, li_12, li_14, li_15, li_16, li_20, li_21, li_24, li_28, li_30, li_31, li_40, li_41, li_42, li_43, li_44, li_45, li_47, li_48, li_49, li_57, li_59, li_60, li_61, li_62, li_63, li_70, li_71, li_76, li_80, li_96, li_97, li_98, li_99, li_100, li_101, li_102, li_103, li_104, li_105, li_106, li_107, li_108, li_109, li_110, li_111, li_112, li_113, li_114, li_115, li_116, li_117, li_118, li_119, li_120, li_128, li_142, li_255, li_320, li_781, li_852, li_999, li_1000, li_2000, li_3000, li_9999, li_12345, li_65536, li_1000000, li_252645135, li_858993459, li_1103515245, li_1431655765, bk, sn]
        rw [e]
        exact ih2
      · have pb := pcI_7 (b := b) (by omega) (by omega)
        have bb := bitI (b := b) (by omega) (by omega)
        by_cases q2 : pcI k < pcI b
        · have e : gaS O days b k = k := if_pos ⟨Or.inr q2, w⟩
          simp (disch := omega) only [gd_t, so_some, so_bind, so_gd, so_none, Option.bind_some, iI_add, iI_sub, iI_mul, iI_neg, iI_clamp, iI_nat, vin_i, iI_le, iI_lt, iI_eq, mn_i, mx_i, if_true, if_false, if_pos, if_neg, li_0, li_1, li_2, li_3, li_4, li_5, li_6, li_7, li_8, li_9, li_10, li_11, li_12, li_14, li_15, li_16, li_20, li_21, li_24, li_28, li_30, li_31, li_40, li_41, li_42, li_43, li_44, li_45, li_47, li_48, li_49, li_57, li_59, li_60, li_61, li_62, li_63, li_70, li_71, li_76, li_80, li_96, li_97, li_98, li_99, li_100, li_101, li_102, li_103, li_104, li_105, li_106, li_107, li_108, li_109, li_110, li_111, li_112, li_113, li_114, li_115, li_116, li_117, li_118, li_119, li_120, li_128, li_142, li_255, li_320, li_781, li_852, li_999, li_1000, li_2000, li_3000, li_9999, li_12345, li_65536, li_1000000, li_252645135, li_858993459, li_1103515245, li_1431655765, bk, bb, sn]
          rw [e]
          exact ih2
        · have e : gaS O days b k = b := if_neg (fun z => by have := z.1; omega)
          simp (disch := omega) only [gd_t, so_some, so_bind, so_gd, so_none, Option.bind_some, iI_add, iI_sub, iI_mul, iI_neg, iI_clamp, iI_nat, vin_i, iI_le, iI_lt, iI_eq, mn_i, mx_i, if_true, if_false, if_pos, if_neg, li_0, li_1, li_2, li_3, li_4, li_5, li_6, li_7, li_8, li_9, li_10, li_11, li_12, li_14, li_15, li_16, li_20, li_21, li_24, li_28, li_30, li_31, li_40, li_41, li_42, li_43, li_44, li_45, li_47, li_48, li_49, li_57, li_59, li_60, li_61, li_62, li_63, li_70, li_71, li_76, li_80, li_96, li_97, li_98, li_99, li_100, li_101, li_102, li_103, li_104, li_105, li_106, li_107, li_108, li_109, li_110, li_111, li_112, li_113, li_114, li_115, li_116, li_117, li_118, li_119, li_120, li_128, li_142, li_255, li_320, li_781, li_852, li_999, li_1000, li_2000, li_3000, li_9999, li_12345, li_65536, li_1000000, li_252645135, li_858993459, li_1103515245, li_1431655765, bk, bb, sn]
          rw [e]
          exact ih1
    · rw [if_neg w] at sn
      have e : gaS O days b k = b := if_neg (fun z => w z.2)
      by_cases q : b = -1
      · simp (disch := omega) only [gd_t, so_some, so_bind, so_gd, so_none, Option.bind_some, iI_add, iI_sub, iI_mul, iI_neg, iI_clamp, iI_nat, vin_i, iI_le, iI_lt, iI_eq, mn_i, mx_i, if_true, if_false, if_pos, if_neg, li_0, li_1, li_2, li_3, li_4, li_5, li_6, li_7, li_8, li_9, li_10, li_11, li_12, li_14, li_15, li_16, li_20, li_21, li_24, li_28, li_30, li_31, li_40, li_41, li_42, li_43, li_44, li_45, li_47, li_48, li_49, li_57, li_59, li_60, li_61, li_62, li_63, li_70, li_71, li_76, li_80, li_96, li_97, li_98, li_99, li_100, li_101, li_102, li_103, li_104, li_105, li_106, li_107, li_108, li_109, li_110, li_111, li_112, li_113, li_114, li_115, li_116, li_117, li_118, li_119, li_120, li_128, li_142, li_255, li_320, li_781, li_852, li_999, li_1000, li_2000, li_3000, li_9999, li_12345, li_65536, li_1000000, li_252645135, li_858993459, li_1103515245, li_1431655765, bk, sn]
        rw [e]
        exact ih1
      · have pb := pcI_7 (b := b) (by omega) (by omega)
        have bb := bitI (b := b) (by omega) (by omega)
        by_cases q2 : pcI k < pcI b
        · simp (disch := omega) only [gd_t, so_some, so_bind, so_gd, so_none, Option.bind_some, iI_add, iI_sub, iI_mul, iI_neg, iI_clamp, iI_nat, vin_i, iI_le, iI_lt, iI_eq, mn_i, mx_i, if_true, if_false, if_pos, if_neg, li_0, li_1, li_2, li_3, li_4, li_5, li_6, li_7, li_8, li_9, li_10, li_11, li_12, li_14, li_15, li_16, li_20, li_21, li_24, li_28, li_30, li_31, li_40, li_41, li_42, li_43, li_44, li_45, li_47, li_48, li_49, li_57, li_59, li_60, li_61, li_62, li_63, li_70, li_71, li_76, li_80, li_96, li_97, li_98, li_99, li_100, li_101, li_102, li_103, li_104, li_105, li_106, li_107, li_108, li_109, li_110, li_111, li_112, li_113, li_114, li_115, li_116, li_117, li_118, li_119, li_120, li_128, li_142, li_255, li_320, li_781, li_852, li_999, li_1000, li_2000, li_3000, li_9999, li_12345, li_65536, li_1000000, li_252645135, li_858993459, li_1103515245, li_1431655765, bk, bb, sn]
          rw [e]
          exact ih1
        · simp (disch := omega) only [gd_t, so_some, so_bind, so_gd, so_none, Option.bind_some, iI_add, iI_sub, iI_mul, iI_neg, iI_clamp, iI_nat, vin_i, iI_le, iI_lt, iI_eq, mn_i, mx_i, if_true, if_false, if_pos, if_neg, li_0, li_1, li_2, li_3, li_4, li_5, li_6, li_7, li_8, li_9, li_10, li_11, li_12, li_14, li_15, li_16, li_20, li_21, li_24, li_28, li_30, li_31, li_40, li_41, li_42, li_43, li_44, li_45, li_47, li_48, li_49, li_57, li_59, li_60, li_61, li_62, li_63, li_70, li_71, li_76, li_80, li_96, li_97, li_98, li_99, li_100, li_101, li_102, li_103, li_104, li_105, li_106, li_107, li_108, li_109, li_110, li_111, li_112, li_113, li_114, li_115, li_116, li_117, li_118, li_119, li_120, li_128, li_142, li_255, li_320, li_781, li_852, li_999, li_1000, li_2000, li_3000, li_9999, li_12345, li_65536, li_1000000, li_252645135, li_858993459, li_1103515245, li_1431655765, bk, bb, sn]
          rw [e]
          exact ih1
theorem two_le : ∀ h : Fin 8, 2 ^ h.val ≤ 128 := by decide
theorem ga_all {h : Int} (h0 : 0 ≤ h) (h7 : h ≤ 7) {O : Int → Int32} {days : Int32} (hO : ∀ d, 0 ≤ d → d < 31 → ∀ j : Nat, h.toNat ≤ j → bt (O d) j = false) : gaL O days 128 0 (-1) = gaL O days (2 ^ h.toNat) 0 (-1) ∧ -1 ≤ gaL O days 128 0 (-1) ∧ gaL O days 128 0 (-1) < 128 := by
  have t8 := two_le ⟨h.toNat, by omega⟩
  dsimp only at t8
  have I0 : gaI O days 0 (-1) := ⟨by omega, by omega, fun s s0 s1 => by omega⟩
  have I1 := gaI_L (2 ^ h.toNat) 0 (-1) (by omega) I0
  have I2 := gaI_L 128 0 (-1) (by omega) I0
  refine ⟨?_, I2.1, by have := I2.2.1; omega⟩
  obtain ⟨j, hj⟩ : ∃ j, 128 = 2 ^ h.toNat + j := ⟨128 - 2 ^ h.toNat, by omega⟩
  rw [hj, gaL_add]
  exact gaL_id (by omega) hO j _ _ (by omega) (by omega) I1
theorem s_gang {n : Int} {σ : CS} {τ : MS} (h : R n σ τ) (hn : n < 1000) (p1 : Int32) : Ok n (x_gang σ p1) (y_gang τ p1) := by
  obtain ⟨n0, g, c, m, G⟩ := h
  obtain ⟨P, rfl, b0, b1⟩ := iI_of p1
  obtain ⟨c1, c2, c3, c4, c5, c6, c7, c8, c9⟩ := c
  obtain ⟨m1, m2, m3, m4, m5, m6, m7, m8, m9⟩ := m
  have e := G.1.1
  have hS := G.2.2.1
  have a7 := hS.2.2
  have g9 := G.2.2.2.2.2.2.2.2
  have hd : ∀ k, 0 ≤ k → k < g.2.2.2.2.2.2.2.2.2.2.2.2.2.1 → 0 ≤ g.2.2.2.2.2.2.2.2.2.2.2.2.2.2.2 k ∧ g.2.2.2.2.2.2.2.2.2.2.2.2.2.2.2 k ≤ 999 := fun k k0 k1 => (g9.2.2 k k0 k1).2
  have hh : ∀ k, 0 ≤ k → k < g.2.2.2.2.2.2.2.2.2.2.2.2.2.1 → 0 ≤ g.2.2.2.2.2.2.2.2.2.2.2.2.2.2.1 k ∧ g.2.2.2.2.2.2.2.2.2.2.2.2.2.2.1 k < g.1.1 := fun k k0 k1 => (g9.2.2 k k0 k1).1
  unfold Ok x_gang y_gang fX11_gang fX12_gang
  rw [c1.1, c9.1, m9.1]
  by_cases q : 0 ≤ P
  · simp (disch := omega) only [gd_t, so_some, so_bind, so_gd, so_none, Option.bind_some, iI_add, iI_sub, iI_mul, iI_neg, iI_clamp, iI_nat, vin_i, iI_le, iI_lt, iI_eq, mn_i, mx_i, if_true, if_false, if_pos, if_neg, li_0, li_1, li_2, li_3, li_4, li_5, li_6, li_7, li_8, li_9, li_10, li_11, li_12, li_14, li_15, li_16, li_20, li_21, li_24, li_28, li_30, li_31, li_40, li_41, li_42, li_43, li_44, li_45, li_47, li_48, li_49, li_57, li_59, li_60, li_61, li_62, li_63, li_70, li_71, li_76, li_80, li_96, li_97, li_98, li_99, li_100, li_101, li_102, li_103, li_104, li_105, li_106, li_107, li_108, li_109, li_110, li_111, li_112, li_113, li_114, li_115, li_116, li_117, li_118, li_119, li_120, li_128, li_142, li_255, li_320, li_781, li_852, li_999, li_1000, li_2000, li_3000, li_9999, li_12345, li_65536, li_1000000, li_252645135, li_858993459, li_1103515245, li_1431655765]
    refine so_mono (c_gather g9.1 g9.2.1 c9.2.2 c9.2.1 hd _) ?_
    intro o ho
    have H : ∀ d : Int, 0 ≤ d → d < 31 → fX12_outIn (iI g.2.2.2.2.2.2.2.2.2.2.2.2.2.1) (τ.2.1 20) (iI d) = some (ou g.2.2.2.2.2.2.2.2.2.2.2.2.2.2.1 g.2.2.2.2.2.2.2.2.2.2.2.2.2.2.2 d g.2.2.2.2.2.2.2.2.2.2.2.2.2.1.toNat 0 (iI 0)) := fun d d0 d1 => m_outIn g9.1 g9.2.1 m9.2 hd d0 d1
    have t8 := two_le ⟨g.1.1.toNat, by omega⟩
    dsimp only at t8
    have K1 := c_gang_L e.1 e.2 t8 (O := fun d => ou g.2.2.2.2.2.2.2.2.2.2.2.2.2.2.1 g.2.2.2.2.2.2.2.2.2.2.2.2.2.2.2 d g.2.2.2.2.2.2.2.2.2.2.2.2.2.1.toNat 0 (iI 0)) (days := iI P) ho (2 ^ g.1.1.toNat) 0 (-1) FU (by omega) (by omega) (show _ < 4000 by omega) (by omega) (by omega)
    have K2 := m_gang_L (O := fun d => ou g.2.2.2.2.2.2.2.2.2.2.2.2.2.2.1 g.2.2.2.2.2.2.2.2.2.2.2.2.2.2.2 d g.2.2.2.2.2.2.2.2.2.2.2.2.2.1.toNat 0 (iI 0)) (days := iI P) H 128 0 (-1) FU (by omega) (by omega) (show _ < 4000 by omega) (by omega) (by omega)
    have K3 := ga_all e.1 e.2 (O := fun d => ou g.2.2.2.2.2.2.2.2.2.2.2.2.2.2.1 g.2.2.2.2.2.2.2.2.2.2.2.2.2.2.2 d g.2.2.2.2.2.2.2.2.2.2.2.2.2.1.toNat 0 (iI 0)) (days := iI P) (fun d d0 d1 j hj => ou_b e.2 hh (by omega) _ _ _ (by omega) (by omega) (bt_0 j))
    rw [← K3.1] at K1
    have K4 := K3.2
    clear K3
    obtain ⟨b, hb⟩ : ∃ b, gaL (fun d => ou g.2.2.2.2.2.2.2.2.2.2.2.2.2.2.1 g.2.2.2.2.2.2.2.2.2.2.2.2.2.2.2 d g.2.2.2.2.2.2.2.2.2.2.2.2.2.1.toNat 0 (iI 0)) (iI P) 128 0 (-1) = b := ⟨_, rfl⟩
    rw [hb] at K1 K2 K4
    rw [show gaZ (-1) = 8 from rfl] at K1
    simp only [K1, K2, so_some, so_bind, Option.bind_some]
    by_cases w : b = -1
    · simp (disch := omega) only [gd_t, so_some, so_bind, so_gd, so_none, Option.bind_some, iI_add, iI_sub, iI_mul, iI_neg, iI_clamp, iI_nat, vin_i, iI_le, iI_lt, iI_eq, mn_i, mx_i, if_true, if_false, if_pos, if_neg, li_0, li_1, li_2, li_3, li_4, li_5, li_6, li_7, li_8, li_9, li_10, li_11, li_12, li_14, li_15, li_16, li_20, li_21, li_24, li_28, li_30, li_31, li_40, li_41, li_42, li_43, li_44, li_45, li_47, li_48, li_49, li_57, li_59, li_60, li_61, li_62, li_63, li_70, li_71, li_76, li_80, li_96, li_97, li_98, li_99, li_100, li_101, li_102, li_103, li_104, li_105, li_106, li_107, li_108, li_109, li_110, li_111, li_112, li_113, li_114, li_115, li_116, li_117, li_118, li_119, li_120, li_128, li_142, li_255, li_320, li_781, li_852, li_999, li_1000, li_2000, li_3000, li_9999, li_12345, li_65536, li_1000000, li_252645135, li_858993459, li_1103515245, li_1431655765]
      exact ⟨(by first | rfl | trivial), R.same ⟨n0.1, hn⟩ G ⟨c1, c2, c3, c4, c5, c6, c7, c8, ⟨c9.1, c9.2⟩⟩ ⟨m1, m2, m3, m4, m5, m6, m7, m8, ⟨m9.1, m9.2⟩⟩⟩
    · have bb := bitI (b := b) (by omega) (by omega)
      have z : gaZ b = pcI b := if_neg w
      simp (disch := omega) only [gd_t, so_some, so_bind, so_gd, so_none, Option.bind_some, iI_add, iI_sub, iI_mul, iI_neg, iI_clamp, iI_nat, vin_i, iI_le, iI_lt, iI_eq, mn_i, mx_i, if_true, if_false, if_pos, if_neg, li_0, li_1, li_2, li_3, li_4, li_5, li_6, li_7, li_8, li_9, li_10, li_11, li_12, li_14, li_15, li_16, li_20, li_21, li_24, li_28, li_30, li_31, li_40, li_41, li_42, li_43, li_44, li_45, li_47, li_48, li_49, li_57, li_59, li_60, li_61, li_62, li_63, li_70, li_71, li_76, li_80, li_96, li_97, li_98, li_99, li_100, li_101, li_102, li_103, li_104, li_105, li_106, li_107, li_108, li_109, li_110, li_111, li_112, li_113, li_114, li_115, li_116, li_117, li_118, li_119, li_120, li_128, li_142, li_255, li_320, li_781, li_852, li_999, li_1000, li_2000, li_3000, li_9999, li_12345, li_65536, li_1000000, li_252645135, li_858993459, li_1103515245, li_1431655765, bb, z]
      refine so_mono (c_tell _ _ _) ?_
      intro t hr
      refine so_mono (m_tell _ _) ?_
      intro u hs
      exact ⟨(by first | rfl | trivial), R.tol ⟨n0.1, hn⟩ G hr (by simp) ⟨c1, c2, c3, c4, c5, c6, hr, c8, ⟨c9.1, c9.2⟩⟩ ⟨m1, m2, m3, m4, m5, m6, hs, m8, ⟨m9.1, m9.2⟩⟩⟩
  · simp (disch := omega) only [gd_t, so_some, so_bind, so_gd, so_none, Option.bind_some, iI_add, iI_sub, iI_mul, iI_neg, iI_clamp, iI_nat, vin_i, iI_le, iI_lt, iI_eq, mn_i, mx_i, if_true, if_false, if_pos, if_neg, li_0, li_1, li_2, li_3, li_4, li_5, li_6, li_7, li_8, li_9, li_10, li_11, li_12, li_14, li_15, li_16, li_20, li_21, li_24, li_28, li_30, li_31, li_40, li_41, li_42, li_43, li_44, li_45, li_47, li_48, li_49, li_57, li_59, li_60, li_61, li_62, li_63, li_70, li_71, li_76, li_80, li_96, li_97, li_98, li_99, li_100, li_101, li_102, li_103, li_104, li_105, li_106, li_107, li_108, li_109, li_110, li_111, li_112, li_113, li_114, li_115, li_116, li_117, li_118, li_119, li_120, li_128, li_142, li_255, li_320, li_781, li_852, li_999, li_1000, li_2000, li_3000, li_9999, li_12345, li_65536, li_1000000, li_252645135, li_858993459, li_1103515245, li_1431655765]
    exact ⟨(by first | rfl | trivial), R.same ⟨n0.1, hn⟩ G ⟨c1, c2, c3, c4, c5, c6, c7, c8, ⟨c9.1, c9.2⟩⟩ ⟨m1, m2, m3, m4, m5, m6, m7, m8, ⟨m9.1, m9.2⟩⟩⟩
