theorem sI_sub (f g : Int → Int) : ∀ (m : Nat) (k : Int), sI (fun j => f j - g j) m k = sI f m k - sI g m k
  | 0, _ => rfl
  | m + 1, k => by
    rw [sI, sI, sI, sI_sub f g m (k + 1)]
    omega
theorem m_lord_L {h : Int} (h7 : h ≤ 7) {A T : Int → Int} {a t : Nat → Int32} (ha : Arr 71 a A) (ht : Arr 71 t T) {b : Int} (b0 : 0 ≤ b) (b1 : b < 7) : ∀ (m : Nat) (k s : Int) (f : Nat), 0 ≤ k → k + m = h → m < f →
    fX12_lord_L42 (iI h) a (iI b) t f (iI s) (iI k) = some (iI (s + sI (fun j => T (21 + (j * 7 + b)) - A (21 + (j * 7 + b))) m k))
  | 0, k, s, f + 1, k0, hk, hf => by
    rw [fX12_lord_L42]
    simp (disch := omega) only [gd_t, so_some, so_bind, so_gd, so_none, Option.bind_some, iI_add, iI_sub, iI_mul, iI_neg, iI_clamp, iI_nat, vin_i, iI_le, iI_lt, iI_eq, mn_i, mx_i, if_true, if_false, if_pos, if_neg, li_0, li_1, li_2, li_3, li_4, li_5, li_6, li_7, li_8, li_9, li_10, li_11, li_12, li_14, li_15, li_16, li_20, li_21, li_24, li_28, li_30, li_31, li_40, li_41, li_42, li_43, li_44, li_45, li_47, li_48, li_49, li_57, li_59, li_60, li_61, li_62, li_63, li_70, li_71, li_76, li_80, li_96, li_97, li_98, li_99, li_100, li_101, li_102, li_103, li_104, li_105, li_106, li_107, li_108, li_109, li_110, li_111, li_112, li_113, li_114, li_115, li_116, li_117, li_118, li_119, li_120, li_128, li_142, li_255, li_320, li_781, li_852, li_999, li_1000, li_2000, li_3000, li_9999, li_12345, li_65536, li_1000000, li_252645135, li_858993459, li_1103515245, li_1431655765, sI, Int.add_zero]
  | m + 1, k, s, f + 1, k0, hk, hf => by
    rw [fX12_lord_L42]
    have ix : 21 + 7 * k + b = 21 + (k * 7 + b) := by omega
    simp (disch := omega) only [gd_t, so_some, so_bind, so_gd, so_none, Option.bind_some, iI_add, iI_sub, iI_mul, iI_neg, iI_clamp, iI_nat, vin_i, iI_le, iI_lt, iI_eq, mn_i, mx_i, if_true, if_false, if_pos, if_neg, li_0, li_1, li_2, li_3, li_4, li_5, li_6, li_7, li_8, li_9, li_10, li_11, li_12, li_14, li_15, li_16, li_20, li_21, li_24, li_28, li_30, li_31, li_40, li_41, li_42, li_43, li_44, li_45, li_47, li_48, li_49, li_57, li_59, li_60, li_61, li_62, li_63, li_70, li_71, li_76, li_80, li_96, li_97, li_98, li_99, li_100, li_101, li_102, li_103, li_104, li_105, li_106, li_107, li_108, li_109, li_110, li_111, li_112, li_113, li_114, li_115, li_116, li_117, li_118, li_119, li_120, li_128, li_142, li_255, li_320, li_781, li_852, li_999, li_1000, li_2000, li_3000, li_9999, li_12345, li_65536, li_1000000, li_252645135, li_858993459, li_1103515245, li_1431655765, ix, ha.at, ht.at]
    rw [m_lord_L h7 ha ht b0 b1 m (k + 1) _ f (by omega) (by omega) (by omega), sI, Int.add_assoc]
theorem lord_d {h : Int} (h0 : 0 ≤ h) (h7 : h ≤ 7) {A T : Int → Int} (ZA : ZB h A) (ZT : ZB h T) {b : Int} (b0 : 0 ≤ b) (b1 : b < 7) : sI (fun j => T (21 + (j * 7 + b)) - A (21 + (j * 7 + b))) h.toNat 0 = oTo T b - oTo A b := by
  rw [sI_sub]
  have e1 : oTo T b = sI (fun j => T (21 + (j * 7 + b))) h.toNat 0 := sI_cut h0 (n := 7) (by omega) (fun j j0 j1 => ZT.2.2 j b (by omega) (by omega) b0 b1 (Or.inl j0))
  have e2 : oTo A b = sI (fun j => A (21 + (j * 7 + b))) h.toNat 0 := sI_cut h0 (n := 7) (by omega) (fun j j0 j1 => ZA.2.2 j b (by omega) (by omega) b0 b1 (Or.inl j0))
  rw [e1, e2]
theorem s_lord_L {h : Int} (h7 : h ≤ 7) {A T : Int → Int} (wA : WA A) (wT : WA T) (ZA : ZB h A) (ZT : ZB h T) {a t : Nat → Int32} (ha : Arr 71 a A) (ht : Arr 71 t T) {dA dT : Nat → Int32} (hA : Arr 49 dA (fun i => A (21 + i))) (hT : Arr 49 dT (fun i => T (21 + i))) :
    ∀ (m : Nat) (k : Int) (f : Nat) (v w : Int), 0 ≤ k → k + m = h → m < f → 0 ≤ w → w ≤ 69993 → (v = -2 ∨ 0 ≤ v) → v < k → (0 < w ↔ 0 ≤ v) →
    So (fX11_lord_L35 (iI h) dA dT f (iI v) (iI w) (iI k)) (fun o => fX12_lord_L27 (iI h) a t f (iI v) (iI w) (iI k) = some o ∧ ∃ v' w' : Int, o = (iI v', iI w') ∧ 0 ≤ w' ∧ w' ≤ 69993 ∧ (v' = -2 ∨ 0 ≤ v') ∧ v' < h ∧ (0 < w' ↔ 0 ≤ v'))
  | 0, k, f + 1, v, w, h0, hk, hf, w0, w1, v0, v1, hvw => by
    rw [fX11_lord_L35, fX12_lord_L27]
    simp (disch := omega) only [gd_t, so_some, so_bind, so_gd, so_none, Option.bind_some, iI_add, iI_sub, iI_mul, iI_neg, iI_clamp, iI_nat, vin_i, iI_le, iI_lt, iI_eq, mn_i, mx_i, if_true, if_false, if_pos, if_neg, li_0, li_1, li_2, li_3, li_4, li_5, li_6, li_7, li_8, li_9, li_10, li_11, li_12, li_14, li_15, li_16, li_20, li_21, li_24, li_28, li_30, li_31, li_40, li_41, li_42, li_43, li_44, li_45, li_47, li_48, li_49, li_57, li_59, li_60, li_61, li_62, li_63, li_70, li_71, li_76, li_80, li_96, li_97, li_98, li_99, li_100, li_101, li_102, li_103, li_104, li_105, li_106, li_107, li_108, li_109, li_110, li_111, li_112, li_113, li_114, li_115, li_116, li_117, li_118, li_119, li_120, li_128, li_142, li_255, li_320, li_781, li_852, li_999, li_1000, li_2000, li_3000, li_9999, li_12345, li_65536, li_1000000, li_252645135, li_858993459, li_1103515245, li_1431655765]
    exact ⟨(by first | rfl | trivial), v, w, rfl, w0, w1, v0, by omega, hvw⟩
  | m + 1, k, f + 1, v, w, h0, hk, hf, w0, w1, v0, v1, hvw => by
    have d1 := c_owedTo hT (b := k) h0 (by omega)
    have d2 := c_owedTo hA (b := k) h0 (by omega)
    have d3 := m_lord_L h7 ha ht (b := k) h0 (by omega) h.toNat 0 0 FU (by omega) (by omega) (show _ < 4000 by omega)
    rw [Int.zero_add, lord_d (by omega) h7 ZA ZT h0 (by omega)] at d3
    have x1 := oTo_b wT (b := k) h0 (by omega)
    have x2 := oTo_b wA (b := k) h0 (by omega)
    rw [fX11_lord_L35, fX12_lord_L27]
    by_cases q : oTo T k - oTo A k ≤ w
    · simp (disch := omega) only [gd_t, so_some, so_bind, so_gd, so_none, Option.bind_some, iI_add, iI_sub, iI_mul, iI_neg, iI_clamp, iI_nat, vin_i, iI_le, iI_lt, iI_eq, mn_i, mx_i, if_true, if_false, if_pos, if_neg, li_0, li_1, li_2, li_3, li_4, li_5, li_6, li_7, li_8, li_9, li_10, li_11, li_12, li_14, li_15, li_16, li_20, li_21, li_24, li_28, li_30, li_31, li_40, li_41, li_42, li_43, li_44, li_45, li_47, li_48, li_49, li_57, li_59, li_60, li_61, li_62, li_63, li_70, li_71, li_76, li_80, li_96, li_97, li_98, li_99, li_100, li_101, li_102, li_103, li_104, li_105, li_106, li_107, li_108, li_109, li_110, li_111, li_112, li_113, li_114, li_115, li_116, li_117, li_118, li_119, li_120, li_128, li_142, li_255, li_320, li_781, li_852, li_999, li_1000, li_2000, li_3000, li_9999, li_12345, li_65536, li_1000000, li_252645135, li_858993459, li_1103515245, li_1431655765, d1, d2, d3]
      exact s_lord_L h7 wA wT ZA ZT ha ht hA hT m (k + 1) f v w (by omega) (by omega) (by omega) w0 w1 v0 (by omega) hvw
    · simp (disch := omega) only [gd_t, so_some, so_bind, so_gd, so_none, Option.bind_some, iI_add, iI_sub, iI_mul, iI_neg, iI_clamp, iI_nat, vin_i, iI_le, iI_lt, iI_eq, mn_i, mx_i, if_true, if_false, if_pos, if_neg, li_0, li_1, li_2, li_3, li_4, li_5, li_6, li_7, li_8, li_9, li_10, li_11, li_12, li_14, li_15, li_16, li_20, li_21, li_24, li_28, li_30, li_31, li_40, li_41, li_42, li_43, li_44, li_45, li_47, li_48, li_49, li_57, li_59, li_60, li_61, li_62, li_63, li_70, li_71, li_76, li_80, li_96, li_97, li_98, li_99, li_100, li_101, li_102, li_103, li_104, li_105, li_106, li_107, li_108, li_109, li_110, li_111, li_112, li_113, li_114, li_115, li_116, li_117, li_118, li_119, li_120, li_128, li_142, li_255, li_320, li_781, li_852, li_999, li_1000, li_2000, li_3000, li_9999, li_12345, li_65536, li_1000000, li_252645135, li_858993459, li_1103515245, li_1431655765, d1, d2, d3]
      exact s_lord_L h7 wA wT ZA ZT ha ht hA hT m (k + 1) f k (oTo T k - oTo A k) (by omega) (by omega) (by omega) (by omega) (by omega) (by omega) (by omega) (by omega)
theorem s_lord {n : Int} {σ : CS} {τ : MS} (h : R n σ τ) (hn : n < 1000) (p1 : Int32) : Ok n (x_lord σ p1) (y_lord τ p1) := by
  obtain ⟨n0, g, c, m, G⟩ := h
  obtain ⟨P, rfl, b0, b1⟩ := iI_of p1
  obtain ⟨c1, c2, c3, c4, c5, c6, c7, c8, c9⟩ := c
  obtain ⟨m1, m2, m3, m4, m5, m6, m7, m8, m9⟩ := m
  have e := G.1.1
  have hS := G.2.2.1
  have a7 := hS.2.2
  unfold Ok x_lord y_lord fX11_lord fX12_lord
  rw [c1.1, m1.1]
  by_cases q : 0 ≤ P ∧ P ≤ 60
  · have z1 := win_t (a := P) (b := 0) (c := 60) (by omega) (by omega) q
    have z2 := isD_t q
    have hw := c_walkFrom G.1 c1 hS.1 q.1 (by omega) (by omega) c3 (σ.1 28) (σ.1 30) (σ.1 32) (σ.1 29) (σ.1 31) (σ.2.1 35) (σ.2.1 34) (σ.2.1 33) (σ.2.1 32) (σ.2.1 20) (σ.2.1 19)
    obtain ⟨go, hgo, k1, k2, k3, k4, k5⟩ := m_goOn G.1 m1 hS.1 q.1 (by omega) (by omega) m3 τ.2.2 (τ.1 11) (τ.1 20) (τ.1 6) (τ.1 25) (τ.1 10) (τ.1 2) (τ.1 4) (τ.1 1) (τ.1 5) (τ.1 0) (τ.1 3) (τ.1 18) (τ.1 13) (τ.1 17) (τ.2.1 13) (τ.2.1 19)
    rw [c1.1] at hw
    rw [m1.1] at hgo
    simp only [li_0, li_60, z1, z2, Option.bind_some, hgo]
    simp (disch := omega) only [gd_t, so_some, so_bind, so_gd, so_none, Option.bind_some, iI_add, iI_sub, iI_mul, iI_neg, iI_clamp, iI_nat, vin_i, iI_le, iI_lt, iI_eq, mn_i, mx_i, if_true, if_false, if_pos, if_neg, li_0, li_1, li_2, li_3, li_4, li_5, li_6, li_7, li_8, li_9, li_10, li_11, li_12, li_14, li_15, li_16, li_20, li_21, li_24, li_28, li_30, li_31, li_40, li_41, li_42, li_43, li_44, li_45, li_47, li_48, li_49, li_57, li_59, li_60, li_61, li_62, li_63, li_70, li_71, li_76, li_80, li_96, li_97, li_98, li_99, li_100, li_101, li_102, li_103, li_104, li_105, li_106, li_107, li_108, li_109, li_110, li_111, li_112, li_113, li_114, li_115, li_116, li_117, li_118, li_119, li_120, li_128, li_142, li_255, li_320, li_781, li_852, li_999, li_1000, li_2000, li_3000, li_9999, li_12345, li_65536, li_1000000, li_252645135, li_858993459, li_1103515245, li_1431655765]
    refine so_mono hw ?_
    rintro o ⟨d1, d2, d3, d4, ⟨d5, d6, d7, d8⟩, d9⟩
    rw [fdys_1] at d8
    rw [mdys_1] at k5
    have wT := (dys_ok G.1 P.toNat (t := ws0 g.2.2.1) hS.1).1
    have ZT := zb_dys G.1 P.toNat (t := ws0 g.2.2.1) hS.2.1
    refine so_mono (s_lord_L e.2 hS.1 wT hS.2.1 ZT m3 k5 c3.2.2.2 d8 g.1.1.toNat 0 FU (-2) 0 (by omega) (by omega) (show _ < 4000 by omega) (by omega) (by omega) (by omega) (by omega) (by omega)) ?_
    rintro r ⟨r1, v', w', rfl, w0, w1, v0, v1, hvw⟩
    simp only [r1, so_some]
    by_cases q3 : 0 < w'
    · have := hvw.1 q3
      simp (disch := omega) only [gd_t, so_some, so_bind, so_gd, so_none, Option.bind_some, iI_add, iI_sub, iI_mul, iI_neg, iI_clamp, iI_nat, vin_i, iI_le, iI_lt, iI_eq, mn_i, mx_i, if_true, if_false, if_pos, if_neg, li_0, li_1, li_2, li_3, li_4, li_5, li_6, li_7, li_8, li_9, li_10, li_11, li_12, li_14, li_15, li_16, li_20, li_21, li_24, li_28, li_30, li_31, li_40, li_41, li_42, li_43, li_44, li_45, li_47, li_48, li_49, li_57, li_59, li_60, li_61, li_62, li_63, li_70, li_71, li_76, li_80, li_96, li_97, li_98, li_99, li_100, li_101, li_102, li_103, li_104, li_105, li_106, li_107, li_108, li_109, li_110, li_111, li_112, li_113, li_114, li_115, li_116, li_117, li_118, li_119, li_120, li_128, li_142, li_255, li_320, li_781, li_852, li_999, li_1000, li_2000, li_3000, li_9999, li_12345, li_65536, li_1000000, li_252645135, li_858993459, li_1103515245, li_1431655765]
      refine so_mono (c_tell _ _ _) ?_
      intro t hr
      refine so_mono (m_tell _ _) ?_
      intro u hs
      exact ⟨(by first | rfl | trivial), R.tol ⟨n0.1, hn⟩ G hr (by simp) ⟨c1, c2, c3, c4, c5, c6, hr, c8, c9⟩ ⟨m1, m2, m3, m4, m5, m6, hs, m8, m9⟩⟩
    · have hv : v' = -2 := by omega
      simp (disch := omega) only [gd_t, so_some, so_bind, so_gd, so_none, Option.bind_some, iI_add, iI_sub, iI_mul, iI_neg, iI_clamp, iI_nat, vin_i, iI_le, iI_lt, iI_eq, mn_i, mx_i, if_true, if_false, if_pos, if_neg, li_0, li_1, li_2, li_3, li_4, li_5, li_6, li_7, li_8, li_9, li_10, li_11, li_12, li_14, li_15, li_16, li_20, li_21, li_24, li_28, li_30, li_31, li_40, li_41, li_42, li_43, li_44, li_45, li_47, li_48, li_49, li_57, li_59, li_60, li_61, li_62, li_63, li_70, li_71, li_76, li_80, li_96, li_97, li_98, li_99, li_100, li_101, li_102, li_103, li_104, li_105, li_106, li_107, li_108, li_109, li_110, li_111, li_112, li_113, li_114, li_115, li_116, li_117, li_118, li_119, li_120, li_128, li_142, li_255, li_320, li_781, li_852, li_999, li_1000, li_2000, li_3000, li_9999, li_12345, li_65536, li_1000000, li_252645135, li_858993459, li_1103515245, li_1431655765]
      rw [hv]
      exact ⟨(by first | rfl | trivial), R.same ⟨n0.1, hn⟩ G ⟨c1, c2, c3, c4, c5, c6, c7, c8, c9⟩ ⟨m1, m2, m3, m4, m5, m6, m7, m8, m9⟩⟩
  · have z1 := win_f (a := P) (b := 0) (c := 60) b0 b1 (by omega) (by omega) (by omega) (by omega) q
    have z2 := isD_f b0 b1 q
    simp only [li_0, li_60, z1, z2, Option.bind_some]
    simp (disch := omega) only [gd_t, so_some, so_bind, so_gd, so_none, Option.bind_some, iI_add, iI_sub, iI_mul, iI_neg, iI_clamp, iI_nat, vin_i, iI_le, iI_lt, iI_eq, mn_i, mx_i, if_true, if_false, if_pos, if_neg, li_0, li_1, li_2, li_3, li_4, li_5, li_6, li_7, li_8, li_9, li_10, li_11, li_12, li_14, li_15, li_16, li_20, li_21, li_24, li_28, li_30, li_31, li_40, li_41, li_42, li_43, li_44, li_45, li_47, li_48, li_49, li_57, li_59, li_60, li_61, li_62, li_63, li_70, li_71, li_76, li_80, li_96, li_97, li_98, li_99, li_100, li_101, li_102, li_103, li_104, li_105, li_106, li_107, li_108, li_109, li_110, li_111, li_112, li_113, li_114, li_115, li_116, li_117, li_118, li_119, li_120, li_128, li_142, li_255, li_320, li_781, li_852, li_999, li_1000, li_2000, li_3000, li_9999, li_12345, li_65536, li_1000000, li_252645135, li_858993459, li_1103515245, li_1431655765]
    exact ⟨(by first | rfl | trivial), R.same ⟨n0.1, hn⟩ G ⟨c1, c2, c3, c4, c5, c6, c7, c8, c9⟩ ⟨m1, m2, m3, m4, m5, m6, m7, m8, m9⟩⟩
