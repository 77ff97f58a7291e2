theorem s_bare {n : Int} {σ : CS} {τ : MS} (h : R n σ τ) (hn : n < 1000) (p1 p2 : Int32) : OkT n σ (x_bare σ p1 p2) (fX11_bare_T (σ.1 26) p1 p2) (y_bare τ p1 p2) := by
  obtain ⟨n0, g, c, m, G⟩ := h
  obtain ⟨Q, rfl, b2, b3⟩ := iI_of p1
  obtain ⟨P, rfl, b0, b1⟩ := iI_of p2
  obtain ⟨c1, c2, c3, c4, c5, c6, c7, c8, c9⟩ := c
  obtain ⟨m1, m2, m3, m4, m5, m6, m7, m8, m9⟩ := m
  have e := G.1.1
  have hS := G.2.2.1
  have a7 := hS.2.2
  unfold OkT x_bare y_bare fX11_bare fX12_bare fX11_bare_T
  rw [c1.1, m1.1]
  by_cases q2 : 0 ≤ Q ∧ Q < g.1.1
  · have z3 := has_t e.1 e.2 q2
    have z4 := isH_t e.1 e.2 q2
    by_cases q : 0 ≤ P ∧ P ≤ 60
    · have z1 := win_t (a := P) (b := 0) (c := 60) (by omega) (by omega) q
      have z2 := isD_t q
      left
      have hw := c_walkFrom G.1 c1 hS.1 q.1 (by omega) (by omega) c3 (σ.1 28) (σ.1 30) (σ.1 32) (σ.1 29) (σ.1 31) (σ.2.1 35) (σ.2.1 34) (σ.2.1 33) (σ.2.1 32) (σ.2.1 20) (σ.2.1 19)
      obtain ⟨go, hgo, k1, k2, k3, k4, k5⟩ := m_goOn G.1 m1 hS.1 q.1 (by omega) (by omega) m3 τ.2.2 (τ.1 11) (τ.1 20) (τ.1 6) (τ.1 25) (τ.1 10) (τ.1 2) (τ.1 4) (τ.1 1) (τ.1 5) (τ.1 0) (τ.1 3) (τ.1 18) (τ.1 13) (τ.1 17) (τ.2.1 13) (τ.2.1 19)
      rw [c1.1] at hw
      rw [m1.1] at hgo
      simp only [li_0, li_60, z1, z2, z3, z4, Option.bind_some, hgo, ba_eq]
      simp (disch := omega) only [gd_t, so_some, so_bind, so_gd, so_none, Option.bind_some, iI_add, iI_sub, iI_mul, iI_neg, iI_clamp, iI_nat, vin_i, iI_le, iI_lt, iI_eq, mn_i, mx_i, if_true, if_false, if_pos, if_neg, li_0, li_1, li_2, li_3, li_4, li_5, li_6, li_7, li_8, li_9, li_10, li_11, li_12, li_14, li_15, li_16, li_20, li_21, li_24, li_28, li_30, li_31, li_40, li_41, li_42, li_43, li_44, li_45, li_47, li_48, li_49, li_57, li_59, li_60, li_61, li_62, li_63, li_70, li_71, li_76, li_80, li_96, li_97, li_98, li_99, li_100, li_101, li_102, li_103, li_104, li_105, li_106, li_107, li_108, li_109, li_110, li_111, li_112, li_113, li_114, li_115, li_116, li_117, li_118, li_119, li_120, li_128, li_142, li_255, li_320, li_781, li_852, li_999, li_1000, li_2000, li_3000, li_9999, li_12345, li_65536, li_1000000, li_252645135, li_858993459, li_1103515245, li_1431655765]
      refine so_mono hw ?_
      rintro o ⟨d1, d2, d3, d4, d5, d6⟩
      rw [fdys_1] at d1
      rw [mdys_1] at k2
      refine so_mono (c_beginAt c3 _ _ _ _ _ _ _ _ _) ?_
      rintro b ⟨f1, f2, f3, f4, ⟨f5, f6, f7, f8⟩, f9⟩
      have fA : WA (upI (upI g.2.2.1 (2 * Q) 0) (2 * Q + 1) 0) := (hS.1.up (by omega) (by omega) (by omega)).up (by omega) (by omega) (by omega)
      have fs : Arr 14 (upd (upd b.2.2.2.2.2.1 (2 * Q).toNat (iI 0)) (2 * Q + 1).toNat (iI 0)) (upI (upI g.2.2.1 (2 * Q) 0) (2 * Q + 1) 0) := (f6.up 0 (by omega)).up 0 (by omega)
      have fh : ∀ i, 14 ≤ i → upI (upI g.2.2.1 (2 * Q) 0) (2 * Q + 1) 0 i = g.2.2.1 i := fun i hi => by rw [upI_o _ (by omega), upI_o _ (by omega)]
      have f7' : Arr 7 b.2.2.2.2.2.2.1 (fun i => upI (upI g.2.2.1 (2 * Q) 0) (2 * Q + 1) 0 (14 + i)) := f7.congr (fun x x0 x1 => (fh _ (by omega)).symm)
      have f8' : Arr 49 b.2.2.2.2.2.2.2.1 (fun i => upI (upI g.2.2.1 (2 * Q) 0) (2 * Q + 1) 0 (21 + i)) := f8.congr (fun x x0 x1 => (fh _ (by omega)).symm)
      have f70 : upI (upI g.2.2.1 (2 * Q) 0) (2 * Q + 1) 0 70 + P < 2147483648 := by rw [fh 70 (by omega)]; omega
      have f71 : b.2.2.2.2.1 = iI (upI (upI g.2.2.1 (2 * Q) 0) (2 * Q + 1) 0 70) := by rw [fh 70 (by omega)]; exact f5
      have hgd := c_goDays G.1 c1 (x := (ws0 (upI (upI g.2.2.1 (2 * Q) 0) (2 * Q + 1) 0), 0, 0, 0)) fA (n := P) q.1 (by omega) f70 ⟨f1, f2, f3, f4, ⟨f71, fs, f7', f8'⟩, f9⟩ o.2.2.2.2.2.2.2.2.2.1 o.2.2.2.2.2.2.2.2.2.2
      rw [c1.1] at hgd
      refine so_mono hgd ?_
      rintro r ⟨r1, r2, r3, r4, r5, r6⟩
      rw [fdys_1] at r1
      refine so_mono (m_beginCount _ _ _ _) ?_
      rintro s ⟨s1, s2, s3, s4⟩
      refine so_mono (m_lay0 m3) ?_
      intro w hw2
      have hmd := m_days G.1 m1 (x := (ws0 (upI (upI g.2.2.1 (2 * Q) 0) (2 * Q + 1) 0), 0, s.2.2.1)) fA (N := P) q.1 (by omega) f70 go.1 go.2.1 go.2.2.1 go.2.2.2.1 go.2.2.2.2.1 go.2.2.2.2.2.1 go.2.2.2.2.2.2.1 go.2.2.2.2.2.2.2.1 go.2.2.2.2.2.2.2.2.1 go.2.2.2.2.2.2.2.2.2.1 go.2.2.2.2.2.2.2.2.2.2.1 go.2.2.2.2.2.2.2.2.2.2.2.1 ⟨s1, s2, rfl, s4, (hw2.up 0 (k := 2 * Q) (by omega)).up 0 (k := 2 * Q + 1) (by omega)⟩
      rw [m1.1] at hmd
      refine so_mono hmd ?_
      rintro v ⟨v1, v2, v3, v4, v5⟩
      rw [mdys_1] at v2
      refine ⟨?_, rfl, R.same ⟨n0.1, hn⟩ G ⟨c1, c2, c3, c4, c5, c6, c7, c8, c9⟩ ⟨m1, m2, m3, m4, m5, m6, m7, m8, m9⟩⟩
      rw [d1, k2, r1, v2]
      rfl
    · have z1 := win_f (a := P) (b := 0) (c := 60) b0 b1 (by omega) (by omega) (by omega) (by omega) q
      have z2 := isD_f b0 b1 q
      right
      simp only [li_0, li_60, z1, z2, z3, z4, Option.bind_some, fX12_lost]
      simp (disch := omega) only [gd_t, so_some, so_bind, so_gd, so_none, Option.bind_some, iI_add, iI_sub, iI_mul, iI_neg, iI_clamp, iI_nat, vin_i, iI_le, iI_lt, iI_eq, mn_i, mx_i, if_true, if_false, if_pos, if_neg, li_0, li_1, li_2, li_3, li_4, li_5, li_6, li_7, li_8, li_9, li_10, li_11, li_12, li_14, li_15, li_16, li_20, li_21, li_24, li_28, li_30, li_31, li_40, li_41, li_42, li_43, li_44, li_45, li_47, li_48, li_49, li_57, li_59, li_60, li_61, li_62, li_63, li_70, li_71, li_76, li_80, li_96, li_97, li_98, li_99, li_100, li_101, li_102, li_103, li_104, li_105, li_106, li_107, li_108, li_109, li_110, li_111, li_112, li_113, li_114, li_115, li_116, li_117, li_118, li_119, li_120, li_128, li_142, li_255, li_320, li_781, li_852, li_999, li_1000, li_2000, li_3000, li_9999, li_12345, li_65536, li_1000000, li_252645135, li_858993459, li_1103515245, li_1431655765]
      exact ⟨(by first | rfl | trivial), rfl, R.same ⟨n0.1, hn⟩ G ⟨c1, c2, c3, c4, c5, c6, c7, c8, c9⟩ ⟨m1, m2, m3, m4, m5, m6, m7, m8, m9⟩⟩
  · have z3 := has_f e.1 e.2 b2 b3 q2
    have z4 := isH_f e.1 e.2 b2 b3 q2
    right
    simp only [z3, z4, Option.bind_some, fX12_lost]
    simp (disch := omega) only [gd_t, so_some, so_bind, so_gd, so_none, Option.bind_some, iI_add, iI_sub, iI_mul, iI_neg, iI_clamp, iI_nat, vin_i, iI_le, iI_lt, iI_eq, mn_i, mx_i, if_true, if_false, if_pos, if_neg, li_0, li_1, li_2, li_3, li_4, li_5, li_6, li_7, li_8, li_9, li_10, li_11, li_12, li_14, li_15, li_16, li_20, li_21, li_24, li_28, li_30, li_31, li_40, li_41, li_42, li_43, li_44, li_45, li_47, li_48, li_49, li_57, li_59, li_60, li_61, li_62, li_63, li_70, li_71, li_76, li_80, li_96, li_97, li_98, li_99, li_100, li_101, li_102, li_103, li_104, li_105, li_106, li_107, li_108, li_109, li_110, li_111, li_112, li_113, li_114, li_115, li_116, li_117, li_118, li_119, li_120, li_128, li_142, li_255, li_320, li_781, li_852, li_999, li_1000, li_2000, li_3000, li_9999, li_12345, li_65536, li_1000000, li_252645135, li_858993459, li_1103515245, li_1431655765]
    exact ⟨(by first | rfl | trivial), rfl, R.same ⟨n0.1, hn⟩ G ⟨c1, c2, c3, c4, c5, c6, c7, c8, c9⟩ ⟨m1, m2, m3, m4, m5, m6, m7, m8, m9⟩⟩
