theorem m_tellDays {n : Int} {g : GH} {τ : MS} (n0 : 0 ≤ n ∧ n < 1000) (m : RM g τ) (G : RG n g) {P : Int} (q : 0 ≤ P ∧ P ≤ 60) :
    So (fX12_tellDays (τ.1 9) (τ.1 24) (τ.1 14) τ.2.2 (τ.1 11) (τ.1 20) (τ.1 6) (τ.1 25) (τ.1 15) (τ.1 10) (τ.1 2) (τ.1 4) (τ.1 1) (τ.1 5) (τ.1 0) (τ.1 3) (τ.1 18) (τ.1 13) (τ.1 17) (τ.2.1 13) (τ.2.1 23) (τ.2.1 7) (τ.2.1 2) (τ.2.1 17) (τ.2.1 12) (τ.2.1 16) (iI P))
      (fun o => o.1 = iI (mdys g.1 P.toNat (mw0 g.2.2.1)).2.1 ∧ Arr 71 o.2.2.2.2.2.2.2.2.2.2.2.2.2.2.2.2.2.2.1 (dys g.1 P.toNat (ws0 g.2.2.1)).1 ∧
        Rw [iI (dys g.1 P.toNat (ws0 g.2.2.1)).2.1, iI (oPa g.1.1 (dys g.1 P.toNat (ws0 g.2.2.1)).1)] o.2.1 o.2.2.2.2.2.2.2.2.2.2.2.2.2.2.2.2.2.2.2) := by
  obtain ⟨m1, m2, m3, m4, m5, m6, m7, m8, m9⟩ := m
  have e := G.1.1
  have hS := G.2.2.1
  have a7 := hS.2.2
  unfold fX12_tellDays
  simp only [so_bind, td_eq]
  refine so_mono (m_beginCount _ _ _ _) ?_
  rintro o ⟨o1, o2, o3, o4⟩
  rw [li_0]
  refine so_mono (m_goOn_L G.1 m1 (N := P) (by omega) P.toNat 0 FU (mw0 g.2.2.1) _ _ _ _ _ _ _ _ _ _ _ _ _ _ _ _ _ (by omega) (by omega) (show _ < 4000 by omega) hS.1 (by show g.2.2.1 70 + _ < _; omega) ⟨o1, o2, o3, o4, m3⟩) ?_
  rintro p ⟨p1, p2, p3, p4, p5⟩
  rw [mdys_1] at p2 p4 p5
  rw [p2]
  refine so_mono (m_tell _ _) ?_
  intro t ht
  have sp := m_paths p5 e.1 e.2
  rw [m1.1, sp, so_some]
  refine so_mono (m_more ht (by simp) _) ?_
  intro r hr
  rw [so_some]
  exact ⟨p1, p5, hr⟩
theorem dys_sg {n : Int} {E : EN} (G : EnG E) {A : Int → Int} (hS : SG E.1 n A) {P : Int} (q : 0 ≤ P ∧ P ≤ 300) : SG E.1 (n + 1) (dys E P.toNat (ws0 A)).1 := by
  have h := dys_ok G P.toNat (t := ws0 A) hS.1
  refine ⟨h.1, zb_dys G P.toNat hS.2.1, ?_⟩
  rw [h.2]
  have := hS.2.2
  show A 70 + (P.toNat : Int) ≤ 300 * (n + 1)
  omega
theorem s_day {n : Int} {σ : CS} {τ : MS} (h : R n σ τ) (hn : n < 1000) : Ok n (x_day σ) (y_day τ) := by
  obtain ⟨n0, g, c, m, G⟩ := h
  have hg := s_goOn ⟨n0.1, hn⟩ c m G (P := 1) (by omega)
  obtain ⟨t, ht, ht1, ht2, ht3⟩ := m_tellDays ⟨n0.1, hn⟩ m G (P := 1) (by omega)
  obtain ⟨c1, c2, c3, c4, c5, c6, c7, c8, c9⟩ := c
  obtain ⟨m1, m2, m3, m4, m5, m6, m7, m8, m9⟩ := m
  obtain ⟨r, hr, hr2⟩ := m_remember m5 m3
  unfold Ok x_day y_day fX11_day fX12_day
  simp only [so_bind, so_some, hr, li_1, ht]
  refine so_mono hg ?_
  rintro o ⟨o1, o2, o3, o4⟩
  rw [if_pos (by omega), if_pos (by omega)] at o4
  refine ⟨?_, R.push ⟨n0.1, hn⟩ G c5.2.1 (dys_sg G.1 G.2.2.1 (P := 1) (by omega)) [iI (dys g.1 (1 : Int).toNat (ws0 g.2.2.1)).2.1, iI (oPa g.1.1 (dys g.1 (1 : Int).toNat (ws0 g.2.2.1)).1)] (by simp) ⟨c1, c2, o2, c4, o4, c6, o3, c8, c9⟩ ⟨m1, m2, ht2, m4, hr2, m6, ht3, m8, m9⟩⟩
  rw [o1, ht1, fm_2 _ _ (fw0 g.2.2.1) (mw0 g.2.2.1) rfl rfl]
theorem s_days {n : Int} {σ : CS} {τ : MS} (h : R n σ τ) (hn : n < 1000) (p1 : Int32) : Ok n (x_days σ p1) (y_days τ p1) := by
  obtain ⟨n0, g, c, m, G⟩ := h
  obtain ⟨P, rfl, b0, b1⟩ := iI_of p1
  by_cases q : 0 ≤ P ∧ P ≤ 60
  · have hg := s_goOn ⟨n0.1, hn⟩ c m G q
    obtain ⟨t, ht, ht1, ht2, ht3⟩ := m_tellDays ⟨n0.1, hn⟩ m G q
    obtain ⟨c1, c2, c3, c4, c5, c6, c7, c8, c9⟩ := c
    obtain ⟨m1, m2, m3, m4, m5, m6, m7, m8, m9⟩ := m
    obtain ⟨r, hr, hr2⟩ := m_remember m5 m3
    unfold Ok x_days y_days fX11_days fX12_days
    by_cases q2 : 0 < P
    · simp (disch := omega) only [gd_t, so_some, so_bind, so_gd, so_none, Option.bind_some, iI_add, iI_sub, iI_mul, iI_neg, iI_clamp, iI_nat, vin_i, iI_le, iI_lt, iI_eq, mn_i, mx_i, if_true, if_false, if_pos, if_neg, li_0, li_1, li_2, li_3, li_4, li_5, li_6, li_7, li_8, li_9, li_10, li_11, li_12, li_14, li_15, li_16, li_20, li_21, li_24, li_28, li_30, li_31, li_40, li_41, li_42, li_43, li_44, li_45, li_47, li_48, li_49, li_57, li_59, li_60, li_61, li_62, li_63, li_70, li_71, li_76, li_80, li_96, li_97, li_98, li_99, li_100, li_101, li_102, li_103, li_104, li_105, li_106, li_107, li_108, li_109, li_110, li_111, li_112, li_113, li_114, li_115, li_116, li_117, li_118, li_119, li_120, li_128, li_142, li_255, li_320, li_781, li_852, li_999, li_1000, li_2000, li_3000, li_9999, li_12345, li_65536, li_1000000, li_252645135, li_858993459, li_1103515245, li_1431655765, has_t, has_f, win_t, win_f, in_t, in_f, isH_t, isH_f, hasS_t, hasS_f, isS_t, isS_f, has2_t, has2_f, are2_t, are2_f, hr, ht]
      refine so_mono hg ?_
      rintro o ⟨o1, o2, o3, o4⟩
      rw [if_pos q2, if_pos q2] at o4
      refine ⟨?_, R.push ⟨n0.1, hn⟩ G c5.2.1 (dys_sg G.1 G.2.2.1 (by omega)) [iI (dys g.1 P.toNat (ws0 g.2.2.1)).2.1, iI (oPa g.1.1 (dys g.1 P.toNat (ws0 g.2.2.1)).1)] (by simp) ⟨c1, c2, o2, c4, o4, c6, o3, c8, c9⟩ ⟨m1, m2, ht2, m4, hr2, m6, ht3, m8, m9⟩⟩
      rw [o1, ht1, fm_2 _ _ (fw0 g.2.2.1) (mw0 g.2.2.1) rfl rfl]
    · simp (disch := omega) only [gd_t, so_some, so_bind, so_gd, so_none, Option.bind_some, iI_add, iI_sub, iI_mul, iI_neg, iI_clamp, iI_nat, vin_i, iI_le, iI_lt, iI_eq, mn_i, mx_i, if_true, if_false, if_pos, if_neg, li_0, li_1, li_2, li_3, li_4, li_5, li_6, li_7, li_8, li_9, li_10, li_11, li_12, li_14, li_15, li_16, li_20, li_21, li_24, li_28, li_30, li_31, li_40, li_41, li_42, li_43, li_44, li_45, li_47, li_48, li_49, li_57, li_59, li_60, li_61, li_62, li_63, li_70, li_71, li_76, li_80, li_96, li_97, li_98, li_99, li_100, li_101, li_102, li_103, li_104, li_105, li_106, li_107, li_108, li_109, li_110, li_111, li_112, li_113, li_114, li_115, li_116, li_117, li_118, li_119, li_120, li_128, li_142, li_255, li_320, li_781, li_852, li_999, li_1000, li_2000, li_3000, li_9999, li_12345, li_65536, li_1000000, li_252645135, li_858993459, li_1103515245, li_1431655765, has_t, has_f, win_t, win_f, in_t, in_f, isH_t, isH_f, hasS_t, hasS_f, isS_t, isS_f, has2_t, has2_f, are2_t, are2_f, ht]
      refine so_mono hg ?_
      rintro o ⟨o1, o2, o3, o4⟩
      rw [if_neg q2, if_neg q2] at o4
      have hS := dys_sg G.1 G.2.2.1 (P := P) (by omega)
      obtain ⟨h1, h2, h3, h4, h5, h6, h7, h8, h9⟩ := G.mono (show n ≤ n + 1 by omega)
      refine ⟨?_, by omega, ((g.1, g.2.1, (dys g.1 P.toNat (ws0 g.2.2.1)).1, g.2.2.2.1, g.2.2.2.2.1, g.2.2.2.2.2.1, g.2.2.2.2.2.2.1, g.2.2.2.2.2.2.2.1, [iI (dys g.1 P.toNat (ws0 g.2.2.1)).2.1, iI (oPa g.1.1 (dys g.1 P.toNat (ws0 g.2.2.1)).1)], g.2.2.2.2.2.2.2.2.2.1, g.2.2.2.2.2.2.2.2.2.2.1, g.2.2.2.2.2.2.2.2.2.2.2.1, g.2.2.2.2.2.2.2.2.2.2.2.2.1, g.2.2.2.2.2.2.2.2.2.2.2.2.2.1, g.2.2.2.2.2.2.2.2.2.2.2.2.2.2.1, g.2.2.2.2.2.2.2.2.2.2.2.2.2.2.2) : GH), ⟨c1, c2, o2, c4, o4, c6, o3, c8, c9⟩, ⟨m1, m2, ht2, m4, m5, m6, ht3, m8, m9⟩, h1, h2, hS, h4, h5, h6, by simp, h8, h9⟩
      rw [o1, ht1, fm_2 _ _ (fw0 g.2.2.1) (mw0 g.2.2.1) rfl rfl]
  · unfold Ok x_days y_days fX11_days fX12_days
    have z1 := win_f (a := P) (b := 0) (c := 60) b0 b1 (by omega) (by omega) (by omega) (by omega) q
    have z2 := in_f (a := P) (b := 0) (c := 60) b0 b1 (by omega) (by omega) (by omega) (by omega) q
    simp only [li_0, li_60, z1, z2, Option.bind_some]
    simp (disch := omega) only [gd_t, so_some, so_bind, so_gd, so_none, Option.bind_some, iI_add, iI_sub, iI_mul, iI_neg, iI_clamp, iI_nat, vin_i, iI_le, iI_lt, iI_eq, mn_i, mx_i, if_true, if_false, if_pos, if_neg, li_0, li_1, li_2, li_3, li_4, li_5, li_6, li_7, li_8, li_9, li_10, li_11, li_12, li_14, li_15, li_16, li_20, li_21, li_24, li_28, li_30, li_31, li_40, li_41, li_42, li_43, li_44, li_45, li_47, li_48, li_49, li_57, li_59, li_60, li_61, li_62, li_63, li_70, li_71, li_76, li_80, li_96, li_97, li_98, li_99, li_100, li_101, li_102, li_103, li_104, li_105, li_106, li_107, li_108, li_109, li_110, li_111, li_112, li_113, li_114, li_115, li_116, li_117, li_118, li_119, li_120, li_128, li_142, li_255, li_320, li_781, li_852, li_999, li_1000, li_2000, li_3000, li_9999, li_12345, li_65536, li_1000000, li_252645135, li_858993459, li_1103515245, li_1431655765, has_t, has_f, win_t, win_f, in_t, in_f, isH_t, isH_f, hasS_t, hasS_f, isS_t, isS_f, has2_t, has2_f, are2_t, are2_f]
    obtain ⟨c1, c2, c3, c4, c5, c6, c7, c8, c9⟩ := c
    obtain ⟨m1, m2, m3, m4, m5, m6, m7, m8, m9⟩ := m
    exact ⟨(by first | rfl | trivial), R.same ⟨n0.1, hn⟩ G ⟨c1, c2, c3, c4, c5, c6, c7, c8, c9⟩ ⟨m1, m2, m3, m4, m5, m6, m7, m8, m9⟩⟩
