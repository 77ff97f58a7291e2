theorem s_loose {n : Int} {σ : CS} {τ : MS} (h : R n σ τ) (hn : n < 1000) (p1 p2 : Int32) : Ok n (x_loose σ p1 p2) (y_loose τ p1 p2) := by
  obtain ⟨n0, g, c, m, G⟩ := h
  obtain ⟨P, rfl, b0, b1⟩ := iI_of p1
  obtain ⟨Q, rfl, b2, b3⟩ := iI_of p2
  obtain ⟨c1, c2, c3, c4, c5, c6, c7, c8, c9⟩ := c
  obtain ⟨m1, m2, m3, m4, m5, m6, m7, m8, m9⟩ := m
  have e := G.1.1
  have hS := G.2.2.1
  have hA := hS.1
  have a7 := hS.2.2
  have hs := c3.2.1
  unfold Ok x_loose y_loose fX11_loose fX12_loose fX12_looseRefusal fX11_looseNow
  simp only [so_bind]
  refine so_mono (c_startCall c3 _ _ _ _ _ _ _ _ _) ?_
  rintro o ⟨⟨o1, o2, o3, o4, o5⟩, hb⟩
  rw [c1.1, m1.1, o1]
  by_cases q : (0 ≤ P ∧ P < g.1.1) ∧ (0 ≤ Q ∧ Q < 2 * g.1.1)
  · have a := hA.1 Q q.2.1 (by omega)
    have z1 := has_t e.1 e.2 q.1
    have z2 := isH_t e.1 e.2 q.1
    have z3 := hasS_t e.1 e.2 q.2
    have z4 := isS_t e.1 e.2 q.2
    by_cases q2 : g.2.2.1 Q = 0
    · simp (disch := omega) only [gd_t, so_some, so_bind, so_gd, so_none, Option.bind_some, iI_add, iI_sub, iI_mul, iI_neg, iI_clamp, iI_nat, vin_i, iI_le, iI_lt, iI_eq, mn_i, mx_i, if_true, if_false, if_pos, if_neg, li_0, li_1, li_2, li_3, li_4, li_5, li_6, li_7, li_8, li_9, li_10, li_11, li_12, li_14, li_15, li_16, li_20, li_21, li_24, li_28, li_30, li_31, li_40, li_41, li_42, li_43, li_44, li_45, li_47, li_48, li_49, li_57, li_59, li_60, li_61, li_62, li_63, li_70, li_71, li_76, li_80, li_96, li_97, li_98, li_99, li_100, li_101, li_102, li_103, li_104, li_105, li_106, li_107, li_108, li_109, li_110, li_111, li_112, li_113, li_114, li_115, li_116, li_117, li_118, li_119, li_120, li_128, li_142, li_255, li_320, li_781, li_852, li_999, li_1000, li_2000, li_3000, li_9999, li_12345, li_65536, li_1000000, li_252645135, li_858993459, li_1103515245, li_1431655765, has_t, has_f, win_t, win_f, in_t, in_f, isH_t, isH_f, hasS_t, hasS_f, isS_t, isS_f, has2_t, has2_f, are2_t, are2_f, hs.at, m3.at, c_rem_f]
      exact ⟨(by first | rfl | trivial), R.same ⟨n0.1, hn⟩ G ⟨c1, c2, c3, c4, c5, c6, c7, c8, c9⟩ ⟨m1, m2, m3, m4, m5, m6, m7, m8, m9⟩⟩
    · have hsl := c_slide G.1 c1 hA (by omega) c3.2.1 c3.2.2.1 c3.2.2.2 o5 (ow := 0) (s := Q) (bl := P) (x := 1) (things := (σ.2.1 20)) (stack := (σ.2.1 19)) q.2.1 q.2.2 q.1.1 q.1.2 (Or.inr rfl)
      rw [c1.1, ← c3.1] at hsl
      obtain ⟨bc, hbc, bc1, bc2, bc3, bc4⟩ := m_beginCount (τ.1 18) (τ.1 13) (τ.1 17) (τ.2.1 13)
      obtain ⟨rm, hrm, hrm2⟩ := m_remember m5 m3
      have hms := m_slide G.1 m1 hA (by omega) m3 bc4 (rr := τ.2.2) (len := (τ.1 11)) (top := (τ.1 20)) (at' := (τ.1 6)) (wrong := (τ.1 25)) (asked := (τ.1 10)) (i1 := (τ.1 2)) (i2 := (τ.1 4)) (i3 := (τ.1 1)) (i4 := (τ.1 5)) (i5 := (τ.1 0)) (i6 := (τ.1 3)) (si := iI 0) (sm := 0) (on := 0) (s := Q) (bl := P) (x := 1) q.2.1 q.2.2 q.1.1 q.1.2
      rw [m1.1] at hms
      obtain ⟨ms, hms0, -, ms1, -, -, ms2⟩ := hms
      simp (disch := omega) only [gd_t, so_some, so_bind, so_gd, so_none, Option.bind_some, iI_add, iI_sub, iI_mul, iI_neg, iI_clamp, iI_nat, vin_i, iI_le, iI_lt, iI_eq, mn_i, mx_i, if_true, if_false, if_pos, if_neg, li_0, li_1, li_2, li_3, li_4, li_5, li_6, li_7, li_8, li_9, li_10, li_11, li_12, li_14, li_15, li_16, li_20, li_21, li_24, li_28, li_30, li_31, li_40, li_41, li_42, li_43, li_44, li_45, li_47, li_48, li_49, li_57, li_59, li_60, li_61, li_62, li_63, li_70, li_71, li_76, li_80, li_96, li_97, li_98, li_99, li_100, li_101, li_102, li_103, li_104, li_105, li_106, li_107, li_108, li_109, li_110, li_111, li_112, li_113, li_114, li_115, li_116, li_117, li_118, li_119, li_120, li_128, li_142, li_255, li_320, li_781, li_852, li_999, li_1000, li_2000, li_3000, li_9999, li_12345, li_65536, li_1000000, li_252645135, li_858993459, li_1103515245, li_1431655765, has_t, has_f, win_t, win_f, in_t, in_f, isH_t, isH_f, hasS_t, hasS_f, isS_t, isS_f, has2_t, has2_f, are2_t, are2_f, hs.at, m3.at, hrm, hbc, bc1, bc2, bc3, hms0]
      refine so_mono hsl ?_
      rintro s ⟨s1, s2, s3, s4, s5⟩
      rw [s1, ms1]
      refine so_mono (c_tell _ _ _) ?_
      intro t ht
      refine so_mono (c_rem_t c5 hb (by omega) (by omega)) ?_
      rintro r ⟨r1, r2⟩
      refine so_mono (m_tell _ _) ?_
      intro w hw
      have hS2 : SG g.1.1 (n + 1) (slA g.1 g.2.2.1 Q P 1) := ⟨wa_sl G.1 hA q.2.1 q.2.2 q.1.1 q.1.2, zb_sl G.1 hS.2.1 q.2.1 q.2.2 q.1.1 q.1.2, by
        have b := G.1.2.2.1 Q q.2.1 q.2.2
        rw [slA_hi (by omega) (by omega) (by omega)]; omega⟩
      have b := G.1.2.2.1 Q q.2.1 q.2.2
      refine ⟨r1, R.push ⟨n0.1, hn⟩ G c5.2.1 hS2 [iI (0 + slD g.1 g.2.2.1 Q P 1)] (by simp) ⟨c1, c2, ⟨?_, s2, s3, s4⟩, c4, r2, c6, ht, c8, c9⟩ ⟨m1, m2, ms2, m4, hrm2, m6, hw, m8, m9⟩⟩
      show (σ.1 11) = iI (slA g.1 g.2.2.1 Q P 1 70)
      rw [slA_hi (by omega) (by omega) (by omega)]
      exact c3.1
  · by_cases q1 : 0 ≤ P ∧ P < g.1.1
    · have z1 := has_t e.1 e.2 q1
      have z2 := isH_t e.1 e.2 q1
      have z3 := hasS_f e.1 e.2 b2 b3 (fun x => q ⟨q1, x⟩)
      have z4 := isS_f e.1 e.2 b2 b3 (fun x => q ⟨q1, x⟩)
      simp only [z1, z2, z3, z4, Option.bind_some]
      simp (disch := omega) only [gd_t, so_some, so_bind, so_gd, so_none, Option.bind_some, iI_add, iI_sub, iI_mul, iI_neg, iI_clamp, iI_nat, vin_i, iI_le, iI_lt, iI_eq, mn_i, mx_i, if_true, if_false, if_pos, if_neg, li_0, li_1, li_2, li_3, li_4, li_5, li_6, li_7, li_8, li_9, li_10, li_11, li_12, li_14, li_15, li_16, li_20, li_21, li_24, li_28, li_30, li_31, li_40, li_41, li_42, li_43, li_44, li_45, li_47, li_48, li_49, li_57, li_59, li_60, li_61, li_62, li_63, li_70, li_71, li_76, li_80, li_96, li_97, li_98, li_99, li_100, li_101, li_102, li_103, li_104, li_105, li_106, li_107, li_108, li_109, li_110, li_111, li_112, li_113, li_114, li_115, li_116, li_117, li_118, li_119, li_120, li_128, li_142, li_255, li_320, li_781, li_852, li_999, li_1000, li_2000, li_3000, li_9999, li_12345, li_65536, li_1000000, li_252645135, li_858993459, li_1103515245, li_1431655765, has_t, has_f, win_t, win_f, in_t, in_f, isH_t, isH_f, hasS_t, hasS_f, isS_t, isS_f, has2_t, has2_f, are2_t, are2_f, c_rem_f]
      exact ⟨(by first | rfl | trivial), R.same ⟨n0.1, hn⟩ G ⟨c1, c2, c3, c4, c5, c6, c7, c8, c9⟩ ⟨m1, m2, m3, m4, m5, m6, m7, m8, m9⟩⟩
    · have z1 := has_f e.1 e.2 b0 b1 q1
      have z2 := isH_f e.1 e.2 b0 b1 q1
      simp only [z1, z2, Option.bind_some]
      simp (disch := omega) only [gd_t, so_some, so_bind, so_gd, so_none, Option.bind_some, iI_add, iI_sub, iI_mul, iI_neg, iI_clamp, iI_nat, vin_i, iI_le, iI_lt, iI_eq, mn_i, mx_i, if_true, if_false, if_pos, if_neg, li_0, li_1, li_2, li_3, li_4, li_5, li_6, li_7, li_8, li_9, li_10, li_11, li_12, li_14, li_15, li_16, li_20, li_21, li_24, li_28, li_30, li_31, li_40, li_41, li_42, li_43, li_44, li_45, li_47, li_48, li_49, li_57, li_59, li_60, li_61, li_62, li_63, li_70, li_71, li_76, li_80, li_96, li_97, li_98, li_99, li_100, li_101, li_102, li_103, li_104, li_105, li_106, li_107, li_108, li_109, li_110, li_111, li_112, li_113, li_114, li_115, li_116, li_117, li_118, li_119, li_120, li_128, li_142, li_255, li_320, li_781, li_852, li_999, li_1000, li_2000, li_3000, li_9999, li_12345, li_65536, li_1000000, li_252645135, li_858993459, li_1103515245, li_1431655765, has_t, has_f, win_t, win_f, in_t, in_f, isH_t, isH_f, hasS_t, hasS_f, isS_t, isS_f, has2_t, has2_f, are2_t, are2_f, c_rem_f]
      exact ⟨(by first | rfl | trivial), R.same ⟨n0.1, hn⟩ G ⟨c1, c2, c3, c4, c5, c6, c7, c8, c9⟩ ⟨m1, m2, m3, m4, m5, m6, m7, m8, m9⟩⟩
