theorem s_sweep {n : Int} {σ : CS} {τ : MS} (h : R n σ τ) (hn : n < 1000) (p1 p2 : Int32) : Ok n (x_sweep σ p1 p2) (y_sweep τ p1 p2) := by
  obtain ⟨n0, g, c, m, G⟩ := h
  obtain ⟨P, rfl, b0, b1⟩ := iI_of p1
  obtain ⟨Q, rfl, b2, b3⟩ := iI_of p2
  have e := G.1.1
  have hA := G.2.2.1.1
  obtain ⟨c1, c2, c3, c4, c5, c6, c7, c8, c9⟩ := c
  obtain ⟨m1, m2, m3, m4, m5, m6, m7, m8, m9⟩ := m
  unfold Ok x_sweep y_sweep fX11_sweep fX12_sweep fX12_sweepRefusal
  simp only [so_bind]
  refine so_mono (c_startCall c3 _ _ _ _ _ _ _ _ _) ?_
  rintro o ⟨-, hb⟩
  unfold fX11_sweepNow
  rw [c1.1, m1.1]
  have hsn := c3.2.1
  by_cases q : (0 ≤ P ∧ P < 2 * g.1.1) ∧ 1 ≤ Q ∧ Q ≤ 99
  · have a := hA.1 P q.1.1 (by omega)
    by_cases q2 : Q ≤ g.2.2.1 P
    · simp (disch := omega) only [gd_t, so_some, so_bind, so_gd, so_none, Option.bind_some, iI_add, iI_sub, iI_mul, iI_neg, iI_clamp, iI_nat, vin_i, iI_le, iI_lt, iI_eq, mn_i, mx_i, if_true, if_false, if_pos, if_neg, li_0, li_1, li_2, li_3, li_4, li_5, li_6, li_7, li_8, li_9, li_10, li_11, li_12, li_14, li_15, li_16, li_20, li_21, li_24, li_28, li_30, li_31, li_40, li_41, li_42, li_43, li_44, li_45, li_47, li_48, li_49, li_57, li_59, li_60, li_61, li_62, li_63, li_70, li_71, li_76, li_80, li_96, li_97, li_98, li_99, li_100, li_101, li_102, li_103, li_104, li_105, li_106, li_107, li_108, li_109, li_110, li_111, li_112, li_113, li_114, li_115, li_116, li_117, li_118, li_119, li_120, li_128, li_142, li_255, li_320, li_781, li_852, li_999, li_1000, li_2000, li_3000, li_9999, li_12345, li_65536, li_1000000, li_252645135, li_858993459, li_1103515245, li_1431655765, has_t, has_f, win_t, win_f, in_t, in_f, isH_t, isH_f, hasS_t, hasS_f, isS_t, isS_f, has2_t, has2_f, are2_t, are2_f, hsn.at, m3.at]
      refine so_mono (c_shift hA hsn (k := Q) q.1.1 (by omega) (by omega) (by omega)) ?_
      rintro s ⟨-, s2⟩
      rw [show min Q (g.2.2.1 P) = Q by omega] at s2
      have ob := ot_b q.1.1 q.1.2
      have wS := wa_sw hA (s := P) (v := Q) q.1.1 (by omega) (by omega) q2
      have a2 := wS.1 (ot P) (by omega) (by omega)
      simp (disch := omega) only [gd_t, so_some, so_bind, so_gd, so_none, Option.bind_some, iI_add, iI_sub, iI_mul, iI_neg, iI_clamp, iI_nat, vin_i, iI_le, iI_lt, iI_eq, mn_i, mx_i, if_true, if_false, if_pos, if_neg, li_0, li_1, li_2, li_3, li_4, li_5, li_6, li_7, li_8, li_9, li_10, li_11, li_12, li_14, li_15, li_16, li_20, li_21, li_24, li_28, li_30, li_31, li_40, li_41, li_42, li_43, li_44, li_45, li_47, li_48, li_49, li_57, li_59, li_60, li_61, li_62, li_63, li_70, li_71, li_76, li_80, li_96, li_97, li_98, li_99, li_100, li_101, li_102, li_103, li_104, li_105, li_106, li_107, li_108, li_109, li_110, li_111, li_112, li_113, li_114, li_115, li_116, li_117, li_118, li_119, li_120, li_128, li_142, li_255, li_320, li_781, li_852, li_999, li_1000, li_2000, li_3000, li_9999, li_12345, li_65536, li_1000000, li_252645135, li_858993459, li_1103515245, li_1431655765, xor1, s2.at]
      refine so_mono (c_rem_t c5 hb (by omega) (by omega)) ?_
      rintro r ⟨r1, r2⟩
      refine so_mono (m_remember m5 m3) ?_
      intro t ht
      refine so_mono (m_sweeps hA m3 (s := P) (v := Q) q.1.1 (by omega) (by omega) (by omega)) ?_
      intro w hw
      have hS := (G.2.2.1.sw e.2 q.1.1 q.1.2 (by omega) q2).mono (show n ≤ n + 1 by omega)
      have st := stc_snow c3 s2 (fun i hi => sw_hi q.1.1 (by omega) hi)
      by_cases q3 : P % 2 = 0
      · have e3 : ot P = P + 1 := if_pos q3
        simp (disch := omega) only [gd_t, so_some, so_bind, so_gd, so_none, Option.bind_some, iI_add, iI_sub, iI_mul, iI_neg, iI_clamp, iI_nat, vin_i, iI_le, iI_lt, iI_eq, mn_i, mx_i, if_true, if_false, if_pos, if_neg, li_0, li_1, li_2, li_3, li_4, li_5, li_6, li_7, li_8, li_9, li_10, li_11, li_12, li_14, li_15, li_16, li_20, li_21, li_24, li_28, li_30, li_31, li_40, li_41, li_42, li_43, li_44, li_45, li_47, li_48, li_49, li_57, li_59, li_60, li_61, li_62, li_63, li_70, li_71, li_76, li_80, li_96, li_97, li_98, li_99, li_100, li_101, li_102, li_103, li_104, li_105, li_106, li_107, li_108, li_109, li_110, li_111, li_112, li_113, li_114, li_115, li_116, li_117, li_118, li_119, li_120, li_128, li_142, li_255, li_320, li_781, li_852, li_999, li_1000, li_2000, li_3000, li_9999, li_12345, li_65536, li_1000000, li_252645135, li_858993459, li_1103515245, li_1431655765, rem2, ← e3, hw.at, r1]
        exact ⟨(by first | rfl | trivial), R.push ⟨n0.1, hn⟩ G c5.2.1 hS g.2.2.2.2.2.2.2.2.1 G.2.2.2.2.2.2.1 ⟨c1, c2, st, c4, r2, c6, c7, c8, c9⟩ ⟨m1, m2, hw, m4, ht, m6, m7, m8, m9⟩⟩
      · have e3 : ot P = P - 1 := if_neg q3
        simp (disch := omega) only [gd_t, so_some, so_bind, so_gd, so_none, Option.bind_some, iI_add, iI_sub, iI_mul, iI_neg, iI_clamp, iI_nat, vin_i, iI_le, iI_lt, iI_eq, mn_i, mx_i, if_true, if_false, if_pos, if_neg, li_0, li_1, li_2, li_3, li_4, li_5, li_6, li_7, li_8, li_9, li_10, li_11, li_12, li_14, li_15, li_16, li_20, li_21, li_24, li_28, li_30, li_31, li_40, li_41, li_42, li_43, li_44, li_45, li_47, li_48, li_49, li_57, li_59, li_60, li_61, li_62, li_63, li_70, li_71, li_76, li_80, li_96, li_97, li_98, li_99, li_100, li_101, li_102, li_103, li_104, li_105, li_106, li_107, li_108, li_109, li_110, li_111, li_112, li_113, li_114, li_115, li_116, li_117, li_118, li_119, li_120, li_128, li_142, li_255, li_320, li_781, li_852, li_999, li_1000, li_2000, li_3000, li_9999, li_12345, li_65536, li_1000000, li_252645135, li_858993459, li_1103515245, li_1431655765, rem2, ← e3, hw.at, r1]
        exact ⟨(by first | rfl | trivial), R.push ⟨n0.1, hn⟩ G c5.2.1 hS g.2.2.2.2.2.2.2.2.1 G.2.2.2.2.2.2.1 ⟨c1, c2, st, c4, r2, c6, c7, c8, c9⟩ ⟨m1, m2, hw, m4, ht, m6, m7, m8, m9⟩⟩
    · simp (disch := omega) only [gd_t, so_some, so_bind, so_gd, so_none, Option.bind_some, iI_add, iI_sub, iI_mul, iI_neg, iI_clamp, iI_nat, vin_i, iI_le, iI_lt, iI_eq, mn_i, mx_i, if_true, if_false, if_pos, if_neg, li_0, li_1, li_2, li_3, li_4, li_5, li_6, li_7, li_8, li_9, li_10, li_11, li_12, li_14, li_15, li_16, li_20, li_21, li_24, li_28, li_30, li_31, li_40, li_41, li_42, li_43, li_44, li_45, li_47, li_48, li_49, li_57, li_59, li_60, li_61, li_62, li_63, li_70, li_71, li_76, li_80, li_96, li_97, li_98, li_99, li_100, li_101, li_102, li_103, li_104, li_105, li_106, li_107, li_108, li_109, li_110, li_111, li_112, li_113, li_114, li_115, li_116, li_117, li_118, li_119, li_120, li_128, li_142, li_255, li_320, li_781, li_852, li_999, li_1000, li_2000, li_3000, li_9999, li_12345, li_65536, li_1000000, li_252645135, li_858993459, li_1103515245, li_1431655765, has_t, has_f, win_t, win_f, in_t, in_f, isH_t, isH_f, hasS_t, hasS_f, isS_t, isS_f, has2_t, has2_f, are2_t, are2_f, hsn.at, m3.at, c_rem_f]
      exact ⟨(by first | rfl | trivial), R.same ⟨n0.1, hn⟩ G ⟨c1, c2, c3, c4, c5, c6, c7, c8, c9⟩ ⟨m1, m2, m3, m4, m5, m6, m7, m8, m9⟩⟩
  · by_cases q2 : 0 ≤ P ∧ P < 2 * g.1.1
    · simp (disch := omega) only [gd_t, so_some, so_bind, so_gd, so_none, Option.bind_some, iI_add, iI_sub, iI_mul, iI_neg, iI_clamp, iI_nat, vin_i, iI_le, iI_lt, iI_eq, mn_i, mx_i, if_true, if_false, if_pos, if_neg, li_0, li_1, li_2, li_3, li_4, li_5, li_6, li_7, li_8, li_9, li_10, li_11, li_12, li_14, li_15, li_16, li_20, li_21, li_24, li_28, li_30, li_31, li_40, li_41, li_42, li_43, li_44, li_45, li_47, li_48, li_49, li_57, li_59, li_60, li_61, li_62, li_63, li_70, li_71, li_76, li_80, li_96, li_97, li_98, li_99, li_100, li_101, li_102, li_103, li_104, li_105, li_106, li_107, li_108, li_109, li_110, li_111, li_112, li_113, li_114, li_115, li_116, li_117, li_118, li_119, li_120, li_128, li_142, li_255, li_320, li_781, li_852, li_999, li_1000, li_2000, li_3000, li_9999, li_12345, li_65536, li_1000000, li_252645135, li_858993459, li_1103515245, li_1431655765, has_t, has_f, win_t, win_f, in_t, in_f, isH_t, isH_f, hasS_t, hasS_f, isS_t, isS_f, has2_t, has2_f, are2_t, are2_f, c_rem_f]
      exact ⟨(by first | rfl | trivial), R.same ⟨n0.1, hn⟩ G ⟨c1, c2, c3, c4, c5, c6, c7, c8, c9⟩ ⟨m1, m2, m3, m4, m5, m6, m7, m8, m9⟩⟩
    · simp (disch := omega) only [gd_t, so_some, so_bind, so_gd, so_none, Option.bind_some, iI_add, iI_sub, iI_mul, iI_neg, iI_clamp, iI_nat, vin_i, iI_le, iI_lt, iI_eq, mn_i, mx_i, if_true, if_false, if_pos, if_neg, li_0, li_1, li_2, li_3, li_4, li_5, li_6, li_7, li_8, li_9, li_10, li_11, li_12, li_14, li_15, li_16, li_20, li_21, li_24, li_28, li_30, li_31, li_40, li_41, li_42, li_43, li_44, li_45, li_47, li_48, li_49, li_57, li_59, li_60, li_61, li_62, li_63, li_70, li_71, li_76, li_80, li_96, li_97, li_98, li_99, li_100, li_101, li_102, li_103, li_104, li_105, li_106, li_107, li_108, li_109, li_110, li_111, li_112, li_113, li_114, li_115, li_116, li_117, li_118, li_119, li_120, li_128, li_142, li_255, li_320, li_781, li_852, li_999, li_1000, li_2000, li_3000, li_9999, li_12345, li_65536, li_1000000, li_252645135, li_858993459, li_1103515245, li_1431655765, has_t, has_f, win_t, win_f, in_t, in_f, isH_t, isH_f, hasS_t, hasS_f, isS_t, isS_f, has2_t, has2_f, are2_t, are2_f, c_rem_f]
      exact ⟨(by first | rfl | trivial), R.same ⟨n0.1, hn⟩ G ⟨c1, c2, c3, c4, c5, c6, c7, c8, c9⟩ ⟨m1, m2, m3, m4, m5, m6, m7, m8, m9⟩⟩
theorem s_clear {n : Int} {σ : CS} {τ : MS} (h : R n σ τ) (hn : n < 1000) (p1 p2 : Int32) : Ok n (x_clear σ p1 p2) (y_clear τ p1 p2) := by
  obtain ⟨n0, g, c, m, G⟩ := h
  obtain ⟨P, rfl, b0, b1⟩ := iI_of p1
  obtain ⟨Q, rfl, b2, b3⟩ := iI_of p2
  have e := G.1.1
  have hA := G.2.2.1.1
  obtain ⟨c1, c2, c3, c4, c5, c6, c7, c8, c9⟩ := c
  obtain ⟨m1, m2, m3, m4, m5, m6, m7, m8, m9⟩ := m
  unfold Ok x_clear y_clear fX11_clear fX12_clear fX12_clearRefusal
  simp only [so_bind]
  refine so_mono (c_startCall c3 _ _ _ _ _ _ _ _ _) ?_
  rintro o ⟨-, hb⟩
  unfold fX11_clearNow
  rw [c1.1, m1.1]
  have hsn := c3.2.2.1
  by_cases q : (0 ≤ P ∧ P < g.1.1) ∧ 1 ≤ Q ∧ Q ≤ 99
  · have a := hA.1 (14 + P) (by omega) (by omega)
    by_cases q2 : Q ≤ g.2.2.1 (14 + P)
    · have u1 := hsn.up (g.2.2.1 (14 + P) - Q) q.1.1
      have u2 := m3.up (g.2.2.1 (14 + P) - Q) (k := 14 + P) (by omega)
      simp (disch := omega) only [gd_t, so_some, so_bind, so_gd, so_none, Option.bind_some, iI_add, iI_sub, iI_mul, iI_neg, iI_clamp, iI_nat, vin_i, iI_le, iI_lt, iI_eq, mn_i, mx_i, if_true, if_false, if_pos, if_neg, li_0, li_1, li_2, li_3, li_4, li_5, li_6, li_7, li_8, li_9, li_10, li_11, li_12, li_14, li_15, li_16, li_20, li_21, li_24, li_28, li_30, li_31, li_40, li_41, li_42, li_43, li_44, li_45, li_47, li_48, li_49, li_57, li_59, li_60, li_61, li_62, li_63, li_70, li_71, li_76, li_80, li_96, li_97, li_98, li_99, li_100, li_101, li_102, li_103, li_104, li_105, li_106, li_107, li_108, li_109, li_110, li_111, li_112, li_113, li_114, li_115, li_116, li_117, li_118, li_119, li_120, li_128, li_142, li_255, li_320, li_781, li_852, li_999, li_1000, li_2000, li_3000, li_9999, li_12345, li_65536, li_1000000, li_252645135, li_858993459, li_1103515245, li_1431655765, has_t, has_f, win_t, win_f, in_t, in_f, isH_t, isH_f, hasS_t, hasS_f, isS_t, isS_f, has2_t, has2_f, are2_t, are2_f, hsn.at, m3.at, u1.at, u2.at, upI_s]
      refine so_mono (c_rem_t c5 hb (by omega) (by omega)) ?_
      rintro r ⟨r1, r2⟩
      refine so_mono (m_remember m5 m3) ?_
      intro t ht
      have hS : SG g.1.1 (n + 1) (upI g.2.2.1 (14 + P) (g.2.2.1 (14 + P) - Q)) :=
        ⟨hA.up (fun _ _ => by omega) (fun _ _ => by omega) (fun _ => by omega), G.2.2.1.2.1.up (by omega) (by omega) (by omega) e.2, by rw [upI_o _ (by omega)]; have := G.2.2.1.2.2; omega⟩
      have st : StC (upI g.2.2.1 (14 + P) (g.2.2.1 (14 + P) - Q)) _ _ _ _ := stc_path c3 (p' := upd (σ.2.1 11) P.toNat (iI (g.2.2.1 (14 + P) - Q))) (u1.congr (fun x x0 x1 => by
        by_cases hx : x = P
        · rw [hx, upI_s, upI_s]
        · rw [upI_o _ hx, upI_o _ (by omega)])) (fun i hi => upI_o _ (by omega))
      exact ⟨r1, R.push ⟨n0.1, hn⟩ G c5.2.1 hS g.2.2.2.2.2.2.2.2.1 G.2.2.2.2.2.2.1 ⟨c1, c2, st, c4, r2, c6, c7, c8, c9⟩ ⟨m1, m2, u2, m4, ht, m6, m7, m8, m9⟩⟩
    · simp (disch := omega) only [gd_t, so_some, so_bind, so_gd, so_none, Option.bind_some, iI_add, iI_sub, iI_mul, iI_neg, iI_clamp, iI_nat, vin_i, iI_le, iI_lt, iI_eq, mn_i, mx_i, if_true, if_false, if_pos, if_neg, li_0, li_1, li_2, li_3, li_4, li_5, li_6, li_7, li_8, li_9, li_10, li_11, li_12, li_14, li_15, li_16, li_20, li_21, li_24, li_28, li_30, li_31, li_40, li_41, li_42, li_43, li_44, li_45, li_47, li_48, li_49, li_57, li_59, li_60, li_61, li_62, li_63, li_70, li_71, li_76, li_80, li_96, li_97, li_98, li_99, li_100, li_101, li_102, li_103, li_104, li_105, li_106, li_107, li_108, li_109, li_110, li_111, li_112, li_113, li_114, li_115, li_116, li_117, li_118, li_119, li_120, li_128, li_142, li_255, li_320, li_781, li_852, li_999, li_1000, li_2000, li_3000, li_9999, li_12345, li_65536, li_1000000, li_252645135, li_858993459, li_1103515245, li_1431655765, has_t, has_f, win_t, win_f, in_t, in_f, isH_t, isH_f, hasS_t, hasS_f, isS_t, isS_f, has2_t, has2_f, are2_t, are2_f, hsn.at, m3.at, c_rem_f]
      exact ⟨(by first | rfl | trivial), R.same ⟨n0.1, hn⟩ G ⟨c1, c2, c3, c4, c5, c6, c7, c8, c9⟩ ⟨m1, m2, m3, m4, m5, m6, m7, m8, m9⟩⟩
  · by_cases q2 : 0 ≤ P ∧ P < g.1.1
    · simp (disch := omega) only [gd_t, so_some, so_bind, so_gd, so_none, Option.bind_some, iI_add, iI_sub, iI_mul, iI_neg, iI_clamp, iI_nat, vin_i, iI_le, iI_lt, iI_eq, mn_i, mx_i, if_true, if_false, if_pos, if_neg, li_0, li_1, li_2, li_3, li_4, li_5, li_6, li_7, li_8, li_9, li_10, li_11, li_12, li_14, li_15, li_16, li_20, li_21, li_24, li_28, li_30, li_31, li_40, li_41, li_42, li_43, li_44, li_45, li_47, li_48, li_49, li_57, li_59, li_60, li_61, li_62, li_63, li_70, li_71, li_76, li_80, li_96, li_97, li_98, li_99, li_100, li_101, li_102, li_103, li_104, li_105, li_106, li_107, li_108, li_109, li_110, li_111, li_112, li_113, li_114, li_115, li_116, li_117, li_118, li_119, li_120, li_128, li_142, li_255, li_320, li_781, li_852, li_999, li_1000, li_2000, li_3000, li_9999, li_12345, li_65536, li_1000000, li_252645135, li_858993459, li_1103515245, li_1431655765, has_t, has_f, win_t, win_f, in_t, in_f, isH_t, isH_f, hasS_t, hasS_f, isS_t, isS_f, has2_t, has2_f, are2_t, are2_f, c_rem_f]
      exact ⟨(by first | rfl | trivial), R.same ⟨n0.1, hn⟩ G ⟨c1, c2, c3, c4, c5, c6, c7, c8, c9⟩ ⟨m1, m2, m3, m4, m5, m6, m7, m8, m9⟩⟩
    · simp (disch := omega) only [gd_t, so_some, so_bind, so_gd, so_none, Option.bind_some, iI_add, iI_sub, iI_mul, iI_neg, iI_clamp, iI_nat, vin_i, iI_le, iI_lt, iI_eq, mn_i, mx_i, if_true, if_false, if_pos, if_neg, li_0, li_1, li_2, li_3, li_4, li_5, li_6, li_7, li_8, li_9, li_10, li_11, li_12, li_14, li_15, li_16, li_20, li_21, li_24, li_28, li_30, li_31, li_40, li_41, li_42, li_43, li_44, li_45, li_47, li_48, li_49, li_57, li_59, li_60, li_61, li_62, li_63, li_70, li_71, li_76, li_80, li_96, li_97, li_98, li_99, li_100, li_101, li_102, li_103, li_104, li_105, li_106, li_107, li_108, li_109, li_110, li_111, li_112, li_113, li_114, li_115, li_116, li_117, li_118, li_119, li_120, li_128, li_142, li_255, li_320, li_781, li_852, li_999, li_1000, li_2000, li_3000, li_9999, li_12345, li_65536, li_1000000, li_252645135, li_858993459, li_1103515245, li_1431655765, has_t, has_f, win_t, win_f, in_t, in_f, isH_t, isH_f, hasS_t, hasS_f, isS_t, isS_f, has2_t, has2_f, are2_t, are2_f, c_rem_f]
      exact ⟨(by first | rfl | trivial), R.same ⟨n0.1, hn⟩ G ⟨c1, c2, c3, c4, c5, c6, c7, c8, c9⟩ ⟨m1, m2, m3, m4, m5, m6, m7, m8, m9⟩⟩
