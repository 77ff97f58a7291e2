theorem s_work {n : Int} {σ : CS} {τ : MS} (h : R n σ τ) (hn : n < 1000) (p1 p2 p3 : Int32) : Ok n (x_work σ p1 p2 p3) (y_work τ p1 p2 p3) := by
  obtain ⟨n0, g, c, m, G⟩ := h
  obtain ⟨P, rfl, b0, b1⟩ := iI_of p1
  obtain ⟨Q, rfl, b2, b3⟩ := iI_of p2
  obtain ⟨V, rfl, b4, b5⟩ := iI_of p3
  have e := G.1.1
  have hA := G.2.2.1.1
  obtain ⟨c1, c2, c3, c4, c5, c6, c7, c8, c9⟩ := c
  obtain ⟨m1, m2, m3, m4, m5, m6, m7, m8, m9⟩ := m
  unfold Ok x_work y_work fX11_work fX12_work
  rw [c1.1, m1.1]
  have hd := c3.2.2.2
  have ix : 21 + 7 * P + Q = 21 + (P * 7 + Q) := by omega
  by_cases q : 0 ≤ P ∧ P < g.1.1 ∧ 0 ≤ Q ∧ Q < g.1.1 ∧ P ≠ Q
  · by_cases q1 : 1 ≤ V ∧ V ≤ 99
    · have a := hA.2.1 (21 + (P * 7 + Q)) (by omega) (by omega)
      by_cases q2 : V ≤ g.2.2.1 (21 + (P * 7 + Q))
      · have u1 := hd.up (g.2.2.1 (21 + (P * 7 + Q)) - V) (k := P * 7 + Q) (by omega)
        have u2 := m3.up (g.2.2.1 (21 + (P * 7 + Q)) - V) (k := 21 + (P * 7 + Q)) (by omega)
        simp (disch := omega) only [gd_t, so_some, so_bind, so_gd, so_none, Option.bind_some, iI_add, iI_sub, iI_mul, iI_neg, iI_clamp, iI_nat, vin_i, iI_le, iI_lt, iI_eq, mn_i, mx_i, if_true, if_false, if_pos, if_neg, li_0, li_1, li_2, li_3, li_4, li_5, li_6, li_7, li_8, li_9, li_10, li_11, li_12, li_14, li_15, li_16, li_20, li_21, li_24, li_28, li_30, li_31, li_40, li_41, li_42, li_43, li_44, li_45, li_47, li_48, li_49, li_57, li_59, li_60, li_61, li_62, li_63, li_70, li_71, li_76, li_80, li_96, li_97, li_98, li_99, li_100, li_101, li_102, li_103, li_104, li_105, li_106, li_107, li_108, li_109, li_110, li_111, li_112, li_113, li_114, li_115, li_116, li_117, li_118, li_119, li_120, li_128, li_142, li_255, li_320, li_781, li_852, li_999, li_1000, li_2000, li_3000, li_9999, li_12345, li_65536, li_1000000, li_252645135, li_858993459, li_1103515245, li_1431655765, has_t, has_f, win_t, win_f, in_t, in_f, isH_t, isH_f, hasS_t, hasS_f, isS_t, isS_f, has2_t, has2_f, are2_t, are2_f, hd.at, ix, m3.at, u2.at, upI_s]
        refine so_mono (c_startCall c3 _ _ _ _ _ _ _ _ _) ?_
        rintro o ⟨-, hb⟩
        refine so_mono (c_rem_t c5 hb (by omega) (by omega)) ?_
        rintro r ⟨r1, r2⟩
        refine so_mono (m_remember m5 m3) ?_
        intro t ht
        have hS : SG g.1.1 (n + 1) (upI g.2.2.1 (21 + (P * 7 + Q)) (g.2.2.1 (21 + (P * 7 + Q)) - V)) :=
          ⟨hA.up (fun _ _ => by omega) (fun _ _ => by omega) (fun _ => by omega), G.2.2.1.2.1.up (by omega) (by omega) (fun _ _ => Or.inr ⟨P, Q, by omega⟩) e.2, by rw [upI_o _ (by omega)]; have := G.2.2.1.2.2; omega⟩
        have st : StC (upI g.2.2.1 (21 + (P * 7 + Q)) (g.2.2.1 (21 + (P * 7 + Q)) - V)) _ _ _ _ := stc_debt c3 (d' := upd (σ.2.1 10) (P * 7 + Q).toNat (iI (g.2.2.1 (21 + (P * 7 + Q)) - V))) (u1.congr (fun x x0 x1 => by
          by_cases hx : x = P * 7 + Q
          · rw [hx, upI_s, upI_s]
          · rw [upI_o _ hx, upI_o _ (by omega)])) (fun i hi => upI_o _ (by omega))
        exact ⟨r1, R.push ⟨n0.1, hn⟩ G c5.2.1 hS g.2.2.2.2.2.2.2.2.1 G.2.2.2.2.2.2.1 ⟨c1, c2, st, c4, r2, c6, c7, c8, c9⟩ ⟨m1, m2, u2, m4, ht, m6, m7, m8, m9⟩⟩
      · simp (disch := omega) only [gd_t, so_some, so_bind, so_gd, so_none, Option.bind_some, iI_add, iI_sub, iI_mul, iI_neg, iI_clamp, iI_nat, vin_i, iI_le, iI_lt, iI_eq, mn_i, mx_i, if_true, if_false, if_pos, if_neg, li_0, li_1, li_2, li_3, li_4, li_5, li_6, li_7, li_8, li_9, li_10, li_11, li_12, li_14, li_15, li_16, li_20, li_21, li_24, li_28, li_30, li_31, li_40, li_41, li_42, li_43, li_44, li_45, li_47, li_48, li_49, li_57, li_59, li_60, li_61, li_62, li_63, li_70, li_71, li_76, li_80, li_96, li_97, li_98, li_99, li_100, li_101, li_102, li_103, li_104, li_105, li_106, li_107, li_108, li_109, li_110, li_111, li_112, li_113, li_114, li_115, li_116, li_117, li_118, li_119, li_120, li_128, li_142, li_255, li_320, li_781, li_852, li_999, li_1000, li_2000, li_3000, li_9999, li_12345, li_65536, li_1000000, li_252645135, li_858993459, li_1103515245, li_1431655765, has_t, has_f, win_t, win_f, in_t, in_f, isH_t, isH_f, hasS_t, hasS_f, isS_t, isS_f, has2_t, has2_f, are2_t, are2_f, hd.at, ix, m3.at]
        exact ⟨(by first | rfl | trivial), R.same ⟨n0.1, hn⟩ G ⟨c1, c2, c3, c4, c5, c6, c7, c8, c9⟩ ⟨m1, m2, m3, m4, m5, m6, m7, m8, m9⟩⟩
    · simp (disch := omega) only [gd_t, so_some, so_bind, so_gd, so_none, Option.bind_some, iI_add, iI_sub, iI_mul, iI_neg, iI_clamp, iI_nat, vin_i, iI_le, iI_lt, iI_eq, mn_i, mx_i, if_true, if_false, if_pos, if_neg, li_0, li_1, li_2, li_3, li_4, li_5, li_6, li_7, li_8, li_9, li_10, li_11, li_12, li_14, li_15, li_16, li_20, li_21, li_24, li_28, li_30, li_31, li_40, li_41, li_42, li_43, li_44, li_45, li_47, li_48, li_49, li_57, li_59, li_60, li_61, li_62, li_63, li_70, li_71, li_76, li_80, li_96, li_97, li_98, li_99, li_100, li_101, li_102, li_103, li_104, li_105, li_106, li_107, li_108, li_109, li_110, li_111, li_112, li_113, li_114, li_115, li_116, li_117, li_118, li_119, li_120, li_128, li_142, li_255, li_320, li_781, li_852, li_999, li_1000, li_2000, li_3000, li_9999, li_12345, li_65536, li_1000000, li_252645135, li_858993459, li_1103515245, li_1431655765, has_t, has_f, win_t, win_f, in_t, in_f, isH_t, isH_f, hasS_t, hasS_f, isS_t, isS_f, has2_t, has2_f, are2_t, are2_f]
      exact ⟨(by first | rfl | trivial), R.same ⟨n0.1, hn⟩ G ⟨c1, c2, c3, c4, c5, c6, c7, c8, c9⟩ ⟨m1, m2, m3, m4, m5, m6, m7, m8, m9⟩⟩
  · simp (disch := omega) only [gd_t, so_some, so_bind, so_gd, so_none, Option.bind_some, iI_add, iI_sub, iI_mul, iI_neg, iI_clamp, iI_nat, vin_i, iI_le, iI_lt, iI_eq, mn_i, mx_i, if_true, if_false, if_pos, if_neg, li_0, li_1, li_2, li_3, li_4, li_5, li_6, li_7, li_8, li_9, li_10, li_11, li_12, li_14, li_15, li_16, li_20, li_21, li_24, li_28, li_30, li_31, li_40, li_41, li_42, li_43, li_44, li_45, li_47, li_48, li_49, li_57, li_59, li_60, li_61, li_62, li_63, li_70, li_71, li_76, li_80, li_96, li_97, li_98, li_99, li_100, li_101, li_102, li_103, li_104, li_105, li_106, li_107, li_108, li_109, li_110, li_111, li_112, li_113, li_114, li_115, li_116, li_117, li_118, li_119, li_120, li_128, li_142, li_255, li_320, li_781, li_852, li_999, li_1000, li_2000, li_3000, li_9999, li_12345, li_65536, li_1000000, li_252645135, li_858993459, li_1103515245, li_1431655765, has_t, has_f, win_t, win_f, in_t, in_f, isH_t, isH_f, hasS_t, hasS_f, isS_t, isS_f, has2_t, has2_f, are2_t, are2_f]
    exact ⟨(by first | rfl | trivial), R.same ⟨n0.1, hn⟩ G ⟨c1, c2, c3, c4, c5, c6, c7, c8, c9⟩ ⟨m1, m2, m3, m4, m5, m6, m7, m8, m9⟩⟩
theorem s_wind_L {h : Int} (h7 : h ≤ 7) {n P Q : Int} (p0 : 0 ≤ P) (p1 : P ≤ 1) (q0 : 1 ≤ Q) (q1 : Q ≤ 99) {B : Int → Int} : ∀ (m : Nat) (k : Int) (f : Nat) (v : Int) (snow a : Nat → Int32) (A : Int → Int), 0 ≤ k → k + m = h → m < f → 0 ≤ v → v ≤ 99 * k → SG h n A → (∀ i, 14 ≤ i → A i = B i) → Arr 14 snow A → Arr 71 a A →
    So (fX11_wind_L30 (iI h) (iI P) (iI Q) f (iI v) (iI k) snow) (fun o => So (fX12_wind_L39 (iI h) (iI P) (iI Q) f (iI v) (iI k) a) (fun p => o.1 = p.1 ∧ ∃ (w : Int) (A' : Int → Int), o.1 = iI w ∧ 0 ≤ w ∧ w ≤ 99 * h ∧ SG h n A' ∧ (∀ i, 14 ≤ i → A' i = B i) ∧ Arr 14 o.2 A' ∧ Arr 71 p.2 A'))
  | 0, k, f + 1, v, snow, a, A, h0, hk, hf, v0, v1, hS, hB, hs, ha => by
    rw [fX11_wind_L30, fX12_wind_L39]
    simp (disch := omega) only [gd_t, so_some, so_bind, so_gd, so_none, Option.bind_some, iI_add, iI_sub, iI_mul, iI_neg, iI_clamp, iI_nat, vin_i, iI_le, iI_lt, iI_eq, mn_i, mx_i, if_true, if_false, if_pos, if_neg, li_0, li_1, li_2, li_3, li_4, li_5, li_6, li_7, li_8, li_9, li_10, li_11, li_12, li_14, li_15, li_16, li_20, li_21, li_24, li_28, li_30, li_31, li_40, li_41, li_42, li_43, li_44, li_45, li_47, li_48, li_49, li_57, li_59, li_60, li_61, li_62, li_63, li_70, li_71, li_76, li_80, li_96, li_97, li_98, li_99, li_100, li_101, li_102, li_103, li_104, li_105, li_106, li_107, li_108, li_109, li_110, li_111, li_112, li_113, li_114, li_115, li_116, li_117, li_118, li_119, li_120, li_128, li_142, li_255, li_320, li_781, li_852, li_999, li_1000, li_2000, li_3000, li_9999, li_12345, li_65536, li_1000000, li_252645135, li_858993459, li_1103515245, li_1431655765]
    exact ⟨(by first | rfl | trivial), v, A, rfl, v0, by omega, hS, hB, hs, ha⟩
  | m + 1, k, f + 1, v, snow, a, A, h0, hk, hf, v0, v1, hS, hB, hs, ha => by
    have a1 := hS.1.1 (2 * k + P) (by omega) (by omega)
    rw [fX11_wind_L30, fX12_wind_L39]
    simp (disch := omega) only [gd_t, so_some, so_bind, so_gd, so_none, Option.bind_some, iI_add, iI_sub, iI_mul, iI_neg, iI_clamp, iI_nat, vin_i, iI_le, iI_lt, iI_eq, mn_i, mx_i, if_true, if_false, if_pos, if_neg, li_0, li_1, li_2, li_3, li_4, li_5, li_6, li_7, li_8, li_9, li_10, li_11, li_12, li_14, li_15, li_16, li_20, li_21, li_24, li_28, li_30, li_31, li_40, li_41, li_42, li_43, li_44, li_45, li_47, li_48, li_49, li_57, li_59, li_60, li_61, li_62, li_63, li_70, li_71, li_76, li_80, li_96, li_97, li_98, li_99, li_100, li_101, li_102, li_103, li_104, li_105, li_106, li_107, li_108, li_109, li_110, li_111, li_112, li_113, li_114, li_115, li_116, li_117, li_118, li_119, li_120, li_128, li_142, li_255, li_320, li_781, li_852, li_999, li_1000, li_2000, li_3000, li_9999, li_12345, li_65536, li_1000000, li_252645135, li_858993459, li_1103515245, li_1431655765, ha.at]
    obtain ⟨b, hb, hbA⟩ := m_sweeps hS.1 ha (s := 2 * k + P) (v := min Q (A (2 * k + P))) (by omega) (by omega) (by omega) (by omega)
    simp only [hb, so_some]
    refine so_mono (c_shift hS.1 hs (s := 2 * k + P) (k := Q) (by omega) (by omega) (by omega) (by omega)) ?_
    rintro o ⟨o1, o2⟩
    rw [o1, iI_add]
    exact s_wind_L h7 p0 p1 q0 q1 m (k + 1) f (v + min Q (A (2 * k + P))) o.2 b _ (by omega) (by omega) (by omega) (by omega) (by omega) (hS.sw h7 (by omega) (by omega) (by omega) (by omega)) (fun i hi => (sw_hi (by omega) (by omega) hi).trans (hB i hi)) o2 hbA
theorem s_wind {n : Int} {σ : CS} {τ : MS} (h : R n σ τ) (hn : n < 1000) (p1 p2 : Int32) : Ok n (x_wind σ p1 p2) (y_wind τ p1 p2) := by
  obtain ⟨n0, g, c, m, G⟩ := h
  obtain ⟨P, rfl, b0, b1⟩ := iI_of p1
  obtain ⟨Q, rfl, b2, b3⟩ := iI_of p2
  have e := G.1.1
  have hA := G.2.2.1.1
  obtain ⟨c1, c2, c3, c4, c5, c6, c7, c8, c9⟩ := c
  obtain ⟨m1, m2, m3, m4, m5, m6, m7, m8, m9⟩ := m
  unfold Ok x_wind y_wind fX11_wind fX12_wind
  rw [c1.1, m1.1]
  by_cases q : (0 ≤ P ∧ P ≤ 1) ∧ 1 ≤ Q ∧ Q ≤ 99
  · obtain ⟨t, ht, ht2⟩ := m_remember m5 m3
    simp (disch := omega) only [gd_t, so_some, so_bind, so_gd, so_none, Option.bind_some, iI_add, iI_sub, iI_mul, iI_neg, iI_clamp, iI_nat, vin_i, iI_le, iI_lt, iI_eq, mn_i, mx_i, if_true, if_false, if_pos, if_neg, li_0, li_1, li_2, li_3, li_4, li_5, li_6, li_7, li_8, li_9, li_10, li_11, li_12, li_14, li_15, li_16, li_20, li_21, li_24, li_28, li_30, li_31, li_40, li_41, li_42, li_43, li_44, li_45, li_47, li_48, li_49, li_57, li_59, li_60, li_61, li_62, li_63, li_70, li_71, li_76, li_80, li_96, li_97, li_98, li_99, li_100, li_101, li_102, li_103, li_104, li_105, li_106, li_107, li_108, li_109, li_110, li_111, li_112, li_113, li_114, li_115, li_116, li_117, li_118, li_119, li_120, li_128, li_142, li_255, li_320, li_781, li_852, li_999, li_1000, li_2000, li_3000, li_9999, li_12345, li_65536, li_1000000, li_252645135, li_858993459, li_1103515245, li_1431655765, has_t, has_f, win_t, win_f, in_t, in_f, isH_t, isH_f, hasS_t, hasS_f, isS_t, isS_f, has2_t, has2_f, are2_t, are2_f, ht]
    refine so_mono (c_startCall c3 _ _ _ _ _ _ _ _ _) ?_
    rintro o ⟨-, hb⟩
    have hL := s_wind_L e.2 q.1.1 q.1.2 q.2.1 q.2.2 g.1.1.toNat 0 FU 0 _ _ _ (by omega) (by omega) (show _ < 4000 by omega) (by omega) (by omega) G.2.2.1 (fun _ _ => rfl) c3.2.1 m3
    refine so_mono hL ?_
    rintro r ⟨p, hp, rp, w, A', r1, w0, w1, hS, hB, x1, x2⟩
    simp only [hp, so_some]
    rw [r1]
    refine so_mono (c_rem_t c5 hb w0 (by omega)) ?_
    rintro s ⟨s1, s2⟩
    refine ⟨by rw [s1, ← rp, r1], R.push ⟨n0.1, hn⟩ G c5.2.1 (hS.mono (show n ≤ n + 1 by omega)) g.2.2.2.2.2.2.2.2.1 G.2.2.2.2.2.2.1 ⟨c1, c2, stc_snow c3 x1 hB, c4, s2, c6, c7, c8, c9⟩ ⟨m1, m2, x2, m4, ht2, m6, m7, m8, m9⟩⟩
  · by_cases q2 : 0 ≤ P ∧ P ≤ 1
    · simp (disch := omega) only [gd_t, so_some, so_bind, so_gd, so_none, Option.bind_some, iI_add, iI_sub, iI_mul, iI_neg, iI_clamp, iI_nat, vin_i, iI_le, iI_lt, iI_eq, mn_i, mx_i, if_true, if_false, if_pos, if_neg, li_0, li_1, li_2, li_3, li_4, li_5, li_6, li_7, li_8, li_9, li_10, li_11, li_12, li_14, li_15, li_16, li_20, li_21, li_24, li_28, li_30, li_31, li_40, li_41, li_42, li_43, li_44, li_45, li_47, li_48, li_49, li_57, li_59, li_60, li_61, li_62, li_63, li_70, li_71, li_76, li_80, li_96, li_97, li_98, li_99, li_100, li_101, li_102, li_103, li_104, li_105, li_106, li_107, li_108, li_109, li_110, li_111, li_112, li_113, li_114, li_115, li_116, li_117, li_118, li_119, li_120, li_128, li_142, li_255, li_320, li_781, li_852, li_999, li_1000, li_2000, li_3000, li_9999, li_12345, li_65536, li_1000000, li_252645135, li_858993459, li_1103515245, li_1431655765, has_t, has_f, win_t, win_f, in_t, in_f, isH_t, isH_f, hasS_t, hasS_f, isS_t, isS_f, has2_t, has2_f, are2_t, are2_f]
      exact ⟨(by first | rfl | trivial), R.same ⟨n0.1, hn⟩ G ⟨c1, c2, c3, c4, c5, c6, c7, c8, c9⟩ ⟨m1, m2, m3, m4, m5, m6, m7, m8, m9⟩⟩
    · simp (disch := omega) only [gd_t, so_some, so_bind, so_gd, so_none, Option.bind_some, iI_add, iI_sub, iI_mul, iI_neg, iI_clamp, iI_nat, vin_i, iI_le, iI_lt, iI_eq, mn_i, mx_i, if_true, if_false, if_pos, if_neg, li_0, li_1, li_2, li_3, li_4, li_5, li_6, li_7, li_8, li_9, li_10, li_11, li_12, li_14, li_15, li_16, li_20, li_21, li_24, li_28, li_30, li_31, li_40, li_41, li_42, li_43, li_44, li_45, li_47, li_48, li_49, li_57, li_59, li_60, li_61, li_62, li_63, li_70, li_71, li_76, li_80, li_96, li_97, li_98, li_99, li_100, li_101, li_102, li_103, li_104, li_105, li_106, li_107, li_108, li_109, li_110, li_111, li_112, li_113, li_114, li_115, li_116, li_117, li_118, li_119, li_120, li_128, li_142, li_255, li_320, li_781, li_852, li_999, li_1000, li_2000, li_3000, li_9999, li_12345, li_65536, li_1000000, li_252645135, li_858993459, li_1103515245, li_1431655765, has_t, has_f, win_t, win_f, in_t, in_f, isH_t, isH_f, hasS_t, hasS_f, isS_t, isS_f, has2_t, has2_f, are2_t, are2_f]
      exact ⟨(by first | rfl | trivial), R.same ⟨n0.1, hn⟩ G ⟨c1, c2, c3, c4, c5, c6, c7, c8, c9⟩ ⟨m1, m2, m3, m4, m5, m6, m7, m8, m9⟩⟩
theorem m_undo_L {u : Int} (u0 : 0 ≤ u) (u1 : u ≤ 11) {V : Int → Int} {undos : Nat → Int32} (hv : ∀ i, 0 ≤ i → i < 71 → undos (71 * u + i).toNat = iI (V i)) : ∀ (m : Nat) (k : Int) (f : Nat) (b : Nat → Int32) (B : Int → Int), 0 ≤ k → k + m = 71 → m < f → Arr 71 b B →
    So (fX12_undo_L26 undos (iI u) f (iI k) b) (fun o => Arr 71 o (fun i => if k ≤ i then V i else B i))
  | 0, k, f + 1, b, B, h0, hk, hf, hb => by
    rw [fX12_undo_L26]
    simp (disch := omega) only [gd_t, so_some, so_bind, so_gd, so_none, Option.bind_some, iI_add, iI_sub, iI_mul, iI_neg, iI_clamp, iI_nat, vin_i, iI_le, iI_lt, iI_eq, mn_i, mx_i, if_true, if_false, if_pos, if_neg, li_0, li_1, li_2, li_3, li_4, li_5, li_6, li_7, li_8, li_9, li_10, li_11, li_12, li_14, li_15, li_16, li_20, li_21, li_24, li_28, li_30, li_31, li_40, li_41, li_42, li_43, li_44, li_45, li_47, li_48, li_49, li_57, li_59, li_60, li_61, li_62, li_63, li_70, li_71, li_76, li_80, li_96, li_97, li_98, li_99, li_100, li_101, li_102, li_103, li_104, li_105, li_106, li_107, li_108, li_109, li_110, li_111, li_112, li_113, li_114, li_115, li_116, li_117, li_118, li_119, li_120, li_128, li_142, li_255, li_320, li_781, li_852, li_999, li_1000, li_2000, li_3000, li_9999, li_12345, li_65536, li_1000000, li_252645135, li_858993459, li_1103515245, li_1431655765]
    exact hb.congr (fun x h0 h1 => by first | rw [if_neg (by omega)] | rfl)
  | m + 1, k, f + 1, b, B, h0, hk, hf, hb => by
    have e := hv k h0 (by omega)
    rw [fX12_undo_L26]
    simp (disch := omega) only [gd_t, so_some, so_bind, so_gd, so_none, Option.bind_some, iI_add, iI_sub, iI_mul, iI_neg, iI_clamp, iI_nat, vin_i, iI_le, iI_lt, iI_eq, mn_i, mx_i, if_true, if_false, if_pos, if_neg, li_0, li_1, li_2, li_3, li_4, li_5, li_6, li_7, li_8, li_9, li_10, li_11, li_12, li_14, li_15, li_16, li_20, li_21, li_24, li_28, li_30, li_31, li_40, li_41, li_42, li_43, li_44, li_45, li_47, li_48, li_49, li_57, li_59, li_60, li_61, li_62, li_63, li_70, li_71, li_76, li_80, li_96, li_97, li_98, li_99, li_100, li_101, li_102, li_103, li_104, li_105, li_106, li_107, li_108, li_109, li_110, li_111, li_112, li_113, li_114, li_115, li_116, li_117, li_118, li_119, li_120, li_128, li_142, li_255, li_320, li_781, li_852, li_999, li_1000, li_2000, li_3000, li_9999, li_12345, li_65536, li_1000000, li_252645135, li_858993459, li_1103515245, li_1431655765, e]
    refine so_mono (m_undo_L u0 u1 hv m (k + 1) f _ _ (by omega) (by omega) (by omega) (hb.up _ h0)) ?_
    intro o ho
    refine ho.congr (fun x h0 h1 => ?_)
    by_cases hx : x = k
    · subst hx
      rw [if_neg (by omega), if_pos (by omega), upI_s]
    · by_cases h2 : k + 1 ≤ x
      · rw [if_pos h2, if_pos (by omega)]
      · rw [if_neg h2, if_neg (by omega), upI_o _ hx]
theorem s_undo {n : Int} {σ : CS} {τ : MS} (h : R n σ τ) (hn : n < 1000) : Ok n (x_undo σ) (y_undo τ) := by
  obtain ⟨n0, g, c, m, G⟩ := h
  have e := G.1.1
  obtain ⟨c1, c2, c3, c4, c5, c6, c7, c8, c9⟩ := c
  obtain ⟨m1, m2, m3, m4, m5, m6, m7, m8, m9⟩ := m
  unfold Ok x_undo y_undo fX11_undo fX12_undo
  obtain ⟨u0, u1, u2, u3⟩ := c5
  have c5 : HsC g.2.2.2.2.1 g.2.2.2.2.2.1 _ _ _ _ _ _ := ⟨u0, u1, u2, u3⟩
  obtain ⟨v0, v1, v2, v3⟩ := m5
  by_cases q : g.2.2.2.2.2.1 = 0
  · rw [v2, u2]
    simp (disch := omega) only [gd_t, so_some, so_bind, so_gd, so_none, Option.bind_some, iI_add, iI_sub, iI_mul, iI_neg, iI_clamp, iI_nat, vin_i, iI_le, iI_lt, iI_eq, mn_i, mx_i, if_true, if_false, if_pos, if_neg, li_0, li_1, li_2, li_3, li_4, li_5, li_6, li_7, li_8, li_9, li_10, li_11, li_12, li_14, li_15, li_16, li_20, li_21, li_24, li_28, li_30, li_31, li_40, li_41, li_42, li_43, li_44, li_45, li_47, li_48, li_49, li_57, li_59, li_60, li_61, li_62, li_63, li_70, li_71, li_76, li_80, li_96, li_97, li_98, li_99, li_100, li_101, li_102, li_103, li_104, li_105, li_106, li_107, li_108, li_109, li_110, li_111, li_112, li_113, li_114, li_115, li_116, li_117, li_118, li_119, li_120, li_128, li_142, li_255, li_320, li_781, li_852, li_999, li_1000, li_2000, li_3000, li_9999, li_12345, li_65536, li_1000000, li_252645135, li_858993459, li_1103515245, li_1431655765]
    refine ⟨(by first | rfl | trivial), R.same ⟨n0.1, hn⟩ G ⟨c1, c2, c3, c4, ?_, c6, c7, c8, c9⟩ ⟨m1, m2, m3, m4, ⟨v0, v1, rfl, v3⟩, m6, m7, m8, m9⟩⟩
    rw [u2] at c5
    exact c5
  · have hp := c_pop c5 q (σ.1 11) (σ.2.1 12) (σ.2.1 11) (σ.2.1 10)
    rw [u2] at hp
    rw [v2, u2]
    obtain ⟨b, hb, hb2⟩ := m_undo_L (u := g.2.2.2.2.2.1 - 1) (by omega) (by omega) (V := g.2.2.2.2.1 (g.2.2.2.2.2.1 - 1)) (fun i i0 i1 => v3 (g.2.2.2.2.2.1 - 1) i (by omega) (by omega) i0 i1) 71 0 FU (τ.2.1 12) _ (by omega) (by omega) (show _ < 4000 by omega) m3
    simp (disch := omega) only [gd_t, so_some, so_bind, so_gd, so_none, Option.bind_some, iI_add, iI_sub, iI_mul, iI_neg, iI_clamp, iI_nat, vin_i, iI_le, iI_lt, iI_eq, mn_i, mx_i, if_true, if_false, if_pos, if_neg, li_0, li_1, li_2, li_3, li_4, li_5, li_6, li_7, li_8, li_9, li_10, li_11, li_12, li_14, li_15, li_16, li_20, li_21, li_24, li_28, li_30, li_31, li_40, li_41, li_42, li_43, li_44, li_45, li_47, li_48, li_49, li_57, li_59, li_60, li_61, li_62, li_63, li_70, li_71, li_76, li_80, li_96, li_97, li_98, li_99, li_100, li_101, li_102, li_103, li_104, li_105, li_106, li_107, li_108, li_109, li_110, li_111, li_112, li_113, li_114, li_115, li_116, li_117, li_118, li_119, li_120, li_128, li_142, li_255, li_320, li_781, li_852, li_999, li_1000, li_2000, li_3000, li_9999, li_12345, li_65536, li_1000000, li_252645135, li_858993459, li_1103515245, li_1431655765, hb]
    refine so_mono hp ?_
    rintro o ⟨o1, o2⟩
    refine ⟨o1.2.2.1, ?_⟩
    obtain ⟨h1, h2, h3, h4, h5, h6, h7, h8, h9⟩ := G.mono (show n ≤ n + 1 by omega)
    refine ⟨by omega, ((g.1, g.2.1, g.2.2.2.2.1 (g.2.2.2.2.2.1 - 1), g.2.2.2.1, g.2.2.2.2.1, g.2.2.2.2.2.1 - 1, g.2.2.2.2.2.2.1, g.2.2.2.2.2.2.2.1, g.2.2.2.2.2.2.2.2.1, g.2.2.2.2.2.2.2.2.2.1, g.2.2.2.2.2.2.2.2.2.2.1, g.2.2.2.2.2.2.2.2.2.2.2.1, g.2.2.2.2.2.2.2.2.2.2.2.2.1, g.2.2.2.2.2.2.2.2.2.2.2.2.2.1, g.2.2.2.2.2.2.2.2.2.2.2.2.2.2.1, g.2.2.2.2.2.2.2.2.2.2.2.2.2.2.2) : GH), ⟨c1, c2, o2, c4, o1, c6, c7, c8, c9⟩, ⟨m1, m2, ?_, m4, ⟨by show 0 ≤ g.2.2.2.2.2.1 - 1; omega, by show g.2.2.2.2.2.1 - 1 ≤ 12; omega, rfl, fun j i j0 j1 => v3 j i j0 (by have j1 : j < g.2.2.2.2.2.1 - 1 := j1; omega)⟩, m6, m7, m8, m9⟩, h1, h2, h5 _ (by omega) (by omega), h4, fun j j0 j1 => h5 j j0 (by have j1 : j < g.2.2.2.2.2.1 - 1 := j1; omega), h6, h7, h8, h9⟩
    exact hb2.congr (fun x x0 x1 => if_pos x0)
