theorem s_track {n : Int} {σ : CS} {τ : MS} (h : R n σ τ) (hn : n < 1000) (p1 p2 : Int32) : Ok n (x_track σ p1 p2) (y_track τ p1 p2) := by
  obtain ⟨n0, g, c, m, G⟩ := h
  obtain ⟨P, rfl, b0, b1⟩ := iI_of p1
  obtain ⟨Q, rfl, b2, b3⟩ := iI_of p2
  have e := G.1.1
  obtain ⟨c1, c2, c3, c4, c5, c6, c7, c8, c9⟩ := c
  obtain ⟨m1, m2, m3, m4, m5, m6, m7, m8, m9⟩ := m
  obtain ⟨h1, h2, h3, h4, h5, h6, h7, h8, h9⟩ := G.mono (show n ≤ n + 1 by omega)
  unfold Ok x_track y_track fX11_track fX12_track fX8_add
  rw [c1.1, m1.1, c9.1, m9.1]
  by_cases q : 0 ≤ P ∧ P < g.1.1
  · by_cases q2 : 0 ≤ Q ∧ Q ≤ 999
    · by_cases q3 : g.2.2.2.2.2.2.2.2.2.2.2.2.2.1 = 20
      · simp (disch := omega) only [gd_t, so_some, so_bind, so_gd, so_none, Option.bind_some, iI_add, iI_sub, iI_mul, iI_neg, iI_clamp, iI_nat, vin_i, iI_le, iI_lt, iI_eq, mn_i, mx_i, if_true, if_false, if_pos, if_neg, li_0, li_1, li_2, li_3, li_4, li_5, li_6, li_7, li_8, li_9, li_10, li_11, li_12, li_14, li_15, li_16, li_20, li_21, li_24, li_28, li_30, li_31, li_40, li_41, li_42, li_43, li_44, li_45, li_47, li_48, li_49, li_57, li_59, li_60, li_61, li_62, li_63, li_70, li_71, li_76, li_80, li_96, li_97, li_98, li_99, li_100, li_101, li_102, li_103, li_104, li_105, li_106, li_107, li_108, li_109, li_110, li_111, li_112, li_113, li_114, li_115, li_116, li_117, li_118, li_119, li_120, li_128, li_142, li_255, li_320, li_781, li_852, li_999, li_1000, li_2000, li_3000, li_9999, li_12345, li_65536, li_1000000, li_252645135, li_858993459, li_1103515245, li_1431655765, has_t, has_f, win_t, win_f, in_t, in_f, isH_t, isH_f, hasS_t, hasS_f, isS_t, isS_f, has2_t, has2_f, are2_t, are2_f, q3]
        refine ⟨(by first | rfl | trivial), R.same ⟨n0.1, hn⟩ G ⟨c1, c2, c3, c4, c5, c6, c7, c8, ?_⟩ ⟨m1, m2, m3, m4, m5, m6, m7, m8, ?_⟩⟩
        · rw [q3]; exact ⟨rfl, by rw [← q3]; exact c9.2⟩
        · rw [q3]; exact ⟨rfl, by rw [← q3]; exact m9.2⟩
      · simp (disch := omega) only [gd_t, so_some, so_bind, so_gd, so_none, Option.bind_some, iI_add, iI_sub, iI_mul, iI_neg, iI_clamp, iI_nat, vin_i, iI_le, iI_lt, iI_eq, mn_i, mx_i, if_true, if_false, if_pos, if_neg, li_0, li_1, li_2, li_3, li_4, li_5, li_6, li_7, li_8, li_9, li_10, li_11, li_12, li_14, li_15, li_16, li_20, li_21, li_24, li_28, li_30, li_31, li_40, li_41, li_42, li_43, li_44, li_45, li_47, li_48, li_49, li_57, li_59, li_60, li_61, li_62, li_63, li_70, li_71, li_76, li_80, li_96, li_97, li_98, li_99, li_100, li_101, li_102, li_103, li_104, li_105, li_106, li_107, li_108, li_109, li_110, li_111, li_112, li_113, li_114, li_115, li_116, li_117, li_118, li_119, li_120, li_128, li_142, li_255, li_320, li_781, li_852, li_999, li_1000, li_2000, li_3000, li_9999, li_12345, li_65536, li_1000000, li_252645135, li_858993459, li_1103515245, li_1431655765, has_t, has_f, win_t, win_f, in_t, in_f, isH_t, isH_f, hasS_t, hasS_f, isS_t, isS_f, has2_t, has2_f, are2_t, are2_f]
        refine ⟨(by first | rfl | trivial), by omega, ((g.1, g.2.1, g.2.2.1, g.2.2.2.1, g.2.2.2.2.1, g.2.2.2.2.2.1, g.2.2.2.2.2.2.1, g.2.2.2.2.2.2.2.1, g.2.2.2.2.2.2.2.2.1, g.2.2.2.2.2.2.2.2.2.1, g.2.2.2.2.2.2.2.2.2.2.1, g.2.2.2.2.2.2.2.2.2.2.2.1, g.2.2.2.2.2.2.2.2.2.2.2.2.1, g.2.2.2.2.2.2.2.2.2.2.2.2.2.1 + 1, upI g.2.2.2.2.2.2.2.2.2.2.2.2.2.2.1 g.2.2.2.2.2.2.2.2.2.2.2.2.2.1 P, upI g.2.2.2.2.2.2.2.2.2.2.2.2.2.2.2 g.2.2.2.2.2.2.2.2.2.2.2.2.2.1 Q) : GH), ⟨c1, c2, c3, c4, c5, c6, c7, c8, rfl, ?_, ?_⟩, ⟨m1, m2, m3, m4, m5, m6, m7, m8, rfl, ?_⟩, h1, h2, h3, h4, h5, h6, h7, h8, by show 0 ≤ g.2.2.2.2.2.2.2.2.2.2.2.2.2.1 + 1; omega, by show g.2.2.2.2.2.2.2.2.2.2.2.2.2.1 + 1 ≤ 20; omega, ?_⟩
        · intro x x0 x1
          have x1 : x < g.2.2.2.2.2.2.2.2.2.2.2.2.2.1 + 1 := x1
          show upd (σ.2.1 29) g.2.2.2.2.2.2.2.2.2.2.2.2.2.1.toNat (iI P) x.toNat = iI (upI g.2.2.2.2.2.2.2.2.2.2.2.2.2.2.1 g.2.2.2.2.2.2.2.2.2.2.2.2.2.1 P x)
          by_cases hx : x = g.2.2.2.2.2.2.2.2.2.2.2.2.2.1
          · rw [hx, upI_s]; simp [upd]
          · rw [upI_o _ hx, ← c9.2.1.at x0 (by omega)]
            have : x.toNat ≠ g.2.2.2.2.2.2.2.2.2.2.2.2.2.1.toNat := by omega
            simp [upd, this]
        · intro x x0 x1
          have x1 : x < g.2.2.2.2.2.2.2.2.2.2.2.2.2.1 + 1 := x1
          show upd (σ.2.1 30) g.2.2.2.2.2.2.2.2.2.2.2.2.2.1.toNat (iI Q) x.toNat = iI (upI g.2.2.2.2.2.2.2.2.2.2.2.2.2.2.2 g.2.2.2.2.2.2.2.2.2.2.2.2.2.1 Q x)
          by_cases hx : x = g.2.2.2.2.2.2.2.2.2.2.2.2.2.1
          · rw [hx, upI_s]; simp [upd]
          · rw [upI_o _ hx, ← c9.2.2.at x0 (by omega)]
            have : x.toNat ≠ g.2.2.2.2.2.2.2.2.2.2.2.2.2.1.toNat := by omega
            simp [upd, this]
        · intro k k0 k1
          have k1 : k < g.2.2.2.2.2.2.2.2.2.2.2.2.2.1 + 1 := k1
          show upd (upd (τ.2.1 20) (2 * g.2.2.2.2.2.2.2.2.2.2.2.2.2.1).toNat (iI P)) (2 * g.2.2.2.2.2.2.2.2.2.2.2.2.2.1 + 1).toNat (iI Q) (2 * k).toNat = iI (upI g.2.2.2.2.2.2.2.2.2.2.2.2.2.2.1 g.2.2.2.2.2.2.2.2.2.2.2.2.2.1 P k) ∧ upd (upd (τ.2.1 20) (2 * g.2.2.2.2.2.2.2.2.2.2.2.2.2.1).toNat (iI P)) (2 * g.2.2.2.2.2.2.2.2.2.2.2.2.2.1 + 1).toNat (iI Q) (2 * k + 1).toNat = iI (upI g.2.2.2.2.2.2.2.2.2.2.2.2.2.2.2 g.2.2.2.2.2.2.2.2.2.2.2.2.2.1 Q k)
          by_cases hx : k = g.2.2.2.2.2.2.2.2.2.2.2.2.2.1
          · subst hx
            have e1 : (2 * g.2.2.2.2.2.2.2.2.2.2.2.2.2.1).toNat ≠ (2 * g.2.2.2.2.2.2.2.2.2.2.2.2.2.1 + 1).toNat := by omega
            rw [upI_s, upI_s]
            simp [upd, e1]
          · have := m9.2 k k0 (by omega)
            rw [upI_o _ hx, upI_o _ hx, ← this.1, ← this.2]
            have e1 : (2 * k).toNat ≠ (2 * g.2.2.2.2.2.2.2.2.2.2.2.2.2.1 + 1).toNat := by omega
            have e2 : (2 * k).toNat ≠ (2 * g.2.2.2.2.2.2.2.2.2.2.2.2.2.1).toNat := by omega
            have e3 : (2 * k + 1).toNat ≠ (2 * g.2.2.2.2.2.2.2.2.2.2.2.2.2.1 + 1).toNat := by omega
            have e4 : (2 * k + 1).toNat ≠ (2 * g.2.2.2.2.2.2.2.2.2.2.2.2.2.1).toNat := by omega
            simp only [upd, if_neg e1, if_neg e2, if_neg e3, if_neg e4]
            exact ⟨trivial, trivial⟩
        · intro k k0 k1
          have k1 : k < g.2.2.2.2.2.2.2.2.2.2.2.2.2.1 + 1 := k1
          show (0 ≤ upI g.2.2.2.2.2.2.2.2.2.2.2.2.2.2.1 g.2.2.2.2.2.2.2.2.2.2.2.2.2.1 P k ∧ upI g.2.2.2.2.2.2.2.2.2.2.2.2.2.2.1 g.2.2.2.2.2.2.2.2.2.2.2.2.2.1 P k < g.1.1) ∧ 0 ≤ upI g.2.2.2.2.2.2.2.2.2.2.2.2.2.2.2 g.2.2.2.2.2.2.2.2.2.2.2.2.2.1 Q k ∧ upI g.2.2.2.2.2.2.2.2.2.2.2.2.2.2.2 g.2.2.2.2.2.2.2.2.2.2.2.2.2.1 Q k ≤ 999
          by_cases hx : k = g.2.2.2.2.2.2.2.2.2.2.2.2.2.1
          · rw [hx, upI_s, upI_s]; exact ⟨q, q2⟩
          · rw [upI_o _ hx, upI_o _ hx]; exact h9.2.2 k k0 (by omega)
    · by_cases q3 : g.2.2.2.2.2.2.2.2.2.2.2.2.2.1 = 20
      · simp (disch := omega) only [gd_t, so_some, so_bind, so_gd, so_none, Option.bind_some, iI_add, iI_sub, iI_mul, iI_neg, iI_clamp, iI_nat, vin_i, iI_le, iI_lt, iI_eq, mn_i, mx_i, if_true, if_false, if_pos, if_neg, li_0, li_1, li_2, li_3, li_4, li_5, li_6, li_7, li_8, li_9, li_10, li_11, li_12, li_14, li_15, li_16, li_20, li_21, li_24, li_28, li_30, li_31, li_40, li_41, li_42, li_43, li_44, li_45, li_47, li_48, li_49, li_57, li_59, li_60, li_61, li_62, li_63, li_70, li_71, li_76, li_80, li_96, li_97, li_98, li_99, li_100, li_101, li_102, li_103, li_104, li_105, li_106, li_107, li_108, li_109, li_110, li_111, li_112, li_113, li_114, li_115, li_116, li_117, li_118, li_119, li_120, li_128, li_142, li_255, li_320, li_781, li_852, li_999, li_1000, li_2000, li_3000, li_9999, li_12345, li_65536, li_1000000, li_252645135, li_858993459, li_1103515245, li_1431655765, has_t, has_f, win_t, win_f, in_t, in_f, isH_t, isH_f, hasS_t, hasS_f, isS_t, isS_f, has2_t, has2_f, are2_t, are2_f]
        exact ⟨(by first | rfl | trivial), R.same ⟨n0.1, hn⟩ G ⟨c1, c2, c3, c4, c5, c6, c7, c8, rfl, c9.2⟩ ⟨m1, m2, m3, m4, m5, m6, m7, m8, rfl, m9.2⟩⟩
      · by_cases q4 : Q < 0
        · simp (disch := omega) only [gd_t, so_some, so_bind, so_gd, so_none, Option.bind_some, iI_add, iI_sub, iI_mul, iI_neg, iI_clamp, iI_nat, vin_i, iI_le, iI_lt, iI_eq, mn_i, mx_i, if_true, if_false, if_pos, if_neg, li_0, li_1, li_2, li_3, li_4, li_5, li_6, li_7, li_8, li_9, li_10, li_11, li_12, li_14, li_15, li_16, li_20, li_21, li_24, li_28, li_30, li_31, li_40, li_41, li_42, li_43, li_44, li_45, li_47, li_48, li_49, li_57, li_59, li_60, li_61, li_62, li_63, li_70, li_71, li_76, li_80, li_96, li_97, li_98, li_99, li_100, li_101, li_102, li_103, li_104, li_105, li_106, li_107, li_108, li_109, li_110, li_111, li_112, li_113, li_114, li_115, li_116, li_117, li_118, li_119, li_120, li_128, li_142, li_255, li_320, li_781, li_852, li_999, li_1000, li_2000, li_3000, li_9999, li_12345, li_65536, li_1000000, li_252645135, li_858993459, li_1103515245, li_1431655765, has_t, has_f, win_t, win_f, in_t, in_f, isH_t, isH_f, hasS_t, hasS_f, isS_t, isS_f, has2_t, has2_f, are2_t, are2_f]
          exact ⟨(by first | rfl | trivial), R.same ⟨n0.1, hn⟩ G ⟨c1, c2, c3, c4, c5, c6, c7, c8, rfl, c9.2⟩ ⟨m1, m2, m3, m4, m5, m6, m7, m8, rfl, m9.2⟩⟩
        · simp (disch := omega) only [gd_t, so_some, so_bind, so_gd, so_none, Option.bind_some, iI_add, iI_sub, iI_mul, iI_neg, iI_clamp, iI_nat, vin_i, iI_le, iI_lt, iI_eq, mn_i, mx_i, if_true, if_false, if_pos, if_neg, li_0, li_1, li_2, li_3, li_4, li_5, li_6, li_7, li_8, li_9, li_10, li_11, li_12, li_14, li_15, li_16, li_20, li_21, li_24, li_28, li_30, li_31, li_40, li_41, li_42, li_43, li_44, li_45, li_47, li_48, li_49, li_57, li_59, li_60, li_61, li_62, li_63, li_70, li_71, li_76, li_80, li_96, li_97, li_98, li_99, li_100, li_101, li_102, li_103, li_104, li_105, li_106, li_107, li_108, li_109, li_110, li_111, li_112, li_113, li_114, li_115, li_116, li_117, li_118, li_119, li_120, li_128, li_142, li_255, li_320, li_781, li_852, li_999, li_1000, li_2000, li_3000, li_9999, li_12345, li_65536, li_1000000, li_252645135, li_858993459, li_1103515245, li_1431655765, has_t, has_f, win_t, win_f, in_t, in_f, isH_t, isH_f, hasS_t, hasS_f, isS_t, isS_f, has2_t, has2_f, are2_t, are2_f]
          exact ⟨(by first | rfl | trivial), R.same ⟨n0.1, hn⟩ G ⟨c1, c2, c3, c4, c5, c6, c7, c8, rfl, c9.2⟩ ⟨m1, m2, m3, m4, m5, m6, m7, m8, rfl, m9.2⟩⟩
  · simp (disch := omega) only [gd_t, so_some, so_bind, so_gd, so_none, Option.bind_some, iI_add, iI_sub, iI_mul, iI_neg, iI_clamp, iI_nat, vin_i, iI_le, iI_lt, iI_eq, mn_i, mx_i, if_true, if_false, if_pos, if_neg, li_0, li_1, li_2, li_3, li_4, li_5, li_6, li_7, li_8, li_9, li_10, li_11, li_12, li_14, li_15, li_16, li_20, li_21, li_24, li_28, li_30, li_31, li_40, li_41, li_42, li_43, li_44, li_45, li_47, li_48, li_49, li_57, li_59, li_60, li_61, li_62, li_63, li_70, li_71, li_76, li_80, li_96, li_97, li_98, li_99, li_100, li_101, li_102, li_103, li_104, li_105, li_106, li_107, li_108, li_109, li_110, li_111, li_112, li_113, li_114, li_115, li_116, li_117, li_118, li_119, li_120, li_128, li_142, li_255, li_320, li_781, li_852, li_999, li_1000, li_2000, li_3000, li_9999, li_12345, li_65536, li_1000000, li_252645135, li_858993459, li_1103515245, li_1431655765, has_t, has_f, win_t, win_f, in_t, in_f, isH_t, isH_f, hasS_t, hasS_f, isS_t, isS_f, has2_t, has2_f, are2_t, are2_f]
    exact ⟨(by first | rfl | trivial), R.same ⟨n0.1, hn⟩ G ⟨c1, c2, c3, c4, c5, c6, c7, c8, rfl, c9.2⟩ ⟨m1, m2, m3, m4, m5, m6, m7, m8, rfl, m9.2⟩⟩
theorem s_thaw {n : Int} {σ : CS} {τ : MS} (h : R n σ τ) (hn : n < 1000) : Ok n (x_thaw σ) (y_thaw τ) := by
  obtain ⟨n0, g, c, m, G⟩ := h
  obtain ⟨c1, c2, c3, c4, c5, c6, c7, c8, c9⟩ := c
  obtain ⟨m1, m2, m3, m4, m5, m6, m7, m8, m9⟩ := m
  obtain ⟨h1, h2, h3, h4, h5, h6, h7, h8, h9⟩ := G.mono (show n ≤ n + 1 by omega)
  unfold Ok x_thaw y_thaw fX11_thaw fX12_thaw fX8_forget
  rw [c9.1, m9.1]
  simp only [so_bind, so_some]
  refine ⟨(by first | rfl | trivial), by omega, ((g.1, g.2.1, g.2.2.1, g.2.2.2.1, g.2.2.2.2.1, g.2.2.2.2.2.1, g.2.2.2.2.2.2.1, g.2.2.2.2.2.2.2.1, g.2.2.2.2.2.2.2.2.1, g.2.2.2.2.2.2.2.2.2.1, g.2.2.2.2.2.2.2.2.2.2.1, g.2.2.2.2.2.2.2.2.2.2.2.1, g.2.2.2.2.2.2.2.2.2.2.2.2.1, 0, g.2.2.2.2.2.2.2.2.2.2.2.2.2.2.1, g.2.2.2.2.2.2.2.2.2.2.2.2.2.2.2) : GH), ⟨c1, c2, c3, c4, c5, c6, c7, c8, rfl, fun x x0 x1 => ?_, fun x x0 x1 => ?_⟩, ⟨m1, m2, m3, m4, m5, m6, m7, m8, rfl, fun k k0 k1 => ?_⟩, h1, h2, h3, h4, h5, h6, h7, h8, by show (0 : Int) ≤ 0; omega, by show (0 : Int) ≤ 20; omega, fun k k0 k1 => ?_⟩
  · have x1 : x < 0 := x1
    omega
  · have x1 : x < 0 := x1
    omega
  · have k1 : k < 0 := k1
    omega
  · have k1 : k < 0 := k1
    omega
theorem m_cnt_L {A : Int → Int} {a : Nat → Int32} (ha : Arr 71 a A) : ∀ (m : Nat) (k s : Int) (f : Nat), 0 ≤ k → k + m = 14 → m < f →
    fX12_count_L79 a f (iI s) (iI k) = some (iI (s + sI A m k))
  | 0, k, s, f + 1, k0, hk, hf => by
    rw [fX12_count_L79]
    simp (disch := omega) only [gd_t, so_some, so_bind, so_gd, so_none, Option.bind_some, iI_add, iI_sub, iI_mul, iI_neg, iI_clamp, iI_nat, vin_i, iI_le, iI_lt, iI_eq, mn_i, mx_i, if_true, if_false, if_pos, if_neg, li_0, li_1, li_2, li_3, li_4, li_5, li_6, li_7, li_8, li_9, li_10, li_11, li_12, li_14, li_15, li_16, li_20, li_21, li_24, li_28, li_30, li_31, li_40, li_41, li_42, li_43, li_44, li_45, li_47, li_48, li_49, li_57, li_59, li_60, li_61, li_62, li_63, li_70, li_71, li_76, li_80, li_96, li_97, li_98, li_99, li_100, li_101, li_102, li_103, li_104, li_105, li_106, li_107, li_108, li_109, li_110, li_111, li_112, li_113, li_114, li_115, li_116, li_117, li_118, li_119, li_120, li_128, li_142, li_255, li_320, li_781, li_852, li_999, li_1000, li_2000, li_3000, li_9999, li_12345, li_65536, li_1000000, li_252645135, li_858993459, li_1103515245, li_1431655765, sI, Int.add_zero]
  | m + 1, k, s, f + 1, k0, hk, hf => by
    rw [fX12_count_L79]
    simp (disch := omega) only [gd_t, so_some, so_bind, so_gd, so_none, Option.bind_some, iI_add, iI_sub, iI_mul, iI_neg, iI_clamp, iI_nat, vin_i, iI_le, iI_lt, iI_eq, mn_i, mx_i, if_true, if_false, if_pos, if_neg, li_0, li_1, li_2, li_3, li_4, li_5, li_6, li_7, li_8, li_9, li_10, li_11, li_12, li_14, li_15, li_16, li_20, li_21, li_24, li_28, li_30, li_31, li_40, li_41, li_42, li_43, li_44, li_45, li_47, li_48, li_49, li_57, li_59, li_60, li_61, li_62, li_63, li_70, li_71, li_76, li_80, li_96, li_97, li_98, li_99, li_100, li_101, li_102, li_103, li_104, li_105, li_106, li_107, li_108, li_109, li_110, li_111, li_112, li_113, li_114, li_115, li_116, li_117, li_118, li_119, li_120, li_128, li_142, li_255, li_320, li_781, li_852, li_999, li_1000, li_2000, li_3000, li_9999, li_12345, li_65536, li_1000000, li_252645135, li_858993459, li_1103515245, li_1431655765, ha.at]
    rw [m_cnt_L ha m (k + 1) _ f (by omega) (by omega) (by omega), sI, Int.add_assoc]
theorem m_cnt {A : Int → Int} {a : Nat → Int32} (ha : Arr 71 a A) : fX12_count_L79 a FU (iI 0) (iI 0) = some (iI (sI A 14 0)) := by
  have h := m_cnt_L ha 14 0 0 FU (by omega) (by omega) (show _ < 4000 by omega)
  rw [h, Int.zero_add]
theorem c_onRoofs {A : Int → Int} {snow : Nat → Int32} (hs : Arr 14 snow A) : fX5_onRoofs snow = some (iI (sI A 14 0)) := by
  unfold fX5_onRoofs
  rw [t_sumOf (n := 14) (by omega) hs, Option.bind_some]
theorem s_count {n : Int} {σ : CS} {τ : MS} (h : R n σ τ) (hn : n < 1000) (p1 : Int32) : Ok n (x_count σ p1) (y_count τ p1) := by
  obtain ⟨n0, g, c, m, G⟩ := h
  obtain ⟨P, rfl, b0, b1⟩ := iI_of p1
  obtain ⟨c1, c2, c3, c4, c5, c6, c7, c8, c9⟩ := c
  obtain ⟨m1, m2, m3, m4, m5, m6, m7, m8, m9⟩ := m
  have e := G.1.1
  have hR : ∀ v, R (n + 1) σ (va_up τ.1 19 v, τ.2.1, τ.2.2) := fun v => R.same ⟨n0.1, hn⟩ G ⟨c1, c2, c3, c4, c5, c6, c7, c8, c9⟩ ⟨m1, m2, m3, m4, m5, m6, m7, m8, m9⟩
  unfold Ok x_count y_count fX11_count fX12_count
  rw [c1.1, m1.1, c3.1, c4, m4, c5.2.2.1, m5.2.2.1, c9.1, m9.1, c7.1, m7.1, c6.2, m6.2]
  have d3 := c_onPaths e.1 e.2 G.2.2.1.2.1 c3.2.2.1
  have d4 := c_owedInAll e.1 e.2 G.2.2.1.2.1 c3.2.2.2
  have d5 := m_paths m3 e.1 e.2
  have d6 := m_allOwed m3 e.1 e.2
  have d7 := c_onRoofs c3.2.1
  have d8 := m_cnt m3
  by_cases q : 0 ≤ P ∧ P ≤ 9
  · have hx : P = 0 ∨ P = 1 ∨ P = 2 ∨ P = 3 ∨ P = 4 ∨ P = 5 ∨ P = 6 ∨ P = 7 ∨ P = 8 ∨ P = 9 := by omega
    rcases hx with rfl | rfl | rfl | rfl | rfl | rfl | rfl | rfl | rfl | rfl <;> simp (disch := omega) only [gd_t, so_some, so_bind, so_gd, so_none, Option.bind_some, iI_add, iI_sub, iI_mul, iI_neg, iI_clamp, iI_nat, vin_i, iI_le, iI_lt, iI_eq, mn_i, mx_i, if_true, if_false, if_pos, if_neg, li_0, li_1, li_2, li_3, li_4, li_5, li_6, li_7, li_8, li_9, li_10, li_11, li_12, li_14, li_15, li_16, li_20, li_21, li_24, li_28, li_30, li_31, li_40, li_41, li_42, li_43, li_44, li_45, li_47, li_48, li_49, li_57, li_59, li_60, li_61, li_62, li_63, li_70, li_71, li_76, li_80, li_96, li_97, li_98, li_99, li_100, li_101, li_102, li_103, li_104, li_105, li_106, li_107, li_108, li_109, li_110, li_111, li_112, li_113, li_114, li_115, li_116, li_117, li_118, li_119, li_120, li_128, li_142, li_255, li_320, li_781, li_852, li_999, li_1000, li_2000, li_3000, li_9999, li_12345, li_65536, li_1000000, li_252645135, li_858993459, li_1103515245, li_1431655765, d3, d4, d5, d6, d7, d8, m3.at] <;> exact ⟨(by first | rfl | trivial), hR _⟩
  · simp (disch := omega) only [gd_t, so_some, so_bind, so_gd, so_none, Option.bind_some, iI_add, iI_sub, iI_mul, iI_neg, iI_clamp, iI_nat, vin_i, iI_le, iI_lt, iI_eq, mn_i, mx_i, if_true, if_false, if_pos, if_neg, li_0, li_1, li_2, li_3, li_4, li_5, li_6, li_7, li_8, li_9, li_10, li_11, li_12, li_14, li_15, li_16, li_20, li_21, li_24, li_28, li_30, li_31, li_40, li_41, li_42, li_43, li_44, li_45, li_47, li_48, li_49, li_57, li_59, li_60, li_61, li_62, li_63, li_70, li_71, li_76, li_80, li_96, li_97, li_98, li_99, li_100, li_101, li_102, li_103, li_104, li_105, li_106, li_107, li_108, li_109, li_110, li_111, li_112, li_113, li_114, li_115, li_116, li_117, li_118, li_119, li_120, li_128, li_142, li_255, li_320, li_781, li_852, li_999, li_1000, li_2000, li_3000, li_9999, li_12345, li_65536, li_1000000, li_252645135, li_858993459, li_1103515245, li_1431655765]
    exact ⟨(by first | rfl | trivial), hR _⟩
/-- a call that may throw -/
def OkT (n : Int) (σ : CS) (x : Option (Int32 × CS)) (t : Option Unit) (y : Option (Int32 × MS)) : Prop :=
  So x (fun o => So y (fun p => o.1 = p.1 ∧ (p.2.1 19) = 0 ∧ R (n + 1) o.2 p.2)) ∨ (t = some () ∧ So y (fun p => (p.2.1 19) = 1 ∧ R (n + 1) σ p.2))
theorem s_row {n : Int} {σ : CS} {τ : MS} (h : R n σ τ) (hn : n < 1000) (p1 : Int32) : OkT n σ (x_row σ p1) (fX11_row_T (σ.1 25) p1) (y_row τ p1) := by
  obtain ⟨n0, g, c, m, G⟩ := h
  obtain ⟨P, rfl, b0, b1⟩ := iI_of p1
  obtain ⟨c1, c2, c3, c4, c5, c6, c7, c8, c9⟩ := c
  obtain ⟨m1, m2, m3, m4, m5, m6, m7, m8, m9⟩ := m
  have hR : ∀ v, R (n + 1) σ (va_up τ.1 19 v, τ.2.1, τ.2.2) := fun v => R.same ⟨n0.1, hn⟩ G ⟨c1, c2, c3, c4, c5, c6, c7, c8, c9⟩ ⟨m1, m2, m3, m4, m5, m6, m7, m8, m9⟩
  have hl := G.2.2.2.2.2.2.1
  unfold OkT x_row y_row fX11_row fX12_row fX11_row_T fX12_lost
  rw [c7.1, m7.1]
  by_cases q : 0 ≤ P ∧ P < (g.2.2.2.2.2.2.2.2.1.length : Int)
  · left
    simp (disch := omega) only [gd_t, so_some, so_bind, so_gd, so_none, Option.bind_some, iI_add, iI_sub, iI_mul, iI_neg, iI_clamp, iI_nat, vin_i, iI_le, iI_lt, iI_eq, mn_i, mx_i, if_true, if_false, if_pos, if_neg, li_0, li_1, li_2, li_3, li_4, li_5, li_6, li_7, li_8, li_9, li_10, li_11, li_12, li_14, li_15, li_16, li_20, li_21, li_24, li_28, li_30, li_31, li_40, li_41, li_42, li_43, li_44, li_45, li_47, li_48, li_49, li_57, li_59, li_60, li_61, li_62, li_63, li_70, li_71, li_76, li_80, li_96, li_97, li_98, li_99, li_100, li_101, li_102, li_103, li_104, li_105, li_106, li_107, li_108, li_109, li_110, li_111, li_112, li_113, li_114, li_115, li_116, li_117, li_118, li_119, li_120, li_128, li_142, li_255, li_320, li_781, li_852, li_999, li_1000, li_2000, li_3000, li_9999, li_12345, li_65536, li_1000000, li_252645135, li_858993459, li_1103515245, li_1431655765, has_t, has_f, win_t, win_f, in_t, in_f, isH_t, isH_f, hasS_t, hasS_f, isS_t, isS_f, has2_t, has2_f, are2_t, are2_f]
    have hv : P.toNat < g.2.2.2.2.2.2.2.2.1.length := by omega
    have e := List.getElem?_eq_getElem hv
    refine ⟨?_, rfl, hR _⟩
    rw [c7.2 _ _ e, m7.2 _ _ e]
  · right
    by_cases q2 : P < 0
    · simp (disch := omega) only [gd_t, so_some, so_bind, so_gd, so_none, Option.bind_some, iI_add, iI_sub, iI_mul, iI_neg, iI_clamp, iI_nat, vin_i, iI_le, iI_lt, iI_eq, mn_i, mx_i, if_true, if_false, if_pos, if_neg, li_0, li_1, li_2, li_3, li_4, li_5, li_6, li_7, li_8, li_9, li_10, li_11, li_12, li_14, li_15, li_16, li_20, li_21, li_24, li_28, li_30, li_31, li_40, li_41, li_42, li_43, li_44, li_45, li_47, li_48, li_49, li_57, li_59, li_60, li_61, li_62, li_63, li_70, li_71, li_76, li_80, li_96, li_97, li_98, li_99, li_100, li_101, li_102, li_103, li_104, li_105, li_106, li_107, li_108, li_109, li_110, li_111, li_112, li_113, li_114, li_115, li_116, li_117, li_118, li_119, li_120, li_128, li_142, li_255, li_320, li_781, li_852, li_999, li_1000, li_2000, li_3000, li_9999, li_12345, li_65536, li_1000000, li_252645135, li_858993459, li_1103515245, li_1431655765, has_t, has_f, win_t, win_f, in_t, in_f, isH_t, isH_f, hasS_t, hasS_f, isS_t, isS_f, has2_t, has2_f, are2_t, are2_f]
      exact ⟨(by first | rfl | trivial), rfl, hR _⟩
    · simp (disch := omega) only [gd_t, so_some, so_bind, so_gd, so_none, Option.bind_some, iI_add, iI_sub, iI_mul, iI_neg, iI_clamp, iI_nat, vin_i, iI_le, iI_lt, iI_eq, mn_i, mx_i, if_true, if_false, if_pos, if_neg, li_0, li_1, li_2, li_3, li_4, li_5, li_6, li_7, li_8, li_9, li_10, li_11, li_12, li_14, li_15, li_16, li_20, li_21, li_24, li_28, li_30, li_31, li_40, li_41, li_42, li_43, li_44, li_45, li_47, li_48, li_49, li_57, li_59, li_60, li_61, li_62, li_63, li_70, li_71, li_76, li_80, li_96, li_97, li_98, li_99, li_100, li_101, li_102, li_103, li_104, li_105, li_106, li_107, li_108, li_109, li_110, li_111, li_112, li_113, li_114, li_115, li_116, li_117, li_118, li_119, li_120, li_128, li_142, li_255, li_320, li_781, li_852, li_999, li_1000, li_2000, li_3000, li_9999, li_12345, li_65536, li_1000000, li_252645135, li_858993459, li_1103515245, li_1431655765, has_t, has_f, win_t, win_f, in_t, in_f, isH_t, isH_f, hasS_t, hasS_f, isS_t, isS_f, has2_t, has2_f, are2_t, are2_f]
      exact ⟨(by first | rfl | trivial), rfl, hR _⟩
theorem s_net {n : Int} {σ : CS} {τ : MS} (h : R n σ τ) (hn : n < 1000) (p1 : Int32) : OkT n σ (x_net σ p1) (fX11_net_T (σ.1 26) p1) (y_net τ p1) := by
  obtain ⟨n0, g, c, m, G⟩ := h
  obtain ⟨P, rfl, b0, b1⟩ := iI_of p1
  obtain ⟨c1, c2, c3, c4, c5, c6, c7, c8, c9⟩ := c
  obtain ⟨m1, m2, m3, m4, m5, m6, m7, m8, m9⟩ := m
  have hR : ∀ v, R (n + 1) σ (va_up τ.1 19 v, τ.2.1, τ.2.2) := fun v => R.same ⟨n0.1, hn⟩ G ⟨c1, c2, c3, c4, c5, c6, c7, c8, c9⟩ ⟨m1, m2, m3, m4, m5, m6, m7, m8, m9⟩
  have e := G.1.1
  unfold OkT x_net y_net fX11_net fX12_net fX11_net_T fX12_lost
  rw [c1.1, m1.1]
  by_cases q : 0 ≤ P ∧ P < g.1.1
  · left
    have d1 := c_balance c3.2.2.2 q.1 (by omega)
    have d2 := m_netOf m3 q.1 (by omega)
    simp (disch := omega) only [gd_t, so_some, so_bind, so_gd, so_none, Option.bind_some, iI_add, iI_sub, iI_mul, iI_neg, iI_clamp, iI_nat, vin_i, iI_le, iI_lt, iI_eq, mn_i, mx_i, if_true, if_false, if_pos, if_neg, li_0, li_1, li_2, li_3, li_4, li_5, li_6, li_7, li_8, li_9, li_10, li_11, li_12, li_14, li_15, li_16, li_20, li_21, li_24, li_28, li_30, li_31, li_40, li_41, li_42, li_43, li_44, li_45, li_47, li_48, li_49, li_57, li_59, li_60, li_61, li_62, li_63, li_70, li_71, li_76, li_80, li_96, li_97, li_98, li_99, li_100, li_101, li_102, li_103, li_104, li_105, li_106, li_107, li_108, li_109, li_110, li_111, li_112, li_113, li_114, li_115, li_116, li_117, li_118, li_119, li_120, li_128, li_142, li_255, li_320, li_781, li_852, li_999, li_1000, li_2000, li_3000, li_9999, li_12345, li_65536, li_1000000, li_252645135, li_858993459, li_1103515245, li_1431655765, has_t, has_f, win_t, win_f, in_t, in_f, isH_t, isH_f, hasS_t, hasS_f, isS_t, isS_f, has2_t, has2_f, are2_t, are2_f, d1, d2]
    exact ⟨(by first | rfl | trivial), rfl, hR _⟩
  · right
    simp (disch := omega) only [gd_t, so_some, so_bind, so_gd, so_none, Option.bind_some, iI_add, iI_sub, iI_mul, iI_neg, iI_clamp, iI_nat, vin_i, iI_le, iI_lt, iI_eq, mn_i, mx_i, if_true, if_false, if_pos, if_neg, li_0, li_1, li_2, li_3, li_4, li_5, li_6, li_7, li_8, li_9, li_10, li_11, li_12, li_14, li_15, li_16, li_20, li_21, li_24, li_28, li_30, li_31, li_40, li_41, li_42, li_43, li_44, li_45, li_47, li_48, li_49, li_57, li_59, li_60, li_61, li_62, li_63, li_70, li_71, li_76, li_80, li_96, li_97, li_98, li_99, li_100, li_101, li_102, li_103, li_104, li_105, li_106, li_107, li_108, li_109, li_110, li_111, li_112, li_113, li_114, li_115, li_116, li_117, li_118, li_119, li_120, li_128, li_142, li_255, li_320, li_781, li_852, li_999, li_1000, li_2000, li_3000, li_9999, li_12345, li_65536, li_1000000, li_252645135, li_858993459, li_1103515245, li_1431655765, has_t, has_f, win_t, win_f, in_t, in_f, isH_t, isH_f, hasS_t, hasS_f, isS_t, isS_f, has2_t, has2_f, are2_t, are2_f]
    exact ⟨(by first | rfl | trivial), rfl, hR _⟩
theorem s_of {n : Int} {σ : CS} {τ : MS} (h : R n σ τ) (hn : n < 1000) (p1 p2 : Int32) : OkT n σ (x_of σ p1 p2) (fX11_of_T (σ.1 26) p1 p2) (y_of τ p1 p2) := by
  obtain ⟨n0, g, c, m, G⟩ := h
  obtain ⟨P, rfl, b0, b1⟩ := iI_of p1
  obtain ⟨Q, rfl, b2, b3⟩ := iI_of p2
  obtain ⟨c1, c2, c3, c4, c5, c6, c7, c8, c9⟩ := c
  obtain ⟨m1, m2, m3, m4, m5, m6, m7, m8, m9⟩ := m
  have hR : ∀ v, R (n + 1) σ (va_up τ.1 19 v, τ.2.1, τ.2.2) := fun v => R.same ⟨n0.1, hn⟩ G ⟨c1, c2, c3, c4, c5, c6, c7, c8, c9⟩ ⟨m1, m2, m3, m4, m5, m6, m7, m8, m9⟩
  have e := G.1.1
  unfold OkT x_of y_of fX11_of fX12_of fX11_of_T fX12_lost
  rw [c1.1, m1.1]
  by_cases q : 0 ≤ P ∧ P < g.1.1
  · by_cases q2 : 0 ≤ Q ∧ Q ≤ 8
    · left
      have d1 := c_owedBy c3.2.2.2 q.1 (by omega)
      have d2 := m_owes m3 q.1 (by omega)
      have d3 := c_owedTo c3.2.2.2 q.1 (by omega)
      have d4 := m_owed m3 q.1 (by omega)
      have c11 := c1.2.1
      have c12 := c1.2.2.1
      have m11 := m1.2.1
      have m12 := m1.2.2.1
      have c31 := c3.2.1
      have c32 := c3.2.2.1
      have hx : Q = 0 ∨ Q = 1 ∨ Q = 2 ∨ Q = 3 ∨ Q = 4 ∨ Q = 5 ∨ Q = 6 ∨ Q = 7 ∨ Q = 8 := by omega
      rcases hx with rfl | rfl | rfl | rfl | rfl | rfl | rfl | rfl | rfl <;> simp (disch := omega) only [gd_t, so_some, so_bind, so_gd, so_none, Option.bind_some, iI_add, iI_sub, iI_mul, iI_neg, iI_clamp, iI_nat, vin_i, iI_le, iI_lt, iI_eq, mn_i, mx_i, if_true, if_false, if_pos, if_neg, li_0, li_1, li_2, li_3, li_4, li_5, li_6, li_7, li_8, li_9, li_10, li_11, li_12, li_14, li_15, li_16, li_20, li_21, li_24, li_28, li_30, li_31, li_40, li_41, li_42, li_43, li_44, li_45, li_47, li_48, li_49, li_57, li_59, li_60, li_61, li_62, li_63, li_70, li_71, li_76, li_80, li_96, li_97, li_98, li_99, li_100, li_101, li_102, li_103, li_104, li_105, li_106, li_107, li_108, li_109, li_110, li_111, li_112, li_113, li_114, li_115, li_116, li_117, li_118, li_119, li_120, li_128, li_142, li_255, li_320, li_781, li_852, li_999, li_1000, li_2000, li_3000, li_9999, li_12345, li_65536, li_1000000, li_252645135, li_858993459, li_1103515245, li_1431655765, has_t, has_f, win_t, win_f, in_t, in_f, isH_t, isH_f, hasS_t, hasS_f, isS_t, isS_f, has2_t, has2_f, are2_t, are2_f, d1, d2, d3, d4, c11.at, c12.at, m11.at, m12.at, c31.at, c32.at, m3.at, c2.at, m2.at] <;> exact ⟨(by first | rfl | trivial), rfl, hR _⟩
    · right
      simp (disch := omega) only [gd_t, so_some, so_bind, so_gd, so_none, Option.bind_some, iI_add, iI_sub, iI_mul, iI_neg, iI_clamp, iI_nat, vin_i, iI_le, iI_lt, iI_eq, mn_i, mx_i, if_true, if_false, if_pos, if_neg, li_0, li_1, li_2, li_3, li_4, li_5, li_6, li_7, li_8, li_9, li_10, li_11, li_12, li_14, li_15, li_16, li_20, li_21, li_24, li_28, li_30, li_31, li_40, li_41, li_42, li_43, li_44, li_45, li_47, li_48, li_49, li_57, li_59, li_60, li_61, li_62, li_63, li_70, li_71, li_76, li_80, li_96, li_97, li_98, li_99, li_100, li_101, li_102, li_103, li_104, li_105, li_106, li_107, li_108, li_109, li_110, li_111, li_112, li_113, li_114, li_115, li_116, li_117, li_118, li_119, li_120, li_128, li_142, li_255, li_320, li_781, li_852, li_999, li_1000, li_2000, li_3000, li_9999, li_12345, li_65536, li_1000000, li_252645135, li_858993459, li_1103515245, li_1431655765, has_t, has_f, win_t, win_f, in_t, in_f, isH_t, isH_f, hasS_t, hasS_f, isS_t, isS_f, has2_t, has2_f, are2_t, are2_f]
      exact ⟨(by first | rfl | trivial), rfl, hR _⟩
  · right
    have z1 := has_f e.1 e.2 b0 b1 q
    have z2 := isH_f e.1 e.2 b0 b1 q
    simp only [z1, z2, Option.bind_some]
    simp (disch := omega) only [gd_t, so_some, so_bind, so_gd, so_none, Option.bind_some, iI_add, iI_sub, iI_mul, iI_neg, iI_clamp, iI_nat, vin_i, iI_le, iI_lt, iI_eq, mn_i, mx_i, if_true, if_false, if_pos, if_neg, li_0, li_1, li_2, li_3, li_4, li_5, li_6, li_7, li_8, li_9, li_10, li_11, li_12, li_14, li_15, li_16, li_20, li_21, li_24, li_28, li_30, li_31, li_40, li_41, li_42, li_43, li_44, li_45, li_47, li_48, li_49, li_57, li_59, li_60, li_61, li_62, li_63, li_70, li_71, li_76, li_80, li_96, li_97, li_98, li_99, li_100, li_101, li_102, li_103, li_104, li_105, li_106, li_107, li_108, li_109, li_110, li_111, li_112, li_113, li_114, li_115, li_116, li_117, li_118, li_119, li_120, li_128, li_142, li_255, li_320, li_781, li_852, li_999, li_1000, li_2000, li_3000, li_9999, li_12345, li_65536, li_1000000, li_252645135, li_858993459, li_1103515245, li_1431655765, has_t, has_f, win_t, win_f, in_t, in_f, isH_t, isH_f, hasS_t, hasS_f, isS_t, isS_f, has2_t, has2_f, are2_t, are2_f]
    exact ⟨(by first | rfl | trivial), rfl, hR _⟩
