theorem va_s {α : Type} (f : Nat → α) (k : Nat) (v : α) : va_up f k v k = v := if_pos rfl
theorem va_o {α : Type} (f : Nat → α) {k j : Nat} (v : α) (h : j ≠ k) : va_up f k v j = f j := if_neg h
theorem kp_cases {P : Int} (h0 : 0 ≤ P) (h1 : P ≤ 1) : P = 0 ∨ P = 1 := by omega
theorem s_keep {n : Int} {σ : CS} {τ : MS} (h : R n σ τ) (hn : n < 1000) (p1 : Int32) : Ok n (x_keep σ p1) (y_keep τ p1) := by
  obtain ⟨n0, g, c, m, G⟩ := h
  obtain ⟨P, rfl, b0, b1⟩ := iI_of p1
  obtain ⟨c1, c2, c3, c4, c5, c6, c7, c8, c9⟩ := c
  obtain ⟨m1, m2, m3, m4, m5, m6, m7, m8, m9⟩ := m
  unfold Ok x_keep y_keep fX11_keep fX12_keep
  by_cases q : 0 ≤ P ∧ P ≤ 1
  · have hkM := m8.1.up 1 q.1
    have hkC := m8.2.1.up g.2.2.2.2.2.2.2.2.2.2.2.2.1 q.1
    have hkH := c8.1.up g.1.1 q.1
    obtain ⟨b, hb, hb2⟩ := m_lay (n := 142) m3 (arr_any 142 (τ.2.1 9)) (p := 71 * P) (by omega) (by omega) (by omega)
    rw [m8.2.2.1]
    simp (disch := omega) only [gd_t, so_some, so_bind, so_gd, so_none, Option.bind_some, iI_add, iI_sub, iI_mul, iI_neg, iI_clamp, iI_nat, vin_i, iI_le, iI_lt, iI_eq, mn_i, mx_i, if_true, if_false, if_pos, if_neg, li_0, li_1, li_2, li_3, li_4, li_5, li_6, li_7, li_8, li_9, li_10, li_11, li_12, li_14, li_15, li_16, li_20, li_21, li_24, li_28, li_30, li_31, li_40, li_41, li_42, li_43, li_44, li_45, li_47, li_48, li_49, li_57, li_59, li_60, li_61, li_62, li_63, li_70, li_71, li_76, li_80, li_96, li_97, li_98, li_99, li_100, li_101, li_102, li_103, li_104, li_105, li_106, li_107, li_108, li_109, li_110, li_111, li_112, li_113, li_114, li_115, li_116, li_117, li_118, li_119, li_120, li_128, li_142, li_255, li_320, li_781, li_852, li_999, li_1000, li_2000, li_3000, li_9999, li_12345, li_65536, li_1000000, li_252645135, li_858993459, li_1103515245, li_1431655765, has_t, has_f, win_t, win_f, in_t, in_f, isH_t, isH_f, hasS_t, hasS_f, isS_t, isS_f, has2_t, has2_f, are2_t, are2_f, hb]
    have fin : ∀ (hn' : Nat → Int32) (Hs' Hp' Hd' : Nat → Nat → Int32) (n' : Int32) (s' p' d' : Nat → Int32), StC g.2.2.1 n' s' p' d' →
        R (n + 1) (σ.1, va_up σ.2.1 6 (upd (σ.2.1 6) P.toNat (σ.1 26)), va_up σ.2.2.1 1 (va_up (σ.2.2.1 1) P.toNat n'), va_up (va_up (va_up σ.2.2.2 5 (va_up (σ.2.2.2 5) P.toNat s')) 4 (va_up (σ.2.2.2 4) P.toNat p')) 3 (va_up (σ.2.2.2 3) P.toNat d'))
          (va_up τ.1 19 (iI 0), va_up (va_up (va_up τ.2.1 8 (upd (τ.2.1 8) P.toNat (vp_nar .boolean (iI 1)))) 10 (upd (τ.2.1 10) P.toNat (iI g.2.2.2.2.2.2.2.2.2.2.2.2.1))) 9 b, τ.2.2) := by
      intro hn' Hs' Hp' Hd' n' s' p' d' S
      obtain ⟨h1, h2, h3, h4, h5, h6, h7, h8, h9⟩ := G.mono (show n ≤ n + 1 by omega)
      refine ⟨by omega, ((g.1, g.2.1, g.2.2.1, g.2.2.2.1, g.2.2.2.2.1, g.2.2.2.2.2.1, g.2.2.2.2.2.2.1, g.2.2.2.2.2.2.2.1, g.2.2.2.2.2.2.2.2.1, upI g.2.2.2.2.2.2.2.2.2.1 P g.1.1, (fun i => if i = P then g.2.2.1 else g.2.2.2.2.2.2.2.2.2.2.1 i), upI g.2.2.2.2.2.2.2.2.2.2.2.1 P g.2.2.2.2.2.2.2.2.2.2.2.2.1, g.2.2.2.2.2.2.2.2.2.2.2.2.1, g.2.2.2.2.2.2.2.2.2.2.2.2.2.1, g.2.2.2.2.2.2.2.2.2.2.2.2.2.2.1, g.2.2.2.2.2.2.2.2.2.2.2.2.2.2.2) : GH), ⟨c1, c2, c3, c4, c5, c6, c7, ⟨?_, ?_⟩, c9⟩, ⟨m1, m2, m3, m4, m5, m6, m7, ⟨?_, hkC, m8.2.2.1, ?_⟩, m9⟩, h1, h2, h3, h4, h5, h6, h7, ⟨?_, h8.2⟩, h9⟩
      · rw [c1.1]; exact hkH
      · intro i i0 i1 ik
        by_cases e : i = P
        · subst e
          show StC (if i = i then g.2.2.1 else g.2.2.2.2.2.2.2.2.2.2.1 i) (va_up (σ.2.2.1 1) i.toNat n' i.toNat) (va_up (σ.2.2.2 5) i.toNat s' i.toNat) (va_up (σ.2.2.2 4) i.toNat p' i.toNat) (va_up (σ.2.2.2 3) i.toNat d' i.toNat)
          rw [if_pos rfl, va_s, va_s, va_s, va_s]
          exact S
        · have e2 : i.toNat ≠ P.toNat := by omega
          have ik2 : upI g.2.2.2.2.2.2.2.2.2.1 P g.1.1 i ≠ -1 := ik
          rw [upI_o _ e] at ik2
          have := c8.2 i i0 i1 ik2
          show StC (if i = P then g.2.2.1 else g.2.2.2.2.2.2.2.2.2.2.1 i) (va_up (σ.2.2.1 1) P.toNat n' i.toNat) (va_up (σ.2.2.2 5) P.toNat s' i.toNat) (va_up (σ.2.2.2 4) P.toNat p' i.toNat) (va_up (σ.2.2.2 3) P.toNat d' i.toNat)
          rw [if_neg e, va_o _ _ e2, va_o _ _ e2, va_o _ _ e2, va_o _ _ e2]
          exact this
      · refine hkM.congr (fun x x0 x1 => ?_)
        show upI _ P 1 x = if upI g.2.2.2.2.2.2.2.2.2.1 P g.1.1 x = -1 then 0 else 1
        by_cases e : x = P
        · rw [e, upI_s, upI_s, if_neg (by have := G.1.1; omega)]
        · rw [upI_o _ e, upI_o _ e]
      · intro i j i0 i1 ik j0 j1
        show b (71 * i + j).toNat = iI ((if i = P then g.2.2.1 else g.2.2.2.2.2.2.2.2.2.2.1 i) j)
        rw [hb2.at (by omega) (by omega)]
        by_cases e : i = P
        · subst e
          rw [if_pos (by omega), if_pos rfl, show 71 * i + j - 71 * i = j by omega]
        · have ik2 : upI g.2.2.2.2.2.2.2.2.2.1 P g.1.1 i ≠ -1 := ik
          rw [upI_o _ e] at ik2
          rw [if_neg (by omega), if_neg e, ← m8.2.2.2 i j i0 i1 ik2 j0 j1]
          exact Int32.ofInt_toInt _
      · intro i i0 i1
        show upI g.2.2.2.2.2.2.2.2.2.1 P g.1.1 i = -1 ∨ (0 ≤ upI g.2.2.2.2.2.2.2.2.2.1 P g.1.1 i ∧ upI g.2.2.2.2.2.2.2.2.2.1 P g.1.1 i ≤ g.1.1 ∧ 0 ≤ upI g.2.2.2.2.2.2.2.2.2.2.2.1 P g.2.2.2.2.2.2.2.2.2.2.2.2.1 i ∧ upI g.2.2.2.2.2.2.2.2.2.2.2.1 P g.2.2.2.2.2.2.2.2.2.2.2.2.1 i ≤ g.2.2.2.2.2.2.2.2.2.2.2.2.1 ∧ (upI g.2.2.2.2.2.2.2.2.2.1 P g.1.1 i = g.1.1 ↔ upI g.2.2.2.2.2.2.2.2.2.2.2.1 P g.2.2.2.2.2.2.2.2.2.2.2.2.1 i = g.2.2.2.2.2.2.2.2.2.2.2.2.1) ∧ SG (upI g.2.2.2.2.2.2.2.2.2.1 P g.1.1 i) (n + 1) (if i = P then g.2.2.1 else g.2.2.2.2.2.2.2.2.2.2.1 i))
        by_cases e : i = P
        · subst e
          rw [upI_s, upI_s, if_pos rfl]
          exact Or.inr ⟨h1.1.1, Int.le_refl _, h8.2.1, Int.le_refl _, ⟨fun _ => rfl, fun _ => rfl⟩, h3⟩
        · rw [upI_o _ e, upI_o _ e, if_neg e]
          exact h8.1 i i0 i1
    rcases kp_cases q.1 q.2 with rfl | rfl
    · simp (disch := omega) only [gd_t, so_some, so_bind, so_gd, so_none, Option.bind_some, iI_add, iI_sub, iI_mul, iI_neg, iI_clamp, iI_nat, vin_i, iI_le, iI_lt, iI_eq, mn_i, mx_i, if_true, if_false, if_pos, if_neg, li_0, li_1, li_2, li_3, li_4, li_5, li_6, li_7, li_8, li_9, li_10, li_11, li_12, li_14, li_15, li_16, li_20, li_21, li_24, li_28, li_30, li_31, li_40, li_41, li_42, li_43, li_44, li_45, li_47, li_48, li_49, li_57, li_59, li_60, li_61, li_62, li_63, li_70, li_71, li_76, li_80, li_96, li_97, li_98, li_99, li_100, li_101, li_102, li_103, li_104, li_105, li_106, li_107, li_108, li_109, li_110, li_111, li_112, li_113, li_114, li_115, li_116, li_117, li_118, li_119, li_120, li_128, li_142, li_255, li_320, li_781, li_852, li_999, li_1000, li_2000, li_3000, li_9999, li_12345, li_65536, li_1000000, li_252645135, li_858993459, li_1103515245, li_1431655765, has_t, has_f, win_t, win_f, in_t, in_f, isH_t, isH_f, hasS_t, hasS_f, isS_t, isS_f, has2_t, has2_f, are2_t, are2_f]
      refine so_mono (c_takeFrom c3 _ _ _ _) ?_
      intro o ho
      exact ⟨(by first | rfl | trivial), fin (fun _ => 0) (fun _ _ => 0) (fun _ _ => 0) (fun _ _ => 0) _ _ _ _ ho⟩
    · simp (disch := omega) only [gd_t, so_some, so_bind, so_gd, so_none, Option.bind_some, iI_add, iI_sub, iI_mul, iI_neg, iI_clamp, iI_nat, vin_i, iI_le, iI_lt, iI_eq, mn_i, mx_i, if_true, if_false, if_pos, if_neg, li_0, li_1, li_2, li_3, li_4, li_5, li_6, li_7, li_8, li_9, li_10, li_11, li_12, li_14, li_15, li_16, li_20, li_21, li_24, li_28, li_30, li_31, li_40, li_41, li_42, li_43, li_44, li_45, li_47, li_48, li_49, li_57, li_59, li_60, li_61, li_62, li_63, li_70, li_71, li_76, li_80, li_96, li_97, li_98, li_99, li_100, li_101, li_102, li_103, li_104, li_105, li_106, li_107, li_108, li_109, li_110, li_111, li_112, li_113, li_114, li_115, li_116, li_117, li_118, li_119, li_120, li_128, li_142, li_255, li_320, li_781, li_852, li_999, li_1000, li_2000, li_3000, li_9999, li_12345, li_65536, li_1000000, li_252645135, li_858993459, li_1103515245, li_1431655765, has_t, has_f, win_t, win_f, in_t, in_f, isH_t, isH_f, hasS_t, hasS_f, isS_t, isS_f, has2_t, has2_f, are2_t, are2_f]
      refine so_mono (c_takeFrom c3 _ _ _ _) ?_
      intro o ho
      exact ⟨(by first | rfl | trivial), fin (fun _ => 0) (fun _ _ => 0) (fun _ _ => 0) (fun _ _ => 0) _ _ _ _ ho⟩
  · simp (disch := omega) only [gd_t, so_some, so_bind, so_gd, so_none, Option.bind_some, iI_add, iI_sub, iI_mul, iI_neg, iI_clamp, iI_nat, vin_i, iI_le, iI_lt, iI_eq, mn_i, mx_i, if_true, if_false, if_pos, if_neg, li_0, li_1, li_2, li_3, li_4, li_5, li_6, li_7, li_8, li_9, li_10, li_11, li_12, li_14, li_15, li_16, li_20, li_21, li_24, li_28, li_30, li_31, li_40, li_41, li_42, li_43, li_44, li_45, li_47, li_48, li_49, li_57, li_59, li_60, li_61, li_62, li_63, li_70, li_71, li_76, li_80, li_96, li_97, li_98, li_99, li_100, li_101, li_102, li_103, li_104, li_105, li_106, li_107, li_108, li_109, li_110, li_111, li_112, li_113, li_114, li_115, li_116, li_117, li_118, li_119, li_120, li_128, li_142, li_255, li_320, li_781, li_852, li_999, li_1000, li_2000, li_3000, li_9999, li_12345, li_65536, li_1000000, li_252645135, li_858993459, li_1103515245, li_1431655765, has_t, has_f, win_t, win_f, in_t, in_f, isH_t, isH_f, hasS_t, hasS_f, isS_t, isS_f, has2_t, has2_f, are2_t, are2_f]
    exact ⟨(by first | rfl | trivial), R.same ⟨n0.1, hn⟩ G ⟨c1, c2, c3, c4, c5, c6, c7, c8, c9⟩ ⟨m1, m2, m3, m4, m5, m6, m7, m8, m9⟩⟩
theorem m_again_L {u : Int} (u0 : 0 ≤ u) (u1 : u ≤ 1) {V : Int → Int} {undos : Nat → Int32} (hv : ∀ i, 0 ≤ i → i < 71 → undos (71 * u + i).toNat = iI (V i)) : ∀ (m : Nat) (k : Int) (f : Nat) (b : Nat → Int32) (B : Int → Int), 0 ≤ k → k + m = 71 → m < f → Arr 71 b B →
    So (fX12_again_L40 undos (iI u) f (iI k) b) (fun o => Arr 71 o (fun i => if k ≤ i then V i else B i))
  | 0, k, f + 1, b, B, h0, hk, hf, hb => by
    rw [fX12_again_L40]
    simp (disch := omega) only [gd_t, so_some, so_bind, so_gd, so_none, Option.bind_some, iI_add, iI_sub, iI_mul, iI_neg, iI_clamp, iI_nat, vin_i, iI_le, iI_lt, iI_eq, mn_i, mx_i, if_true, if_false, if_pos, if_neg, li_0, li_1, li_2, li_3, li_4, li_5, li_6, li_7, li_8, li_9, li_10, li_11, li_12, li_14, li_15, li_16, li_20, li_21, li_24, li_28, li_30, li_31, li_40, li_41, li_42, li_43, li_44, li_45, li_47, li_48, li_49, li_57, li_59, li_60, li_61, li_62, li_63, li_70, li_71, li_76, li_80, li_96, li_97, li_98, li_99, li_100, li_101, li_102, li_103, li_104, li_105, li_106, li_107, li_108, li_109, li_110, li_111, li_112, li_113, li_114, li_115, li_116, li_117, li_118, li_119, li_120, li_128, li_142, li_255, li_320, li_781, li_852, li_999, li_1000, li_2000, li_3000, li_9999, li_12345, li_65536, li_1000000, li_252645135, li_858993459, li_1103515245, li_1431655765]
    exact hb.congr (fun x h0 h1 => by first | rw [if_neg (by omega)] | rfl)
  | m + 1, k, f + 1, b, B, h0, hk, hf, hb => by
    have e := hv k h0 (by omega)
    rw [fX12_again_L40]
    simp (disch := omega) only [gd_t, so_some, so_bind, so_gd, so_none, Option.bind_some, iI_add, iI_sub, iI_mul, iI_neg, iI_clamp, iI_nat, vin_i, iI_le, iI_lt, iI_eq, mn_i, mx_i, if_true, if_false, if_pos, if_neg, li_0, li_1, li_2, li_3, li_4, li_5, li_6, li_7, li_8, li_9, li_10, li_11, li_12, li_14, li_15, li_16, li_20, li_21, li_24, li_28, li_30, li_31, li_40, li_41, li_42, li_43, li_44, li_45, li_47, li_48, li_49, li_57, li_59, li_60, li_61, li_62, li_63, li_70, li_71, li_76, li_80, li_96, li_97, li_98, li_99, li_100, li_101, li_102, li_103, li_104, li_105, li_106, li_107, li_108, li_109, li_110, li_111, li_112, li_113, li_114, li_115, li_116, li_117, li_118, li_119, li_120, li_128, li_142, li_255, li_320, li_781, li_852, li_999, li_1000, li_2000, li_3000, li_9999, li_12345, li_65536, li_1000000, li_252645135, li_858993459, li_1103515245, li_1431655765, e]
    refine so_mono (m_again_L u0 u1 hv m (k + 1) f _ _ (by omega) (by omega) (by omega) (hb.up _ h0)) ?_
    intro o ho
    refine ho.congr (fun x h0 h1 => ?_)
    by_cases hx : x = k
    · subst hx
      rw [if_neg (by omega), if_pos (by omega), upI_s]
    · by_cases h2 : k + 1 ≤ x
      · rw [if_pos h2, if_pos (by omega)]
      · rw [if_neg h2, if_neg (by omega), upI_o _ hx]
theorem s_again {n : Int} {σ : CS} {τ : MS} (h : R n σ τ) (hn : n < 1000) (p1 : Int32) : Ok n (x_again σ p1) (y_again τ p1) := by
  obtain ⟨n0, g, c, m, G⟩ := h
  obtain ⟨P, rfl, b0, b1⟩ := iI_of p1
  obtain ⟨c1, c2, c3, c4, c5, c6, c7, c8, c9⟩ := c
  obtain ⟨m1, m2, m3, m4, m5, m6, m7, m8, m9⟩ := m
  have e := G.1.1
  have cm := G.2.2.2.2.2.2.2.1.2
  unfold Ok x_again y_again fX11_again fX12_again
  rw [m8.2.2.1, c1.1]
  by_cases q : 0 ≤ P ∧ P ≤ 1
  · have kk := G.2.2.2.2.2.2.2.1.1 P q.1 (by omega)
    have hkM := m8.1
    have hkC := m8.2.1
    have hkH := c8.1
    rcases kk with k1 | ⟨k1, k2, k3, k4, k5, k6⟩
    · simp (disch := omega) only [gd_t, so_some, so_bind, so_gd, so_none, Option.bind_some, iI_add, iI_sub, iI_mul, iI_neg, iI_clamp, iI_nat, vin_i, iI_le, iI_lt, iI_eq, mn_i, mx_i, if_true, if_false, if_pos, if_neg, li_0, li_1, li_2, li_3, li_4, li_5, li_6, li_7, li_8, li_9, li_10, li_11, li_12, li_14, li_15, li_16, li_20, li_21, li_24, li_28, li_30, li_31, li_40, li_41, li_42, li_43, li_44, li_45, li_47, li_48, li_49, li_57, li_59, li_60, li_61, li_62, li_63, li_70, li_71, li_76, li_80, li_96, li_97, li_98, li_99, li_100, li_101, li_102, li_103, li_104, li_105, li_106, li_107, li_108, li_109, li_110, li_111, li_112, li_113, li_114, li_115, li_116, li_117, li_118, li_119, li_120, li_128, li_142, li_255, li_320, li_781, li_852, li_999, li_1000, li_2000, li_3000, li_9999, li_12345, li_65536, li_1000000, li_252645135, li_858993459, li_1103515245, li_1431655765, has_t, has_f, win_t, win_f, in_t, in_f, isH_t, isH_f, hasS_t, hasS_f, isS_t, isS_f, has2_t, has2_f, are2_t, are2_f, hkM.at, hkC.at, hkH.at, k1]
      exact ⟨(by first | rfl | trivial), R.same ⟨n0.1, hn⟩ G ⟨c1, c2, c3, c4, c5, c6, c7, c8, c9⟩ ⟨m1, m2, m3, m4, m5, m6, m7, m8, m9⟩⟩
    · have kne : g.2.2.2.2.2.2.2.2.2.1 P ≠ -1 := by omega
      by_cases q2 : g.2.2.2.2.2.2.2.2.2.1 P = g.1.1
      · have q3 := k5.1 q2
        obtain ⟨b, hb, hb2⟩ := m_again_L (u := P) q.1 q.2 (V := g.2.2.2.2.2.2.2.2.2.2.1 P) (fun i i0 i1 => m8.2.2.2 P i q.1 (by omega) kne i0 i1) 71 0 FU (τ.2.1 12) _ (by omega) (by omega) (show _ < 4000 by omega) m3
        have st := c8.2 P q.1 (by omega) kne
        have hb3 : Arr 71 b (g.2.2.2.2.2.2.2.2.2.2.1 P) := hb2.congr (fun x x0 x1 => if_pos x0)
        obtain ⟨h1, h2, h3, h4, h5, h6, h7, h8, h9⟩ := G.mono (show n ≤ n + 1 by omega)
        have k7 : SG g.1.1 (n + 1) (g.2.2.2.2.2.2.2.2.2.2.1 P) := by rw [← q2]; exact k6.mono (by omega)
        obtain ⟨w0, w1, w2, nx, w3, w4, w5, w6⟩ := c5
        have hc : HsC g.2.2.2.2.1 0 (iI 0) (σ.1 2) (σ.2.2.1 0) (σ.2.2.2 2) (σ.2.2.2 1) (σ.2.2.2 0) := ⟨by omega, by omega, rfl, nx, w3, w4, w5, fun j j0 j1 => by omega⟩
        have hm : HsM g.2.2.2.2.1 0 (iI 0) (τ.2.1 22) := ⟨by omega, by omega, rfl, fun j i j0 j1 => by omega⟩
        simp (disch := omega) only [gd_t, so_some, so_bind, so_gd, so_none, Option.bind_some, iI_add, iI_sub, iI_mul, iI_neg, iI_clamp, iI_nat, vin_i, iI_le, iI_lt, iI_eq, mn_i, mx_i, if_true, if_false, if_pos, if_neg, li_0, li_1, li_2, li_3, li_4, li_5, li_6, li_7, li_8, li_9, li_10, li_11, li_12, li_14, li_15, li_16, li_20, li_21, li_24, li_28, li_30, li_31, li_40, li_41, li_42, li_43, li_44, li_45, li_47, li_48, li_49, li_57, li_59, li_60, li_61, li_62, li_63, li_70, li_71, li_76, li_80, li_96, li_97, li_98, li_99, li_100, li_101, li_102, li_103, li_104, li_105, li_106, li_107, li_108, li_109, li_110, li_111, li_112, li_113, li_114, li_115, li_116, li_117, li_118, li_119, li_120, li_128, li_142, li_255, li_320, li_781, li_852, li_999, li_1000, li_2000, li_3000, li_9999, li_12345, li_65536, li_1000000, li_252645135, li_858993459, li_1103515245, li_1431655765, has_t, has_f, win_t, win_f, in_t, in_f, isH_t, isH_f, hasS_t, hasS_f, isS_t, isS_f, has2_t, has2_f, are2_t, are2_f, hkM.at, hkC.at, hkH.at, q2, q3, hb]
        rcases kp_cases q.1 q.2 with rfl | rfl
        · simp (disch := omega) only [gd_t, so_some, so_bind, so_gd, so_none, Option.bind_some, iI_add, iI_sub, iI_mul, iI_neg, iI_clamp, iI_nat, vin_i, iI_le, iI_lt, iI_eq, mn_i, mx_i, if_true, if_false, if_pos, if_neg, li_0, li_1, li_2, li_3, li_4, li_5, li_6, li_7, li_8, li_9, li_10, li_11, li_12, li_14, li_15, li_16, li_20, li_21, li_24, li_28, li_30, li_31, li_40, li_41, li_42, li_43, li_44, li_45, li_47, li_48, li_49, li_57, li_59, li_60, li_61, li_62, li_63, li_70, li_71, li_76, li_80, li_96, li_97, li_98, li_99, li_100, li_101, li_102, li_103, li_104, li_105, li_106, li_107, li_108, li_109, li_110, li_111, li_112, li_113, li_114, li_115, li_116, li_117, li_118, li_119, li_120, li_128, li_142, li_255, li_320, li_781, li_852, li_999, li_1000, li_2000, li_3000, li_9999, li_12345, li_65536, li_1000000, li_252645135, li_858993459, li_1103515245, li_1431655765, has_t, has_f, win_t, win_f, in_t, in_f, isH_t, isH_f, hasS_t, hasS_f, isS_t, isS_f, has2_t, has2_f, are2_t, are2_f, fX2_forget]
          refine so_mono (c_takeFrom st _ _ _ _) ?_
          intro o ho
          exact ⟨(by first | rfl | trivial), by omega, ((g.1, g.2.1, g.2.2.2.2.2.2.2.2.2.2.1 0, g.2.2.2.1, g.2.2.2.2.1, 0, g.2.2.2.2.2.2.1, g.2.2.2.2.2.2.2.1, g.2.2.2.2.2.2.2.2.1, g.2.2.2.2.2.2.2.2.2.1, g.2.2.2.2.2.2.2.2.2.2.1, g.2.2.2.2.2.2.2.2.2.2.2.1, g.2.2.2.2.2.2.2.2.2.2.2.2.1, g.2.2.2.2.2.2.2.2.2.2.2.2.2.1, g.2.2.2.2.2.2.2.2.2.2.2.2.2.2.1, g.2.2.2.2.2.2.2.2.2.2.2.2.2.2.2) : GH), ⟨c1, c2, ho, c4, hc, c6, c7, c8, c9⟩, ⟨m1, m2, hb3, m4, hm, m6, m7, m8, m9⟩, h1, h2, k7, h4, fun j j0 j1 => absurd j1 (by show ¬ j < 0; omega), h6, h7, h8, h9⟩
        · simp (disch := omega) only [gd_t, so_some, so_bind, so_gd, so_none, Option.bind_some, iI_add, iI_sub, iI_mul, iI_neg, iI_clamp, iI_nat, vin_i, iI_le, iI_lt, iI_eq, mn_i, mx_i, if_true, if_false, if_pos, if_neg, li_0, li_1, li_2, li_3, li_4, li_5, li_6, li_7, li_8, li_9, li_10, li_11, li_12, li_14, li_15, li_16, li_20, li_21, li_24, li_28, li_30, li_31, li_40, li_41, li_42, li_43, li_44, li_45, li_47, li_48, li_49, li_57, li_59, li_60, li_61, li_62, li_63, li_70, li_71, li_76, li_80, li_96, li_97, li_98, li_99, li_100, li_101, li_102, li_103, li_104, li_105, li_106, li_107, li_108, li_109, li_110, li_111, li_112, li_113, li_114, li_115, li_116, li_117, li_118, li_119, li_120, li_128, li_142, li_255, li_320, li_781, li_852, li_999, li_1000, li_2000, li_3000, li_9999, li_12345, li_65536, li_1000000, li_252645135, li_858993459, li_1103515245, li_1431655765, has_t, has_f, win_t, win_f, in_t, in_f, isH_t, isH_f, hasS_t, hasS_f, isS_t, isS_f, has2_t, has2_f, are2_t, are2_f, fX2_forget]
          refine so_mono (c_takeFrom st _ _ _ _) ?_
          intro o ho
          exact ⟨(by first | rfl | trivial), by omega, ((g.1, g.2.1, g.2.2.2.2.2.2.2.2.2.2.1 1, g.2.2.2.1, g.2.2.2.2.1, 0, g.2.2.2.2.2.2.1, g.2.2.2.2.2.2.2.1, g.2.2.2.2.2.2.2.2.1, g.2.2.2.2.2.2.2.2.2.1, g.2.2.2.2.2.2.2.2.2.2.1, g.2.2.2.2.2.2.2.2.2.2.2.1, g.2.2.2.2.2.2.2.2.2.2.2.2.1, g.2.2.2.2.2.2.2.2.2.2.2.2.2.1, g.2.2.2.2.2.2.2.2.2.2.2.2.2.2.1, g.2.2.2.2.2.2.2.2.2.2.2.2.2.2.2) : GH), ⟨c1, c2, ho, c4, hc, c6, c7, c8, c9⟩, ⟨m1, m2, hb3, m4, hm, m6, m7, m8, m9⟩, h1, h2, k7, h4, fun j j0 j1 => absurd j1 (by show ¬ j < 0; omega), h6, h7, h8, h9⟩
      · have q3 : g.2.2.2.2.2.2.2.2.2.2.2.1 P ≠ g.2.2.2.2.2.2.2.2.2.2.2.2.1 := fun x => q2 (k5.2 x)
        simp (disch := omega) only [gd_t, so_some, so_bind, so_gd, so_none, Option.bind_some, iI_add, iI_sub, iI_mul, iI_neg, iI_clamp, iI_nat, vin_i, iI_le, iI_lt, iI_eq, mn_i, mx_i, if_true, if_false, if_pos, if_neg, li_0, li_1, li_2, li_3, li_4, li_5, li_6, li_7, li_8, li_9, li_10, li_11, li_12, li_14, li_15, li_16, li_20, li_21, li_24, li_28, li_30, li_31, li_40, li_41, li_42, li_43, li_44, li_45, li_47, li_48, li_49, li_57, li_59, li_60, li_61, li_62, li_63, li_70, li_71, li_76, li_80, li_96, li_97, li_98, li_99, li_100, li_101, li_102, li_103, li_104, li_105, li_106, li_107, li_108, li_109, li_110, li_111, li_112, li_113, li_114, li_115, li_116, li_117, li_118, li_119, li_120, li_128, li_142, li_255, li_320, li_781, li_852, li_999, li_1000, li_2000, li_3000, li_9999, li_12345, li_65536, li_1000000, li_252645135, li_858993459, li_1103515245, li_1431655765, has_t, has_f, win_t, win_f, in_t, in_f, isH_t, isH_f, hasS_t, hasS_f, isS_t, isS_f, has2_t, has2_f, are2_t, are2_f, hkM.at, hkC.at, hkH.at]
        exact ⟨(by first | rfl | trivial), R.same ⟨n0.1, hn⟩ G ⟨c1, c2, c3, c4, c5, c6, c7, c8, c9⟩ ⟨m1, m2, m3, m4, m5, m6, m7, m8, m9⟩⟩
  · simp (disch := omega) only [gd_t, so_some, so_bind, so_gd, so_none, Option.bind_some, iI_add, iI_sub, iI_mul, iI_neg, iI_clamp, iI_nat, vin_i, iI_le, iI_lt, iI_eq, mn_i, mx_i, if_true, if_false, if_pos, if_neg, li_0, li_1, li_2, li_3, li_4, li_5, li_6, li_7, li_8, li_9, li_10, li_11, li_12, li_14, li_15, li_16, li_20, li_21, li_24, li_28, li_30, li_31, li_40, li_41, li_42, li_43, li_44, li_45, li_47, li_48, li_49, li_57, li_59, li_60, li_61, li_62, li_63, li_70, li_71, li_76, li_80, li_96, li_97, li_98, li_99, li_100, li_101, li_102, li_103, li_104, li_105, li_106, li_107, li_108, li_109, li_110, li_111, li_112, li_113, li_114, li_115, li_116, li_117, li_118, li_119, li_120, li_128, li_142, li_255, li_320, li_781, li_852, li_999, li_1000, li_2000, li_3000, li_9999, li_12345, li_65536, li_1000000, li_252645135, li_858993459, li_1103515245, li_1431655765, has_t, has_f, win_t, win_f, in_t, in_f, isH_t, isH_f, hasS_t, hasS_f, isS_t, isS_f, has2_t, has2_f, are2_t, are2_f]
    exact ⟨(by first | rfl | trivial), R.same ⟨n0.1, hn⟩ G ⟨c1, c2, c3, c4, c5, c6, c7, c8, c9⟩ ⟨m1, m2, m3, m4, m5, m6, m7, m8, m9⟩⟩
