theorem c_clear_L {A b : Int → Int} {k v : Int} (C : Cyc A b k) {members : Nat → Int32} (hb : Arr k members b) : ∀ (m : Nat) (i : Int) (f : Nat) (debt : Nat → Int32) (B : Int → Int), 0 ≤ i → i + m = k → m < f → Arr 49 debt (fun j => B (21 + j)) →
    So (fX3_clearIn_L2 (iI k) (iI v) members f (iI i) debt) (fun o => Arr 49 o (fun j => clF b k v m i B (21 + j))) := by
  have k7 := C.2.1.1
  have k2 := C.1
  intro m
  induction m with
  | zero =>
    intro i f debt B i0 hi hf hd
    obtain ⟨f, rfl⟩ : ∃ g, f = g + 1 := ⟨f - 1, by omega⟩
    rw [fX3_clearIn_L2, if_pos ((iI_le (by omega) (by omega) (by omega) (by omega)).2 (by omega)), so_some]
    exact hd
  | succ m ih0 =>
    intro i f debt B i0 hi hf hd
    obtain ⟨f, rfl⟩ : ∃ g, f = g + 1 := ⟨f - 1, by omega⟩
    obtain ⟨x1, x2, x3⟩ := C.nb i0 (show i < k by omega)
    have rb : rce b k i = 21 + (b i * 7 + nxt b k i) := rfl
    have u := hd.up (k := b i * 7 + nxt b k i) (B (21 + (b i * 7 + nxt b k i)) - v) (by omega)
    have ih := ih0 (i + 1) f _ (upI B (rce b k i) (B (rce b k i) - v)) (by omega) (by omega) (by omega) (u.congr (fun x x0 x1 => by
      rw [rb]
      by_cases w : x = b i * 7 + nxt b k i
      · rw [w, upI_s, upI_s]
      · rw [upI_o _ w, upI_o _ (by omega)]))
    rw [fX3_clearIn_L2, clF]
    unfold fX3_clearIn_J45 fX3_clearIn_J51
    by_cases q : i + 1 = k
    · have en : nxt b k i = b 0 := if_pos q
      have m0 : members 0 = iI (b 0) := hb.at (x := 0) (by omega) (by omega)
      rw [en] at ih x2
      simp (disch := omega) only [gd_t, so_some, so_bind, so_gd, so_none, Option.bind_some, iI_add, iI_sub, iI_mul, iI_neg, iI_clamp, iI_nat, vin_i, iI_le, iI_lt, iI_eq, mn_i, mx_i, if_true, if_false, if_pos, if_neg, li_0, li_1, li_2, li_3, li_4, li_5, li_6, li_7, li_8, li_9, li_10, li_11, li_12, li_14, li_15, li_16, li_20, li_21, li_24, li_28, li_30, li_31, li_40, li_41, li_42, li_43, li_44, li_45, li_47, li_48, li_49, li_57, li_59, li_60, li_61, li_62, li_63, li_70, li_71, li_76, li_80, li_96, li_97, li_98, li_99, li_100, li_101, li_102, li_103, li_104, li_105, li_106, li_107, li_108, li_109, li_110, li_111, li_112, li_113, li_114, li_115, li_116, li_117, li_118, li_119, li_120, li_128, li_142, li_255, li_320, li_781, li_852, li_999, li_1000, li_2000, li_3000, li_9999, li_12345, li_65536, li_1000000, li_252645135, li_858993459, li_1103515245, li_1431655765, Int.toNat_zero, m0, hb.at, hd.at]
      exact ih
    · have en : nxt b k i = b (i + 1) := if_neg q
      rw [en] at ih x2
      simp (disch := omega) only [gd_t, so_some, so_bind, so_gd, so_none, Option.bind_some, iI_add, iI_sub, iI_mul, iI_neg, iI_clamp, iI_nat, vin_i, iI_le, iI_lt, iI_eq, mn_i, mx_i, if_true, if_false, if_pos, if_neg, li_0, li_1, li_2, li_3, li_4, li_5, li_6, li_7, li_8, li_9, li_10, li_11, li_12, li_14, li_15, li_16, li_20, li_21, li_24, li_28, li_30, li_31, li_40, li_41, li_42, li_43, li_44, li_45, li_47, li_48, li_49, li_57, li_59, li_60, li_61, li_62, li_63, li_70, li_71, li_76, li_80, li_96, li_97, li_98, li_99, li_100, li_101, li_102, li_103, li_104, li_105, li_106, li_107, li_108, li_109, li_110, li_111, li_112, li_113, li_114, li_115, li_116, li_117, li_118, li_119, li_120, li_128, li_142, li_255, li_320, li_781, li_852, li_999, li_1000, li_2000, li_3000, li_9999, li_12345, li_65536, li_1000000, li_252645135, li_858993459, li_1103515245, li_1431655765, hb.at, hd.at]
      exact ih
theorem c_clearIn {A b : Int → Int} {k : Int} (C : Cyc A b k) {members debt : Nat → Int32} (hb : Arr k members b) (hd : Arr 49 debt (fun j => A (21 + j))) : So (fX3_clearIn (iI k) (iI (lst A b k)) members debt) (fun o => o.1 = iI (lst A b k * k) ∧ Arr 49 o.2 (fun j => clA A b k (21 + j))) := by
  have k7 := C.2.1.1
  unfold fX3_clearIn
  simp only [so_bind, so_some, li_0, iI_mul]
  refine so_mono (c_clear_L (v := lst A b k) C hb k.toNat 0 FU debt A (by omega) (by omega) (show _ < 4000 by omega) hd) ?_
  intro o ho
  exact ⟨(by first | rfl | trivial), ho⟩
theorem c_ring_L {L : Int} (l7 : L ≤ 7) {b : Int → Int} {a : Nat → Int32} (hb : Arr L a b) : ∀ (m : Nat) (k : Int) (f : Nat) (l : List Int32) (c : Int32) (t : Nat → Int32), 0 ≤ k → k + m = L → m < f → Rw l c t → l.length + m ≤ 7 →
    So (fX11_ring_L27 (iI L) a f (iI k) c t) (fun o => Rw (tlL b m k l) o.1 o.2)
  | 0, k, f + 1, l, c, t, h0, hk, hf, hr, hl => by
    rw [fX11_ring_L27]
    simp (disch := omega) only [gd_t, so_some, so_bind, so_gd, so_none, Option.bind_some, iI_add, iI_sub, iI_mul, iI_neg, iI_clamp, iI_nat, vin_i, iI_le, iI_lt, iI_eq, mn_i, mx_i, if_true, if_false, if_pos, if_neg, li_0, li_1, li_2, li_3, li_4, li_5, li_6, li_7, li_8, li_9, li_10, li_11, li_12, li_14, li_15, li_16, li_20, li_21, li_24, li_28, li_30, li_31, li_40, li_41, li_42, li_43, li_44, li_45, li_47, li_48, li_49, li_57, li_59, li_60, li_61, li_62, li_63, li_70, li_71, li_76, li_80, li_96, li_97, li_98, li_99, li_100, li_101, li_102, li_103, li_104, li_105, li_106, li_107, li_108, li_109, li_110, li_111, li_112, li_113, li_114, li_115, li_116, li_117, li_118, li_119, li_120, li_128, li_142, li_255, li_320, li_781, li_852, li_999, li_1000, li_2000, li_3000, li_9999, li_12345, li_65536, li_1000000, li_252645135, li_858993459, li_1103515245, li_1431655765]
    exact hr
  | m + 1, k, f + 1, l, c, t, h0, hk, hf, hr, hl => by
    rw [fX11_ring_L27]
    simp (disch := omega) only [gd_t, so_some, so_bind, so_gd, so_none, Option.bind_some, iI_add, iI_sub, iI_mul, iI_neg, iI_clamp, iI_nat, vin_i, iI_le, iI_lt, iI_eq, mn_i, mx_i, if_true, if_false, if_pos, if_neg, li_0, li_1, li_2, li_3, li_4, li_5, li_6, li_7, li_8, li_9, li_10, li_11, li_12, li_14, li_15, li_16, li_20, li_21, li_24, li_28, li_30, li_31, li_40, li_41, li_42, li_43, li_44, li_45, li_47, li_48, li_49, li_57, li_59, li_60, li_61, li_62, li_63, li_70, li_71, li_76, li_80, li_96, li_97, li_98, li_99, li_100, li_101, li_102, li_103, li_104, li_105, li_106, li_107, li_108, li_109, li_110, li_111, li_112, li_113, li_114, li_115, li_116, li_117, li_118, li_119, li_120, li_128, li_142, li_255, li_320, li_781, li_852, li_999, li_1000, li_2000, li_3000, li_9999, li_12345, li_65536, li_1000000, li_252645135, li_858993459, li_1103515245, li_1431655765, hb.at]
    refine so_mono (c_more hr (by omega) _) ?_
    intro o ho
    exact c_ring_L l7 hb m (k + 1) f _ _ _ (by omega) (by omega) (by omega) ho (by rw [List.length_append]; show l.length + 1 + m ≤ 7; omega)
theorem m_ring_L {L : Int} (l7 : L ≤ 7) {b : Int → Int} {a : Nat → Int32} (hb : Arr L a b) : ∀ (m : Nat) (k : Int) (f : Nat) (l : List Int32) (c : Int32) (t : Nat → Int32), 0 ≤ k → k + m = L → m < f → Rw l c t → l.length + m ≤ 7 →
    So (fX12_ring_L24 (iI L) a f (iI k) c t) (fun o => Rw (tlL b m k l) o.1 o.2)
  | 0, k, f + 1, l, c, t, h0, hk, hf, hr, hl => by
    rw [fX12_ring_L24]
    simp (disch := omega) only [gd_t, so_some, so_bind, so_gd, so_none, Option.bind_some, iI_add, iI_sub, iI_mul, iI_neg, iI_clamp, iI_nat, vin_i, iI_le, iI_lt, iI_eq, mn_i, mx_i, if_true, if_false, if_pos, if_neg, li_0, li_1, li_2, li_3, li_4, li_5, li_6, li_7, li_8, li_9, li_10, li_11, li_12, li_14, li_15, li_16, li_20, li_21, li_24, li_28, li_30, li_31, li_40, li_41, li_42, li_43, li_44, li_45, li_47, li_48, li_49, li_57, li_59, li_60, li_61, li_62, li_63, li_70, li_71, li_76, li_80, li_96, li_97, li_98, li_99, li_100, li_101, li_102, li_103, li_104, li_105, li_106, li_107, li_108, li_109, li_110, li_111, li_112, li_113, li_114, li_115, li_116, li_117, li_118, li_119, li_120, li_128, li_142, li_255, li_320, li_781, li_852, li_999, li_1000, li_2000, li_3000, li_9999, li_12345, li_65536, li_1000000, li_252645135, li_858993459, li_1103515245, li_1431655765]
    exact hr
  | m + 1, k, f + 1, l, c, t, h0, hk, hf, hr, hl => by
    rw [fX12_ring_L24]
    simp (disch := omega) only [gd_t, so_some, so_bind, so_gd, so_none, Option.bind_some, iI_add, iI_sub, iI_mul, iI_neg, iI_clamp, iI_nat, vin_i, iI_le, iI_lt, iI_eq, mn_i, mx_i, if_true, if_false, if_pos, if_neg, li_0, li_1, li_2, li_3, li_4, li_5, li_6, li_7, li_8, li_9, li_10, li_11, li_12, li_14, li_15, li_16, li_20, li_21, li_24, li_28, li_30, li_31, li_40, li_41, li_42, li_43, li_44, li_45, li_47, li_48, li_49, li_57, li_59, li_60, li_61, li_62, li_63, li_70, li_71, li_76, li_80, li_96, li_97, li_98, li_99, li_100, li_101, li_102, li_103, li_104, li_105, li_106, li_107, li_108, li_109, li_110, li_111, li_112, li_113, li_114, li_115, li_116, li_117, li_118, li_119, li_120, li_128, li_142, li_255, li_320, li_781, li_852, li_999, li_1000, li_2000, li_3000, li_9999, li_12345, li_65536, li_1000000, li_252645135, li_858993459, li_1103515245, li_1431655765, hb.at]
    refine so_mono (m_more hr (by omega) _) ?_
    intro o ho
    exact m_ring_L l7 hb m (k + 1) f _ _ _ (by omega) (by omega) (by omega) ho (by rw [List.length_append]; show l.length + 1 + m ≤ 7; omega)
theorem s_ring {n : Int} {σ : CS} {τ : MS} (h : R n σ τ) (hn : n < 1000) : Ok n (x_ring σ) (y_ring τ) := by
  obtain ⟨n0, g, c, m, G⟩ := h
  obtain ⟨c1, c2, c3, c4, c5, c6, c7, c8, c9⟩ := c
  obtain ⟨m1, m2, m3, m4, m5, m6, m7, m8, m9⟩ := m
  have e := G.1.1
  have hS := G.2.2.1
  have a7 := hS.2.2
  unfold Ok x_ring y_ring fX11_ring fX12_ring
  rw [m1.1]
  simp only [so_bind]
  refine so_mono (rg_both e.1 e.2 hS.1 hS.2.1 c3.2.2.2 m3 (σ.1 21) (σ.1 20) (σ.2.1 22) (σ.2.1 21) (τ.1 7) (τ.2.1 15) (τ.2.1 4)) ?_
  rintro o ⟨p, hp, ho⟩
  simp only [hp, so_some]
  rcases ho with ⟨-, o1, p1⟩ | ⟨L, b, C, o1, o2, o3, o4, p1, p2, p3⟩
  · rw [o1, p1]
    simp (disch := omega) only [gd_t, so_some, so_bind, so_gd, so_none, Option.bind_some, iI_add, iI_sub, iI_mul, iI_neg, iI_clamp, iI_nat, vin_i, iI_le, iI_lt, iI_eq, mn_i, mx_i, if_true, if_false, if_pos, if_neg, li_0, li_1, li_2, li_3, li_4, li_5, li_6, li_7, li_8, li_9, li_10, li_11, li_12, li_14, li_15, li_16, li_20, li_21, li_24, li_28, li_30, li_31, li_40, li_41, li_42, li_43, li_44, li_45, li_47, li_48, li_49, li_57, li_59, li_60, li_61, li_62, li_63, li_70, li_71, li_76, li_80, li_96, li_97, li_98, li_99, li_100, li_101, li_102, li_103, li_104, li_105, li_106, li_107, li_108, li_109, li_110, li_111, li_112, li_113, li_114, li_115, li_116, li_117, li_118, li_119, li_120, li_128, li_142, li_255, li_320, li_781, li_852, li_999, li_1000, li_2000, li_3000, li_9999, li_12345, li_65536, li_1000000, li_252645135, li_858993459, li_1103515245, li_1431655765]
    exact ⟨(by first | rfl | trivial), R.same ⟨n0.1, hn⟩ G ⟨c1, c2, c3, c4, c5, c6, c7, c8, c9⟩ ⟨m1, m2, m3, m4, m5, m6, m7, m8, m9⟩⟩
  · have lb := lst_b hS.1 C
    have k7 := C.2.1.1
    rw [o1, o2, o3, p1, p2]
    simp (disch := omega) only [gd_t, so_some, so_bind, so_gd, so_none, Option.bind_some, iI_add, iI_sub, iI_mul, iI_neg, iI_clamp, iI_nat, vin_i, iI_le, iI_lt, iI_eq, mn_i, mx_i, if_true, if_false, if_pos, if_neg, li_0, li_1, li_2, li_3, li_4, li_5, li_6, li_7, li_8, li_9, li_10, li_11, li_12, li_14, li_15, li_16, li_20, li_21, li_24, li_28, li_30, li_31, li_40, li_41, li_42, li_43, li_44, li_45, li_47, li_48, li_49, li_57, li_59, li_60, li_61, li_62, li_63, li_70, li_71, li_76, li_80, li_96, li_97, li_98, li_99, li_100, li_101, li_102, li_103, li_104, li_105, li_106, li_107, li_108, li_109, li_110, li_111, li_112, li_113, li_114, li_115, li_116, li_117, li_118, li_119, li_120, li_128, li_142, li_255, li_320, li_781, li_852, li_999, li_1000, li_2000, li_3000, li_9999, li_12345, li_65536, li_1000000, li_252645135, li_858993459, li_1103515245, li_1431655765]
    refine so_mono (c_ring_L k7.2 o4 L.toNat 0 FU [] _ _ (by omega) (by omega) (show _ < 4000 by omega) (Rw.nil _) (by show 0 + _ ≤ 7; omega)) ?_
    intro t ht
    refine so_mono (c_more ht (by rw [tlL_len]; show 0 + _ < 8; omega) _) ?_
    intro w hr
    refine so_mono (m_ring_L k7.2 p3 L.toNat 0 FU [] _ _ (by omega) (by omega) (show _ < 4000 by omega) (Rw.nil _) (by show 0 + _ ≤ 7; omega)) ?_
    intro u hu
    refine so_mono (m_more hu (by rw [tlL_len]; show 0 + _ < 16; omega) _) ?_
    intro s hs
    refine ⟨(by first | rfl | trivial), R.tol ⟨n0.1, hn⟩ G hr ?_ ⟨c1, c2, c3, c4, c5, c6, hr, c8, c9⟩ ⟨m1, m2, m3, m4, m5, m6, hs, m8, m9⟩⟩
    rw [List.length_append, tlL_len]
    show 0 + _ + 1 ≤ 8
    omega
theorem s_cancel {n : Int} {σ : CS} {τ : MS} (h : R n σ τ) (hn : n < 1000) : Ok n (x_cancel σ) (y_cancel τ) := by
  obtain ⟨n0, g, c, m, G⟩ := h
  obtain ⟨c1, c2, c3, c4, c5, c6, c7, c8, c9⟩ := c
  obtain ⟨m1, m2, m3, m4, m5, m6, m7, m8, m9⟩ := m
  have e := G.1.1
  have hS := G.2.2.1
  have a7 := hS.2.2
  unfold Ok x_cancel y_cancel fX11_cancel fX12_cancel
  rw [m1.1]
  simp only [so_bind]
  refine so_mono (rg_both e.1 e.2 hS.1 hS.2.1 c3.2.2.2 m3 (σ.1 21) (σ.1 20) (σ.2.1 22) (σ.2.1 21) (τ.1 7) (τ.2.1 15) (τ.2.1 4)) ?_
  rintro o ⟨p, hp, ho⟩
  simp only [hp, so_some]
  rcases ho with ⟨-, o1, p1⟩ | ⟨L, b, C, o1, o2, o3, o4, p1, p2, p3⟩
  · rw [o1, p1]
    simp (disch := omega) only [gd_t, so_some, so_bind, so_gd, so_none, Option.bind_some, iI_add, iI_sub, iI_mul, iI_neg, iI_clamp, iI_nat, vin_i, iI_le, iI_lt, iI_eq, mn_i, mx_i, if_true, if_false, if_pos, if_neg, li_0, li_1, li_2, li_3, li_4, li_5, li_6, li_7, li_8, li_9, li_10, li_11, li_12, li_14, li_15, li_16, li_20, li_21, li_24, li_28, li_30, li_31, li_40, li_41, li_42, li_43, li_44, li_45, li_47, li_48, li_49, li_57, li_59, li_60, li_61, li_62, li_63, li_70, li_71, li_76, li_80, li_96, li_97, li_98, li_99, li_100, li_101, li_102, li_103, li_104, li_105, li_106, li_107, li_108, li_109, li_110, li_111, li_112, li_113, li_114, li_115, li_116, li_117, li_118, li_119, li_120, li_128, li_142, li_255, li_320, li_781, li_852, li_999, li_1000, li_2000, li_3000, li_9999, li_12345, li_65536, li_1000000, li_252645135, li_858993459, li_1103515245, li_1431655765]
    exact ⟨(by first | rfl | trivial), R.same ⟨n0.1, hn⟩ G ⟨c1, c2, c3, c4, c5, c6, c7, c8, c9⟩ ⟨m1, m2, m3, m4, m5, m6, m7, m8, m9⟩⟩
  · have lb := lst_b hS.1 C
    have k7 := C.2.1.1
    have ck := clA_ok e.2 (hS.mono (show n ≤ n + 1 by omega)) C
    have nn : 0 ≤ lst g.2.2.1 b L * L ∧ lst g.2.2.1 b L * L ≤ 9999 * 7 := by
      refine ⟨Int.mul_nonneg (by omega) (by omega), Int.mul_le_mul (by omega) k7.2 (by omega) (by omega)⟩
    rw [o1, o2, o3, p1, p2]
    simp (disch := omega) only [gd_t, so_some, so_bind, so_gd, so_none, Option.bind_some, iI_add, iI_sub, iI_mul, iI_neg, iI_clamp, iI_nat, vin_i, iI_le, iI_lt, iI_eq, mn_i, mx_i, if_true, if_false, if_pos, if_neg, li_0, li_1, li_2, li_3, li_4, li_5, li_6, li_7, li_8, li_9, li_10, li_11, li_12, li_14, li_15, li_16, li_20, li_21, li_24, li_28, li_30, li_31, li_40, li_41, li_42, li_43, li_44, li_45, li_47, li_48, li_49, li_57, li_59, li_60, li_61, li_62, li_63, li_70, li_71, li_76, li_80, li_96, li_97, li_98, li_99, li_100, li_101, li_102, li_103, li_104, li_105, li_106, li_107, li_108, li_109, li_110, li_111, li_112, li_113, li_114, li_115, li_116, li_117, li_118, li_119, li_120, li_128, li_142, li_255, li_320, li_781, li_852, li_999, li_1000, li_2000, li_3000, li_9999, li_12345, li_65536, li_1000000, li_252645135, li_858993459, li_1103515245, li_1431655765]
    refine so_mono (c_startCall c3 _ _ _ _ _ _ _ _ _) ?_
    rintro w ⟨-, hb⟩
    refine so_mono (c_clearIn C o4 c3.2.2.2) ?_
    rintro x ⟨x1, x2⟩
    rw [x1]
    refine so_mono (c_rem_t c5 hb nn.1 (by omega)) ?_
    rintro r ⟨r1, r2⟩
    refine so_mono (m_remember m5 m3) ?_
    intro t ht
    refine so_mono (m_clearRing C p3 m3) ?_
    rintro y ⟨y1, y2⟩
    exact ⟨by rw [r1, y1], R.push ⟨n0.1, hn⟩ G c5.2.1 ck.1 g.2.2.2.2.2.2.2.2.1 G.2.2.2.2.2.2.1 ⟨c1, c2, stc_debt c3 x2 (fun i hi => ck.2.1 i hi), c4, r2, c6, c7, c8, c9⟩ ⟨m1, m2, y2, m4, ht, m6, m7, m8, m9⟩⟩
/-! rings -/
def np (A : Int → Int) : Int := sI (fun i => if A (21 + i) ≤ 0 then 0 else 1) 49 0
theorem sI_le {f g : Int → Int} : ∀ (m : Nat) (k : Int), (∀ j, k ≤ j → j < k + m → f j ≤ g j) → sI f m k ≤ sI g m k
  | 0, _, _ => Int.le_refl 0
  | m + 1, k, h => by
    have := sI_le m (k + 1) (fun j j0 j1 => h j (by omega) (by omega))
    have := h k (by omega) (by omega)
    rw [sI, sI]
    omega
theorem sI_lt {f g : Int → Int} {i : Int} : ∀ (m : Nat) (k : Int), (∀ j, k ≤ j → j < k + m → f j ≤ g j) → k ≤ i → i < k + m → f i < g i → sI f m k < sI g m k
  | 0, k, h, i0, i1, hi => by omega
  | m + 1, k, h, i0, i1, hi => by
    have a := h k (by omega) (by omega)
    rw [sI, sI]
    by_cases q : i = k
    · have := sI_le (f := f) (g := g) m (k + 1) (fun j j0 j1 => h j (by omega) (by omega))
      rw [q] at hi
      omega
    · have := sI_lt m (k + 1) (fun j j0 j1 => h j (by omega) (by omega)) (by omega) (by omega) hi
      omega
theorem np_cl {h n : Int} (h7 : h ≤ 7) {A b : Int → Int} {k : Int} (H : SG h n A) (C : Cyc A b k) : np (clA A b k) < np A := by
  obtain ⟨-, -, -, ck, j, j0, j1, j2, j3⟩ := clA_ok h7 H C
  obtain ⟨x1, x2, x3⟩ := C.nb j0 j1
  refine sI_lt (i := b j * 7 + nxt b k j) 49 0 (fun i i0 i1 => ?_) (by omega) (by omega) ?_
  · have := ck (21 + i)
    by_cases q : clA A b k (21 + i) ≤ 0
    · rw [if_pos q]; split <;> omega
    · rw [if_neg q, if_neg (by omega)]; omega
  · have e : 21 + (b j * 7 + nxt b k j) = rce b k j := rfl
    rw [e, j3, if_pos (by omega), if_neg (by omega)]
    omega
theorem np_0 {A b : Int → Int} {k : Int} (C : Cyc A b k) : 0 < np A := by
  have k2 := C.1
  obtain ⟨x1, x2, x3⟩ := C.nb (i := 0) (by omega) (by omega)
  have := sI_lt (f := fun _ => 0) (g := fun i => if A (21 + i) ≤ 0 then 0 else 1) (i := b 0 * 7 + nxt b k 0) 49 0 (fun i i0 i1 => by split <;> omega) (by omega) (by omega) (by
    have e : 21 + (b 0 * 7 + nxt b k 0) = rce b k 0 := rfl
    rw [e, if_neg (by omega)]
    omega)
  rw [sI_0 (fun _ _ _ => rfl)] at this
  exact this
theorem np_49 (A : Int → Int) : 0 ≤ np A ∧ np A ≤ 49 := by
  have := sI_b (f := fun i => if A (21 + i) ≤ 0 then 0 else 1) (c := 1) (m := 49) (k := 0) (fun j _ _ => by split <;> omega)
  unfold np
  omega
theorem s_rings_L {h n : Int} (h0 : 0 ≤ h) (h7 : h ≤ 7) {B : Int → Int} : ∀ (m : Nat) (k : Int) (f g : Nat) (sum : Int32) (A : Int → Int) (debt now : Nat → Int32) (size least : Int32) (steps members : Nat → Int32) (L0 : Int32) (ring best : Nat → Int32), 0 ≤ k → k + m = 49 → m < f → m < g → np A ≤ m → SG h n A → (∀ i, i < 21 ∨ 70 ≤ i → A i = B i) → Arr 49 debt (fun i => A (21 + i)) → Arr 71 now A →
    So (fX11_rings_L8 f (iI k) sum debt size least steps members) (fun o => So (Option.bind (fX12_findRing (iI h) L0 ring now best) (fun q => fX12_rings_L26 (iI h) g (iI k) sum q.1 q.2.1 q.2.2.1 now q.2.2.2)) (fun p => ∃ (K : Int) (A' : Int → Int), k ≤ K ∧ K ≤ 49 ∧ ((∀ e c, ¬ Cyc A e c) → K = k) ∧ ((∃ e c, Cyc A e c) → k < K) ∧ o.1 = iI K ∧ p.1 = iI K ∧ o.2.1 = p.2.1 ∧ SG h n A' ∧ (∀ i, i < 21 ∨ 70 ≤ i → A' i = B i) ∧ (K = k → A' = A) ∧ Arr 49 o.2.2.1 (fun i => A' (21 + i)) ∧ Arr 71 p.2.2.2.2.1 A'))
  | 0, k, f + 1, g + 1, sum, A, debt, now, size, least, steps, members, L0, ring, best, k0, hk, hf, hg, hp, hS, hB, hd, hn => by
    have noC : ∀ e c, ¬ Cyc A e c := fun e c C => by have := np_0 C; omega
    rw [fX11_rings_L8]
    simp (disch := omega) only [gd_t, so_some, so_bind, so_gd, so_none, Option.bind_some, iI_add, iI_sub, iI_mul, iI_neg, iI_clamp, iI_nat, vin_i, iI_le, iI_lt, iI_eq, mn_i, mx_i, if_true, if_false, if_pos, if_neg, li_0, li_1, li_2, li_3, li_4, li_5, li_6, li_7, li_8, li_9, li_10, li_11, li_12, li_14, li_15, li_16, li_20, li_21, li_24, li_28, li_30, li_31, li_40, li_41, li_42, li_43, li_44, li_45, li_47, li_48, li_49, li_57, li_59, li_60, li_61, li_62, li_63, li_70, li_71, li_76, li_80, li_96, li_97, li_98, li_99, li_100, li_101, li_102, li_103, li_104, li_105, li_106, li_107, li_108, li_109, li_110, li_111, li_112, li_113, li_114, li_115, li_116, li_117, li_118, li_119, li_120, li_128, li_142, li_255, li_320, li_781, li_852, li_999, li_1000, li_2000, li_3000, li_9999, li_12345, li_65536, li_1000000, li_252645135, li_858993459, li_1103515245, li_1431655765]
    refine so_mono (m_findRing h0 h7 hS.1 hS.2.1 hn L0 ring best) ?_
    rintro p (⟨-, p1⟩ | ⟨L, b, C, _⟩)
    · rw [p1, fX12_rings_L26]
      simp (disch := omega) only [gd_t, so_some, so_bind, so_gd, so_none, Option.bind_some, iI_add, iI_sub, iI_mul, iI_neg, iI_clamp, iI_nat, vin_i, iI_le, iI_lt, iI_eq, mn_i, mx_i, if_true, if_false, if_pos, if_neg, li_0, li_1, li_2, li_3, li_4, li_5, li_6, li_7, li_8, li_9, li_10, li_11, li_12, li_14, li_15, li_16, li_20, li_21, li_24, li_28, li_30, li_31, li_40, li_41, li_42, li_43, li_44, li_45, li_47, li_48, li_49, li_57, li_59, li_60, li_61, li_62, li_63, li_70, li_71, li_76, li_80, li_96, li_97, li_98, li_99, li_100, li_101, li_102, li_103, li_104, li_105, li_106, li_107, li_108, li_109, li_110, li_111, li_112, li_113, li_114, li_115, li_116, li_117, li_118, li_119, li_120, li_128, li_142, li_255, li_320, li_781, li_852, li_999, li_1000, li_2000, li_3000, li_9999, li_12345, li_65536, li_1000000, li_252645135, li_858993459, li_1103515245, li_1431655765]
      exact ⟨k, A, by omega, by omega, fun _ => rfl, fun ⟨e, c, C⟩ => absurd C (noC e c), (by first | rfl | trivial), (by first | rfl | trivial), (by first | rfl | trivial), hS, hB, fun _ => rfl, hd, hn⟩
    · exact absurd C (noC b L)
  | m + 1, k, f + 1, g + 1, sum, A, debt, now, size, least, steps, members, L0, ring, best, k0, hk, hf, hg, hp, hS, hB, hd, hn => by
    rw [fX11_rings_L8]
    simp (disch := omega) only [gd_t, so_some, so_bind, so_gd, so_none, Option.bind_some, iI_add, iI_sub, iI_mul, iI_neg, iI_clamp, iI_nat, vin_i, iI_le, iI_lt, iI_eq, mn_i, mx_i, if_true, if_false, if_pos, if_neg, li_0, li_1, li_2, li_3, li_4, li_5, li_6, li_7, li_8, li_9, li_10, li_11, li_12, li_14, li_15, li_16, li_20, li_21, li_24, li_28, li_30, li_31, li_40, li_41, li_42, li_43, li_44, li_45, li_47, li_48, li_49, li_57, li_59, li_60, li_61, li_62, li_63, li_70, li_71, li_76, li_80, li_96, li_97, li_98, li_99, li_100, li_101, li_102, li_103, li_104, li_105, li_106, li_107, li_108, li_109, li_110, li_111, li_112, li_113, li_114, li_115, li_116, li_117, li_118, li_119, li_120, li_128, li_142, li_255, li_320, li_781, li_852, li_999, li_1000, li_2000, li_3000, li_9999, li_12345, li_65536, li_1000000, li_252645135, li_858993459, li_1103515245, li_1431655765]
    refine so_mono (rg_both h0 h7 hS.1 hS.2.1 hd hn size least steps members L0 ring best) ?_
    rintro o ⟨p, hp1, ho⟩
    simp only [hp1, so_some]
    rcases ho with ⟨noC, o1, p1⟩ | ⟨L, b, C, o1, o2, o3, o4, p1, p2, p3⟩
    · rw [o1, p1, fX12_rings_L26]
      simp (disch := omega) only [gd_t, so_some, so_bind, so_gd, so_none, Option.bind_some, iI_add, iI_sub, iI_mul, iI_neg, iI_clamp, iI_nat, vin_i, iI_le, iI_lt, iI_eq, mn_i, mx_i, if_true, if_false, if_pos, if_neg, li_0, li_1, li_2, li_3, li_4, li_5, li_6, li_7, li_8, li_9, li_10, li_11, li_12, li_14, li_15, li_16, li_20, li_21, li_24, li_28, li_30, li_31, li_40, li_41, li_42, li_43, li_44, li_45, li_47, li_48, li_49, li_57, li_59, li_60, li_61, li_62, li_63, li_70, li_71, li_76, li_80, li_96, li_97, li_98, li_99, li_100, li_101, li_102, li_103, li_104, li_105, li_106, li_107, li_108, li_109, li_110, li_111, li_112, li_113, li_114, li_115, li_116, li_117, li_118, li_119, li_120, li_128, li_142, li_255, li_320, li_781, li_852, li_999, li_1000, li_2000, li_3000, li_9999, li_12345, li_65536, li_1000000, li_252645135, li_858993459, li_1103515245, li_1431655765]
      exact ⟨k, A, by omega, by omega, fun _ => rfl, fun ⟨e, c, C⟩ => absurd C (noC e c), (by first | rfl | trivial), (by first | rfl | trivial), (by first | rfl | trivial), hS, hB, fun _ => rfl, hd, hn⟩
    · have lb := lst_b hS.1 C
      have ck := clA_ok h7 hS C
      have nc := np_cl h7 hS C
      rw [o1, o2, o3, p1, p2, fX12_rings_L26]
      simp (disch := omega) only [gd_t, so_some, so_bind, so_gd, so_none, Option.bind_some, iI_add, iI_sub, iI_mul, iI_neg, iI_clamp, iI_nat, vin_i, iI_le, iI_lt, iI_eq, mn_i, mx_i, if_true, if_false, if_pos, if_neg, li_0, li_1, li_2, li_3, li_4, li_5, li_6, li_7, li_8, li_9, li_10, li_11, li_12, li_14, li_15, li_16, li_20, li_21, li_24, li_28, li_30, li_31, li_40, li_41, li_42, li_43, li_44, li_45, li_47, li_48, li_49, li_57, li_59, li_60, li_61, li_62, li_63, li_70, li_71, li_76, li_80, li_96, li_97, li_98, li_99, li_100, li_101, li_102, li_103, li_104, li_105, li_106, li_107, li_108, li_109, li_110, li_111, li_112, li_113, li_114, li_115, li_116, li_117, li_118, li_119, li_120, li_128, li_142, li_255, li_320, li_781, li_852, li_999, li_1000, li_2000, li_3000, li_9999, li_12345, li_65536, li_1000000, li_252645135, li_858993459, li_1103515245, li_1431655765]
      refine so_mono (c_clearIn C o4 hd) ?_
      rintro x ⟨x1, x2⟩
      obtain ⟨y, hy, y1, y2⟩ := m_clearRing C p3 hn
      simp only [hy, so_some, so_bind, x1, y1]
      have ih := s_rings_L h0 h7 (B := B) m (k + 1) f g (sum + iI (lst A b L * L)) (clA A b L) x.2 y.2 (iI L) (iI (lst A b L)) o.2.2.2.1 o.2.2.2.2 (iI L) p.2.2.1 p.2.2.2 (by omega) (by omega) (by omega) (by omega) (by omega) ck.1 (fun i hi => by rw [ck.2.1 i hi]; exact hB i hi) x2 y2
      refine so_mono ih ?_
      intro r hr
      rw [so_bind] at hr
      refine so_mono hr ?_
      intro q hq
      refine so_mono hq ?_
      rintro t ⟨K, A', t1, t2, t3, t4, t5, t6, t7, t8, t9, t10, t11, t12⟩
      exact ⟨K, A', by omega, t2, fun z => absurd C (z b L), fun _ => by omega, t5, t6, t7, t8, t9, fun z => by omega, t11, t12⟩
theorem s_rings {n : Int} {σ : CS} {τ : MS} (h : R n σ τ) (hn : n < 1000) : Ok n (x_rings σ) (y_rings τ) := by
  obtain ⟨n0, g, c, m, G⟩ := h
  obtain ⟨c1, c2, c3, c4, c5, c6, c7, c8, c9⟩ := c
  obtain ⟨m1, m2, m3, m4, m5, m6, m7, m8, m9⟩ := m
  have e := G.1.1
  have hS := G.2.2.1
  have a7 := hS.2.2
  unfold Ok x_rings y_rings fX11_rings fX12_rings
  rw [m1.1]
  simp only [so_bind, li_0]
  refine so_mono (c_startCall c3 _ _ _ _ _ _ _ _ _) ?_
  rintro w ⟨-, hb⟩
  have K := s_rings_L e.1 e.2 (B := g.2.2.1) 49 0 FU FU (iI 0) g.2.2.1 (σ.2.1 10) (τ.2.1 12) (σ.1 21) (σ.1 20) (σ.2.1 22) (σ.2.1 21) (τ.1 7) (τ.2.1 15) (τ.2.1 4) (by omega) (by omega) (show _ < 4000 by omega) (show _ < 4000 by omega) (np_49 _).2 (hS.mono (show n ≤ n + 1 by omega)) (fun i _ => rfl) c3.2.2.2 m3
  refine so_mono K ?_
  intro o ho
  obtain ⟨q, hq, hc⟩ := m_findRing e.1 e.2 hS.1 hS.2.1 m3 (τ.1 7) (τ.2.1 15) (τ.2.1 4)
  rw [hq, Option.bind_some] at ho
  simp only [hq, so_some]
  obtain ⟨p, hp, k, A', t1, t2, t3, t4, t5, t6, t7, t8, t9, t10, t11, t12⟩ := ho
  unfold fX11_rings_J54
  simp only [so_bind]
  refine so_mono (c_tell _ _ _) ?_
  intro t hr
  rw [t5]
  rcases hc with ⟨noC, q1⟩ | ⟨L, b, C, -, q1, -, -⟩
  · have k0 := t3 noC
    have eA := t10 k0
    subst k0
    rw [q1] at hp
    rw [q1]
    simp (disch := omega) only [gd_t, so_some, so_bind, so_gd, so_none, Option.bind_some, iI_add, iI_sub, iI_mul, iI_neg, iI_clamp, iI_nat, vin_i, iI_le, iI_lt, iI_eq, mn_i, mx_i, if_true, if_false, if_pos, if_neg, li_0, li_1, li_2, li_3, li_4, li_5, li_6, li_7, li_8, li_9, li_10, li_11, li_12, li_14, li_15, li_16, li_20, li_21, li_24, li_28, li_30, li_31, li_40, li_41, li_42, li_43, li_44, li_45, li_47, li_48, li_49, li_57, li_59, li_60, li_61, li_62, li_63, li_70, li_71, li_76, li_80, li_96, li_97, li_98, li_99, li_100, li_101, li_102, li_103, li_104, li_105, li_106, li_107, li_108, li_109, li_110, li_111, li_112, li_113, li_114, li_115, li_116, li_117, li_118, li_119, li_120, li_128, li_142, li_255, li_320, li_781, li_852, li_999, li_1000, li_2000, li_3000, li_9999, li_12345, li_65536, li_1000000, li_252645135, li_858993459, li_1103515245, li_1431655765, hp]
    refine so_mono (m_tell _ _) ?_
    intro u hs
    rw [← t7] at hs
    rw [eA] at t11 t12
    exact ⟨t6.symm, R.tol ⟨n0.1, hn⟩ G hr (by simp) ⟨c1, c2, ⟨c3.1, c3.2.1, c3.2.2.1, t11⟩, c4, c5, c6, hr, c8, c9⟩ ⟨m1, m2, t12, m4, m5, m6, hs, m8, m9⟩⟩
  · have k0 := t4 ⟨b, L, C⟩
    have lb := lst_b hS.1 C
    rw [q1] at hp
    rw [q1]
    simp (disch := omega) only [gd_t, so_some, so_bind, so_gd, so_none, Option.bind_some, iI_add, iI_sub, iI_mul, iI_neg, iI_clamp, iI_nat, vin_i, iI_le, iI_lt, iI_eq, mn_i, mx_i, if_true, if_false, if_pos, if_neg, li_0, li_1, li_2, li_3, li_4, li_5, li_6, li_7, li_8, li_9, li_10, li_11, li_12, li_14, li_15, li_16, li_20, li_21, li_24, li_28, li_30, li_31, li_40, li_41, li_42, li_43, li_44, li_45, li_47, li_48, li_49, li_57, li_59, li_60, li_61, li_62, li_63, li_70, li_71, li_76, li_80, li_96, li_97, li_98, li_99, li_100, li_101, li_102, li_103, li_104, li_105, li_106, li_107, li_108, li_109, li_110, li_111, li_112, li_113, li_114, li_115, li_116, li_117, li_118, li_119, li_120, li_128, li_142, li_255, li_320, li_781, li_852, li_999, li_1000, li_2000, li_3000, li_9999, li_12345, li_65536, li_1000000, li_252645135, li_858993459, li_1103515245, li_1431655765, hp]
    refine so_mono (c_push c5 hb) ?_
    intro r hr2
    refine so_mono (m_remember m5 m3) ?_
    intro z hz
    refine so_mono (m_tell _ _) ?_
    intro u hs
    rw [← t7] at hs
    exact ⟨t6.symm, R.pul ⟨n0.1, hn⟩ G c5.2.1 t8 hr (by simp) ⟨c1, c2, stc_debt c3 t11 (fun i hi => t9 i hi), c4, hr2, c6, hr, c8, c9⟩ ⟨m1, m2, t12, m4, hz, m6, hs, m8, m9⟩⟩
