theorem s_wt_L26 {h : Int} (h7 : h ≤ 7) {A : Int → Int} (hA : WA A) {debt a : Nat → Int32} (hd : Arr 49 debt (fun i => A (21 + i))) (ha : Arr 71 a A) {b B : Int} (b0 : 0 ≤ b) (b1 : b < 7) (B0 : 0 ≤ B) (B1 : B ≤ 1000) : ∀ (m : Nat) (k : Int) (f : Nat) (v : Int) (t w : Nat → Int32) (W : Int → Int),
    0 ≤ k → k + m = h → m < f → 0 ≤ v → v ≤ 60 → Arr 7 t W → Arr 7 w W → (∀ i, 0 ≤ i → i < 7 → 0 ≤ W i ∧ W i ≤ B + (60 - v)) →
    So (fX11_workThrough_L26 (iI h) debt (iI b) f (iI v) (iI k) t) (fun o => So (fX12_goJune_L36 (iI h) a (iI b) f (iI v) (iI k) w) (fun p => ∃ (v' : Int) (W' : Int → Int), o.1 = iI v' ∧ p.1 = iI v' ∧ 0 ≤ v' ∧ v' ≤ 60 ∧ Arr 7 o.2 W' ∧ Arr 7 p.2 W' ∧ (∀ i, 0 ≤ i → i < 7 → 0 ≤ W' i ∧ W' i ≤ B + (60 - v'))))
  | 0, k, f + 1, v, t, w, W, h0, hk, hf, v0, v1, ht, hw, hW => by
    rw [fX11_workThrough_L26, fX12_goJune_L36]
    simp (disch := omega) only [gd_t, so_some, so_bind, so_gd, so_none, Option.bind_some, iI_add, iI_sub, iI_mul, iI_neg, iI_clamp, iI_nat, vin_i, iI_le, iI_lt, iI_eq, mn_i, mx_i, if_true, if_false, if_pos, if_neg, li_0, li_1, li_2, li_3, li_4, li_5, li_6, li_7, li_8, li_9, li_10, li_11, li_12, li_14, li_15, li_16, li_20, li_21, li_24, li_28, li_30, li_31, li_40, li_41, li_42, li_43, li_44, li_45, li_47, li_48, li_49, li_57, li_59, li_60, li_61, li_62, li_63, li_70, li_71, li_76, li_80, li_96, li_97, li_98, li_99, li_100, li_101, li_102, li_103, li_104, li_105, li_106, li_107, li_108, li_109, li_110, li_111, li_112, li_113, li_114, li_115, li_116, li_117, li_118, li_119, li_120, li_128, li_142, li_255, li_320, li_781, li_852, li_999, li_1000, li_2000, li_3000, li_9999, li_12345, li_65536, li_1000000, li_252645135, li_858993459, li_1103515245, li_1431655765]
    exact ⟨v, W, (by first | rfl | trivial), (by first | rfl | trivial), v0, v1, ht, hw, hW⟩
  | m + 1, k, f + 1, v, t, w, W, h0, hk, hf, v0, v1, ht, hw, hW => by
    have x := hA.2.1 (21 + (b * 7 + k)) (by omega) (by omega)
    have ix : 21 + 7 * b + k = 21 + (b * 7 + k) := by omega
    have y := hW k h0 (by omega)
    rw [fX11_workThrough_L26, fX12_goJune_L36]
    simp (disch := omega) only [gd_t, so_some, so_bind, so_gd, so_none, Option.bind_some, iI_add, iI_sub, iI_mul, iI_neg, iI_clamp, iI_nat, vin_i, iI_le, iI_lt, iI_eq, mn_i, mx_i, if_true, if_false, if_pos, if_neg, li_0, li_1, li_2, li_3, li_4, li_5, li_6, li_7, li_8, li_9, li_10, li_11, li_12, li_14, li_15, li_16, li_20, li_21, li_24, li_28, li_30, li_31, li_40, li_41, li_42, li_43, li_44, li_45, li_47, li_48, li_49, li_57, li_59, li_60, li_61, li_62, li_63, li_70, li_71, li_76, li_80, li_96, li_97, li_98, li_99, li_100, li_101, li_102, li_103, li_104, li_105, li_106, li_107, li_108, li_109, li_110, li_111, li_112, li_113, li_114, li_115, li_116, li_117, li_118, li_119, li_120, li_128, li_142, li_255, li_320, li_781, li_852, li_999, li_1000, li_2000, li_3000, li_9999, li_12345, li_65536, li_1000000, li_252645135, li_858993459, li_1103515245, li_1431655765, ix, hd.at, ha.at, ht.at, hw.at]
    refine s_wt_L26 h7 hA hd ha b0 b1 B0 B1 m (k + 1) f (v - min v (A (21 + (b * 7 + k)))) _ _ (upI W k (W k + min v (A (21 + (b * 7 + k))))) (by omega) (by omega) (by omega) (by omega) (by omega) (ht.up _ h0) (hw.up _ h0) (fun i i0 i1 => ?_)
    have z := hW i i0 i1
    by_cases q : i = k
    · rw [q, upI_s]; omega
    · rw [upI_o _ q]; omega
theorem s_wt_L10 {h : Int} (h0' : 0 ≤ h) (h7 : h ≤ 7) {A : Int → Int} (hA : WA A) {debt a : Nat → Int32} (hd : Arr 49 debt (fun i => A (21 + i))) (ha : Arr 71 a A) {N : Int} (N0 : 0 ≤ N) (N1 : N ≤ 60) : ∀ (m : Nat) (k : Int) (f : Nat) (t w : Nat → Int32) (W : Int → Int),
    0 ≤ k → k + m = h → m < f → Arr 7 t W → Arr 7 w W → (∀ i, 0 ≤ i → i < 7 → 0 ≤ W i ∧ W i ≤ 60 * k) →
    So (fX11_workThrough_L10 (iI h) debt (iI N) f (iI k) t) (fun o => So (fX12_goJune_L23 (iI h) a (iI N) f (iI k) w) (fun p => ∃ W' : Int → Int, Arr 7 o W' ∧ Arr 7 p W' ∧ (∀ i, 0 ≤ i → i < 7 → 0 ≤ W' i ∧ W' i ≤ 420)))
  | 0, k, f + 1, t, w, W, h0, hk, hf, ht, hw, hW => by
    rw [fX11_workThrough_L10, fX12_goJune_L23]
    simp (disch := omega) only [gd_t, so_some, so_bind, so_gd, so_none, Option.bind_some, iI_add, iI_sub, iI_mul, iI_neg, iI_clamp, iI_nat, vin_i, iI_le, iI_lt, iI_eq, mn_i, mx_i, if_true, if_false, if_pos, if_neg, li_0, li_1, li_2, li_3, li_4, li_5, li_6, li_7, li_8, li_9, li_10, li_11, li_12, li_14, li_15, li_16, li_20, li_21, li_24, li_28, li_30, li_31, li_40, li_41, li_42, li_43, li_44, li_45, li_47, li_48, li_49, li_57, li_59, li_60, li_61, li_62, li_63, li_70, li_71, li_76, li_80, li_96, li_97, li_98, li_99, li_100, li_101, li_102, li_103, li_104, li_105, li_106, li_107, li_108, li_109, li_110, li_111, li_112, li_113, li_114, li_115, li_116, li_117, li_118, li_119, li_120, li_128, li_142, li_255, li_320, li_781, li_852, li_999, li_1000, li_2000, li_3000, li_9999, li_12345, li_65536, li_1000000, li_252645135, li_858993459, li_1103515245, li_1431655765]
    exact ⟨W, ht, hw, fun i i0 i1 => by have := hW i i0 i1; omega⟩
  | m + 1, k, f + 1, t, w, W, h0, hk, hf, ht, hw, hW => by
    rw [fX11_workThrough_L10, fX12_goJune_L23]
    simp (disch := omega) only [gd_t, so_some, so_bind, so_gd, so_none, Option.bind_some, iI_add, iI_sub, iI_mul, iI_neg, iI_clamp, iI_nat, vin_i, iI_le, iI_lt, iI_eq, mn_i, mx_i, if_true, if_false, if_pos, if_neg, li_0, li_1, li_2, li_3, li_4, li_5, li_6, li_7, li_8, li_9, li_10, li_11, li_12, li_14, li_15, li_16, li_20, li_21, li_24, li_28, li_30, li_31, li_40, li_41, li_42, li_43, li_44, li_45, li_47, li_48, li_49, li_57, li_59, li_60, li_61, li_62, li_63, li_70, li_71, li_76, li_80, li_96, li_97, li_98, li_99, li_100, li_101, li_102, li_103, li_104, li_105, li_106, li_107, li_108, li_109, li_110, li_111, li_112, li_113, li_114, li_115, li_116, li_117, li_118, li_119, li_120, li_128, li_142, li_255, li_320, li_781, li_852, li_999, li_1000, li_2000, li_3000, li_9999, li_12345, li_65536, li_1000000, li_252645135, li_858993459, li_1103515245, li_1431655765]
    refine so_mono (s_wt_L26 h7 hA hd ha (b := k) (B := 60 * k) h0 (by omega) (by omega) (by omega) h.toNat 0 FU N t w W (by omega) (by omega) (show _ < 4000 by omega) N0 N1 ht hw (fun i i0 i1 => by have := hW i i0 i1; omega)) ?_
    rintro o ⟨p, hp, v', W', o1, p1, v0, v1, o2, p2, hW'⟩
    have y := hW' k h0 (by omega)
    simp (disch := omega) only [gd_t, so_some, so_bind, so_gd, so_none, Option.bind_some, iI_add, iI_sub, iI_mul, iI_neg, iI_clamp, iI_nat, vin_i, iI_le, iI_lt, iI_eq, mn_i, mx_i, if_true, if_false, if_pos, if_neg, li_0, li_1, li_2, li_3, li_4, li_5, li_6, li_7, li_8, li_9, li_10, li_11, li_12, li_14, li_15, li_16, li_20, li_21, li_24, li_28, li_30, li_31, li_40, li_41, li_42, li_43, li_44, li_45, li_47, li_48, li_49, li_57, li_59, li_60, li_61, li_62, li_63, li_70, li_71, li_76, li_80, li_96, li_97, li_98, li_99, li_100, li_101, li_102, li_103, li_104, li_105, li_106, li_107, li_108, li_109, li_110, li_111, li_112, li_113, li_114, li_115, li_116, li_117, li_118, li_119, li_120, li_128, li_142, li_255, li_320, li_781, li_852, li_999, li_1000, li_2000, li_3000, li_9999, li_12345, li_65536, li_1000000, li_252645135, li_858993459, li_1103515245, li_1431655765, hp, o1, p1, o2.at, p2.at]
    refine s_wt_L10 h0' h7 hA hd ha N0 N1 m (k + 1) f _ _ (upI W' k (W' k + v')) (by omega) (by omega) (by omega) (o2.up _ h0) (p2.up _ h0) (fun i i0 i1 => ?_)
    have z := hW' i i0 i1
    by_cases q : i = k
    · rw [q, upI_s]; omega
    · rw [upI_o _ q]; omega
theorem m_goJune_L2 : ∀ (m : Nat) (k : Int) (f : Nat) (a : Nat → Int32) (A : Int → Int), 0 ≤ k → k + m = 7 → m < f → Arr 7 a A →
    So (fX12_goJune_L2 f (iI k) a) (fun o => Arr 7 o (fun i => if k ≤ i then 0 else A i))
  | 0, k, f + 1, a, A, h0, hk, hf, ha => by
    rw [fX12_goJune_L2]
    simp (disch := omega) only [gd_t, so_some, so_bind, so_gd, so_none, Option.bind_some, iI_add, iI_sub, iI_mul, iI_neg, iI_clamp, iI_nat, vin_i, iI_le, iI_lt, iI_eq, mn_i, mx_i, if_true, if_false, if_pos, if_neg, li_0, li_1, li_2, li_3, li_4, li_5, li_6, li_7, li_8, li_9, li_10, li_11, li_12, li_14, li_15, li_16, li_20, li_21, li_24, li_28, li_30, li_31, li_40, li_41, li_42, li_43, li_44, li_45, li_47, li_48, li_49, li_57, li_59, li_60, li_61, li_62, li_63, li_70, li_71, li_76, li_80, li_96, li_97, li_98, li_99, li_100, li_101, li_102, li_103, li_104, li_105, li_106, li_107, li_108, li_109, li_110, li_111, li_112, li_113, li_114, li_115, li_116, li_117, li_118, li_119, li_120, li_128, li_142, li_255, li_320, li_781, li_852, li_999, li_1000, li_2000, li_3000, li_9999, li_12345, li_65536, li_1000000, li_252645135, li_858993459, li_1103515245, li_1431655765]
    exact ha.congr (fun x h0 h1 => by first | rw [if_neg (by omega)] | rfl)
  | m + 1, k, f + 1, a, A, h0, hk, hf, ha => by
    rw [fX12_goJune_L2]
    simp (disch := omega) only [gd_t, so_some, so_bind, so_gd, so_none, Option.bind_some, iI_add, iI_sub, iI_mul, iI_neg, iI_clamp, iI_nat, vin_i, iI_le, iI_lt, iI_eq, mn_i, mx_i, if_true, if_false, if_pos, if_neg, li_0, li_1, li_2, li_3, li_4, li_5, li_6, li_7, li_8, li_9, li_10, li_11, li_12, li_14, li_15, li_16, li_20, li_21, li_24, li_28, li_30, li_31, li_40, li_41, li_42, li_43, li_44, li_45, li_47, li_48, li_49, li_57, li_59, li_60, li_61, li_62, li_63, li_70, li_71, li_76, li_80, li_96, li_97, li_98, li_99, li_100, li_101, li_102, li_103, li_104, li_105, li_106, li_107, li_108, li_109, li_110, li_111, li_112, li_113, li_114, li_115, li_116, li_117, li_118, li_119, li_120, li_128, li_142, li_255, li_320, li_781, li_852, li_999, li_1000, li_2000, li_3000, li_9999, li_12345, li_65536, li_1000000, li_252645135, li_858993459, li_1103515245, li_1431655765]
    refine so_mono (m_goJune_L2 m (k + 1) f _ _ (by omega) (by omega) (by omega) (ha.up 0 h0)) ?_
    intro o ho
    refine ho.congr (fun x h0 h1 => ?_)
    by_cases hx : x = k
    · subst hx
      rw [if_neg (by omega), if_pos (by omega), upI_s]
    · by_cases h2 : k + 1 ≤ x
      · rw [if_pos h2, if_pos (by omega)]
      · rw [if_neg h2, if_neg (by omega), upI_o A hx]
theorem s_work0 {h : Int} (h0 : 0 ≤ h) (h7 : h ≤ 7) {A : Int → Int} (hA : WA A) {debt a : Nat → Int32} (hd : Arr 49 debt (fun i => A (21 + i))) (ha : Arr 71 a A) {N : Int} (N0 : 0 ≤ N) (N1 : N ≤ 60) (t w : Nat → Int32) :
    So (fX11_workThrough t (iI h) debt (iI N)) (fun o => So (fX12_goJune (iI h) w a (iI N)) (fun p => ∃ W' : Int → Int, Arr 7 o W' ∧ Arr 7 p W' ∧ (∀ i, 0 ≤ i → i < 7 → 0 ≤ W' i ∧ W' i ≤ 420))) := by
  obtain ⟨b, hb, hb2⟩ := m_goJune_L2 7 0 FU w _ (by omega) (by omega) (show _ < 4000 by omega) (arr_any 7 w)
  unfold fX11_workThrough fX12_goJune
  simp only [so_bind, li_0, hb, so_some]
  refine so_mono (t_fill (n := 7) (by omega) 0 t) ?_
  intro o ho
  refine so_mono (s_wt_L10 h0 h7 hA hd ha N0 N1 h.toNat 0 FU o b (fun _ => 0) (by omega) (by omega) (show _ < 4000 by omega) ho (hb2.congr (fun x x0 x1 => if_pos x0)) (fun i i0 i1 => by omega)) ?_
  intro p hp
  exact hp
theorem s_hay_L {h : Int} (h7 : h ≤ 7) {Ha W : Int → Int} (hH : ∀ i, 0 ≤ i → i < h → 0 ≤ Ha i ∧ Ha i ≤ 30) (hW : ∀ i, 0 ≤ i → i < 7 → 0 ≤ W i ∧ W i ≤ 420) {hC hM t w : Nat → Int32} (kC : Arr h hC Ha) (kM : Arr h hM Ha) (kt : Arr 7 t W) (kw : Arr 7 w W) : ∀ (m : Nat) (k : Int) (f : Nat) (x : Int32) (s : Int), 0 ≤ k → k + m = h → m < f →
    So (fX11_hay_L24 (iI h) hC t f x (iI s) (iI k)) (fun o => fX12_hay_L28 (iI h) hM w f x (iI k) = some o.1 ∧ fX12_wanting_L9 (iI h) hM w f (iI s) (iI k) = some o.2)
  | 0, k, f + 1, x, s, h0, hk, hf => by
    rw [fX11_hay_L24, fX12_hay_L28, fX12_wanting_L9]
    simp (disch := omega) only [gd_t, so_some, so_bind, so_gd, so_none, Option.bind_some, iI_add, iI_sub, iI_mul, iI_neg, iI_clamp, iI_nat, vin_i, iI_le, iI_lt, iI_eq, mn_i, mx_i, if_true, if_false, if_pos, if_neg, li_0, li_1, li_2, li_3, li_4, li_5, li_6, li_7, li_8, li_9, li_10, li_11, li_12, li_14, li_15, li_16, li_20, li_21, li_24, li_28, li_30, li_31, li_40, li_41, li_42, li_43, li_44, li_45, li_47, li_48, li_49, li_57, li_59, li_60, li_61, li_62, li_63, li_70, li_71, li_76, li_80, li_96, li_97, li_98, li_99, li_100, li_101, li_102, li_103, li_104, li_105, li_106, li_107, li_108, li_109, li_110, li_111, li_112, li_113, li_114, li_115, li_116, li_117, li_118, li_119, li_120, li_128, li_142, li_255, li_320, li_781, li_852, li_999, li_1000, li_2000, li_3000, li_9999, li_12345, li_65536, li_1000000, li_252645135, li_858993459, li_1103515245, li_1431655765]
    exact ⟨(by first | rfl | trivial), (by first | rfl | trivial)⟩
  | m + 1, k, f + 1, x, s, h0, hk, hf => by
    have a := hH k h0 (by omega)
    have b := hW k h0 (by omega)
    rw [fX11_hay_L24, fX12_hay_L28, fX12_wanting_L9]
    by_cases q : W k < Ha k
    · simp (disch := omega) only [gd_t, so_some, so_bind, so_gd, so_none, Option.bind_some, iI_add, iI_sub, iI_mul, iI_neg, iI_clamp, iI_nat, vin_i, iI_le, iI_lt, iI_eq, mn_i, mx_i, if_true, if_false, if_pos, if_neg, li_0, li_1, li_2, li_3, li_4, li_5, li_6, li_7, li_8, li_9, li_10, li_11, li_12, li_14, li_15, li_16, li_20, li_21, li_24, li_28, li_30, li_31, li_40, li_41, li_42, li_43, li_44, li_45, li_47, li_48, li_49, li_57, li_59, li_60, li_61, li_62, li_63, li_70, li_71, li_76, li_80, li_96, li_97, li_98, li_99, li_100, li_101, li_102, li_103, li_104, li_105, li_106, li_107, li_108, li_109, li_110, li_111, li_112, li_113, li_114, li_115, li_116, li_117, li_118, li_119, li_120, li_128, li_142, li_255, li_320, li_781, li_852, li_999, li_1000, li_2000, li_3000, li_9999, li_12345, li_65536, li_1000000, li_252645135, li_858993459, li_1103515245, li_1431655765, kC.at, kM.at, kt.at, kw.at]
      have ih := s_hay_L h7 hH hW kC kM kt kw m (k + 1) f x (s + (Ha k - W k)) (by omega) (by omega) (by omega)
      rw [show max 0 (Ha k - W k) = Ha k - W k by omega, show x ||| iI 0 = x from Int32.or_zero]
      exact ih
    · simp (disch := omega) only [gd_t, so_some, so_bind, so_gd, so_none, Option.bind_some, iI_add, iI_sub, iI_mul, iI_neg, iI_clamp, iI_nat, vin_i, iI_le, iI_lt, iI_eq, mn_i, mx_i, if_true, if_false, if_pos, if_neg, li_0, li_1, li_2, li_3, li_4, li_5, li_6, li_7, li_8, li_9, li_10, li_11, li_12, li_14, li_15, li_16, li_20, li_21, li_24, li_28, li_30, li_31, li_40, li_41, li_42, li_43, li_44, li_45, li_47, li_48, li_49, li_57, li_59, li_60, li_61, li_62, li_63, li_70, li_71, li_76, li_80, li_96, li_97, li_98, li_99, li_100, li_101, li_102, li_103, li_104, li_105, li_106, li_107, li_108, li_109, li_110, li_111, li_112, li_113, li_114, li_115, li_116, li_117, li_118, li_119, li_120, li_128, li_142, li_255, li_320, li_781, li_852, li_999, li_1000, li_2000, li_3000, li_9999, li_12345, li_65536, li_1000000, li_252645135, li_858993459, li_1103515245, li_1431655765, kC.at, kM.at, kt.at, kw.at]
      have ih := s_hay_L h7 hH hW kC kM kt kw m (k + 1) f (x ||| (iI 1 <<< (iI k &&& iI 31))) s (by omega) (by omega) (by omega)
      rw [show max 0 (Ha k - W k) = 0 by omega, Int.add_zero]
      exact ih
theorem s_hay {n : Int} {σ : CS} {τ : MS} (h : R n σ τ) (hn : n < 1000) (p1 : Int32) : Ok n (x_hay σ p1) (y_hay τ p1) := by
  obtain ⟨n0, g, c, m, G⟩ := h
  obtain ⟨P, rfl, b0, b1⟩ := iI_of p1
  obtain ⟨c1, c2, c3, c4, c5, c6, c7, c8, c9⟩ := c
  obtain ⟨m1, m2, m3, m4, m5, m6, m7, m8, m9⟩ := m
  have e := G.1.1
  have hS := G.2.2.1
  have a7 := hS.2.2
  unfold Ok x_hay y_hay fX11_hay fX12_hay fX12_wanting
  by_cases q : 0 ≤ P ∧ P ≤ 60
  · have z1 := win_t (a := P) (b := 0) (c := 60) (by omega) (by omega) q
    have z2 := in_t (a := P) (b := 0) (c := 60) (by omega) (by omega) q
    rw [c1.1, m1.1]
    simp only [li_0, li_60, z1, z2, Option.bind_some]
    simp (disch := omega) only [gd_t, so_some, so_bind, so_gd, so_none, Option.bind_some, iI_add, iI_sub, iI_mul, iI_neg, iI_clamp, iI_nat, vin_i, iI_le, iI_lt, iI_eq, mn_i, mx_i, if_true, if_false, if_pos, if_neg, li_0, li_1, li_2, li_3, li_4, li_5, li_6, li_7, li_8, li_9, li_10, li_11, li_12, li_14, li_15, li_16, li_20, li_21, li_24, li_28, li_30, li_31, li_40, li_41, li_42, li_43, li_44, li_45, li_47, li_48, li_49, li_57, li_59, li_60, li_61, li_62, li_63, li_70, li_71, li_76, li_80, li_96, li_97, li_98, li_99, li_100, li_101, li_102, li_103, li_104, li_105, li_106, li_107, li_108, li_109, li_110, li_111, li_112, li_113, li_114, li_115, li_116, li_117, li_118, li_119, li_120, li_128, li_142, li_255, li_320, li_781, li_852, li_999, li_1000, li_2000, li_3000, li_9999, li_12345, li_65536, li_1000000, li_252645135, li_858993459, li_1103515245, li_1431655765]
    refine so_mono (s_work0 e.1 e.2 hS.1 c3.2.2.2 m3 q.1 q.2 (σ.2.1 23) (τ.2.1 24)) ?_
    rintro o ⟨p, hp, W, o1, p1, hW⟩
    simp only [hp, so_some]
    refine so_mono (s_hay_L e.2 G.2.1 hW c2 m2 o1 p1 g.1.1.toNat 0 FU (iI 0) 0 (by omega) (by omega) (show _ < 4000 by omega)) ?_
    rintro r ⟨r1, r2⟩
    simp only [r1, r2, so_some]
    refine so_mono (c_tell _ _ _) ?_
    intro t hr
    refine so_mono (m_tell _ _) ?_
    intro u hs
    exact ⟨(by first | rfl | trivial), R.tol ⟨n0.1, hn⟩ G hr (by simp) ⟨c1, c2, c3, c4, c5, c6, hr, c8, c9⟩ ⟨m1, m2, m3, m4, m5, m6, hs, m8, m9⟩⟩
  · have z1 := win_f (a := P) (b := 0) (c := 60) b0 b1 (by omega) (by omega) (by omega) (by omega) q
    have z2 := in_f (a := P) (b := 0) (c := 60) b0 b1 (by omega) (by omega) (by omega) (by omega) q
    simp only [li_0, li_60, z1, z2, Option.bind_some]
    simp (disch := omega) only [gd_t, so_some, so_bind, so_gd, so_none, Option.bind_some, iI_add, iI_sub, iI_mul, iI_neg, iI_clamp, iI_nat, vin_i, iI_le, iI_lt, iI_eq, mn_i, mx_i, if_true, if_false, if_pos, if_neg, li_0, li_1, li_2, li_3, li_4, li_5, li_6, li_7, li_8, li_9, li_10, li_11, li_12, li_14, li_15, li_16, li_20, li_21, li_24, li_28, li_30, li_31, li_40, li_41, li_42, li_43, li_44, li_45, li_47, li_48, li_49, li_57, li_59, li_60, li_61, li_62, li_63, li_70, li_71, li_76, li_80, li_96, li_97, li_98, li_99, li_100, li_101, li_102, li_103, li_104, li_105, li_106, li_107, li_108, li_109, li_110, li_111, li_112, li_113, li_114, li_115, li_116, li_117, li_118, li_119, li_120, li_128, li_142, li_255, li_320, li_781, li_852, li_999, li_1000, li_2000, li_3000, li_9999, li_12345, li_65536, li_1000000, li_252645135, li_858993459, li_1103515245, li_1431655765]
    exact ⟨(by first | rfl | trivial), R.same ⟨n0.1, hn⟩ G ⟨c1, c2, c3, c4, c5, c6, c7, c8, c9⟩ ⟨m1, m2, m3, m4, m5, m6, m7, m8, m9⟩⟩
theorem s_allIn_L {h : Int} (h7 : h ≤ 7) {Ha W : Int → Int} (hH : ∀ i, 0 ≤ i → i < h → 0 ≤ Ha i ∧ Ha i ≤ 30) (hW : ∀ i, 0 ≤ i → i < 7 → 0 ≤ W i ∧ W i ≤ 420) {hC hM t w : Nat → Int32} (kC : Arr h hC Ha) (kM : Arr h hM Ha) (kt : Arr 7 t W) (kw : Arr 7 w W) : ∀ (m : Nat) (k : Int) (f : Nat) (s : Int), 0 ≤ k → k + m = h → m < f → 0 ≤ s → s ≤ 30 * k →
    ∃ s' : Int, fX12_wanting_L9 (iI h) hM w f (iI s) (iI k) = some (iI s') ∧ s ≤ s' ∧ s' ≤ 30 * h ∧ ((s' = s ∧ fX11_isAllHayIn_L2 (iI h) t hC f (iI k) = some (Sum.inl ())) ∨ (s < s' ∧ fX11_isAllHayIn_L2 (iI h) t hC f (iI k) = some (Sum.inr (iI 0))))
  | 0, k, f + 1, s, h0, hk, hf, s0, s1 => by
    refine ⟨s, ?_, by omega, by omega, Or.inl ⟨rfl, ?_⟩⟩
    · rw [fX12_wanting_L9]
      simp (disch := omega) only [gd_t, so_some, so_bind, so_gd, so_none, Option.bind_some, iI_add, iI_sub, iI_mul, iI_neg, iI_clamp, iI_nat, vin_i, iI_le, iI_lt, iI_eq, mn_i, mx_i, if_true, if_false, if_pos, if_neg, li_0, li_1, li_2, li_3, li_4, li_5, li_6, li_7, li_8, li_9, li_10, li_11, li_12, li_14, li_15, li_16, li_20, li_21, li_24, li_28, li_30, li_31, li_40, li_41, li_42, li_43, li_44, li_45, li_47, li_48, li_49, li_57, li_59, li_60, li_61, li_62, li_63, li_70, li_71, li_76, li_80, li_96, li_97, li_98, li_99, li_100, li_101, li_102, li_103, li_104, li_105, li_106, li_107, li_108, li_109, li_110, li_111, li_112, li_113, li_114, li_115, li_116, li_117, li_118, li_119, li_120, li_128, li_142, li_255, li_320, li_781, li_852, li_999, li_1000, li_2000, li_3000, li_9999, li_12345, li_65536, li_1000000, li_252645135, li_858993459, li_1103515245, li_1431655765]
    · rw [fX11_isAllHayIn_L2]
      simp (disch := omega) only [gd_t, so_some, so_bind, so_gd, so_none, Option.bind_some, iI_add, iI_sub, iI_mul, iI_neg, iI_clamp, iI_nat, vin_i, iI_le, iI_lt, iI_eq, mn_i, mx_i, if_true, if_false, if_pos, if_neg, li_0, li_1, li_2, li_3, li_4, li_5, li_6, li_7, li_8, li_9, li_10, li_11, li_12, li_14, li_15, li_16, li_20, li_21, li_24, li_28, li_30, li_31, li_40, li_41, li_42, li_43, li_44, li_45, li_47, li_48, li_49, li_57, li_59, li_60, li_61, li_62, li_63, li_70, li_71, li_76, li_80, li_96, li_97, li_98, li_99, li_100, li_101, li_102, li_103, li_104, li_105, li_106, li_107, li_108, li_109, li_110, li_111, li_112, li_113, li_114, li_115, li_116, li_117, li_118, li_119, li_120, li_128, li_142, li_255, li_320, li_781, li_852, li_999, li_1000, li_2000, li_3000, li_9999, li_12345, li_65536, li_1000000, li_252645135, li_858993459, li_1103515245, li_1431655765]
  | m + 1, k, f + 1, s, h0, hk, hf, s0, s1 => by
    have a := hH k h0 (by omega)
    have b := hW k h0 (by omega)
    rw [fX12_wanting_L9, fX11_isAllHayIn_L2]
    by_cases q : Ha k ≤ W k
    · obtain ⟨s', i1, i2, i3, i4⟩ := s_allIn_L h7 hH hW kC kM kt kw m (k + 1) f s (by omega) (by omega) (by omega) s0 (by omega)
      simp (disch := omega) only [gd_t, so_some, so_bind, so_gd, so_none, Option.bind_some, iI_add, iI_sub, iI_mul, iI_neg, iI_clamp, iI_nat, vin_i, iI_le, iI_lt, iI_eq, mn_i, mx_i, if_true, if_false, if_pos, if_neg, li_0, li_1, li_2, li_3, li_4, li_5, li_6, li_7, li_8, li_9, li_10, li_11, li_12, li_14, li_15, li_16, li_20, li_21, li_24, li_28, li_30, li_31, li_40, li_41, li_42, li_43, li_44, li_45, li_47, li_48, li_49, li_57, li_59, li_60, li_61, li_62, li_63, li_70, li_71, li_76, li_80, li_96, li_97, li_98, li_99, li_100, li_101, li_102, li_103, li_104, li_105, li_106, li_107, li_108, li_109, li_110, li_111, li_112, li_113, li_114, li_115, li_116, li_117, li_118, li_119, li_120, li_128, li_142, li_255, li_320, li_781, li_852, li_999, li_1000, li_2000, li_3000, li_9999, li_12345, li_65536, li_1000000, li_252645135, li_858993459, li_1103515245, li_1431655765, kC.at, kM.at, kt.at, kw.at]
      rw [show max 0 (Ha k - W k) = 0 by omega, Int.add_zero]
      exact ⟨s', i1, i2, i3, i4⟩
    · obtain ⟨s', i1, i2, i3, i4⟩ := s_allIn_L h7 hH hW kC kM kt kw m (k + 1) f (s + (Ha k - W k)) (by omega) (by omega) (by omega) (by omega) (by omega)
      simp (disch := omega) only [gd_t, so_some, so_bind, so_gd, so_none, Option.bind_some, iI_add, iI_sub, iI_mul, iI_neg, iI_clamp, iI_nat, vin_i, iI_le, iI_lt, iI_eq, mn_i, mx_i, if_true, if_false, if_pos, if_neg, li_0, li_1, li_2, li_3, li_4, li_5, li_6, li_7, li_8, li_9, li_10, li_11, li_12, li_14, li_15, li_16, li_20, li_21, li_24, li_28, li_30, li_31, li_40, li_41, li_42, li_43, li_44, li_45, li_47, li_48, li_49, li_57, li_59, li_60, li_61, li_62, li_63, li_70, li_71, li_76, li_80, li_96, li_97, li_98, li_99, li_100, li_101, li_102, li_103, li_104, li_105, li_106, li_107, li_108, li_109, li_110, li_111, li_112, li_113, li_114, li_115, li_116, li_117, li_118, li_119, li_120, li_128, li_142, li_255, li_320, li_781, li_852, li_999, li_1000, li_2000, li_3000, li_9999, li_12345, li_65536, li_1000000, li_252645135, li_858993459, li_1103515245, li_1431655765, kC.at, kM.at, kt.at, kw.at]
      rw [show max 0 (Ha k - W k) = Ha k - W k by omega]
      exact ⟨s', i1, by omega, i3, Or.inr ⟨by omega, (by first | rfl | trivial)⟩⟩
theorem s_summer_L {h : Int} (h0' : 0 ≤ h) (h7 : h ≤ 7) {A Ha : Int → Int} (hA : WA A) (hH : ∀ i, 0 ≤ i → i < h → 0 ≤ Ha i ∧ Ha i ≤ 30) {debt a hC hM : Nat → Int32} (hd : Arr 49 debt (fun i => A (21 + i))) (ha : Arr 71 a A) (kC : Arr h hC Ha) (kM : Arr h hM Ha) (z : Int32) : ∀ (m : Nat) (k : Int) (f : Nat) (t w : Nat → Int32),
    0 ≤ k → k + m = 61 → m < f →
    So (fX11_summer_L2 (iI h) debt hC f (iI k) t) (fun o => So (fX12_summer_L7 (iI h) a hM z f (iI k) w) (fun p => (∃ o' p', o = Sum.inl o' ∧ p = Sum.inl p') ∨ (∃ o' p', o = Sum.inr o' ∧ p = Sum.inr p' ∧ o'.1 = p'.1)))
  | 0, k, f + 1, t, w, h0, hk, hf => by
    rw [fX11_summer_L2, fX12_summer_L7]
    simp (disch := omega) only [gd_t, so_some, so_bind, so_gd, so_none, Option.bind_some, iI_add, iI_sub, iI_mul, iI_neg, iI_clamp, iI_nat, vin_i, iI_le, iI_lt, iI_eq, mn_i, mx_i, if_true, if_false, if_pos, if_neg, li_0, li_1, li_2, li_3, li_4, li_5, li_6, li_7, li_8, li_9, li_10, li_11, li_12, li_14, li_15, li_16, li_20, li_21, li_24, li_28, li_30, li_31, li_40, li_41, li_42, li_43, li_44, li_45, li_47, li_48, li_49, li_57, li_59, li_60, li_61, li_62, li_63, li_70, li_71, li_76, li_80, li_96, li_97, li_98, li_99, li_100, li_101, li_102, li_103, li_104, li_105, li_106, li_107, li_108, li_109, li_110, li_111, li_112, li_113, li_114, li_115, li_116, li_117, li_118, li_119, li_120, li_128, li_142, li_255, li_320, li_781, li_852, li_999, li_1000, li_2000, li_3000, li_9999, li_12345, li_65536, li_1000000, li_252645135, li_858993459, li_1103515245, li_1431655765]
    exact Or.inl ⟨_, _, rfl, rfl⟩
  | m + 1, k, f + 1, t, w, h0, hk, hf => by
    rw [fX11_summer_L2, fX12_summer_L7]
    simp (disch := omega) only [gd_t, so_some, so_bind, so_gd, so_none, Option.bind_some, iI_add, iI_sub, iI_mul, iI_neg, iI_clamp, iI_nat, vin_i, iI_le, iI_lt, iI_eq, mn_i, mx_i, if_true, if_false, if_pos, if_neg, li_0, li_1, li_2, li_3, li_4, li_5, li_6, li_7, li_8, li_9, li_10, li_11, li_12, li_14, li_15, li_16, li_20, li_21, li_24, li_28, li_30, li_31, li_40, li_41, li_42, li_43, li_44, li_45, li_47, li_48, li_49, li_57, li_59, li_60, li_61, li_62, li_63, li_70, li_71, li_76, li_80, li_96, li_97, li_98, li_99, li_100, li_101, li_102, li_103, li_104, li_105, li_106, li_107, li_108, li_109, li_110, li_111, li_112, li_113, li_114, li_115, li_116, li_117, li_118, li_119, li_120, li_128, li_142, li_255, li_320, li_781, li_852, li_999, li_1000, li_2000, li_3000, li_9999, li_12345, li_65536, li_1000000, li_252645135, li_858993459, li_1103515245, li_1431655765, fX12_wanting, fX11_isAllHayIn]
    refine so_mono (s_work0 h0' h7 hA hd ha h0 (by omega) t w) ?_
    rintro o ⟨p, hp, W, o1, p1, hW⟩
    obtain ⟨s', i1, i2, i3, i4⟩ := s_allIn_L h7 hH hW kC kM o1 p1 h.toNat 0 FU 0 (by omega) (by omega) (show _ < 4000 by omega) (by omega) (by omega)
    simp only [hp, so_some, i1]
    rcases i4 with ⟨j1, j2⟩ | ⟨j1, j2⟩
    · simp (disch := omega) only [gd_t, so_some, so_bind, so_gd, so_none, Option.bind_some, iI_add, iI_sub, iI_mul, iI_neg, iI_clamp, iI_nat, vin_i, iI_le, iI_lt, iI_eq, mn_i, mx_i, if_true, if_false, if_pos, if_neg, li_0, li_1, li_2, li_3, li_4, li_5, li_6, li_7, li_8, li_9, li_10, li_11, li_12, li_14, li_15, li_16, li_20, li_21, li_24, li_28, li_30, li_31, li_40, li_41, li_42, li_43, li_44, li_45, li_47, li_48, li_49, li_57, li_59, li_60, li_61, li_62, li_63, li_70, li_71, li_76, li_80, li_96, li_97, li_98, li_99, li_100, li_101, li_102, li_103, li_104, li_105, li_106, li_107, li_108, li_109, li_110, li_111, li_112, li_113, li_114, li_115, li_116, li_117, li_118, li_119, li_120, li_128, li_142, li_255, li_320, li_781, li_852, li_999, li_1000, li_2000, li_3000, li_9999, li_12345, li_65536, li_1000000, li_252645135, li_858993459, li_1103515245, li_1431655765, j2, Sum.elim_inl]
      exact Or.inr ⟨_, _, rfl, rfl, rfl⟩
    · simp (disch := omega) only [gd_t, so_some, so_bind, so_gd, so_none, Option.bind_some, iI_add, iI_sub, iI_mul, iI_neg, iI_clamp, iI_nat, vin_i, iI_le, iI_lt, iI_eq, mn_i, mx_i, if_true, if_false, if_pos, if_neg, li_0, li_1, li_2, li_3, li_4, li_5, li_6, li_7, li_8, li_9, li_10, li_11, li_12, li_14, li_15, li_16, li_20, li_21, li_24, li_28, li_30, li_31, li_40, li_41, li_42, li_43, li_44, li_45, li_47, li_48, li_49, li_57, li_59, li_60, li_61, li_62, li_63, li_70, li_71, li_76, li_80, li_96, li_97, li_98, li_99, li_100, li_101, li_102, li_103, li_104, li_105, li_106, li_107, li_108, li_109, li_110, li_111, li_112, li_113, li_114, li_115, li_116, li_117, li_118, li_119, li_120, li_128, li_142, li_255, li_320, li_781, li_852, li_999, li_1000, li_2000, li_3000, li_9999, li_12345, li_65536, li_1000000, li_252645135, li_858993459, li_1103515245, li_1431655765, j2, Sum.elim_inr]
      exact s_summer_L h0' h7 hA hH hd ha kC kM z m (k + 1) f o p (by omega) (by omega) (by omega)
theorem s_summer {n : Int} {σ : CS} {τ : MS} (h : R n σ τ) (hn : n < 1000) : Ok n (x_summer σ) (y_summer τ) := by
  obtain ⟨n0, g, c, m, G⟩ := h
  obtain ⟨c1, c2, c3, c4, c5, c6, c7, c8, c9⟩ := c
  obtain ⟨m1, m2, m3, m4, m5, m6, m7, m8, m9⟩ := m
  have e := G.1.1
  have hS := G.2.2.1
  have a7 := hS.2.2
  unfold Ok x_summer y_summer fX11_summer fX12_summer
  rw [c1.1, m1.1]
  simp only [so_bind, li_0]
  refine so_mono (s_summer_L e.1 e.2 hS.1 G.2.1 c3.2.2.2 m3 c2 m2 (iI 0) 61 0 FU (σ.2.1 23) (τ.2.1 24) (by omega) (by omega) (show _ < 4000 by omega)) ?_
  rintro r ⟨p, hp, hr⟩
  rcases hr with ⟨o', p', rfl, rfl⟩ | ⟨o', p', rfl, rfl, e1⟩
  · simp only [hp, Sum.elim_inl, so_some]
    exact ⟨(by first | rfl | trivial), R.same ⟨n0.1, hn⟩ G ⟨c1, c2, c3, c4, c5, c6, c7, c8, c9⟩ ⟨m1, m2, m3, m4, m5, m6, m7, m8, m9⟩⟩
  · simp only [hp, Sum.elim_inr, so_some]
    exact ⟨e1, R.same ⟨n0.1, hn⟩ G ⟨c1, c2, c3, c4, c5, c6, c7, c8, c9⟩ ⟨m1, m2, m3, m4, m5, m6, m7, m8, m9⟩⟩
theorem s_works_L {h : Int} (h7 : h ≤ 7) {A : Int → Int} (hA : WA A) {debt a : Nat → Int32} (hd : Arr 49 debt (fun i => A (21 + i))) (ha : Arr 71 a A) {b N : Int} (b0 : 0 ≤ b) (b1 : b < 7) (N0 : 1 ≤ N) (N1 : N ≤ 60) (cC : Int32) (tC tM : Nat → Int32) (z : Int32) : ∀ (m : Nat) (k : Int) (f : Nat) (v : Int), 0 ≤ k → k + m = h → m < f → 0 ≤ v → v ≤ 9999 * k →
    So (fX11_works_L28 (iI h) debt (iI b) (iI N) cC tC f (iI v) (iI k)) (fun o => So (fX12_works_L30 (iI h) a (iI b) (iI N) z tM f (iI v) (iI k)) (fun p => (o = Sum.inl () ∧ p = Sum.inl ()) ∨ (∃ o' p' x, o = Sum.inr o' ∧ p = Sum.inr p' ∧ o'.1 = p'.1 ∧ Rw [x] o'.2.1 o'.2.2 ∧ Rw [x] p'.2.1 p'.2.2.2)))
  | 0, k, f + 1, v, h0, hk, hf, v0, v1 => by
    rw [fX11_works_L28, fX12_works_L30]
    simp (disch := omega) only [gd_t, so_some, so_bind, so_gd, so_none, Option.bind_some, iI_add, iI_sub, iI_mul, iI_neg, iI_clamp, iI_nat, vin_i, iI_le, iI_lt, iI_eq, mn_i, mx_i, if_true, if_false, if_pos, if_neg, li_0, li_1, li_2, li_3, li_4, li_5, li_6, li_7, li_8, li_9, li_10, li_11, li_12, li_14, li_15, li_16, li_20, li_21, li_24, li_28, li_30, li_31, li_40, li_41, li_42, li_43, li_44, li_45, li_47, li_48, li_49, li_57, li_59, li_60, li_61, li_62, li_63, li_70, li_71, li_76, li_80, li_96, li_97, li_98, li_99, li_100, li_101, li_102, li_103, li_104, li_105, li_106, li_107, li_108, li_109, li_110, li_111, li_112, li_113, li_114, li_115, li_116, li_117, li_118, li_119, li_120, li_128, li_142, li_255, li_320, li_781, li_852, li_999, li_1000, li_2000, li_3000, li_9999, li_12345, li_65536, li_1000000, li_252645135, li_858993459, li_1103515245, li_1431655765]
    exact Or.inl ⟨(by first | rfl | trivial), (by first | rfl | trivial)⟩
  | m + 1, k, f + 1, v, h0, hk, hf, v0, v1 => by
    have x := hA.2.1 (21 + (b * 7 + k)) (by omega) (by omega)
    have ix : 21 + 7 * b + k = 21 + (b * 7 + k) := by omega
    rw [fX11_works_L28, fX12_works_L30]
    by_cases q : v + A (21 + (b * 7 + k)) < N
    · simp (disch := omega) only [gd_t, so_some, so_bind, so_gd, so_none, Option.bind_some, iI_add, iI_sub, iI_mul, iI_neg, iI_clamp, iI_nat, vin_i, iI_le, iI_lt, iI_eq, mn_i, mx_i, if_true, if_false, if_pos, if_neg, li_0, li_1, li_2, li_3, li_4, li_5, li_6, li_7, li_8, li_9, li_10, li_11, li_12, li_14, li_15, li_16, li_20, li_21, li_24, li_28, li_30, li_31, li_40, li_41, li_42, li_43, li_44, li_45, li_47, li_48, li_49, li_57, li_59, li_60, li_61, li_62, li_63, li_70, li_71, li_76, li_80, li_96, li_97, li_98, li_99, li_100, li_101, li_102, li_103, li_104, li_105, li_106, li_107, li_108, li_109, li_110, li_111, li_112, li_113, li_114, li_115, li_116, li_117, li_118, li_119, li_120, li_128, li_142, li_255, li_320, li_781, li_852, li_999, li_1000, li_2000, li_3000, li_9999, li_12345, li_65536, li_1000000, li_252645135, li_858993459, li_1103515245, li_1431655765, ix, hd.at, ha.at]
      exact s_works_L h7 hA hd ha b0 b1 N0 N1 cC tC tM z m (k + 1) f _ (by omega) (by omega) (by omega) (by omega) (by omega)
    · simp (disch := omega) only [gd_t, so_some, so_bind, so_gd, so_none, Option.bind_some, iI_add, iI_sub, iI_mul, iI_neg, iI_clamp, iI_nat, vin_i, iI_le, iI_lt, iI_eq, mn_i, mx_i, if_true, if_false, if_pos, if_neg, li_0, li_1, li_2, li_3, li_4, li_5, li_6, li_7, li_8, li_9, li_10, li_11, li_12, li_14, li_15, li_16, li_20, li_21, li_24, li_28, li_30, li_31, li_40, li_41, li_42, li_43, li_44, li_45, li_47, li_48, li_49, li_57, li_59, li_60, li_61, li_62, li_63, li_70, li_71, li_76, li_80, li_96, li_97, li_98, li_99, li_100, li_101, li_102, li_103, li_104, li_105, li_106, li_107, li_108, li_109, li_110, li_111, li_112, li_113, li_114, li_115, li_116, li_117, li_118, li_119, li_120, li_128, li_142, li_255, li_320, li_781, li_852, li_999, li_1000, li_2000, li_3000, li_9999, li_12345, li_65536, li_1000000, li_252645135, li_858993459, li_1103515245, li_1431655765, ix, hd.at, ha.at]
      refine so_mono (c_tell _ _ _) ?_
      intro t hr
      refine so_mono (m_tell _ _) ?_
      intro u hs
      exact Or.inr ⟨_, _, _, rfl, rfl, rfl, hr, hs⟩
theorem s_works {n : Int} {σ : CS} {τ : MS} (h : R n σ τ) (hn : n < 1000) (p1 p2 : Int32) : Ok n (x_works σ p1 p2) (y_works τ p1 p2) := by
  obtain ⟨n0, g, c, m, G⟩ := h
  obtain ⟨Q, rfl, b2, b3⟩ := iI_of p1
  obtain ⟨P, rfl, b0, b1⟩ := iI_of p2
  obtain ⟨c1, c2, c3, c4, c5, c6, c7, c8, c9⟩ := c
  obtain ⟨m1, m2, m3, m4, m5, m6, m7, m8, m9⟩ := m
  have e := G.1.1
  have hS := G.2.2.1
  have a7 := hS.2.2
  unfold Ok x_works y_works fX11_works fX12_works
  rw [c1.1, m1.1]
  by_cases q2 : 0 ≤ Q ∧ Q < g.1.1
  · have z3 := has_t e.1 e.2 q2
    have z4 := isH_t e.1 e.2 q2
    by_cases q : 1 ≤ P ∧ P ≤ 60
    · have z1 := win_t (a := P) (b := 1) (c := 60) (by omega) (by omega) q
      have z2 := in_t (a := P) (b := 1) (c := 60) (by omega) (by omega) q
      simp only [li_1, li_60, z1, z2, z3, z4, Option.bind_some]
      simp (disch := omega) only [gd_t, so_some, so_bind, so_gd, so_none, Option.bind_some, iI_add, iI_sub, iI_mul, iI_neg, iI_clamp, iI_nat, vin_i, iI_le, iI_lt, iI_eq, mn_i, mx_i, if_true, if_false, if_pos, if_neg, li_0, li_1, li_2, li_3, li_4, li_5, li_6, li_7, li_8, li_9, li_10, li_11, li_12, li_14, li_15, li_16, li_20, li_21, li_24, li_28, li_30, li_31, li_40, li_41, li_42, li_43, li_44, li_45, li_47, li_48, li_49, li_57, li_59, li_60, li_61, li_62, li_63, li_70, li_71, li_76, li_80, li_96, li_97, li_98, li_99, li_100, li_101, li_102, li_103, li_104, li_105, li_106, li_107, li_108, li_109, li_110, li_111, li_112, li_113, li_114, li_115, li_116, li_117, li_118, li_119, li_120, li_128, li_142, li_255, li_320, li_781, li_852, li_999, li_1000, li_2000, li_3000, li_9999, li_12345, li_65536, li_1000000, li_252645135, li_858993459, li_1103515245, li_1431655765]
      refine so_mono (s_works_L e.2 hS.1 c3.2.2.2 m3 q2.1 (by omega) q.1 q.2 (σ.1 25) (σ.2.1 25) (τ.2.1 16) (iI 0) g.1.1.toNat 0 FU 0 (by omega) (by omega) (show _ < 4000 by omega) (by omega) (by omega)) ?_
      rintro o ⟨p, hp, hpp⟩
      rcases hpp with ⟨rfl, rfl⟩ | ⟨o', p', x, rfl, rfl, e1, hr, hs⟩
      · simp only [hp, Sum.elim_inl, so_some, so_bind]
        refine so_mono (c_tell _ _ _) ?_
        intro t hr
        refine so_mono (m_tell _ _) ?_
        intro u hs
        exact ⟨(by first | rfl | trivial), R.tol ⟨n0.1, hn⟩ G hr (by simp) ⟨c1, c2, c3, c4, c5, c6, hr, c8, c9⟩ ⟨m1, m2, m3, m4, m5, m6, hs, m8, m9⟩⟩
      · simp only [hp, Sum.elim_inr, so_some]
        exact ⟨e1, R.tol ⟨n0.1, hn⟩ G hr (by simp) ⟨c1, c2, c3, c4, c5, c6, hr, c8, c9⟩ ⟨m1, m2, m3, m4, m5, m6, hs, m8, m9⟩⟩
    · have z1 := win_f (a := P) (b := 1) (c := 60) b0 b1 (by omega) (by omega) (by omega) (by omega) q
      have z2 := in_f (a := P) (b := 1) (c := 60) b0 b1 (by omega) (by omega) (by omega) (by omega) q
      simp only [li_1, li_60, z1, z2, z3, z4, Option.bind_some]
      simp (disch := omega) only [gd_t, so_some, so_bind, so_gd, so_none, Option.bind_some, iI_add, iI_sub, iI_mul, iI_neg, iI_clamp, iI_nat, vin_i, iI_le, iI_lt, iI_eq, mn_i, mx_i, if_true, if_false, if_pos, if_neg, li_0, li_1, li_2, li_3, li_4, li_5, li_6, li_7, li_8, li_9, li_10, li_11, li_12, li_14, li_15, li_16, li_20, li_21, li_24, li_28, li_30, li_31, li_40, li_41, li_42, li_43, li_44, li_45, li_47, li_48, li_49, li_57, li_59, li_60, li_61, li_62, li_63, li_70, li_71, li_76, li_80, li_96, li_97, li_98, li_99, li_100, li_101, li_102, li_103, li_104, li_105, li_106, li_107, li_108, li_109, li_110, li_111, li_112, li_113, li_114, li_115, li_116, li_117, li_118, li_119, li_120, li_128, li_142, li_255, li_320, li_781, li_852, li_999, li_1000, li_2000, li_3000, li_9999, li_12345, li_65536, li_1000000, li_252645135, li_858993459, li_1103515245, li_1431655765]
      exact ⟨(by first | rfl | trivial), R.same ⟨n0.1, hn⟩ G ⟨c1, c2, c3, c4, c5, c6, c7, c8, c9⟩ ⟨m1, m2, m3, m4, m5, m6, m7, m8, m9⟩⟩
  · have z3 := has_f e.1 e.2 b2 b3 q2
    have z4 := isH_f e.1 e.2 b2 b3 q2
    simp only [z3, z4, Option.bind_some]
    simp (disch := omega) only [gd_t, so_some, so_bind, so_gd, so_none, Option.bind_some, iI_add, iI_sub, iI_mul, iI_neg, iI_clamp, iI_nat, vin_i, iI_le, iI_lt, iI_eq, mn_i, mx_i, if_true, if_false, if_pos, if_neg, li_0, li_1, li_2, li_3, li_4, li_5, li_6, li_7, li_8, li_9, li_10, li_11, li_12, li_14, li_15, li_16, li_20, li_21, li_24, li_28, li_30, li_31, li_40, li_41, li_42, li_43, li_44, li_45, li_47, li_48, li_49, li_57, li_59, li_60, li_61, li_62, li_63, li_70, li_71, li_76, li_80, li_96, li_97, li_98, li_99, li_100, li_101, li_102, li_103, li_104, li_105, li_106, li_107, li_108, li_109, li_110, li_111, li_112, li_113, li_114, li_115, li_116, li_117, li_118, li_119, li_120, li_128, li_142, li_255, li_320, li_781, li_852, li_999, li_1000, li_2000, li_3000, li_9999, li_12345, li_65536, li_1000000, li_252645135, li_858993459, li_1103515245, li_1431655765]
    exact ⟨(by first | rfl | trivial), R.same ⟨n0.1, hn⟩ G ⟨c1, c2, c3, c4, c5, c6, c7, c8, c9⟩ ⟨m1, m2, m3, m4, m5, m6, m7, m8, m9⟩⟩
