theorem reb_h {h k v : Int} (h0 : 0 ≤ h) (h7 : h ≤ 7) (k0 : 0 ≤ k) (k1 : k < h) (v0 : 1 ≤ v) (v1 : v ≤ 99) (hold below : Nat → Int32) : fX7_rebuild (iI h) hold below (iI k) (iI v) = some (hold k.toNat, upd hold k.toNat (iI v), below) := by
  unfold fX7_rebuild
  simp (disch := omega) only [gd_t, so_some, so_bind, so_gd, so_none, Option.bind_some, iI_add, iI_sub, iI_mul, iI_neg, iI_clamp, iI_nat, vin_i, iI_le, iI_lt, iI_eq, mn_i, mx_i, if_true, if_false, if_pos, if_neg, li_0, li_1, li_2, li_3, li_4, li_5, li_6, li_7, li_8, li_9, li_10, li_11, li_12, li_14, li_15, li_16, li_20, li_21, li_24, li_28, li_30, li_31, li_40, li_41, li_42, li_43, li_44, li_45, li_47, li_48, li_49, li_57, li_59, li_60, li_61, li_62, li_63, li_70, li_71, li_76, li_80, li_96, li_97, li_98, li_99, li_100, li_101, li_102, li_103, li_104, li_105, li_106, li_107, li_108, li_109, li_110, li_111, li_112, li_113, li_114, li_115, li_116, li_117, li_118, li_119, li_120, li_128, li_142, li_255, li_320, li_781, li_852, li_999, li_1000, li_2000, li_3000, li_9999, li_12345, li_65536, li_1000000, li_252645135, li_858993459, li_1103515245, li_1431655765, has_t, has_f, win_t, win_f, in_t, in_f, isH_t, isH_f, hasS_t, hasS_f, isS_t, isS_f, has2_t, has2_f, are2_t, are2_f]
theorem reb_t {h k : Int} (h0 : 0 ≤ h) (h7 : h ≤ 7) (k0 : 0 ≤ k) (k1 : k < h) (hold below : Nat → Int32) : fX7_rebuild (iI h) hold below (iI k) (iI (-1)) = some (iI (-1), hold, upd (upd below (2 * k).toNat (below (2 * k + 1).toNat)) (2 * k + 1).toNat (below (2 * k).toNat)) := by
  unfold fX7_rebuild
  simp (disch := omega) only [gd_t, so_some, so_bind, so_gd, so_none, Option.bind_some, iI_add, iI_sub, iI_mul, iI_neg, iI_clamp, iI_nat, vin_i, iI_le, iI_lt, iI_eq, mn_i, mx_i, if_true, if_false, if_pos, if_neg, li_0, li_1, li_2, li_3, li_4, li_5, li_6, li_7, li_8, li_9, li_10, li_11, li_12, li_14, li_15, li_16, li_20, li_21, li_24, li_28, li_30, li_31, li_40, li_41, li_42, li_43, li_44, li_45, li_47, li_48, li_49, li_57, li_59, li_60, li_61, li_62, li_63, li_70, li_71, li_76, li_80, li_96, li_97, li_98, li_99, li_100, li_101, li_102, li_103, li_104, li_105, li_106, li_107, li_108, li_109, li_110, li_111, li_112, li_113, li_114, li_115, li_116, li_117, li_118, li_119, li_120, li_128, li_142, li_255, li_320, li_781, li_852, li_999, li_1000, li_2000, li_3000, li_9999, li_12345, li_65536, li_1000000, li_252645135, li_858993459, li_1103515245, li_1431655765, has_t, has_f, win_t, win_f, in_t, in_f, isH_t, isH_f, hasS_t, hasS_f, isS_t, isS_f, has2_t, has2_f, are2_t, are2_f]
theorem trn_m {k : Int} (k0 : 0 ≤ k) (k1 : k < 7) (below : Nat → Int32) : fX12_turn below (iI k) = some (upd (upd below (2 * k).toNat (below (2 * k + 1).toNat)) (2 * k + 1).toNat (below (2 * k).toNat)) := by
  unfold fX12_turn
  simp (disch := omega) only [gd_t, so_some, so_bind, so_gd, so_none, Option.bind_some, iI_add, iI_sub, iI_mul, iI_neg, iI_clamp, iI_nat, vin_i, iI_le, iI_lt, iI_eq, mn_i, mx_i, if_true, if_false, if_pos, if_neg, li_0, li_1, li_2, li_3, li_4, li_5, li_6, li_7, li_8, li_9, li_10, li_11, li_12, li_14, li_15, li_16, li_20, li_21, li_24, li_28, li_30, li_31, li_40, li_41, li_42, li_43, li_44, li_45, li_47, li_48, li_49, li_57, li_59, li_60, li_61, li_62, li_63, li_70, li_71, li_76, li_80, li_96, li_97, li_98, li_99, li_100, li_101, li_102, li_103, li_104, li_105, li_106, li_107, li_108, li_109, li_110, li_111, li_112, li_113, li_114, li_115, li_116, li_117, li_118, li_119, li_120, li_128, li_142, li_255, li_320, li_781, li_852, li_999, li_1000, li_2000, li_3000, li_9999, li_12345, li_65536, li_1000000, li_252645135, li_858993459, li_1103515245, li_1431655765, has_t, has_f, win_t, win_f, in_t, in_f, isH_t, isH_f, hasS_t, hasS_f, isS_t, isS_f, has2_t, has2_f, are2_t, are2_f]
def tw (B : Int → Int) (k : Int) : Int → Int := upI (upI B (2 * k) (B (2 * k + 1))) (2 * k + 1) (B (2 * k))
theorem tw_tw (B : Int → Int) (k : Int) : tw (tw B k) k = B := by
  funext i
  unfold tw
  by_cases q : i = 2 * k + 1
  · rw [q, upI_s, upI_o _ (by omega : (2 * k) ≠ 2 * k + 1), upI_s]
  · rw [upI_o _ q]
    by_cases q2 : i = 2 * k
    · rw [q2, upI_s, upI_s]
    · rw [upI_o _ q2, upI_o _ q, upI_o _ q2]
theorem Arr.tw {n : Int} {a : Nat → Int32} {B : Int → Int} (h : Arr n a B) {k : Int} (k0 : 0 ≤ k) (k1 : 2 * k + 1 < n) : Arr n (upd (upd a (2 * k).toNat (a (2 * k + 1).toNat)) (2 * k + 1).toNat (a (2 * k).toNat)) (tw B k) := by
  rw [h.at (x := 2 * k) (by omega) (by omega), h.at (x := 2 * k + 1) (by omega) (by omega)]
  exact (h.up _ (by omega)).up _ (by omega)
def Eb (E : EN) (k : Int) : EN := (E.1, E.2.1, tw E.2.2.1 k, E.2.2.2)
theorem EnG.tw {E : EN} (G : EnG E) {k : Int} (k0 : 0 ≤ k) (k1 : k < E.1) : EnG (Eb E k) := by
  have b1 := G.2.2.1 (2 * k) (by omega) (by omega)
  have b2 := G.2.2.1 (2 * k + 1) (by omega) (by omega)
  exact (G.be (x := 2 * k) b2.1 b2.2).be b1.1 b1.2
theorem ow_b {E : EN} (G : EnG E) (A : Int → Int) {N : Int} (N0 : 0 ≤ N) (N1 : N ≤ 60) : 0 ≤ (dys E N.toNat (ws0 A)).2.1 ∧ (dys E N.toNat (ws0 A)).2.1 ≤ 83160 := by
  have h := dys_ow G N.toNat (ws0 A)
  have h : 0 ≤ (dys E N.toNat (ws0 A)).2.1 ∧ (dys E N.toNat (ws0 A)).2.1 ≤ 0 + 1386 * (N.toNat : Int) := h
  omega
theorem s_rough_L {E : EN} (G : EnG E) {A : Int → Int} (hA : WA A) {hoC cy le : Int32} {inches code : Nat → Int32} (C1 : hoC = iI E.1) (C4 : ∀ d, 0 ≤ d → d < 2147483648 → fX10_inchesIn cy inches (iI d) = some (iI (E.2.2.2.1 d))) (C5 : RuC E.2.2.2.2 le code)
    {hoM many size : Int32} {belowM weather rule : Nat → Int32} (M1 : hoM = iI E.1) (M3 : Arr (2 * E.1) belowM E.2.2.1) (M4 : ∀ d, 0 ≤ d → d < 2147483648 → fX12_weatherOf many weather (iI d) = some (iI (E.2.2.2.1 d))) (M5 : RuM E.2.2.2.2 size rule)
    {now : Int32} {snow path debt a : Nat → Int32} (S : StC A now snow path debt) (ha : Arr 71 a A) {N V : Int} (hN0 : 0 ≤ N) (hN : N ≤ 60) (hn : A 70 + N < 2147483648) (V0 : 1 ≤ V) (V1 : V ≤ 99) :
    ∀ (m : Nat) (k : Int) (f : Nat) (v w : Int) (holdC below holdM : Nat → Int32) (o0 s0 t0 d0 n0 : Int32) (sn0 p0 de0 b0' things stack : Nat → Int32) (rr : Nat) (len top at' wrong asked i1 i2 i3 i4 i5 i6 sm on si : Int32) (owedBy th : Nat → Int32),
    0 ≤ k → k + m = E.1 → m < f → (v = -2 ∨ 0 ≤ v) → v < k → 0 ≤ w → w ≤ 1000000 → Arr E.1 holdC E.2.1 → Arr (2 * E.1) below E.2.2.1 → Arr E.1 holdM E.2.1 →
    So (fX11_bestRoof_L11 hoC cy le now inches code snow path debt (iI V) (iI N) f (iI v) (iI w) (iI k) holdC below o0 s0 t0 d0 n0 sn0 p0 de0 b0' things stack)
      (fun o => So (fX12_rough_L35 hoM many size a weather belowM rule (iI V) (iI N) f (iI v) (iI w) (iI k) rr len top at' wrong asked i1 i2 i3 i4 i5 i6 sm on si holdM owedBy th)
        (fun p => ∃ v' w' : Int, o.1 = iI v' ∧ p.1 = iI v' ∧ o.2.1 = iI w' ∧ p.2.1 = iI w' ∧ (v' = -2 ∨ 0 ≤ v') ∧ v' < 7 ∧ Arr E.1 o.2.2.1 E.2.1 ∧ Arr (2 * E.1) o.2.2.2.1 E.2.2.1 ∧ Arr E.1 p.2.2.2.2.2.2.2.2.2.2.2.2.2.2.2.2.2.1 E.2.1))
  | 0, k, f + 1, v, w, holdC, below, holdM, o0, s0, t0, d0, n0, sn0, p0, de0, b0', things, stack, rr, len, top, at', wrong, asked, i1, i2, i3, i4, i5, i6, sm, on, si, owedBy, th, h0, hk, hf, v0, v1, w0, w1, hC, hB, hM => by
    have g := G.1
    rw [fX11_bestRoof_L11, fX12_rough_L35, C1, M1]
    simp (disch := omega) only [gd_t, so_some, so_bind, so_gd, so_none, Option.bind_some, iI_add, iI_sub, iI_mul, iI_neg, iI_clamp, iI_nat, vin_i, iI_le, iI_lt, iI_eq, mn_i, mx_i, if_true, if_false, if_pos, if_neg, li_0, li_1, li_2, li_3, li_4, li_5, li_6, li_7, li_8, li_9, li_10, li_11, li_12, li_14, li_15, li_16, li_20, li_21, li_24, li_28, li_30, li_31, li_40, li_41, li_42, li_43, li_44, li_45, li_47, li_48, li_49, li_57, li_59, li_60, li_61, li_62, li_63, li_70, li_71, li_76, li_80, li_96, li_97, li_98, li_99, li_100, li_101, li_102, li_103, li_104, li_105, li_106, li_107, li_108, li_109, li_110, li_111, li_112, li_113, li_114, li_115, li_116, li_117, li_118, li_119, li_120, li_128, li_142, li_255, li_320, li_781, li_852, li_999, li_1000, li_2000, li_3000, li_9999, li_12345, li_65536, li_1000000, li_252645135, li_858993459, li_1103515245, li_1431655765]
    exact ⟨v, w, (by first | rfl | trivial), (by first | rfl | trivial), (by first | rfl | trivial), (by first | rfl | trivial), v0, by omega, hC, hB, hM⟩
  | m + 1, k, f + 1, v, w, holdC, below, holdM, o0, s0, t0, d0, n0, sn0, p0, de0, b0', things, stack, rr, len, top, at', wrong, asked, i1, i2, i3, i4, i5, i6, sm, on, si, owedBy, th, h0, hk, hf, v0, v1, w0, w1, hC, hB, hM => by
    have g := G.1
    have o9 := G.2.1 k h0 (by omega)
    have uC := hC.up V h0
    have uM := hM.up V h0
    have G' : EnG (Eh E k V) := G.ho V0 V1
    have C' : EnC (Eh E k V) (iI E.1) cy le (upd holdC k.toNat (iI V)) below inches code := ⟨rfl, uC, hB, C4, C5⟩
    have M' : EnM (Eh E k V) (iI E.1) many size (upd holdM k.toNat (iI V)) belowM weather rule := ⟨rfl, uM, M3, M4, M5⟩
    obtain ⟨p, hp, hpK⟩ := m_goOn G' M' hA hN0 (by omega) hn ha rr len top at' wrong asked i1 i2 i3 i4 i5 i6 sm on si owedBy th
    have p2 := hpK.2.1
    rw [mdys_1] at p2
    have p2 : p.2.2.2.2.2.2.2.2.2.2.2.2.2.1 = iI (dys (Eh E k V) N.toNat (ws0 A)).2.1 := p2
    have ob := ow_b G' A hN0 hN
    have r1 := reb_h (k := k) g.1 g.2 h0 (by omega) V0 V1 holdC below
    rw [hC.at h0 (by omega)] at r1
    have r2 := reb_h (k := k) g.1 g.2 h0 (by omega) o9.1 o9.2 (upd holdC k.toNat (iI V)) below
    have uC2 := uC.up (E.2.1 k) h0
    have uM2 := uM.up (E.2.1 k) h0
    rw [up_up, up_id] at uC2 uM2
    rw [fX11_bestRoof_L11, fX12_rough_L35, C1, M1]
    simp (disch := omega) only [gd_t, so_some, so_bind, so_gd, so_none, Option.bind_some, iI_add, iI_sub, iI_mul, iI_neg, iI_clamp, iI_nat, vin_i, iI_le, iI_lt, iI_eq, mn_i, mx_i, if_true, if_false, if_pos, if_neg, li_0, li_1, li_2, li_3, li_4, li_5, li_6, li_7, li_8, li_9, li_10, li_11, li_12, li_14, li_15, li_16, li_20, li_21, li_24, li_28, li_30, li_31, li_40, li_41, li_42, li_43, li_44, li_45, li_47, li_48, li_49, li_57, li_59, li_60, li_61, li_62, li_63, li_70, li_71, li_76, li_80, li_96, li_97, li_98, li_99, li_100, li_101, li_102, li_103, li_104, li_105, li_106, li_107, li_108, li_109, li_110, li_111, li_112, li_113, li_114, li_115, li_116, li_117, li_118, li_119, li_120, li_128, li_142, li_255, li_320, li_781, li_852, li_999, li_1000, li_2000, li_3000, li_9999, li_12345, li_65536, li_1000000, li_252645135, li_858993459, li_1103515245, li_1431655765, fX12_owedIn, hp, r1, p2, hM.at]
    refine so_mono (c_walkFrom G' C' hA hN0 (by omega) hn S o0 s0 t0 d0 n0 sn0 p0 de0 b0' things stack) ?_
    rintro o ⟨d1, d2, d3, d4, d5, d6⟩
    rw [fdys_1] at d1
    have d1 : o.1 = iI (dys (Eh E k V) N.toNat (ws0 A)).2.1 := d1
    rw [d1]
    by_cases q : w ≤ (dys (Eh E k V) N.toNat (ws0 A)).2.1
    · simp (disch := omega) only [gd_t, so_some, so_bind, so_gd, so_none, Option.bind_some, iI_add, iI_sub, iI_mul, iI_neg, iI_clamp, iI_nat, vin_i, iI_le, iI_lt, iI_eq, mn_i, mx_i, if_true, if_false, if_pos, if_neg, li_0, li_1, li_2, li_3, li_4, li_5, li_6, li_7, li_8, li_9, li_10, li_11, li_12, li_14, li_15, li_16, li_20, li_21, li_24, li_28, li_30, li_31, li_40, li_41, li_42, li_43, li_44, li_45, li_47, li_48, li_49, li_57, li_59, li_60, li_61, li_62, li_63, li_70, li_71, li_76, li_80, li_96, li_97, li_98, li_99, li_100, li_101, li_102, li_103, li_104, li_105, li_106, li_107, li_108, li_109, li_110, li_111, li_112, li_113, li_114, li_115, li_116, li_117, li_118, li_119, li_120, li_128, li_142, li_255, li_320, li_781, li_852, li_999, li_1000, li_2000, li_3000, li_9999, li_12345, li_65536, li_1000000, li_252645135, li_858993459, li_1103515245, li_1431655765, r2]
      have hh := s_rough_L G hA C1 C4 C5 M1 M3 M4 M5 S ha hN0 hN hn V0 V1 m (k + 1) f v w (upd (upd holdC k.toNat (iI V)) k.toNat (iI (E.2.1 k))) below (upd (upd holdM k.toNat (iI V)) k.toNat (iI (E.2.1 k)))
      rw [C1, M1] at hh
      exact hh _ _ _ _ _ _ _ _ _ _ _ _ _ _ _ _ _ _ _ _ _ _ _ _ _ _ _ _ (by omega) (by omega) (by omega) v0 (by omega) w0 w1 uC2 hB uM2
    · simp (disch := omega) only [gd_t, so_some, so_bind, so_gd, so_none, Option.bind_some, iI_add, iI_sub, iI_mul, iI_neg, iI_clamp, iI_nat, vin_i, iI_le, iI_lt, iI_eq, mn_i, mx_i, if_true, if_false, if_pos, if_neg, li_0, li_1, li_2, li_3, li_4, li_5, li_6, li_7, li_8, li_9, li_10, li_11, li_12, li_14, li_15, li_16, li_20, li_21, li_24, li_28, li_30, li_31, li_40, li_41, li_42, li_43, li_44, li_45, li_47, li_48, li_49, li_57, li_59, li_60, li_61, li_62, li_63, li_70, li_71, li_76, li_80, li_96, li_97, li_98, li_99, li_100, li_101, li_102, li_103, li_104, li_105, li_106, li_107, li_108, li_109, li_110, li_111, li_112, li_113, li_114, li_115, li_116, li_117, li_118, li_119, li_120, li_128, li_142, li_255, li_320, li_781, li_852, li_999, li_1000, li_2000, li_3000, li_9999, li_12345, li_65536, li_1000000, li_252645135, li_858993459, li_1103515245, li_1431655765, r2]
      have hh := s_rough_L G hA C1 C4 C5 M1 M3 M4 M5 S ha hN0 hN hn V0 V1 m (k + 1) f k (dys (Eh E k V) N.toNat (ws0 A)).2.1 (upd (upd holdC k.toNat (iI V)) k.toNat (iI (E.2.1 k))) below (upd (upd holdM k.toNat (iI V)) k.toNat (iI (E.2.1 k)))
      rw [C1, M1] at hh
      exact hh _ _ _ _ _ _ _ _ _ _ _ _ _ _ _ _ _ _ _ _ _ _ _ _ _ _ _ _ (by omega) (by omega) (by omega) (by omega) (by omega) (by omega) (by omega) uC2 hB uM2
theorem s_turned_L {E : EN} (G : EnG E) {A : Int → Int} (hA : WA A) {hoC cy le : Int32} {inches code : Nat → Int32} (C1 : hoC = iI E.1) (C4 : ∀ d, 0 ≤ d → d < 2147483648 → fX10_inchesIn cy inches (iI d) = some (iI (E.2.2.2.1 d))) (C5 : RuC E.2.2.2.2 le code)
    {hoM many size : Int32} {holdM weather rule : Nat → Int32} (M1 : hoM = iI E.1) (M2 : Arr E.1 holdM E.2.1) (M4 : ∀ d, 0 ≤ d → d < 2147483648 → fX12_weatherOf many weather (iI d) = some (iI (E.2.2.2.1 d))) (M5 : RuM E.2.2.2.2 size rule)
    {now : Int32} {snow path debt a : Nat → Int32} (S : StC A now snow path debt) (ha : Arr 71 a A) {N : Int} (hN0 : 0 ≤ N) (hN : N ≤ 60) (hn : A 70 + N < 2147483648) :
    ∀ (m : Nat) (k : Int) (f : Nat) (v w : Int) (holdC below belowM : Nat → Int32) (o0 s0 t0 d0 n0 : Int32) (sn0 p0 de0 b0' things stack : Nat → Int32) (rr : Nat) (len top at' wrong asked i1 i2 i3 i4 i5 i6 sm on si : Int32) (owedBy th : Nat → Int32),
    0 ≤ k → k + m = E.1 → m < f → (v = -2 ∨ 0 ≤ v) → v < k → 0 ≤ w → w ≤ 1000000 → Arr E.1 holdC E.2.1 → Arr (2 * E.1) below E.2.2.1 → Arr (2 * E.1) belowM E.2.2.1 →
    So (fX11_bestRoof_L11 hoC cy le now inches code snow path debt (iI (-1)) (iI N) f (iI v) (iI w) (iI k) holdC below o0 s0 t0 d0 n0 sn0 p0 de0 b0' things stack)
      (fun o => So (fX12_turned_L24 hoM many size a weather holdM rule (iI N) f (iI v) (iI w) (iI k) rr len top at' wrong asked i1 i2 i3 i4 i5 i6 sm on si belowM owedBy th)
        (fun p => ∃ v' w' : Int, o.1 = iI v' ∧ p.1 = iI v' ∧ o.2.1 = iI w' ∧ p.2.1 = iI w' ∧ (v' = -2 ∨ 0 ≤ v') ∧ v' < 7 ∧ Arr E.1 o.2.2.1 E.2.1 ∧ Arr (2 * E.1) o.2.2.2.1 E.2.2.1 ∧ Arr (2 * E.1) p.2.2.2.2.2.2.2.2.2.2.2.2.2.2.2.2.2.1 E.2.2.1))
  | 0, k, f + 1, v, w, holdC, below, belowM, o0, s0, t0, d0, n0, sn0, p0, de0, b0', things, stack, rr, len, top, at', wrong, asked, i1, i2, i3, i4, i5, i6, sm, on, si, owedBy, th, h0, hk, hf, v0, v1, w0, w1, hC, hB, hM => by
    have g := G.1
    rw [fX11_bestRoof_L11, fX12_turned_L24, C1, M1]
    simp (disch := omega) only [gd_t, so_some, so_bind, so_gd, so_none, Option.bind_some, iI_add, iI_sub, iI_mul, iI_neg, iI_clamp, iI_nat, vin_i, iI_le, iI_lt, iI_eq, mn_i, mx_i, if_true, if_false, if_pos, if_neg, li_0, li_1, li_2, li_3, li_4, li_5, li_6, li_7, li_8, li_9, li_10, li_11, li_12, li_14, li_15, li_16, li_20, li_21, li_24, li_28, li_30, li_31, li_40, li_41, li_42, li_43, li_44, li_45, li_47, li_48, li_49, li_57, li_59, li_60, li_61, li_62, li_63, li_70, li_71, li_76, li_80, li_96, li_97, li_98, li_99, li_100, li_101, li_102, li_103, li_104, li_105, li_106, li_107, li_108, li_109, li_110, li_111, li_112, li_113, li_114, li_115, li_116, li_117, li_118, li_119, li_120, li_128, li_142, li_255, li_320, li_781, li_852, li_999, li_1000, li_2000, li_3000, li_9999, li_12345, li_65536, li_1000000, li_252645135, li_858993459, li_1103515245, li_1431655765]
    exact ⟨v, w, (by first | rfl | trivial), (by first | rfl | trivial), (by first | rfl | trivial), (by first | rfl | trivial), v0, by omega, hC, hB, hM⟩
  | m + 1, k, f + 1, v, w, holdC, below, belowM, o0, s0, t0, d0, n0, sn0, p0, de0, b0', things, stack, rr, len, top, at', wrong, asked, i1, i2, i3, i4, i5, i6, sm, on, si, owedBy, th, h0, hk, hf, v0, v1, w0, w1, hC, hB, hM => by
    have g := G.1
    have uC := hB.tw h0 (by omega)
    have uM := hM.tw h0 (by omega)
    have G' : EnG (Eb E k) := G.tw h0 (by omega)
    have r1 := reb_t (k := k) g.1 g.2 h0 (by omega) holdC below
    have t1 := trn_m h0 (by omega) belowM
    obtain ⟨bC, hbC⟩ : ∃ bC, bC = upd (upd below (2 * k).toNat (below (2 * k + 1).toNat)) (2 * k + 1).toNat (below (2 * k).toNat) := ⟨_, rfl⟩
    obtain ⟨bM, hbM⟩ : ∃ bM, bM = upd (upd belowM (2 * k).toNat (belowM (2 * k + 1).toNat)) (2 * k + 1).toNat (belowM (2 * k).toNat) := ⟨_, rfl⟩
    rw [← hbC] at uC r1
    rw [← hbM] at uM t1
    have uC2 := uC.tw h0 (by omega)
    have uM2 := uM.tw h0 (by omega)
    rw [tw_tw] at uC2 uM2
    have r2 := reb_t (k := k) g.1 g.2 h0 (by omega) holdC bC
    have t2 := trn_m h0 (by omega) bM
    obtain ⟨cC, hcC⟩ : ∃ cC, cC = upd (upd bC (2 * k).toNat (bC (2 * k + 1).toNat)) (2 * k + 1).toNat (bC (2 * k).toNat) := ⟨_, rfl⟩
    obtain ⟨cM, hcM⟩ : ∃ cM, cM = upd (upd bM (2 * k).toNat (bM (2 * k + 1).toNat)) (2 * k + 1).toNat (bM (2 * k).toNat) := ⟨_, rfl⟩
    rw [← hcC] at uC2 r2
    rw [← hcM] at uM2 t2
    have C' : EnC (Eb E k) (iI E.1) cy le holdC bC inches code := ⟨rfl, hC, uC, C4, C5⟩
    have M' : EnM (Eb E k) (iI E.1) many size holdM bM weather rule := ⟨rfl, M2, uM, M4, M5⟩
    obtain ⟨p, hp, hpK⟩ := m_goOn G' M' hA hN0 (by omega) hn ha rr len top at' wrong asked i1 i2 i3 i4 i5 i6 sm on si owedBy th
    have p2 := hpK.2.1
    rw [mdys_1] at p2
    have p2 : p.2.2.2.2.2.2.2.2.2.2.2.2.2.1 = iI (dys (Eb E k) N.toNat (ws0 A)).2.1 := p2
    have ob := ow_b G' A hN0 hN
    rw [fX11_bestRoof_L11, fX12_turned_L24, C1, M1]
    simp (disch := omega) only [gd_t, so_some, so_bind, so_gd, so_none, Option.bind_some, iI_add, iI_sub, iI_mul, iI_neg, iI_clamp, iI_nat, vin_i, iI_le, iI_lt, iI_eq, mn_i, mx_i, if_true, if_false, if_pos, if_neg, li_0, li_1, li_2, li_3, li_4, li_5, li_6, li_7, li_8, li_9, li_10, li_11, li_12, li_14, li_15, li_16, li_20, li_21, li_24, li_28, li_30, li_31, li_40, li_41, li_42, li_43, li_44, li_45, li_47, li_48, li_49, li_57, li_59, li_60, li_61, li_62, li_63, li_70, li_71, li_76, li_80, li_96, li_97, li_98, li_99, li_100, li_101, li_102, li_103, li_104, li_105, li_106, li_107, li_108, li_109, li_110, li_111, li_112, li_113, li_114, li_115, li_116, li_117, li_118, li_119, li_120, li_128, li_142, li_255, li_320, li_781, li_852, li_999, li_1000, li_2000, li_3000, li_9999, li_12345, li_65536, li_1000000, li_252645135, li_858993459, li_1103515245, li_1431655765, fX12_owedIn, t1, t2, hp, r1, p2]
    refine so_mono (c_walkFrom G' C' hA hN0 (by omega) hn S o0 s0 t0 d0 n0 sn0 p0 de0 b0' things stack) ?_
    rintro o ⟨d1, d2, d3, d4, d5, d6⟩
    rw [fdys_1] at d1
    have d1 : o.1 = iI (dys (Eb E k) N.toNat (ws0 A)).2.1 := d1
    rw [d1]
    by_cases q : w ≤ (dys (Eb E k) N.toNat (ws0 A)).2.1
    · simp (disch := omega) only [gd_t, so_some, so_bind, so_gd, so_none, Option.bind_some, iI_add, iI_sub, iI_mul, iI_neg, iI_clamp, iI_nat, vin_i, iI_le, iI_lt, iI_eq, mn_i, mx_i, if_true, if_false, if_pos, if_neg, li_0, li_1, li_2, li_3, li_4, li_5, li_6, li_7, li_8, li_9, li_10, li_11, li_12, li_14, li_15, li_16, li_20, li_21, li_24, li_28, li_30, li_31, li_40, li_41, li_42, li_43, li_44, li_45, li_47, li_48, li_49, li_57, li_59, li_60, li_61, li_62, li_63, li_70, li_71, li_76, li_80, li_96, li_97, li_98, li_99, li_100, li_101, li_102, li_103, li_104, li_105, li_106, li_107, li_108, li_109, li_110, li_111, li_112, li_113, li_114, li_115, li_116, li_117, li_118, li_119, li_120, li_128, li_142, li_255, li_320, li_781, li_852, li_999, li_1000, li_2000, li_3000, li_9999, li_12345, li_65536, li_1000000, li_252645135, li_858993459, li_1103515245, li_1431655765, r2]
      have hh := s_turned_L G hA C1 C4 C5 M1 M2 M4 M5 S ha hN0 hN hn m (k + 1) f v w holdC cC cM
      rw [C1, M1] at hh
      exact hh _ _ _ _ _ _ _ _ _ _ _ _ _ _ _ _ _ _ _ _ _ _ _ _ _ _ _ _ (by omega) (by omega) (by omega) v0 (by omega) w0 w1 hC uC2 uM2
    · simp (disch := omega) only [gd_t, so_some, so_bind, so_gd, so_none, Option.bind_some, iI_add, iI_sub, iI_mul, iI_neg, iI_clamp, iI_nat, vin_i, iI_le, iI_lt, iI_eq, mn_i, mx_i, if_true, if_false, if_pos, if_neg, li_0, li_1, li_2, li_3, li_4, li_5, li_6, li_7, li_8, li_9, li_10, li_11, li_12, li_14, li_15, li_16, li_20, li_21, li_24, li_28, li_30, li_31, li_40, li_41, li_42, li_43, li_44, li_45, li_47, li_48, li_49, li_57, li_59, li_60, li_61, li_62, li_63, li_70, li_71, li_76, li_80, li_96, li_97, li_98, li_99, li_100, li_101, li_102, li_103, li_104, li_105, li_106, li_107, li_108, li_109, li_110, li_111, li_112, li_113, li_114, li_115, li_116, li_117, li_118, li_119, li_120, li_128, li_142, li_255, li_320, li_781, li_852, li_999, li_1000, li_2000, li_3000, li_9999, li_12345, li_65536, li_1000000, li_252645135, li_858993459, li_1103515245, li_1431655765, r2]
      have hh := s_turned_L G hA C1 C4 C5 M1 M2 M4 M5 S ha hN0 hN hn m (k + 1) f k (dys (Eb E k) N.toNat (ws0 A)).2.1 holdC cC cM
      rw [C1, M1] at hh
      exact hh _ _ _ _ _ _ _ _ _ _ _ _ _ _ _ _ _ _ _ _ _ _ _ _ _ _ _ _ (by omega) (by omega) (by omega) (by omega) (by omega) (by omega) (by omega) hC uC2 uM2
theorem s_rough {n : Int} {σ : CS} {τ : MS} (h : R n σ τ) (hn : n < 1000) (p1 p2 : Int32) : Ok n (x_rough σ p1 p2) (y_rough τ p1 p2) := by
  obtain ⟨n0, g, c, m, G⟩ := h
  obtain ⟨Q, rfl, b2, b3⟩ := iI_of p1
  obtain ⟨P, rfl, b0, b1⟩ := iI_of p2
  obtain ⟨c1, c2, c3, c4, c5, c6, c7, c8, c9⟩ := c
  obtain ⟨m1, m2, m3, m4, m5, m6, m7, m8, m9⟩ := m
  have e := G.1.1
  have hS := G.2.2.1
  have a7 := hS.2.2
  unfold Ok x_rough y_rough fX11_rough fX12_rough
  by_cases q2 : 1 ≤ Q ∧ Q ≤ 99
  · have z3 := win_t (a := Q) (b := 1) (c := 99) (by omega) (by omega) q2
    have z4 := in_t (a := Q) (b := 1) (c := 99) (by omega) (by omega) q2
    by_cases q : 0 ≤ P ∧ P ≤ 60
    · have z1 := win_t (a := P) (b := 0) (c := 60) (by omega) (by omega) q
      have z2 := isD_t q
      simp only [li_0, li_1, li_99, li_60, z1, z2, z3, z4, Option.bind_some, fX11_bestRoof]
      simp (disch := omega) only [gd_t, so_some, so_bind, so_gd, so_none, Option.bind_some, iI_add, iI_sub, iI_mul, iI_neg, iI_clamp, iI_nat, vin_i, iI_le, iI_lt, iI_eq, mn_i, mx_i, if_true, if_false, if_pos, if_neg, li_0, li_1, li_2, li_3, li_4, li_5, li_6, li_7, li_8, li_9, li_10, li_11, li_12, li_14, li_15, li_16, li_20, li_21, li_24, li_28, li_30, li_31, li_40, li_41, li_42, li_43, li_44, li_45, li_47, li_48, li_49, li_57, li_59, li_60, li_61, li_62, li_63, li_70, li_71, li_76, li_80, li_96, li_97, li_98, li_99, li_100, li_101, li_102, li_103, li_104, li_105, li_106, li_107, li_108, li_109, li_110, li_111, li_112, li_113, li_114, li_115, li_116, li_117, li_118, li_119, li_120, li_128, li_142, li_255, li_320, li_781, li_852, li_999, li_1000, li_2000, li_3000, li_9999, li_12345, li_65536, li_1000000, li_252645135, li_858993459, li_1103515245, li_1431655765]
      refine so_mono (s_rough_L G.1 hS.1 c1.1 c1.2.2.2.1 c1.2.2.2.2 m1.1 m1.2.2.1 m1.2.2.2.1 m1.2.2.2.2 c3 m3 q.1 q.2 (by omega) q2.1 q2.2 g.1.1.toNat 0 FU (-2) 1000000 (σ.2.1 28) (σ.2.1 26) (τ.2.1 7) (σ.1 28) (σ.1 30) (σ.1 32) (σ.1 29) (σ.1 31) (σ.2.1 35) (σ.2.1 34) (σ.2.1 33) (σ.2.1 32) (σ.2.1 20) (σ.2.1 19)
        τ.2.2 (τ.1 11) (τ.1 20) (τ.1 6) (τ.1 25) (τ.1 10) (τ.1 2) (τ.1 4) (τ.1 1) (τ.1 5) (τ.1 0) (τ.1 3) (τ.1 18) (τ.1 13) (τ.1 17) (τ.2.1 13) (τ.2.1 19) (by omega) (by omega) (show _ < 4000 by omega) (by omega) (by omega) (by omega) (by omega) c1.2.1 c1.2.2.1 m1.2.1) ?_
      rintro o ⟨p, hp, v', w', o1, o2, o3, o4, o5, o6, o7, o8, o9⟩
      simp only [hp, so_some, o1, o2, o3, o4]
      rcases o5 with rfl | o5
      · simp (disch := omega) only [gd_t, so_some, so_bind, so_gd, so_none, Option.bind_some, iI_add, iI_sub, iI_mul, iI_neg, iI_clamp, iI_nat, vin_i, iI_le, iI_lt, iI_eq, mn_i, mx_i, if_true, if_false, if_pos, if_neg, li_0, li_1, li_2, li_3, li_4, li_5, li_6, li_7, li_8, li_9, li_10, li_11, li_12, li_14, li_15, li_16, li_20, li_21, li_24, li_28, li_30, li_31, li_40, li_41, li_42, li_43, li_44, li_45, li_47, li_48, li_49, li_57, li_59, li_60, li_61, li_62, li_63, li_70, li_71, li_76, li_80, li_96, li_97, li_98, li_99, li_100, li_101, li_102, li_103, li_104, li_105, li_106, li_107, li_108, li_109, li_110, li_111, li_112, li_113, li_114, li_115, li_116, li_117, li_118, li_119, li_120, li_128, li_142, li_255, li_320, li_781, li_852, li_999, li_1000, li_2000, li_3000, li_9999, li_12345, li_65536, li_1000000, li_252645135, li_858993459, li_1103515245, li_1431655765]
        exact ⟨(by first | rfl | trivial), R.same ⟨n0.1, hn⟩ G ⟨⟨c1.1, o7, o8, c1.2.2.2⟩, c2, c3, c4, c5, c6, c7, c8, c9⟩ ⟨⟨m1.1, o9, m1.2.2⟩, m2, m3, m4, m5, m6, m7, m8, m9⟩⟩
      · simp (disch := omega) only [gd_t, so_some, so_bind, so_gd, so_none, Option.bind_some, iI_add, iI_sub, iI_mul, iI_neg, iI_clamp, iI_nat, vin_i, iI_le, iI_lt, iI_eq, mn_i, mx_i, if_true, if_false, if_pos, if_neg, li_0, li_1, li_2, li_3, li_4, li_5, li_6, li_7, li_8, li_9, li_10, li_11, li_12, li_14, li_15, li_16, li_20, li_21, li_24, li_28, li_30, li_31, li_40, li_41, li_42, li_43, li_44, li_45, li_47, li_48, li_49, li_57, li_59, li_60, li_61, li_62, li_63, li_70, li_71, li_76, li_80, li_96, li_97, li_98, li_99, li_100, li_101, li_102, li_103, li_104, li_105, li_106, li_107, li_108, li_109, li_110, li_111, li_112, li_113, li_114, li_115, li_116, li_117, li_118, li_119, li_120, li_128, li_142, li_255, li_320, li_781, li_852, li_999, li_1000, li_2000, li_3000, li_9999, li_12345, li_65536, li_1000000, li_252645135, li_858993459, li_1103515245, li_1431655765]
        refine so_mono (c_tell _ _ _) ?_
        intro t hr
        refine so_mono (m_tell _ _) ?_
        intro u hs
        exact ⟨(by first | rfl | trivial), R.tol ⟨n0.1, hn⟩ G hr (by simp) ⟨⟨c1.1, o7, o8, c1.2.2.2⟩, c2, c3, c4, c5, c6, hr, c8, c9⟩ ⟨⟨m1.1, o9, m1.2.2⟩, m2, m3, m4, m5, m6, hs, m8, m9⟩⟩
    · have z1 := win_f (a := P) (b := 0) (c := 60) b0 b1 (by omega) (by omega) (by omega) (by omega) q
      have z2 := isD_f b0 b1 q
      simp only [li_0, li_1, li_99, li_60, z1, z2, z3, z4, Option.bind_some]
      simp (disch := omega) only [gd_t, so_some, so_bind, so_gd, so_none, Option.bind_some, iI_add, iI_sub, iI_mul, iI_neg, iI_clamp, iI_nat, vin_i, iI_le, iI_lt, iI_eq, mn_i, mx_i, if_true, if_false, if_pos, if_neg, li_0, li_1, li_2, li_3, li_4, li_5, li_6, li_7, li_8, li_9, li_10, li_11, li_12, li_14, li_15, li_16, li_20, li_21, li_24, li_28, li_30, li_31, li_40, li_41, li_42, li_43, li_44, li_45, li_47, li_48, li_49, li_57, li_59, li_60, li_61, li_62, li_63, li_70, li_71, li_76, li_80, li_96, li_97, li_98, li_99, li_100, li_101, li_102, li_103, li_104, li_105, li_106, li_107, li_108, li_109, li_110, li_111, li_112, li_113, li_114, li_115, li_116, li_117, li_118, li_119, li_120, li_128, li_142, li_255, li_320, li_781, li_852, li_999, li_1000, li_2000, li_3000, li_9999, li_12345, li_65536, li_1000000, li_252645135, li_858993459, li_1103515245, li_1431655765]
      exact ⟨(by first | rfl | trivial), R.same ⟨n0.1, hn⟩ G ⟨c1, c2, c3, c4, c5, c6, c7, c8, c9⟩ ⟨m1, m2, m3, m4, m5, m6, m7, m8, m9⟩⟩
  · have z3 := win_f (a := Q) (b := 1) (c := 99) b2 b3 (by omega) (by omega) (by omega) (by omega) q2
    have z4 := in_f (a := Q) (b := 1) (c := 99) b2 b3 (by omega) (by omega) (by omega) (by omega) q2
    simp only [li_1, li_99, z3, z4, Option.bind_some]
    simp (disch := omega) only [gd_t, so_some, so_bind, so_gd, so_none, Option.bind_some, iI_add, iI_sub, iI_mul, iI_neg, iI_clamp, iI_nat, vin_i, iI_le, iI_lt, iI_eq, mn_i, mx_i, if_true, if_false, if_pos, if_neg, li_0, li_1, li_2, li_3, li_4, li_5, li_6, li_7, li_8, li_9, li_10, li_11, li_12, li_14, li_15, li_16, li_20, li_21, li_24, li_28, li_30, li_31, li_40, li_41, li_42, li_43, li_44, li_45, li_47, li_48, li_49, li_57, li_59, li_60, li_61, li_62, li_63, li_70, li_71, li_76, li_80, li_96, li_97, li_98, li_99, li_100, li_101, li_102, li_103, li_104, li_105, li_106, li_107, li_108, li_109, li_110, li_111, li_112, li_113, li_114, li_115, li_116, li_117, li_118, li_119, li_120, li_128, li_142, li_255, li_320, li_781, li_852, li_999, li_1000, li_2000, li_3000, li_9999, li_12345, li_65536, li_1000000, li_252645135, li_858993459, li_1103515245, li_1431655765]
    exact ⟨(by first | rfl | trivial), R.same ⟨n0.1, hn⟩ G ⟨c1, c2, c3, c4, c5, c6, c7, c8, c9⟩ ⟨m1, m2, m3, m4, m5, m6, m7, m8, m9⟩⟩
theorem s_turned {n : Int} {σ : CS} {τ : MS} (h : R n σ τ) (hn : n < 1000) (p1 : Int32) : Ok n (x_turned σ p1) (y_turned τ p1) := by
  obtain ⟨n0, g, c, m, G⟩ := h
  obtain ⟨P, rfl, b0, b1⟩ := iI_of p1
  obtain ⟨c1, c2, c3, c4, c5, c6, c7, c8, c9⟩ := c
  obtain ⟨m1, m2, m3, m4, m5, m6, m7, m8, m9⟩ := m
  have e := G.1.1
  have hS := G.2.2.1
  have a7 := hS.2.2
  unfold Ok x_turned y_turned fX11_turned fX12_turned
  by_cases q : 0 ≤ P ∧ P ≤ 60
  · have z1 := win_t (a := P) (b := 0) (c := 60) (by omega) (by omega) q
    have z2 := isD_t q
    simp only [li_0, li_60, z1, z2, Option.bind_some, fX11_bestRoof]
    simp (disch := omega) only [gd_t, so_some, so_bind, so_gd, so_none, Option.bind_some, iI_add, iI_sub, iI_mul, iI_neg, iI_clamp, iI_nat, vin_i, iI_le, iI_lt, iI_eq, mn_i, mx_i, if_true, if_false, if_pos, if_neg, li_0, li_1, li_2, li_3, li_4, li_5, li_6, li_7, li_8, li_9, li_10, li_11, li_12, li_14, li_15, li_16, li_20, li_21, li_24, li_28, li_30, li_31, li_40, li_41, li_42, li_43, li_44, li_45, li_47, li_48, li_49, li_57, li_59, li_60, li_61, li_62, li_63, li_70, li_71, li_76, li_80, li_96, li_97, li_98, li_99, li_100, li_101, li_102, li_103, li_104, li_105, li_106, li_107, li_108, li_109, li_110, li_111, li_112, li_113, li_114, li_115, li_116, li_117, li_118, li_119, li_120, li_128, li_142, li_255, li_320, li_781, li_852, li_999, li_1000, li_2000, li_3000, li_9999, li_12345, li_65536, li_1000000, li_252645135, li_858993459, li_1103515245, li_1431655765]
    refine so_mono (s_turned_L G.1 hS.1 c1.1 c1.2.2.2.1 c1.2.2.2.2 m1.1 m1.2.1 m1.2.2.2.1 m1.2.2.2.2 c3 m3 q.1 q.2 (by omega) g.1.1.toNat 0 FU (-2) 1000000 (σ.2.1 28) (σ.2.1 26) (τ.2.1 2) (σ.1 28) (σ.1 30) (σ.1 32) (σ.1 29) (σ.1 31) (σ.2.1 35) (σ.2.1 34) (σ.2.1 33) (σ.2.1 32) (σ.2.1 20) (σ.2.1 19)
      τ.2.2 (τ.1 11) (τ.1 20) (τ.1 6) (τ.1 25) (τ.1 10) (τ.1 2) (τ.1 4) (τ.1 1) (τ.1 5) (τ.1 0) (τ.1 3) (τ.1 18) (τ.1 13) (τ.1 17) (τ.2.1 13) (τ.2.1 19) (by omega) (by omega) (show _ < 4000 by omega) (by omega) (by omega) (by omega) (by omega) c1.2.1 c1.2.2.1 m1.2.2.1) ?_
    rintro o ⟨p, hp, v', w', o1, o2, o3, o4, o5, o6, o7, o8, o9⟩
    simp only [hp, so_some, o1, o2, o3, o4]
    rcases o5 with rfl | o5
    · simp (disch := omega) only [gd_t, so_some, so_bind, so_gd, so_none, Option.bind_some, iI_add, iI_sub, iI_mul, iI_neg, iI_clamp, iI_nat, vin_i, iI_le, iI_lt, iI_eq, mn_i, mx_i, if_true, if_false, if_pos, if_neg, li_0, li_1, li_2, li_3, li_4, li_5, li_6, li_7, li_8, li_9, li_10, li_11, li_12, li_14, li_15, li_16, li_20, li_21, li_24, li_28, li_30, li_31, li_40, li_41, li_42, li_43, li_44, li_45, li_47, li_48, li_49, li_57, li_59, li_60, li_61, li_62, li_63, li_70, li_71, li_76, li_80, li_96, li_97, li_98, li_99, li_100, li_101, li_102, li_103, li_104, li_105, li_106, li_107, li_108, li_109, li_110, li_111, li_112, li_113, li_114, li_115, li_116, li_117, li_118, li_119, li_120, li_128, li_142, li_255, li_320, li_781, li_852, li_999, li_1000, li_2000, li_3000, li_9999, li_12345, li_65536, li_1000000, li_252645135, li_858993459, li_1103515245, li_1431655765]
      exact ⟨(by first | rfl | trivial), R.same ⟨n0.1, hn⟩ G ⟨⟨c1.1, o7, o8, c1.2.2.2⟩, c2, c3, c4, c5, c6, c7, c8, c9⟩ ⟨⟨m1.1, m1.2.1, o9, m1.2.2.2⟩, m2, m3, m4, m5, m6, m7, m8, m9⟩⟩
    · simp (disch := omega) only [gd_t, so_some, so_bind, so_gd, so_none, Option.bind_some, iI_add, iI_sub, iI_mul, iI_neg, iI_clamp, iI_nat, vin_i, iI_le, iI_lt, iI_eq, mn_i, mx_i, if_true, if_false, if_pos, if_neg, li_0, li_1, li_2, li_3, li_4, li_5, li_6, li_7, li_8, li_9, li_10, li_11, li_12, li_14, li_15, li_16, li_20, li_21, li_24, li_28, li_30, li_31, li_40, li_41, li_42, li_43, li_44, li_45, li_47, li_48, li_49, li_57, li_59, li_60, li_61, li_62, li_63, li_70, li_71, li_76, li_80, li_96, li_97, li_98, li_99, li_100, li_101, li_102, li_103, li_104, li_105, li_106, li_107, li_108, li_109, li_110, li_111, li_112, li_113, li_114, li_115, li_116, li_117, li_118, li_119, li_120, li_128, li_142, li_255, li_320, li_781, li_852, li_999, li_1000, li_2000, li_3000, li_9999, li_12345, li_65536, li_1000000, li_252645135, li_858993459, li_1103515245, li_1431655765]
      refine so_mono (c_tell _ _ _) ?_
      intro t hr
      refine so_mono (m_tell _ _) ?_
      intro u hs
      exact ⟨(by first | rfl | trivial), R.tol ⟨n0.1, hn⟩ G hr (by simp) ⟨⟨c1.1, o7, o8, c1.2.2.2⟩, c2, c3, c4, c5, c6, hr, c8, c9⟩ ⟨⟨m1.1, m1.2.1, o9, m1.2.2.2⟩, m2, m3, m4, m5, m6, hs, m8, m9⟩⟩
  · have z1 := win_f (a := P) (b := 0) (c := 60) b0 b1 (by omega) (by omega) (by omega) (by omega) q
    have z2 := isD_f b0 b1 q
    simp only [li_0, li_60, z1, z2, Option.bind_some]
    simp (disch := omega) only [gd_t, so_some, so_bind, so_gd, so_none, Option.bind_some, iI_add, iI_sub, iI_mul, iI_neg, iI_clamp, iI_nat, vin_i, iI_le, iI_lt, iI_eq, mn_i, mx_i, if_true, if_false, if_pos, if_neg, li_0, li_1, li_2, li_3, li_4, li_5, li_6, li_7, li_8, li_9, li_10, li_11, li_12, li_14, li_15, li_16, li_20, li_21, li_24, li_28, li_30, li_31, li_40, li_41, li_42, li_43, li_44, li_45, li_47, li_48, li_49, li_57, li_59, li_60, li_61, li_62, li_63, li_70, li_71, li_76, li_80, li_96, li_97, li_98, li_99, li_100, li_101, li_102, li_103, li_104, li_105, li_106, li_107, li_108, li_109, li_110, li_111, li_112, li_113, li_114, li_115, li_116, li_117, li_118, li_119, li_120, li_128, li_142, li_255, li_320, li_781, li_852, li_999, li_1000, li_2000, li_3000, li_9999, li_12345, li_65536, li_1000000, li_252645135, li_858993459, li_1103515245, li_1431655765]
    exact ⟨(by first | rfl | trivial), R.same ⟨n0.1, hn⟩ G ⟨c1, c2, c3, c4, c5, c6, c7, c8, c9⟩ ⟨m1, m2, m3, m4, m5, m6, m7, m8, m9⟩⟩
