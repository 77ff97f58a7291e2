theorem c_owesN_L {E : EN} (G : EnG E) {ho cy le : Int32} {hold below inches code : Nat → Int32} (C : EnC E ho cy le hold below inches code) {N b : Int} (hN : N ≤ 60) (b0 : 0 ≤ b) (b1 : b < 7) : ∀ (m : Nat) (k : Int) (f : Nat) (x : FW)
    (owed slides struck slid now : Int32) (snow path debt owedBy things stack : Nat → Int32), 0 ≤ k → k + m = N → m < f → WA x.1.1 → x.1.1 70 + m < 2147483648 → 0 ≤ x.1.2.2 b → x.1.2.2 b ≤ 1386 * k → Wk x owed slides struck slid now snow path debt owedBy →
    So (fX11_owesNothing_L16 cy ho le inches hold below code (iI b) (iI N) f (iI k) owed slides struck slid now snow path debt owedBy things stack)
      (fun o => ∃ v : Int, o.2.2.2.2.2.2.2.2.1 b.toNat = iI v ∧ 0 ≤ v ∧ v < 2147483648 ∧ (v = 0 ↔ (dys E m x.1).2.2 b = 0))
  | 0, k, f + 1, x, owed, slides, struck, slid, now, snow, path, debt, owedBy, things, stack, h0, hk, hf, hA, hn, ob0, ob1, K => by
    rw [fX11_owesNothing_L16]
    simp (disch := omega) only [gd_t, so_some, so_bind, so_gd, so_none, Option.bind_some, iI_add, iI_sub, iI_mul, iI_neg, iI_clamp, iI_nat, vin_i, iI_le, iI_lt, iI_eq, mn_i, mx_i, if_true, if_false, if_pos, if_neg, li_0, li_1, li_2, li_3, li_4, li_5, li_6, li_7, li_8, li_9, li_10, li_11, li_12, li_14, li_15, li_16, li_20, li_21, li_24, li_28, li_30, li_31, li_40, li_41, li_42, li_43, li_44, li_45, li_47, li_48, li_49, li_57, li_59, li_60, li_61, li_62, li_63, li_70, li_71, li_76, li_80, li_96, li_97, li_98, li_99, li_100, li_101, li_102, li_103, li_104, li_105, li_106, li_107, li_108, li_109, li_110, li_111, li_112, li_113, li_114, li_115, li_116, li_117, li_118, li_119, li_120, li_128, li_142, li_255, li_320, li_781, li_852, li_999, li_1000, li_2000, li_3000, li_9999, li_12345, li_65536, li_1000000, li_252645135, li_858993459, li_1103515245, li_1431655765]
    exact ⟨_, K.2.2.2.2.2.at b0 b1, ob0, by omega, Iff.rfl⟩
  | m + 1, k, f + 1, x, owed, slides, struck, slid, now, snow, path, debt, owedBy, things, stack, h0, hk, hf, hA, hn, ob0, ob1, K => by
    have kb := K.2.2.2.2.2
    have d := dys_ob G b (m + 1) x.1
    have d1 := dy_ob G x.1 b
    rw [fX11_owesNothing_L16]
    by_cases q : x.1.2.2 b = 0
    · simp (disch := omega) only [gd_t, so_some, so_bind, so_gd, so_none, Option.bind_some, iI_add, iI_sub, iI_mul, iI_neg, iI_clamp, iI_nat, vin_i, iI_le, iI_lt, iI_eq, mn_i, mx_i, if_true, if_false, if_pos, if_neg, li_0, li_1, li_2, li_3, li_4, li_5, li_6, li_7, li_8, li_9, li_10, li_11, li_12, li_14, li_15, li_16, li_20, li_21, li_24, li_28, li_30, li_31, li_40, li_41, li_42, li_43, li_44, li_45, li_47, li_48, li_49, li_57, li_59, li_60, li_61, li_62, li_63, li_70, li_71, li_76, li_80, li_96, li_97, li_98, li_99, li_100, li_101, li_102, li_103, li_104, li_105, li_106, li_107, li_108, li_109, li_110, li_111, li_112, li_113, li_114, li_115, li_116, li_117, li_118, li_119, li_120, li_128, li_142, li_255, li_320, li_781, li_852, li_999, li_1000, li_2000, li_3000, li_9999, li_12345, li_65536, li_1000000, li_252645135, li_858993459, li_1103515245, li_1431655765, kb.at]
      refine so_mono (c_goDay G C hA (by omega) K things stack) ?_
      intro o ho
      have d70 : (fdy E x).1.1 70 = x.1.1 70 + 1 := dy_70 E x.1
      exact c_owesN_L G C hN b0 b1 m (k + 1) f (fdy E x) _ _ _ _ _ _ _ _ _ _ _ (by omega) (by omega) (by omega) (wa_dy G hA) (by omega) (by show 0 ≤ (dy E x.1).2.2 b; omega) (by show (dy E x.1).2.2 b ≤ 1386 * (k + 1); omega) ho
    · simp (disch := omega) only [gd_t, so_some, so_bind, so_gd, so_none, Option.bind_some, iI_add, iI_sub, iI_mul, iI_neg, iI_clamp, iI_nat, vin_i, iI_le, iI_lt, iI_eq, mn_i, mx_i, if_true, if_false, if_pos, if_neg, li_0, li_1, li_2, li_3, li_4, li_5, li_6, li_7, li_8, li_9, li_10, li_11, li_12, li_14, li_15, li_16, li_20, li_21, li_24, li_28, li_30, li_31, li_40, li_41, li_42, li_43, li_44, li_45, li_47, li_48, li_49, li_57, li_59, li_60, li_61, li_62, li_63, li_70, li_71, li_76, li_80, li_96, li_97, li_98, li_99, li_100, li_101, li_102, li_103, li_104, li_105, li_106, li_107, li_108, li_109, li_110, li_111, li_112, li_113, li_114, li_115, li_116, li_117, li_118, li_119, li_120, li_128, li_142, li_255, li_320, li_781, li_852, li_999, li_1000, li_2000, li_3000, li_9999, li_12345, li_65536, li_1000000, li_252645135, li_858993459, li_1103515245, li_1431655765, kb.at]
      exact ⟨_, rfl, ob0, by omega, by omega⟩
theorem c_owesN {E : EN} (G : EnG E) {ho cy le : Int32} {hold below inches code : Nat → Int32} (C : EnC E ho cy le hold below inches code) {N b : Int} (hN0 : 0 ≤ N) (hN : N ≤ 60) (b0 : 0 ≤ b) (b1 : b < 7) {A : Int → Int} (hA : WA A) (hn : A 70 + N < 2147483648) {now : Int32} {snow path debt : Nat → Int32} (S : StC A now snow path debt)
    (o0 s0 t0 d0 n0 : Int32) (sn0 p0 de0 b0' things stack : Nat → Int32) :
    So (fX11_owesNothing o0 s0 t0 d0 n0 now sn0 p0 de0 b0' snow path debt cy ho le inches hold below things stack code (iI b) (iI N)) (fun o => o.1 = iI (if (dys E N.toNat (ws0 A)).2.2 b = 0 then 1 else 0)) := by
  unfold fX11_owesNothing
  simp only [so_bind, li_0]
  refine so_mono (c_beginAt S _ _ _ _ _ _ _ _ _) ?_
  intro o ho
  refine so_mono (c_owesN_L G C hN b0 b1 N.toNat 0 FU (fw0 A) _ _ _ _ _ _ _ _ _ things stack (by omega) (by omega) (show _ < 4000 by omega) hA (by show A 70 + _ < _; omega) (by show (0 : Int) ≤ 0; omega) (by show (0 : Int) ≤ 1386 * 0; omega) ho) ?_
  rintro p ⟨v, hv, v0, v1, hz⟩
  have hz : v = 0 ↔ (dys E N.toNat (ws0 A)).2.2 b = 0 := hz
  unfold fX11_owesNothing_J46
  by_cases q : v = 0
  · have q2 := hz.1 q
    simp (disch := omega) only [gd_t, so_some, so_bind, so_gd, so_none, Option.bind_some, iI_add, iI_sub, iI_mul, iI_neg, iI_clamp, iI_nat, vin_i, iI_le, iI_lt, iI_eq, mn_i, mx_i, if_true, if_false, if_pos, if_neg, li_0, li_1, li_2, li_3, li_4, li_5, li_6, li_7, li_8, li_9, li_10, li_11, li_12, li_14, li_15, li_16, li_20, li_21, li_24, li_28, li_30, li_31, li_40, li_41, li_42, li_43, li_44, li_45, li_47, li_48, li_49, li_57, li_59, li_60, li_61, li_62, li_63, li_70, li_71, li_76, li_80, li_96, li_97, li_98, li_99, li_100, li_101, li_102, li_103, li_104, li_105, li_106, li_107, li_108, li_109, li_110, li_111, li_112, li_113, li_114, li_115, li_116, li_117, li_118, li_119, li_120, li_128, li_142, li_255, li_320, li_781, li_852, li_999, li_1000, li_2000, li_3000, li_9999, li_12345, li_65536, li_1000000, li_252645135, li_858993459, li_1103515245, li_1431655765, hv]
  · have q2 : ¬ (dys E N.toNat (ws0 A)).2.2 b = 0 := fun x => q (hz.2 x)
    simp (disch := omega) only [gd_t, so_some, so_bind, so_gd, so_none, Option.bind_some, iI_add, iI_sub, iI_mul, iI_neg, iI_clamp, iI_nat, vin_i, iI_le, iI_lt, iI_eq, mn_i, mx_i, if_true, if_false, if_pos, if_neg, li_0, li_1, li_2, li_3, li_4, li_5, li_6, li_7, li_8, li_9, li_10, li_11, li_12, li_14, li_15, li_16, li_20, li_21, li_24, li_28, li_30, li_31, li_40, li_41, li_42, li_43, li_44, li_45, li_47, li_48, li_49, li_57, li_59, li_60, li_61, li_62, li_63, li_70, li_71, li_76, li_80, li_96, li_97, li_98, li_99, li_100, li_101, li_102, li_103, li_104, li_105, li_106, li_107, li_108, li_109, li_110, li_111, li_112, li_113, li_114, li_115, li_116, li_117, li_118, li_119, li_120, li_128, li_142, li_255, li_320, li_781, li_852, li_999, li_1000, li_2000, li_3000, li_9999, li_12345, li_65536, li_1000000, li_252645135, li_858993459, li_1103515245, li_1431655765, hv]
def Eh (E : EN) (b v : Int) : EN := (E.1, upI E.2.1 b v, E.2.2)
theorem up_up (A : Int → Int) (k v w : Int) : upI (upI A k v) k w = upI A k w := by
  funext i
  by_cases q : i = k
  · rw [q, upI_s, upI_s]
  · rw [upI_o _ q, upI_o _ q, upI_o _ q]
theorem up_id (A : Int → Int) (k : Int) : upI A k (A k) = A := by
  funext i
  by_cases q : i = k
  · rw [q, upI_s]
  · rw [upI_o _ q]
theorem s_needs_L {E : EN} (G : EnG E) {A : Int → Int} (hA : WA A) {hoC cy le : Int32} {below inches code : Nat → Int32} (C1 : hoC = iI E.1) (C3 : Arr (2 * E.1) below E.2.2.1) (C4 : ∀ d, 0 ≤ d → d < 2147483648 → fX10_inchesIn cy inches (iI d) = some (iI (E.2.2.2.1 d))) (C5 : RuC E.2.2.2.2 le code)
    {hoM many size : Int32} {belowM weather rule : Nat → Int32} (M1 : hoM = iI E.1) (M3 : Arr (2 * E.1) belowM E.2.2.1) (M4 : ∀ d, 0 ≤ d → d < 2147483648 → fX12_weatherOf many weather (iI d) = some (iI (E.2.2.2.1 d))) (M5 : RuM E.2.2.2.2 size rule)
    {now : Int32} {snow path debt a : Nat → Int32} (S : StC A now snow path debt) (ha : Arr 71 a A) {N b : Int} (hN0 : 0 ≤ N) (hN : N ≤ 60) (hn : A 70 + N < 2147483648) (b0 : 0 ≤ b) (b1 : b < E.1) :
    ∀ (m : Nat) (k : Int) (f : Nat) (v z : Int) (holdC holdM : Nat → Int32) (o0 s0 t0 d0 n0 : Int32) (sn0 p0 de0 b0' things stack : Nat → Int32) (rr : Nat) (len top at' wrong asked i1 i2 i3 i4 i5 i6 sm on si : Int32) (owedBy th : Nat → Int32),
    1 ≤ k → k + m = 100 → m < f → (v = -2 ∨ 0 ≤ v) → v ≤ 99 → Arr E.1 holdC (upI E.2.1 b z) → Arr E.1 holdM (upI E.2.1 b z) →
    So (fX11_needs_L40 hoC now cy le snow path debt inches below code (iI b) (iI N) f (iI v) (iI k) holdC o0 s0 t0 d0 n0 sn0 p0 de0 b0' things stack)
      (fun o => So (fX12_needs_L36 hoM many size a weather belowM rule (iI b) (iI N) f (iI v) (iI k) rr len top at' wrong asked i1 i2 i3 i4 i5 i6 sm on si holdM owedBy th)
        (fun p => o.1 = p.1 ∧ ∃ z', Arr E.1 o.2.1 (upI E.2.1 b z') ∧ Arr E.1 p.2.2.2.2.2.2.2.2.2.2.2.2.2.2.2.2.1 (upI E.2.1 b z')))
  | 0, k, f + 1, v, z, holdC, holdM, o0, s0, t0, d0, n0, sn0, p0, de0, b0', things, stack, rr, len, top, at', wrong, asked, i1, i2, i3, i4, i5, i6, sm, on, si, owedBy, th, h0, hk, hf, v0, v1, hC, hM => by
    rw [fX11_needs_L40, fX12_needs_L36]
    simp (disch := omega) only [gd_t, so_some, so_bind, so_gd, so_none, Option.bind_some, iI_add, iI_sub, iI_mul, iI_neg, iI_clamp, iI_nat, vin_i, iI_le, iI_lt, iI_eq, mn_i, mx_i, if_true, if_false, if_pos, if_neg, li_0, li_1, li_2, li_3, li_4, li_5, li_6, li_7, li_8, li_9, li_10, li_11, li_12, li_14, li_15, li_16, li_20, li_21, li_24, li_28, li_30, li_31, li_40, li_41, li_42, li_43, li_44, li_45, li_47, li_48, li_49, li_57, li_59, li_60, li_61, li_62, li_63, li_70, li_71, li_76, li_80, li_96, li_97, li_98, li_99, li_100, li_101, li_102, li_103, li_104, li_105, li_106, li_107, li_108, li_109, li_110, li_111, li_112, li_113, li_114, li_115, li_116, li_117, li_118, li_119, li_120, li_128, li_142, li_255, li_320, li_781, li_852, li_999, li_1000, li_2000, li_3000, li_9999, li_12345, li_65536, li_1000000, li_252645135, li_858993459, li_1103515245, li_1431655765]
    exact ⟨(by first | rfl | trivial), z, hC, hM⟩
  | m + 1, k, f + 1, v, z, holdC, holdM, o0, s0, t0, d0, n0, sn0, p0, de0, b0', things, stack, rr, len, top, at', wrong, asked, i1, i2, i3, i4, i5, i6, sm, on, si, owedBy, th, h0, hk, hf, v0, v1, hC, hM => by
    have g := G.1
    rw [fX11_needs_L40, fX12_needs_L36]
    by_cases q : v = -2
    · have uC : Arr E.1 (upd holdC b.toNat (iI k)) (upI E.2.1 b k) := by rw [← up_up E.2.1 b z k]; exact hC.up k b0
      have uM : Arr E.1 (upd holdM b.toNat (iI k)) (upI E.2.1 b k) := by rw [← up_up E.2.1 b z k]; exact hM.up k b0
      have G' : EnG (Eh E b k) := G.ho (by omega) (by omega)
      have C' : EnC (Eh E b k) hoC cy le (upd holdC b.toNat (iI k)) below inches code := ⟨C1, uC, C3, C4, C5⟩
      have M' : EnM (Eh E b k) hoM many size (upd holdM b.toNat (iI k)) belowM weather rule := ⟨M1, uM, M3, M4, M5⟩
      obtain ⟨p, hp, hpK⟩ := m_goOn G' M' hA hN0 (by omega) hn ha rr len top at' wrong asked i1 i2 i3 i4 i5 i6 sm on si owedBy th
      have p4 := hpK.2.2.2.1
      rw [mdys_1] at p4
      have r1 := p4.at b0 (by omega)
      have ob := dys_ob G' b N.toNat (ws0 A)
      have ob : 0 ≤ (dys (Eh E b k) N.toNat (ws0 A)).2.2 b ∧ (dys (Eh E b k) N.toNat (ws0 A)).2.2 b ≤ 0 + 1386 * (N.toNat : Int) := ob
      have r1 : p.2.2.2.2.2.2.2.2.2.2.2.2.2.2.2.1 b.toNat = iI ((dys (Eh E b k) N.toNat (ws0 A)).2.2 b) := r1
      simp (disch := omega) only [gd_t, so_some, so_bind, so_gd, so_none, Option.bind_some, iI_add, iI_sub, iI_mul, iI_neg, iI_clamp, iI_nat, vin_i, iI_le, iI_lt, iI_eq, mn_i, mx_i, if_true, if_false, if_pos, if_neg, li_0, li_1, li_2, li_3, li_4, li_5, li_6, li_7, li_8, li_9, li_10, li_11, li_12, li_14, li_15, li_16, li_20, li_21, li_24, li_28, li_30, li_31, li_40, li_41, li_42, li_43, li_44, li_45, li_47, li_48, li_49, li_57, li_59, li_60, li_61, li_62, li_63, li_70, li_71, li_76, li_80, li_96, li_97, li_98, li_99, li_100, li_101, li_102, li_103, li_104, li_105, li_106, li_107, li_108, li_109, li_110, li_111, li_112, li_113, li_114, li_115, li_116, li_117, li_118, li_119, li_120, li_128, li_142, li_255, li_320, li_781, li_852, li_999, li_1000, li_2000, li_3000, li_9999, li_12345, li_65536, li_1000000, li_252645135, li_858993459, li_1103515245, li_1431655765, hp, r1]
      refine so_mono (c_owesN G' C' hN0 hN b0 (by omega) hA hn S o0 s0 t0 d0 n0 sn0 p0 de0 b0' things stack) ?_
      intro o ho
      rw [ho]
      by_cases q2 : (dys (Eh E b k) N.toNat (ws0 A)).2.2 b = 0
      · simp (disch := omega) only [gd_t, so_some, so_bind, so_gd, so_none, Option.bind_some, iI_add, iI_sub, iI_mul, iI_neg, iI_clamp, iI_nat, vin_i, iI_le, iI_lt, iI_eq, mn_i, mx_i, if_true, if_false, if_pos, if_neg, li_0, li_1, li_2, li_3, li_4, li_5, li_6, li_7, li_8, li_9, li_10, li_11, li_12, li_14, li_15, li_16, li_20, li_21, li_24, li_28, li_30, li_31, li_40, li_41, li_42, li_43, li_44, li_45, li_47, li_48, li_49, li_57, li_59, li_60, li_61, li_62, li_63, li_70, li_71, li_76, li_80, li_96, li_97, li_98, li_99, li_100, li_101, li_102, li_103, li_104, li_105, li_106, li_107, li_108, li_109, li_110, li_111, li_112, li_113, li_114, li_115, li_116, li_117, li_118, li_119, li_120, li_128, li_142, li_255, li_320, li_781, li_852, li_999, li_1000, li_2000, li_3000, li_9999, li_12345, li_65536, li_1000000, li_252645135, li_858993459, li_1103515245, li_1431655765]
        exact s_needs_L G hA C1 C3 C4 C5 M1 M3 M4 M5 S ha hN0 hN hn b0 b1 m (k + 1) f k k _ _ _ _ _ _ _ _ _ _ _ _ _ _ _ _ _ _ _ _ _ _ _ _ _ _ _ _ _ _ (by omega) (by omega) (by omega) (by omega) (by omega) uC uM
      · simp (disch := omega) only [gd_t, so_some, so_bind, so_gd, so_none, Option.bind_some, iI_add, iI_sub, iI_mul, iI_neg, iI_clamp, iI_nat, vin_i, iI_le, iI_lt, iI_eq, mn_i, mx_i, if_true, if_false, if_pos, if_neg, li_0, li_1, li_2, li_3, li_4, li_5, li_6, li_7, li_8, li_9, li_10, li_11, li_12, li_14, li_15, li_16, li_20, li_21, li_24, li_28, li_30, li_31, li_40, li_41, li_42, li_43, li_44, li_45, li_47, li_48, li_49, li_57, li_59, li_60, li_61, li_62, li_63, li_70, li_71, li_76, li_80, li_96, li_97, li_98, li_99, li_100, li_101, li_102, li_103, li_104, li_105, li_106, li_107, li_108, li_109, li_110, li_111, li_112, li_113, li_114, li_115, li_116, li_117, li_118, li_119, li_120, li_128, li_142, li_255, li_320, li_781, li_852, li_999, li_1000, li_2000, li_3000, li_9999, li_12345, li_65536, li_1000000, li_252645135, li_858993459, li_1103515245, li_1431655765]
        exact s_needs_L G hA C1 C3 C4 C5 M1 M3 M4 M5 S ha hN0 hN hn b0 b1 m (k + 1) f v k _ _ _ _ _ _ _ _ _ _ _ _ _ _ _ _ _ _ _ _ _ _ _ _ _ _ _ _ _ _ (by omega) (by omega) (by omega) v0 v1 uC uM
    · simp (disch := omega) only [gd_t, so_some, so_bind, so_gd, so_none, Option.bind_some, iI_add, iI_sub, iI_mul, iI_neg, iI_clamp, iI_nat, vin_i, iI_le, iI_lt, iI_eq, mn_i, mx_i, if_true, if_false, if_pos, if_neg, li_0, li_1, li_2, li_3, li_4, li_5, li_6, li_7, li_8, li_9, li_10, li_11, li_12, li_14, li_15, li_16, li_20, li_21, li_24, li_28, li_30, li_31, li_40, li_41, li_42, li_43, li_44, li_45, li_47, li_48, li_49, li_57, li_59, li_60, li_61, li_62, li_63, li_70, li_71, li_76, li_80, li_96, li_97, li_98, li_99, li_100, li_101, li_102, li_103, li_104, li_105, li_106, li_107, li_108, li_109, li_110, li_111, li_112, li_113, li_114, li_115, li_116, li_117, li_118, li_119, li_120, li_128, li_142, li_255, li_320, li_781, li_852, li_999, li_1000, li_2000, li_3000, li_9999, li_12345, li_65536, li_1000000, li_252645135, li_858993459, li_1103515245, li_1431655765]
      exact ⟨(by first | rfl | trivial), z, hC, hM⟩
theorem s_needs {n : Int} {σ : CS} {τ : MS} (h : R n σ τ) (hn : n < 1000) (p1 p2 : Int32) : Ok n (x_needs σ p1 p2) (y_needs τ p1 p2) := by
  obtain ⟨n0, g, c, m, G⟩ := h
  obtain ⟨Q, rfl, b2, b3⟩ := iI_of p1
  obtain ⟨P, rfl, b0, b1⟩ := iI_of p2
  obtain ⟨c1, c2, c3, c4, c5, c6, c7, c8, c9⟩ := c
  obtain ⟨m1, m2, m3, m4, m5, m6, m7, m8, m9⟩ := m
  have e := G.1.1
  have hS := G.2.2.1
  have a7 := hS.2.2
  unfold Ok x_needs y_needs fX11_needs fX12_needs
  by_cases q2 : 0 ≤ Q ∧ Q < g.1.1
  · have z3 := has_t e.1 e.2 q2
    have z4 := isH_t e.1 e.2 q2
    rw [← c1.1] at z3
    rw [← m1.1] at z4
    by_cases q : 0 ≤ P ∧ P ≤ 60
    · have z1 := win_t (a := P) (b := 0) (c := 60) (by omega) (by omega) q
      have z2 := isD_t q
      have c11 := c1.2.1
      have m11 := m1.2.1
      simp only [li_0, li_60, z1, z2, z3, z4, Option.bind_some]
      simp (disch := omega) only [gd_t, so_some, so_bind, so_gd, so_none, Option.bind_some, iI_add, iI_sub, iI_mul, iI_neg, iI_clamp, iI_nat, vin_i, iI_le, iI_lt, iI_eq, mn_i, mx_i, if_true, if_false, if_pos, if_neg, li_0, li_1, li_2, li_3, li_4, li_5, li_6, li_7, li_8, li_9, li_10, li_11, li_12, li_14, li_15, li_16, li_20, li_21, li_24, li_28, li_30, li_31, li_40, li_41, li_42, li_43, li_44, li_45, li_47, li_48, li_49, li_57, li_59, li_60, li_61, li_62, li_63, li_70, li_71, li_76, li_80, li_96, li_97, li_98, li_99, li_100, li_101, li_102, li_103, li_104, li_105, li_106, li_107, li_108, li_109, li_110, li_111, li_112, li_113, li_114, li_115, li_116, li_117, li_118, li_119, li_120, li_128, li_142, li_255, li_320, li_781, li_852, li_999, li_1000, li_2000, li_3000, li_9999, li_12345, li_65536, li_1000000, li_252645135, li_858993459, li_1103515245, li_1431655765, c11.at, m11.at]
      refine so_mono (s_needs_L G.1 hS.1 c1.1 c1.2.2.1 c1.2.2.2.1 c1.2.2.2.2 m1.1 m1.2.2.1 m1.2.2.2.1 m1.2.2.2.2 c3 m3 q.1 q.2 (by omega) q2.1 q2.2 99 1 FU (-2) (g.1.2.1 Q) (σ.2.1 28) (τ.2.1 7) (σ.1 28) (σ.1 30) (σ.1 32) (σ.1 29) (σ.1 31) (σ.2.1 35) (σ.2.1 34) (σ.2.1 33) (σ.2.1 32) (σ.2.1 20) (σ.2.1 19)
        τ.2.2 (τ.1 11) (τ.1 20) (τ.1 6) (τ.1 25) (τ.1 10) (τ.1 2) (τ.1 4) (τ.1 1) (τ.1 5) (τ.1 0) (τ.1 3) (τ.1 18) (τ.1 13) (τ.1 17) (τ.2.1 13) (τ.2.1 19) (by omega) (by omega) (show _ < 4000 by omega) (by omega) (by omega) (by rw [up_id]; exact c11) (by rw [up_id]; exact m11)) ?_
      rintro o ⟨p, hp, o1, z', o2, o3⟩
      simp only [hp, so_some]
      have u1 := o2.up (g.1.2.1 Q) q2.1
      have u2 := o3.up (g.1.2.1 Q) q2.1
      rw [up_up, up_id] at u1 u2
      exact ⟨o1, R.same ⟨n0.1, hn⟩ G ⟨⟨c1.1, u1, c1.2.2⟩, c2, c3, c4, c5, c6, c7, c8, c9⟩ ⟨⟨m1.1, u2, m1.2.2⟩, m2, m3, m4, m5, m6, m7, m8, m9⟩⟩
    · have z1 := win_f (a := P) (b := 0) (c := 60) b0 b1 (by omega) (by omega) (by omega) (by omega) q
      have z2 := isD_f b0 b1 q
      simp only [li_0, li_60, z1, z2, z3, z4, Option.bind_some]
      simp (disch := omega) only [gd_t, so_some, so_bind, so_gd, so_none, Option.bind_some, iI_add, iI_sub, iI_mul, iI_neg, iI_clamp, iI_nat, vin_i, iI_le, iI_lt, iI_eq, mn_i, mx_i, if_true, if_false, if_pos, if_neg, li_0, li_1, li_2, li_3, li_4, li_5, li_6, li_7, li_8, li_9, li_10, li_11, li_12, li_14, li_15, li_16, li_20, li_21, li_24, li_28, li_30, li_31, li_40, li_41, li_42, li_43, li_44, li_45, li_47, li_48, li_49, li_57, li_59, li_60, li_61, li_62, li_63, li_70, li_71, li_76, li_80, li_96, li_97, li_98, li_99, li_100, li_101, li_102, li_103, li_104, li_105, li_106, li_107, li_108, li_109, li_110, li_111, li_112, li_113, li_114, li_115, li_116, li_117, li_118, li_119, li_120, li_128, li_142, li_255, li_320, li_781, li_852, li_999, li_1000, li_2000, li_3000, li_9999, li_12345, li_65536, li_1000000, li_252645135, li_858993459, li_1103515245, li_1431655765]
      exact ⟨(by first | rfl | trivial), R.same ⟨n0.1, hn⟩ G ⟨c1, c2, c3, c4, c5, c6, c7, c8, c9⟩ ⟨m1, m2, m3, m4, m5, m6, m7, m8, m9⟩⟩
  · have z3 := has_f e.1 e.2 b2 b3 q2
    have z4 := isH_f e.1 e.2 b2 b3 q2
    rw [← c1.1] at z3
    rw [← m1.1] at z4
    simp only [z3, z4, Option.bind_some]
    simp (disch := omega) only [gd_t, so_some, so_bind, so_gd, so_none, Option.bind_some, iI_add, iI_sub, iI_mul, iI_neg, iI_clamp, iI_nat, vin_i, iI_le, iI_lt, iI_eq, mn_i, mx_i, if_true, if_false, if_pos, if_neg, li_0, li_1, li_2, li_3, li_4, li_5, li_6, li_7, li_8, li_9, li_10, li_11, li_12, li_14, li_15, li_16, li_20, li_21, li_24, li_28, li_30, li_31, li_40, li_41, li_42, li_43, li_44, li_45, li_47, li_48, li_49, li_57, li_59, li_60, li_61, li_62, li_63, li_70, li_71, li_76, li_80, li_96, li_97, li_98, li_99, li_100, li_101, li_102, li_103, li_104, li_105, li_106, li_107, li_108, li_109, li_110, li_111, li_112, li_113, li_114, li_115, li_116, li_117, li_118, li_119, li_120, li_128, li_142, li_255, li_320, li_781, li_852, li_999, li_1000, li_2000, li_3000, li_9999, li_12345, li_65536, li_1000000, li_252645135, li_858993459, li_1103515245, li_1431655765]
    exact ⟨(by first | rfl | trivial), R.same ⟨n0.1, hn⟩ G ⟨c1, c2, c3, c4, c5, c6, c7, c8, c9⟩ ⟨m1, m2, m3, m4, m5, m6, m7, m8, m9⟩⟩
