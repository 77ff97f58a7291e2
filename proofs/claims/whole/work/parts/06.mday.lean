/-! the model's day -/
theorem m_fall_L11 {h v : Int} (h7 : h ≤ 7) (v1 : -9 ≤ v) (v2 : v ≤ 9) : ∀ (m : Nat) (k : Int) (f : Nat) (s : Nat → Int32) (B : Int → Int), 0 ≤ k → k + m = 2 * h → m < f → (∀ i, 0 ≤ i → i < 21 → 0 ≤ B i ∧ B i ≤ 999) → Arr 71 s B →
    So (fX12_goDay_L11 71 (iI h) (iI v) f (iI k) s) (fun o => Arr 71 o (fun i => if k ≤ i ∧ i < 2 * h then ly (B i) v else B i))
  | 0, k, f + 1, s, B, h0, hk, hf, hB, ha => by
    rw [fX12_goDay_L11]
    simp (disch := omega) only [gd_t, so_some, so_bind, so_gd, so_none, Option.bind_some, iI_add, iI_sub, iI_mul, iI_neg, iI_clamp, iI_nat, vin_i, iI_le, iI_lt, iI_eq, mn_i, mx_i, if_true, if_false, if_pos, if_neg, li_0, li_1, li_2, li_3, li_4, li_5, li_6, li_7, li_8, li_9, li_10, li_11, li_12, li_14, li_15, li_16, li_20, li_21, li_24, li_28, li_30, li_31, li_40, li_41, li_42, li_43, li_44, li_45, li_47, li_48, li_49, li_57, li_59, li_60, li_61, li_62, li_63, li_70, li_71, li_76, li_80, li_96, li_97, li_98, li_99, li_100, li_101, li_102, li_103, li_104, li_105, li_106, li_107, li_108, li_109, li_110, li_111, li_112, li_113, li_114, li_115, li_116, li_117, li_118, li_119, li_120, li_128, li_142, li_255, li_320, li_781, li_852, li_999, li_1000, li_2000, li_3000, li_9999, li_12345, li_65536, li_1000000, li_252645135, li_858993459, li_1103515245, li_1431655765]
    exact ha.congr (fun x h0 h1 => by first | rw [if_neg (by omega)] | rfl)
  | m + 1, k, f + 1, s, B, h0, hk, hf, hB, ha => by
    have b := hB k h0 (by omega)
    rw [fX12_goDay_L11]
    simp (disch := omega) only [gd_t, so_some, so_bind, so_gd, so_none, Option.bind_some, iI_add, iI_sub, iI_mul, iI_neg, iI_clamp, iI_nat, vin_i, iI_le, iI_lt, iI_eq, mn_i, mx_i, if_true, if_false, if_pos, if_neg, li_0, li_1, li_2, li_3, li_4, li_5, li_6, li_7, li_8, li_9, li_10, li_11, li_12, li_14, li_15, li_16, li_20, li_21, li_24, li_28, li_30, li_31, li_40, li_41, li_42, li_43, li_44, li_45, li_47, li_48, li_49, li_57, li_59, li_60, li_61, li_62, li_63, li_70, li_71, li_76, li_80, li_96, li_97, li_98, li_99, li_100, li_101, li_102, li_103, li_104, li_105, li_106, li_107, li_108, li_109, li_110, li_111, li_112, li_113, li_114, li_115, li_116, li_117, li_118, li_119, li_120, li_128, li_142, li_255, li_320, li_781, li_852, li_999, li_1000, li_2000, li_3000, li_9999, li_12345, li_65536, li_1000000, li_252645135, li_858993459, li_1103515245, li_1431655765, ha.at]
    refine so_mono (m_fall_L11 h7 v1 v2 m (k + 1) f _ (upI B k (ly (B k) v)) (by omega) (by omega) (by omega) (fun i i0 i1 => upI_b (P := fun z => 0 ≤ z ∧ z ≤ 999) (by unfold ly; omega) (hB i i0 i1)) (ha.up _ h0)) ?_
    intro o ho
    refine ho.congr (fun x h0 h1 => ?_)
    by_cases hx : x = k
    · subst hx
      rw [if_neg (by omega), if_pos (by omega), upI_s]
    · rw [upI_o _ hx]
      by_cases h2 : k + 1 ≤ x ∧ x < 2 * h
      · rw [if_pos h2, if_pos (by omega)]
      · rw [if_neg h2, if_neg (by omega)]
theorem m_fall_L47 {h v : Int} (h7 : h ≤ 7) (v1 : -9 ≤ v) (v2 : v ≤ 9) : ∀ (m : Nat) (k : Int) (f : Nat) (s : Nat → Int32) (B : Int → Int), 0 ≤ k → k + m = h → m < f → (∀ i, 0 ≤ i → i < 21 → 0 ≤ B i ∧ B i ≤ 999) → Arr 71 s B →
    So (fX12_goDay_L47 71 (iI h) (iI v) f (iI k) s) (fun o => Arr 71 o (fun i => if 14 + k ≤ i ∧ i < 14 + h then ly (B i) v else B i))
  | 0, k, f + 1, s, B, h0, hk, hf, hB, ha => by
    rw [fX12_goDay_L47]
    simp (disch := omega) only [gd_t, so_some, so_bind, so_gd, so_none, Option.bind_some, iI_add, iI_sub, iI_mul, iI_neg, iI_clamp, iI_nat, vin_i, iI_le, iI_lt, iI_eq, mn_i, mx_i, if_true, if_false, if_pos, if_neg, li_0, li_1, li_2, li_3, li_4, li_5, li_6, li_7, li_8, li_9, li_10, li_11, li_12, li_14, li_15, li_16, li_20, li_21, li_24, li_28, li_30, li_31, li_40, li_41, li_42, li_43, li_44, li_45, li_47, li_48, li_49, li_57, li_59, li_60, li_61, li_62, li_63, li_70, li_71, li_76, li_80, li_96, li_97, li_98, li_99, li_100, li_101, li_102, li_103, li_104, li_105, li_106, li_107, li_108, li_109, li_110, li_111, li_112, li_113, li_114, li_115, li_116, li_117, li_118, li_119, li_120, li_128, li_142, li_255, li_320, li_781, li_852, li_999, li_1000, li_2000, li_3000, li_9999, li_12345, li_65536, li_1000000, li_252645135, li_858993459, li_1103515245, li_1431655765]
    exact ha.congr (fun x h0 h1 => by first | rw [if_neg (by omega)] | rfl)
  | m + 1, k, f + 1, s, B, h0, hk, hf, hB, ha => by
    have b := hB (14 + k) (by omega) (by omega)
    rw [fX12_goDay_L47]
    simp (disch := omega) only [gd_t, so_some, so_bind, so_gd, so_none, Option.bind_some, iI_add, iI_sub, iI_mul, iI_neg, iI_clamp, iI_nat, vin_i, iI_le, iI_lt, iI_eq, mn_i, mx_i, if_true, if_false, if_pos, if_neg, li_0, li_1, li_2, li_3, li_4, li_5, li_6, li_7, li_8, li_9, li_10, li_11, li_12, li_14, li_15, li_16, li_20, li_21, li_24, li_28, li_30, li_31, li_40, li_41, li_42, li_43, li_44, li_45, li_47, li_48, li_49, li_57, li_59, li_60, li_61, li_62, li_63, li_70, li_71, li_76, li_80, li_96, li_97, li_98, li_99, li_100, li_101, li_102, li_103, li_104, li_105, li_106, li_107, li_108, li_109, li_110, li_111, li_112, li_113, li_114, li_115, li_116, li_117, li_118, li_119, li_120, li_128, li_142, li_255, li_320, li_781, li_852, li_999, li_1000, li_2000, li_3000, li_9999, li_12345, li_65536, li_1000000, li_252645135, li_858993459, li_1103515245, li_1431655765, ha.at]
    refine so_mono (m_fall_L47 h7 v1 v2 m (k + 1) f _ (upI B (14 + k) (ly (B (14 + k)) v)) (by omega) (by omega) (by omega) (fun i i0 i1 => upI_b (P := fun z => 0 ≤ z ∧ z ≤ 999) (by unfold ly; omega) (hB i i0 i1)) (ha.up _ (by omega))) ?_
    intro o ho
    refine ho.congr (fun x h0 h1 => ?_)
    by_cases hx : x = 14 + k
    · subst hx
      rw [if_neg (by omega), if_pos (by omega), upI_s]
    · rw [upI_o _ hx]
      by_cases h2 : 14 + (k + 1) ≤ x ∧ x < 14 + h
      · rw [if_pos h2, if_pos (by omega)]
      · rw [if_neg h2, if_neg (by omega)]
theorem m_day_L {E : EN} (G : EnG E) {ho many size : Int32} {hold below weather rule : Nat → Int32} (M : EnM E ho many size hold below weather rule) {th now : Int} (ht : th = max 0 (-(E.2.2.2.1 now))) (hn0 : 0 ≤ now) (hn : now < 2147483648) {F : Int → Int} :
    ∀ (m : Nat) (k : Int) (f : Nat) (t : WS) (sm : Int) (rr : Nat) (len top at' wrong asked i1 i2 i3 i4 i5 i6 si : Int32) (owedBy a : Nat → Int32), 0 ≤ k → k + m = 2 * E.1 → m < f → WA t.1 → t.1 70 = now → (∀ i, k ≤ i → i < 14 → t.1 i = F i) →
    Arr 7 owedBy t.2.2 → Arr 71 a t.1 →
    So (fX12_goDay_L87 71 ho many size weather hold below rule f (iI k) rr len top at' wrong asked i1 i2 i3 i4 i5 i6 (iI sm) (iI t.2.1) si owedBy a)
      (fun o => o.2.2.2.2.2.2.2.2.2.2.2.2.1 = iI (sm + cnt E th F m k) ∧ o.2.2.2.2.2.2.2.2.2.2.2.2.2.1 = iI (dyI E th m k t).2.1 ∧ o.2.2.2.2.2.2.2.2.2.2.2.2.2.2.1 = stM E th F m k si ∧
        Arr 7 o.2.2.2.2.2.2.2.2.2.2.2.2.2.2.2.1 (dyI E th m k t).2.2 ∧ Arr 71 o.2.2.2.2.2.2.2.2.2.2.2.2.2.2.2.2 (dyI E th m k t).1)
  | 0, k, f + 1, t, sm, rr, len, top, at', wrong, asked, i1, i2, i3, i4, i5, i6, si, owedBy, a, h0, hk, hf, hA, h70, hF, h4, h1 => by
    have g := G.1
    rw [fX12_goDay_L87, M.1]
    simp (disch := omega) only [gd_t, so_some, so_bind, so_gd, so_none, Option.bind_some, iI_add, iI_sub, iI_mul, iI_neg, iI_clamp, iI_nat, vin_i, iI_le, iI_lt, iI_eq, mn_i, mx_i, if_true, if_false, if_pos, if_neg, li_0, li_1, li_2, li_3, li_4, li_5, li_6, li_7, li_8, li_9, li_10, li_11, li_12, li_14, li_15, li_16, li_20, li_21, li_24, li_28, li_30, li_31, li_40, li_41, li_42, li_43, li_44, li_45, li_47, li_48, li_49, li_57, li_59, li_60, li_61, li_62, li_63, li_70, li_71, li_76, li_80, li_96, li_97, li_98, li_99, li_100, li_101, li_102, li_103, li_104, li_105, li_106, li_107, li_108, li_109, li_110, li_111, li_112, li_113, li_114, li_115, li_116, li_117, li_118, li_119, li_120, li_128, li_142, li_255, li_320, li_781, li_852, li_999, li_1000, li_2000, li_3000, li_9999, li_12345, li_65536, li_1000000, li_252645135, li_858993459, li_1103515245, li_1431655765]
    refine ⟨?_, rfl, rfl, h4, h1⟩
    rw [cnt, Int.add_zero]
  | m + 1, k, f + 1, t, sm, rr, len, top, at', wrong, asked, i1, i2, i3, i4, i5, i6, si, owedBy, a, h0, hk, hf, hA, h70, hF, h4, h1 => by
    have g := G.1
    have o1 := G.2.1 (k / 2) (by omega) (by omega)
    have b1 := G.2.2.1 k (by omega) (by omega)
    have wv := G.2.2.2.1 now
    have a1 := hA.1 k h0 (by omega)
    have a7 := hA.2.2
    have fk := hF k (by omega) (by omega)
    have c2 := M.2.1
    have c4 := M.2.2.2.1 now hn0 hn
    have hm := m_day_L G M ht hn0 hn (F := F) m (k + 1) f (dyS E th t k)
    have w1 := wa_dyS G hA h0 (by omega) (th := th)
    have w2 : (dyS E th t k).1 70 = now := (dyS_o G h0 (by omega) (by omega) (Or.inr rfl)).trans h70
    have w3 : ∀ i, k + 1 ≤ i → i < 14 → (dyS E th t k).1 i = F i := fun i i0 i1 => (dyS_o G h0 (by omega) (by omega) (Or.inl i1)).trans (hF i (by omega) i1)
    rw [fX12_goDay_L87, M.1]
    rw [M.1] at hm
    simp (disch := omega) only [gd_t, so_some, so_bind, so_gd, so_none, Option.bind_some, iI_add, iI_sub, iI_mul, iI_neg, iI_clamp, iI_nat, vin_i, iI_le, iI_lt, iI_eq, mn_i, mx_i, if_true, if_false, if_pos, if_neg, li_0, li_1, li_2, li_3, li_4, li_5, li_6, li_7, li_8, li_9, li_10, li_11, li_12, li_14, li_15, li_16, li_20, li_21, li_24, li_28, li_30, li_31, li_40, li_41, li_42, li_43, li_44, li_45, li_47, li_48, li_49, li_57, li_59, li_60, li_61, li_62, li_63, li_70, li_71, li_76, li_80, li_96, li_97, li_98, li_99, li_100, li_101, li_102, li_103, li_104, li_105, li_106, li_107, li_108, li_109, li_110, li_111, li_112, li_113, li_114, li_115, li_116, li_117, li_118, li_119, li_120, li_128, li_142, li_255, li_320, li_781, li_852, li_999, li_1000, li_2000, li_3000, li_9999, li_12345, li_65536, li_1000000, li_252645135, li_858993459, li_1103515245, li_1431655765, iI_div2, h1.at, c2.at, fX12_thawOf, h70, c4]
    rw [← ht]
    by_cases q : t.1 k ≤ max 0 (E.2.1 (k / 2) - th)
    · rw [if_pos q]
      have d := dyS_1 q
      rw [d] at hm w1 w2 w3
      refine so_mono (hm sm rr len top at' wrong asked i1 i2 i3 i4 i5 i6 si owedBy a (by omega) (by omega) (by omega) hA h70 w3 h4 h1) ?_
      rintro o ⟨p1, p2, p3, p5⟩
      rw [fk] at q
      simp only [dyI, cnt, stM, d, if_pos q, Int.zero_add]
      exact ⟨p1, p2, p3, p5⟩
    · rw [if_neg q]
      have d := dyS_2 q
      rw [d] at hm w1 w2 w3
      rw [so_bind]
      have hsl := m_slide G M hA (by omega) h1 h4 (rr := rr) (len := len) (top := top) (at' := at') (wrong := wrong) (asked := asked) (i1 := i1) (i2 := i2) (i3 := i3) (i4 := i4) (i5 := i5) (i6 := i6) (si := si) (sm := sm) (on := t.2.1) (s := k) (bl := k / 2) (x := 0) h0 (by omega) (by omega) (by omega)
      rw [M.1] at hsl
      refine so_mono hsl ?_
      rintro o ⟨p1, p2, p3, p4, p5⟩
      rw [p1, p2]
      refine so_mono (hm (sm + 1) o.1 o.2.1 o.2.2.1 o.2.2.2.1 o.2.2.2.2.1 o.2.2.2.2.2.1 o.2.2.2.2.2.2.1 o.2.2.2.2.2.2.2.1 o.2.2.2.2.2.2.2.2.1 o.2.2.2.2.2.2.2.2.2.1 o.2.2.2.2.2.2.2.2.2.2.1 o.2.2.2.2.2.2.2.2.2.2.2.1 o.2.2.2.2.2.2.2.2.2.2.2.2.2.2.1 _ _ (by omega) (by omega) (by omega) w1 w2 w3 p4 p5) ?_
      rintro r ⟨r1, r2, r3, r5⟩
      rw [fk] at q
      simp only [dyI, cnt, stM, d, if_neg q]
      rw [← p3]
      refine ⟨?_, r2, r3, r5⟩
      rw [r1]
      congr 1
      omega
theorem m_day {E : EN} (G : EnG E) {ho many size : Int32} {hold below weather rule : Nat → Int32} (M : EnM E ho many size hold below weather rule) {t : WS} (hA : WA t.1) (hn : t.1 70 < 2147483648) {sm : Int} {rr : Nat} {len top at' wrong asked i1 i2 i3 i4 i5 i6 si : Int32}
    {owedBy a : Nat → Int32} (h4 : Arr 7 owedBy t.2.2) (h1 : Arr 71 a t.1) :
    So (fX12_goDay 71 ho many rr len top at' wrong size asked i1 i2 i3 i4 i5 i6 (iI sm) (iI t.2.1) si weather hold below rule owedBy a)
      (fun o => o.2.2.2.2.2.2.2.2.2.2.2.2.1 = iI (sm + cnt E (thw E t.1) (dyF E t.1) (2 * E.1).toNat 0) ∧ o.2.2.2.2.2.2.2.2.2.2.2.2.2.1 = iI (dy E t).2.1 ∧ o.2.2.2.2.2.2.2.2.2.2.2.2.2.2.1 = stM E (thw E t.1) (dyF E t.1) (2 * E.1).toNat 0 si ∧
        Arr 7 o.2.2.2.2.2.2.2.2.2.2.2.2.2.2.2.1 (dy E t).2.2 ∧ Arr 71 o.2.2.2.2.2.2.2.2.2.2.2.2.2.2.2.2 (dy E t).1) := by
  have g := G.1
  have w1 := G.2.2.2.1 (t.1 70)
  have a7 := hA.2.2
  have wF : WA (dyF E t.1) := wa_fa g.2 hA
  have F7 : dyF E t.1 70 = t.1 70 := fa70 g.2 _
  unfold fX12_goDay
  rw [M.1]
  simp (disch := omega) only [gd_t, so_some, so_bind, so_gd, so_none, Option.bind_some, iI_add, iI_sub, iI_mul, iI_neg, iI_clamp, iI_nat, vin_i, iI_le, iI_lt, iI_eq, mn_i, mx_i, if_true, if_false, if_pos, if_neg, li_0, li_1, li_2, li_3, li_4, li_5, li_6, li_7, li_8, li_9, li_10, li_11, li_12, li_14, li_15, li_16, li_20, li_21, li_24, li_28, li_30, li_31, li_40, li_41, li_42, li_43, li_44, li_45, li_47, li_48, li_49, li_57, li_59, li_60, li_61, li_62, li_63, li_70, li_71, li_76, li_80, li_96, li_97, li_98, li_99, li_100, li_101, li_102, li_103, li_104, li_105, li_106, li_107, li_108, li_109, li_110, li_111, li_112, li_113, li_114, li_115, li_116, li_117, li_118, li_119, li_120, li_128, li_142, li_255, li_320, li_781, li_852, li_999, li_1000, li_2000, li_3000, li_9999, li_12345, li_65536, li_1000000, li_252645135, li_858993459, li_1103515245, li_1431655765, h1.at, M.2.2.2.1 _ a7 hn]
  refine so_mono (m_fall_L11 g.2 w1.1 w1.2 (2 * E.1).toNat 0 FU a t.1 (by omega) (by omega) (show _ < 4000 by omega) hA.1 h1) ?_
  intro o ho
  refine so_mono (m_fall_L47 g.2 w1.1 w1.2 E.1.toNat 0 FU o _ (by omega) (by omega) (show _ < 4000 by omega) (fun i i0 i1 => ?_) ho) ?_
  · split
    · unfold ly; omega
    · exact hA.1 i i0 i1
  intro p hp
  have hp2 : Arr 71 p (dyF E t.1) := by
    refine hp.congr (fun x x0 x1 => ?_)
    unfold dyF faA
    by_cases q1 : 14 + 0 ≤ x ∧ x < 14 + E.1
    · rw [if_pos q1, if_neg (by omega), if_pos (by omega)]
    · rw [if_neg q1]
      by_cases q2 : 0 ≤ x ∧ x < 2 * E.1
      · rw [if_pos q2, if_pos (Or.inl q2)]
      · rw [if_neg q2, if_neg (by omega)]
  have hm := m_day_L G M (th := thw E t.1) (now := t.1 70) rfl a7 hn (F := dyF E t.1) (2 * E.1).toNat 0 FU (dyF E t.1, t.2) sm rr len top at' wrong asked i1 i2 i3 i4 i5 i6 si owedBy p (by omega) (by omega) (show _ < 4000 by omega) wF F7 (fun _ _ _ => rfl) h4 hp2
  rw [M.1] at hm
  refine so_mono hm ?_
  rintro o ⟨p1, p2, p3, p4, p5⟩
  have i7 := (dyI_ok G (th := thw E t.1) (2 * E.1).toNat 0 (dyF E t.1, t.2) (by omega) (by omega) wF).2
  have e7 : (dyI E (thw E t.1) (2 * E.1).toNat 0 (dyF E t.1, t.2)).1 70 = t.1 70 := i7.trans F7
  simp (disch := omega) only [gd_t, so_some, so_bind, so_gd, so_none, Option.bind_some, iI_add, iI_sub, iI_mul, iI_neg, iI_clamp, iI_nat, vin_i, iI_le, iI_lt, iI_eq, mn_i, mx_i, if_true, if_false, if_pos, if_neg, li_0, li_1, li_2, li_3, li_4, li_5, li_6, li_7, li_8, li_9, li_10, li_11, li_12, li_14, li_15, li_16, li_20, li_21, li_24, li_28, li_30, li_31, li_40, li_41, li_42, li_43, li_44, li_45, li_47, li_48, li_49, li_57, li_59, li_60, li_61, li_62, li_63, li_70, li_71, li_76, li_80, li_96, li_97, li_98, li_99, li_100, li_101, li_102, li_103, li_104, li_105, li_106, li_107, li_108, li_109, li_110, li_111, li_112, li_113, li_114, li_115, li_116, li_117, li_118, li_119, li_120, li_128, li_142, li_255, li_320, li_781, li_852, li_999, li_1000, li_2000, li_3000, li_9999, li_12345, li_65536, li_1000000, li_252645135, li_858993459, li_1103515245, li_1431655765, p5.at, e7]
  exact ⟨p1, p2, p3, p4, p5.up _ (by omega)⟩
theorem wa_dy {E : EN} (G : EnG E) {t : WS} (hA : WA t.1) : WA (dy E t).1 := by
  have g := G.1
  have wF : WA (dyF E t.1) := wa_fa g.2 hA
  have h := (dyI_ok G (th := thw E t.1) (2 * E.1).toNat 0 (dyF E t.1, t.2) (by omega) (by omega) wF).1
  exact h.up (fun _ _ => by omega) (fun _ _ => by omega) (fun _ => by have := hA.2.2; omega)
theorem dy_70 (E : EN) (t : WS) : (dy E t).1 70 = t.1 70 + 1 := by
  simp only [dy, upI_s]
/-- n days -/
def dys (E : EN) : Nat → WS → WS
  | 0, t => t
  | n + 1, t => dys E n (dy E t)
theorem dys_ok {E : EN} (G : EnG E) : ∀ (n : Nat) {t : WS}, WA t.1 → WA (dys E n t).1 ∧ (dys E n t).1 70 = t.1 70 + n
  | 0, t, hA => ⟨hA, by show t.1 70 = t.1 70 + ((0 : Nat) : Int); omega⟩
  | n + 1, t, hA => by
    have h := dys_ok G n (t := dy E t) (wa_dy G hA)
    refine ⟨h.1, h.2.trans ?_⟩
    rw [dy_70]
    omega
theorem dys_s (E : EN) : ∀ (n : Nat) (t : WS), dys E (n + 1) t = dy E (dys E n t)
  | 0, t => rfl
  | n + 1, t => by
    show dys E (n + 1) (dy E t) = dy E (dys E n (dy E t))
    rw [dys_s E n (dy E t)]
