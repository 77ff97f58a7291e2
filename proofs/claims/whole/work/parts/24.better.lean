theorem ba_eq (ho many size : Int32) (weather hold below rule : Nat → Int32) (N : Int32) : ∀ (f : Nat) (v : Int32) (rr : Nat) (len top at' wrong asked i1 i2 i3 i4 i5 i6 sm on si : Int32) (owedBy a : Nat → Int32),
    fX12_bare_L74 ho many size weather hold below rule N f v rr len top at' wrong asked i1 i2 i3 i4 i5 i6 sm on si owedBy a = fX12_goOn_L18 ho many size weather hold below rule N f v rr len top at' wrong asked i1 i2 i3 i4 i5 i6 sm on si owedBy a
  | 0, v, rr, len, top, at', wrong, asked, i1, i2, i3, i4, i5, i6, sm, on, si, owedBy, a => rfl
  | f + 1, v, rr, len, top, at', wrong, asked, i1, i2, i3, i4, i5, i6, sm, on, si, owedBy, a => by
    rw [fX12_bare_L74, fX12_goOn_L18]
    simp only [ba_eq ho many size weather hold below rule N f]
theorem c1_eq (ho many size : Int32) (weather hold below rule : Nat → Int32) (N : Int32) : ∀ (f : Nat) (v : Int32) (rr : Nat) (len top at' wrong asked i1 i2 i3 i4 i5 i6 sm on si : Int32) (owedBy a : Nat → Int32),
    fX12_compare_L29 ho many size below rule hold weather N f v rr len top at' wrong asked i1 i2 i3 i4 i5 i6 sm on si owedBy a = fX12_goOn_L18 ho many size weather hold below rule N f v rr len top at' wrong asked i1 i2 i3 i4 i5 i6 sm on si owedBy a
  | 0, v, rr, len, top, at', wrong, asked, i1, i2, i3, i4, i5, i6, sm, on, si, owedBy, a => rfl
  | f + 1, v, rr, len, top, at', wrong, asked, i1, i2, i3, i4, i5, i6, sm, on, si, owedBy, a => by
    rw [fX12_compare_L29, fX12_goOn_L18]
    simp only [c1_eq ho many size weather hold below rule N f]
theorem c2_eq (ho many size : Int32) (weather hold below rule : Nat → Int32) (N : Int32) : ∀ (f : Nat) (v : Int32) (rr : Nat) (len top at' wrong asked i1 i2 i3 i4 i5 i6 sm on si : Int32) (owedBy a : Nat → Int32),
    fX12_compare_L77 ho many size below rule hold weather N f v rr len top at' wrong asked i1 i2 i3 i4 i5 i6 sm on si owedBy a = fX12_goOn_L18 ho many size weather hold below rule N f v rr len top at' wrong asked i1 i2 i3 i4 i5 i6 sm on si owedBy a
  | 0, v, rr, len, top, at', wrong, asked, i1, i2, i3, i4, i5, i6, sm, on, si, owedBy, a => rfl
  | f + 1, v, rr, len, top, at', wrong, asked, i1, i2, i3, i4, i5, i6, sm, on, si, owedBy, a => by
    rw [fX12_compare_L77, fX12_goOn_L18]
    simp only [c2_eq ho many size weather hold below rule N f]
theorem ac_eq (ho many size : Int32) (weather hold below rule : Nat → Int32) (N : Int32) : ∀ (f : Nat) (v : Int32) (rr : Nat) (len top at' wrong asked i1 i2 i3 i4 i5 i6 sm on si : Int32) (owedBy a : Nat → Int32),
    fX12_act_L42 ho many size weather hold below rule N f v rr len top at' wrong asked i1 i2 i3 i4 i5 i6 sm on si owedBy a = fX12_goOn_L18 ho many size weather hold below rule N f v rr len top at' wrong asked i1 i2 i3 i4 i5 i6 sm on si owedBy a
  | 0, v, rr, len, top, at', wrong, asked, i1, i2, i3, i4, i5, i6, sm, on, si, owedBy, a => rfl
  | f + 1, v, rr, len, top, at', wrong, asked, i1, i2, i3, i4, i5, i6, sm, on, si, owedBy, a => by
    rw [fX12_act_L42, fX12_goOn_L18]
    simp only [ac_eq ho many size weather hold below rule N f]
theorem m_days {E : EN} (G : EnG E) {ho many size : Int32} {hold below weather rule : Nat → Int32} (M : EnM E ho many size hold below weather rule) {x : MW} (hA : WA x.1.1) {N : Int} (hN0 : 0 ≤ N) (hN : N < 4000) (hn : x.1.1 70 + N < 2147483648)
    (rr : Nat) (len top at' wrong asked i1 i2 i3 i4 i5 i6 : Int32) {sm on si : Int32} {owedBy a : Nat → Int32} (K : Mk x sm on si owedBy a) :
    So (fX12_goOn_L18 ho many size weather hold below rule (iI N) FU (iI 0) rr len top at' wrong asked i1 i2 i3 i4 i5 i6 sm on si owedBy a)
      (fun o => Mk (mdys E N.toNat x) o.2.2.2.2.2.2.2.2.2.2.2.2.1 o.2.2.2.2.2.2.2.2.2.2.2.2.2.1 o.2.2.2.2.2.2.2.2.2.2.2.2.2.2.1 o.2.2.2.2.2.2.2.2.2.2.2.2.2.2.2.1 o.2.2.2.2.2.2.2.2.2.2.2.2.2.2.2.2) :=
  m_goOn_L G M (by omega) N.toNat 0 FU x rr len top at' wrong asked i1 i2 i3 i4 i5 i6 sm on si owedBy a (by omega) (by omega) (show _ < 4000 by omega) hA (by omega) K
/-- what its house comes to owe: set off now, or let lie -/
def obS (E : EN) (A : Int → Int) (s n : Int) : Int := (dys E n.toNat (slW E s (s / 2) 1 (ws0 A))).2.2 (s / 2)
def obL (E : EN) (A : Int → Int) (s n : Int) : Int := (dys E n.toNat (ws0 A)).2.2 (s / 2)
theorem slA_70 {E : EN} (G : EnG E) {A : Int → Int} {s bl x : Int} (hs : 0 ≤ s) (hs2 : s < 2 * E.1) (hb : 0 ≤ bl) (hb2 : bl < E.1) : slA E A s bl x 70 = A 70 := by
  have b := G.2.2.1 s hs hs2
  have g := G.1
  exact slA_hi (by omega) (by omega) (by omega)
theorem obS_b {E : EN} (G : EnG E) (A : Int → Int) (s n : Int) (n0 : 0 ≤ n) : 0 ≤ obS E A s n ∧ obS E A s n ≤ 99 + 1386 * n := by
  have h := dys_ob G (s / 2) n.toNat (slW E s (s / 2) 1 (ws0 A))
  have d := slD_b G A s (s / 2) 1
  have e : 0 ≤ (slW E s (s / 2) 1 (ws0 A)).2.2 (s / 2) ∧ (slW E s (s / 2) 1 (ws0 A)).2.2 (s / 2) ≤ 99 := by
    show 0 ≤ slB E A (fun _ => 0) s (s / 2) 1 (s / 2) ∧ slB E A (fun _ => 0) s (s / 2) 1 (s / 2) ≤ 99
    unfold slB
    split
    · rw [upI_s]; dsimp only; omega
    · dsimp only; omega
  unfold obS
  omega
theorem obL_b {E : EN} (G : EnG E) (A : Int → Int) (s n : Int) (n0 : 0 ≤ n) : 0 ≤ obL E A s n ∧ obL E A s n ≤ 1386 * n := by
  have h := dys_ob G (s / 2) n.toNat (ws0 A)
  have h : 0 ≤ (dys E n.toNat (ws0 A)).2.2 (s / 2) ∧ (dys E n.toNat (ws0 A)).2.2 (s / 2) ≤ 0 + 1386 * (n.toNat : Int) := h
  unfold obL
  omega
theorem c_owedFrom {E : EN} (G : EnG E) {ho cy le : Int32} {hold below inches code : Nat → Int32} (C : EnC E ho cy le hold below inches code) {A : Int → Int} (hA : WA A) {s n : Int} (hs : 0 ≤ s) (hs2 : s < 2 * E.1) (hn0 : 0 ≤ n) (hn1 : n < 4000) (hn : A 70 + n < 2147483648)
    {now : Int32} {snow path debt : Nat → Int32} (S : StC A now snow path debt) (o0 s0 t0 d0 n0 : Int32) (sn0 p0 de0 b0 things stack : Nat → Int32) {x : Int} (hx : x = 0 ∨ x = 1) :
    So (fX11_owedFrom o0 s0 t0 d0 n0 sn0 p0 de0 b0 ho le cy below things inches hold stack code now snow path debt (iI s) (iI n) (iI x)) (fun o => o.1 = iI (if x = 0 then obL E A s n else obS E A s n)) := by
  have g := G.1
  have key : ∀ (y : FW) (owed slides struck slid now : Int32) (snow path debt owedBy things stack : Nat → Int32), WA y.1.1 → y.1.1 70 + n < 2147483648 → Wk y owed slides struck slid now snow path debt owedBy →
      So (fX11_owedFrom_J29 ho le cy below inches hold code (iI n) (iI (s / 2)) owed slides struck slid now snow path debt owedBy things stack) (fun o => o.1 = iI ((dys E n.toNat y.1).2.2 (s / 2))) := by
    intro y owed slides struck slid now snow path debt owedBy things stack hy hy2 K
    unfold fX11_owedFrom_J29
    rw [so_bind]
    refine so_mono (c_goDays G C hy hn0 hn1 hy2 K things stack) ?_
    rintro o ⟨k1, k2, k3, k4, k5, k6⟩
    rw [fdys_1] at k6
    simp (disch := omega) only [gd_t, so_some, so_bind, so_gd, so_none, Option.bind_some, iI_add, iI_sub, iI_mul, iI_neg, iI_clamp, iI_nat, vin_i, iI_le, iI_lt, iI_eq, mn_i, mx_i, if_true, if_false, if_pos, if_neg, li_0, li_1, li_2, li_3, li_4, li_5, li_6, li_7, li_8, li_9, li_10, li_11, li_12, li_14, li_15, li_16, li_20, li_21, li_24, li_28, li_30, li_31, li_40, li_41, li_42, li_43, li_44, li_45, li_47, li_48, li_49, li_57, li_59, li_60, li_61, li_62, li_63, li_70, li_71, li_76, li_80, li_96, li_97, li_98, li_99, li_100, li_101, li_102, li_103, li_104, li_105, li_106, li_107, li_108, li_109, li_110, li_111, li_112, li_113, li_114, li_115, li_116, li_117, li_118, li_119, li_120, li_128, li_142, li_255, li_320, li_781, li_852, li_999, li_1000, li_2000, li_3000, li_9999, li_12345, li_65536, li_1000000, li_252645135, li_858993459, li_1103515245, li_1431655765, k6.at]
  unfold fX11_owedFrom
  rw [so_bind]
  refine so_mono (c_beginAt S o0 s0 t0 d0 n0 sn0 p0 de0 b0) ?_
  rintro o ⟨k1, k2, k3, k4, ⟨k5, k6, k7, k8⟩, k9⟩
  rcases hx with rfl | rfl
  · simp (disch := omega) only [gd_t, so_some, so_bind, so_gd, so_none, Option.bind_some, iI_add, iI_sub, iI_mul, iI_neg, iI_clamp, iI_nat, vin_i, iI_le, iI_lt, iI_eq, mn_i, mx_i, if_true, if_false, if_pos, if_neg, li_0, li_1, li_2, li_3, li_4, li_5, li_6, li_7, li_8, li_9, li_10, li_11, li_12, li_14, li_15, li_16, li_20, li_21, li_24, li_28, li_30, li_31, li_40, li_41, li_42, li_43, li_44, li_45, li_47, li_48, li_49, li_57, li_59, li_60, li_61, li_62, li_63, li_70, li_71, li_76, li_80, li_96, li_97, li_98, li_99, li_100, li_101, li_102, li_103, li_104, li_105, li_106, li_107, li_108, li_109, li_110, li_111, li_112, li_113, li_114, li_115, li_116, li_117, li_118, li_119, li_120, li_128, li_142, li_255, li_320, li_781, li_852, li_999, li_1000, li_2000, li_3000, li_9999, li_12345, li_65536, li_1000000, li_252645135, li_858993459, li_1103515245, li_1431655765, iI_div2]
    exact key (fw0 A) _ _ _ _ _ _ _ _ _ _ _ hA hn ⟨k1, k2, k3, k4, ⟨k5, k6, k7, k8⟩, k9⟩
  · have hsl := c_slide G C hA (by omega) k6 k7 k8 k9 (ow := 0) (s := s) (bl := s / 2) (x := 1) (things := things) (stack := stack) hs hs2 (by omega) (by omega) (Or.inr rfl)
    rw [show iI 0 = o.1 from k1.symm, show iI (A 70) = o.2.2.2.2.1 from k5.symm] at hsl
    simp (disch := omega) only [gd_t, so_some, so_bind, so_gd, so_none, Option.bind_some, iI_add, iI_sub, iI_mul, iI_neg, iI_clamp, iI_nat, vin_i, iI_le, iI_lt, iI_eq, mn_i, mx_i, if_true, if_false, if_pos, if_neg, li_0, li_1, li_2, li_3, li_4, li_5, li_6, li_7, li_8, li_9, li_10, li_11, li_12, li_14, li_15, li_16, li_20, li_21, li_24, li_28, li_30, li_31, li_40, li_41, li_42, li_43, li_44, li_45, li_47, li_48, li_49, li_57, li_59, li_60, li_61, li_62, li_63, li_70, li_71, li_76, li_80, li_96, li_97, li_98, li_99, li_100, li_101, li_102, li_103, li_104, li_105, li_106, li_107, li_108, li_109, li_110, li_111, li_112, li_113, li_114, li_115, li_116, li_117, li_118, li_119, li_120, li_128, li_142, li_255, li_320, li_781, li_852, li_999, li_1000, li_2000, li_3000, li_9999, li_12345, li_65536, li_1000000, li_252645135, li_858993459, li_1103515245, li_1431655765, iI_div2]
    refine so_mono hsl ?_
    rintro r ⟨r1, r2, r3, r4, r5⟩
    refine key (slW E s (s / 2) 1 (ws0 A), 0, 0, 0) _ _ _ _ _ _ _ _ _ _ _ (wa_sl G hA hs hs2 (by omega) (by omega)) (by show slA E A s (s / 2) 1 70 + n < _; rw [slA_70 G hs hs2 (by omega) (by omega)]; exact hn) ⟨r1, k2, k3, k4, ⟨?_, r2, r3, r4⟩, r5⟩
    show _ = iI (slA E A s (s / 2) 1 70)
    rw [slA_70 G hs hs2 (by omega) (by omega)]
    exact k5
theorem m_compare {E : EN} (G : EnG E) {ho many size : Int32} {hold below weather rule : Nat → Int32} (M : EnM E ho many size hold below weather rule) {A : Int → Int} (hA : WA A) {s n : Int} (hs : 0 ≤ s) (hs2 : s < 2 * E.1) (hn0 : 0 ≤ n) (hn1 : n < 4000) (hn : A 70 + n < 2147483648)
    {a : Nat → Int32} (ha : Arr 71 a A) (rr : Nat) (len top at' wrong asked i1 i2 i3 i4 i5 i6 sm on si so le : Int32) (owedBy th : Nat → Int32) :
    So (fX12_compare 71 ho many rr len top at' wrong size asked i1 i2 i3 i4 i5 i6 sm on si so le owedBy th below rule hold weather a (iI s) (iI n)) (fun o => o.2.2.2.2.2.2.2.2.2.2.2.2.2.2.2.1 = iI (obS E A s n) ∧ o.2.2.2.2.2.2.2.2.2.2.2.2.2.2.2.2.1 = iI (obL E A s n)) := by
  have g := G.1
  unfold fX12_compare
  simp only [so_bind, c1_eq, c2_eq]
  refine so_mono (m_beginCount _ _ _ _) ?_
  rintro o ⟨k1, k2, k3, k4⟩
  refine so_mono (m_lay0 ha) ?_
  intro b hb
  have hsl := m_slide G M hA (by omega) hb k4 (rr := rr) (len := len) (top := top) (at' := at') (wrong := wrong) (asked := asked) (i1 := i1) (i2 := i2) (i3 := i3) (i4 := i4) (i5 := i5) (i6 := i6) (si := o.2.2.1) (sm := 0) (on := 0) (s := s) (bl := s / 2) (x := 1) hs hs2 (by omega) (by omega)
  rw [k1, k2]
  simp (disch := omega) only [gd_t, so_some, so_bind, so_gd, so_none, Option.bind_some, iI_add, iI_sub, iI_mul, iI_neg, iI_clamp, iI_nat, vin_i, iI_le, iI_lt, iI_eq, mn_i, mx_i, if_true, if_false, if_pos, if_neg, li_0, li_1, li_2, li_3, li_4, li_5, li_6, li_7, li_8, li_9, li_10, li_11, li_12, li_14, li_15, li_16, li_20, li_21, li_24, li_28, li_30, li_31, li_40, li_41, li_42, li_43, li_44, li_45, li_47, li_48, li_49, li_57, li_59, li_60, li_61, li_62, li_63, li_70, li_71, li_76, li_80, li_96, li_97, li_98, li_99, li_100, li_101, li_102, li_103, li_104, li_105, li_106, li_107, li_108, li_109, li_110, li_111, li_112, li_113, li_114, li_115, li_116, li_117, li_118, li_119, li_120, li_128, li_142, li_255, li_320, li_781, li_852, li_999, li_1000, li_2000, li_3000, li_9999, li_12345, li_65536, li_1000000, li_252645135, li_858993459, li_1103515245, li_1431655765, iI_div2]
  refine so_mono hsl ?_
  rintro r ⟨r1, r2, r3, r4, r5⟩
  refine so_mono (m_days G M (x := (slW E s (s / 2) 1 (ws0 A), 1, r.2.2.2.2.2.2.2.2.2.2.2.2.2.2.1)) (wa_sl G hA hs hs2 (by omega) (by omega)) hn0 hn1 (by show slA E A s (s / 2) 1 70 + n < _; rw [slA_70 G hs hs2 (by omega) (by omega)]; exact hn) _ _ _ _ _ _ _ _ _ _ _ _ ⟨r1, r2, rfl, r4, r5⟩) ?_
  rintro d ⟨d1, d2, d3, d4, d5⟩
  rw [mdys_1] at d4
  refine so_mono (m_beginCount _ _ _ _) ?_
  rintro q ⟨q1, q2, q3, q4⟩
  refine so_mono (m_lay0 ha) ?_
  intro w hw
  refine so_mono (m_days G M (x := mw0 A) hA hn0 hn1 hn _ _ _ _ _ _ _ _ _ _ _ _ ⟨q1, q2, q3, q4, hw⟩) ?_
  rintro v ⟨v1, v2, v3, v4, v5⟩
  rw [mdys_1] at v4
  rw [d4.at (by omega) (by omega), v4.at (by omega) (by omega)]
  exact ⟨rfl, rfl⟩
theorem s_better {n : Int} {σ : CS} {τ : MS} (h : R n σ τ) (hn : n < 1000) (p1 p2 : Int32) : Ok n (x_better σ p1 p2) (y_better τ p1 p2) := by
  obtain ⟨n0, g, c, m, G⟩ := h
  obtain ⟨Q, rfl, b2, b3⟩ := iI_of p1
  obtain ⟨P, rfl, b0, b1⟩ := iI_of p2
  obtain ⟨c1, c2, c3, c4, c5, c6, c7, c8, c9⟩ := c
  obtain ⟨m1, m2, m3, m4, m5, m6, m7, m8, m9⟩ := m
  have e := G.1.1
  have hS := G.2.2.1
  have a7 := hS.2.2
  unfold Ok x_better y_better fX11_better fX12_better
  rw [c1.1, m1.1]
  by_cases q2 : 0 ≤ Q ∧ Q < 2 * g.1.1
  · have z3 := hasS_t e.1 e.2 q2
    have z4 := isS_t e.1 e.2 q2
    by_cases q : 1 ≤ P ∧ P ≤ 60
    · have z1 := win_t (a := P) (b := 1) (c := 60) (by omega) (by omega) q
      have z2 := in_t (a := P) (b := 1) (c := 60) (by omega) (by omega) q
      have a := hS.1.1 Q q2.1 (by omega)
      have hs := c3.2.1
      simp only [li_1, li_60, z1, z2, z3, z4, Option.bind_some]
      by_cases q3 : g.2.2.1 Q = 0
      · simp (disch := omega) only [gd_t, so_some, so_bind, so_gd, so_none, Option.bind_some, iI_add, iI_sub, iI_mul, iI_neg, iI_clamp, iI_nat, vin_i, iI_le, iI_lt, iI_eq, mn_i, mx_i, if_true, if_false, if_pos, if_neg, li_0, li_1, li_2, li_3, li_4, li_5, li_6, li_7, li_8, li_9, li_10, li_11, li_12, li_14, li_15, li_16, li_20, li_21, li_24, li_28, li_30, li_31, li_40, li_41, li_42, li_43, li_44, li_45, li_47, li_48, li_49, li_57, li_59, li_60, li_61, li_62, li_63, li_70, li_71, li_76, li_80, li_96, li_97, li_98, li_99, li_100, li_101, li_102, li_103, li_104, li_105, li_106, li_107, li_108, li_109, li_110, li_111, li_112, li_113, li_114, li_115, li_116, li_117, li_118, li_119, li_120, li_128, li_142, li_255, li_320, li_781, li_852, li_999, li_1000, li_2000, li_3000, li_9999, li_12345, li_65536, li_1000000, li_252645135, li_858993459, li_1103515245, li_1431655765, hs.at, m3.at]
        exact ⟨(by first | rfl | trivial), R.same ⟨n0.1, hn⟩ G ⟨c1, c2, c3, c4, c5, c6, c7, c8, c9⟩ ⟨m1, m2, m3, m4, m5, m6, m7, m8, m9⟩⟩
      · obtain ⟨cp, hcp, cp1, cp2⟩ := m_compare G.1 m1 hS.1 q2.1 q2.2 (n := P) (by omega) (by omega) (by omega) m3 τ.2.2 (τ.1 11) (τ.1 20) (τ.1 6) (τ.1 25) (τ.1 10) (τ.1 2) (τ.1 4) (τ.1 1) (τ.1 5) (τ.1 0) (τ.1 3) (τ.1 18) (τ.1 13) (τ.1 17) (τ.1 16) (τ.1 12) (τ.2.1 13) (τ.2.1 19)
        rw [m1.1] at hcp
        have x1 := obS_b G.1 g.2.2.1 Q P (by omega)
        have x2 := obL_b G.1 g.2.2.1 Q P (by omega)
        have w1 := c_owedFrom G.1 c1 hS.1 q2.1 q2.2 (n := P) (by omega) (by omega) (by omega) c3 (σ.1 28) (σ.1 30) (σ.1 32) (σ.1 29) (σ.1 31) (σ.2.1 35) (σ.2.1 34) (σ.2.1 33) (σ.2.1 32) (σ.2.1 20) (σ.2.1 19) (x := 1) (Or.inr rfl)
        rw [c1.1] at w1
        simp (disch := omega) only [gd_t, so_some, so_bind, so_gd, so_none, Option.bind_some, iI_add, iI_sub, iI_mul, iI_neg, iI_clamp, iI_nat, vin_i, iI_le, iI_lt, iI_eq, mn_i, mx_i, if_true, if_false, if_pos, if_neg, li_0, li_1, li_2, li_3, li_4, li_5, li_6, li_7, li_8, li_9, li_10, li_11, li_12, li_14, li_15, li_16, li_20, li_21, li_24, li_28, li_30, li_31, li_40, li_41, li_42, li_43, li_44, li_45, li_47, li_48, li_49, li_57, li_59, li_60, li_61, li_62, li_63, li_70, li_71, li_76, li_80, li_96, li_97, li_98, li_99, li_100, li_101, li_102, li_103, li_104, li_105, li_106, li_107, li_108, li_109, li_110, li_111, li_112, li_113, li_114, li_115, li_116, li_117, li_118, li_119, li_120, li_128, li_142, li_255, li_320, li_781, li_852, li_999, li_1000, li_2000, li_3000, li_9999, li_12345, li_65536, li_1000000, li_252645135, li_858993459, li_1103515245, li_1431655765, hs.at, m3.at, hcp]
        refine so_mono w1 ?_
        intro o ho
        have w2 := c_owedFrom G.1 c1 hS.1 q2.1 q2.2 (n := P) (by omega) (by omega) (by omega) c3 o.2.1 o.2.2.1 o.2.2.2.1 o.2.2.2.2.1 o.2.2.2.2.2.1 o.2.2.2.2.2.2.1 o.2.2.2.2.2.2.2.1 o.2.2.2.2.2.2.2.2.1 o.2.2.2.2.2.2.2.2.2.1 o.2.2.2.2.2.2.2.2.2.2.1 o.2.2.2.2.2.2.2.2.2.2.2 (x := 0) (Or.inl rfl)
        rw [c1.1] at w2
        refine so_mono w2 ?_
        intro p hp
        rw [if_neg (by omega)] at ho
        rw [if_pos rfl] at hp
        rw [ho, hp, cp1, cp2]
        refine so_mono (c_tell2 _ _ _ _) ?_
        intro t hr
        by_cases q4 : obS g.1 g.2.2.1 Q P < obL g.1 g.2.2.1 Q P
        · simp (disch := omega) only [gd_t, so_some, so_bind, so_gd, so_none, Option.bind_some, iI_add, iI_sub, iI_mul, iI_neg, iI_clamp, iI_nat, vin_i, iI_le, iI_lt, iI_eq, mn_i, mx_i, if_true, if_false, if_pos, if_neg, li_0, li_1, li_2, li_3, li_4, li_5, li_6, li_7, li_8, li_9, li_10, li_11, li_12, li_14, li_15, li_16, li_20, li_21, li_24, li_28, li_30, li_31, li_40, li_41, li_42, li_43, li_44, li_45, li_47, li_48, li_49, li_57, li_59, li_60, li_61, li_62, li_63, li_70, li_71, li_76, li_80, li_96, li_97, li_98, li_99, li_100, li_101, li_102, li_103, li_104, li_105, li_106, li_107, li_108, li_109, li_110, li_111, li_112, li_113, li_114, li_115, li_116, li_117, li_118, li_119, li_120, li_128, li_142, li_255, li_320, li_781, li_852, li_999, li_1000, li_2000, li_3000, li_9999, li_12345, li_65536, li_1000000, li_252645135, li_858993459, li_1103515245, li_1431655765]
          refine so_mono (m_tell _ _) ?_
          intro u hu
          refine so_mono (m_more hu (by simp) _) ?_
          intro v hs
          exact ⟨(by first | rfl | trivial), R.tol ⟨n0.1, hn⟩ G hr (by simp) ⟨c1, c2, c3, c4, c5, c6, hr, c8, c9⟩ ⟨m1, m2, m3, m4, m5, m6, hs, m8, m9⟩⟩
        · simp (disch := omega) only [gd_t, so_some, so_bind, so_gd, so_none, Option.bind_some, iI_add, iI_sub, iI_mul, iI_neg, iI_clamp, iI_nat, vin_i, iI_le, iI_lt, iI_eq, mn_i, mx_i, if_true, if_false, if_pos, if_neg, li_0, li_1, li_2, li_3, li_4, li_5, li_6, li_7, li_8, li_9, li_10, li_11, li_12, li_14, li_15, li_16, li_20, li_21, li_24, li_28, li_30, li_31, li_40, li_41, li_42, li_43, li_44, li_45, li_47, li_48, li_49, li_57, li_59, li_60, li_61, li_62, li_63, li_70, li_71, li_76, li_80, li_96, li_97, li_98, li_99, li_100, li_101, li_102, li_103, li_104, li_105, li_106, li_107, li_108, li_109, li_110, li_111, li_112, li_113, li_114, li_115, li_116, li_117, li_118, li_119, li_120, li_128, li_142, li_255, li_320, li_781, li_852, li_999, li_1000, li_2000, li_3000, li_9999, li_12345, li_65536, li_1000000, li_252645135, li_858993459, li_1103515245, li_1431655765]
          refine so_mono (m_tell _ _) ?_
          intro u hu
          refine so_mono (m_more hu (by simp) _) ?_
          intro v hs
          exact ⟨(by first | rfl | trivial), R.tol ⟨n0.1, hn⟩ G hr (by simp) ⟨c1, c2, c3, c4, c5, c6, hr, c8, c9⟩ ⟨m1, m2, m3, m4, m5, m6, hs, m8, m9⟩⟩
    · have z1 := win_f (a := P) (b := 1) (c := 60) b0 b1 (by omega) (by omega) (by omega) (by omega) q
      have z2 := in_f (a := P) (b := 1) (c := 60) b0 b1 (by omega) (by omega) (by omega) (by omega) q
      simp only [li_1, li_60, z1, z2, z3, z4, Option.bind_some]
      simp (disch := omega) only [gd_t, so_some, so_bind, so_gd, so_none, Option.bind_some, iI_add, iI_sub, iI_mul, iI_neg, iI_clamp, iI_nat, vin_i, iI_le, iI_lt, iI_eq, mn_i, mx_i, if_true, if_false, if_pos, if_neg, li_0, li_1, li_2, li_3, li_4, li_5, li_6, li_7, li_8, li_9, li_10, li_11, li_12, li_14, li_15, li_16, li_20, li_21, li_24, li_28, li_30, li_31, li_40, li_41, li_42, li_43, li_44, li_45, li_47, li_48, li_49, li_57, li_59, li_60, li_61, li_62, li_63, li_70, li_71, li_76, li_80, li_96, li_97, li_98, li_99, li_100, li_101, li_102, li_103, li_104, li_105, li_106, li_107, li_108, li_109, li_110, li_111, li_112, li_113, li_114, li_115, li_116, li_117, li_118, li_119, li_120, li_128, li_142, li_255, li_320, li_781, li_852, li_999, li_1000, li_2000, li_3000, li_9999, li_12345, li_65536, li_1000000, li_252645135, li_858993459, li_1103515245, li_1431655765]
      exact ⟨(by first | rfl | trivial), R.same ⟨n0.1, hn⟩ G ⟨c1, c2, c3, c4, c5, c6, c7, c8, c9⟩ ⟨m1, m2, m3, m4, m5, m6, m7, m8, m9⟩⟩
  · have z3 := hasS_f e.1 e.2 b2 b3 q2
    have z4 := isS_f e.1 e.2 b2 b3 q2
    simp only [z3, z4, Option.bind_some]
    simp (disch := omega) only [gd_t, so_some, so_bind, so_gd, so_none, Option.bind_some, iI_add, iI_sub, iI_mul, iI_neg, iI_clamp, iI_nat, vin_i, iI_le, iI_lt, iI_eq, mn_i, mx_i, if_true, if_false, if_pos, if_neg, li_0, li_1, li_2, li_3, li_4, li_5, li_6, li_7, li_8, li_9, li_10, li_11, li_12, li_14, li_15, li_16, li_20, li_21, li_24, li_28, li_30, li_31, li_40, li_41, li_42, li_43, li_44, li_45, li_47, li_48, li_49, li_57, li_59, li_60, li_61, li_62, li_63, li_70, li_71, li_76, li_80, li_96, li_97, li_98, li_99, li_100, li_101, li_102, li_103, li_104, li_105, li_106, li_107, li_108, li_109, li_110, li_111, li_112, li_113, li_114, li_115, li_116, li_117, li_118, li_119, li_120, li_128, li_142, li_255, li_320, li_781, li_852, li_999, li_1000, li_2000, li_3000, li_9999, li_12345, li_65536, li_1000000, li_252645135, li_858993459, li_1103515245, li_1431655765]
    exact ⟨(by first | rfl | trivial), R.same ⟨n0.1, hn⟩ G ⟨c1, c2, c3, c4, c5, c6, c7, c8, c9⟩ ⟨m1, m2, m3, m4, m5, m6, m7, m8, m9⟩⟩
