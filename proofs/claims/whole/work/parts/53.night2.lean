theorem SG_of {h n : Int} {A : Int → Int} (h1 : WA A) (h2 : ZB h A) (h3 : A 70 ≤ 300 * n) : SG h n A := ⟨h1, h2, h3⟩
theorem m_nrow {v w : Int32} {d N : Int} (d0 : 0 ≤ d) (dN : d ≤ N) (N1 : N ≤ 30) (hw : w = iI d) (hv : v = iI N) (i_typed i_thrown : Int32) (rr : Nat) (len top at' wrong asked i1 i2 i3 i4 i5 i6 sm on si um : Int32) (acts now aside oM undos row : Nat → Int32) :
    So (fX12_night_J154 v w i_typed i_thrown rr len top at' wrong asked i1 i2 i3 i4 i5 i6 sm on si um acts now aside oM undos row) (fun r => r.1 = iI d ∧ ∃ r1 r2, Rw [if N ≤ d then iI 0 else iI 1, on] r1 r2 ∧ r = (iI d, i_typed, r1, i_thrown, rr, len, top, at', wrong, asked, i1, i2, i3, i4, i5, i6, sm, on, si, um, acts, now, aside, oM, undos, r2)) := by
  subst hw
  subst hv
  unfold fX12_night_J154 fX12_night_J170
  by_cases q : N ≤ d
  · rw [if_pos q]
    simp (disch := omega) only [gd_t, so_some, so_bind, so_gd, so_none, Option.bind_some, iI_add, iI_sub, iI_mul, iI_neg, iI_clamp, iI_nat, vin_i, iI_le, iI_lt, iI_eq, mn_i, mx_i, if_true, if_false, if_pos, if_neg, li_0, li_1, li_2, li_3, li_4, li_5, li_6, li_7, li_8, li_9, li_10, li_11, li_12, li_14, li_15, li_16, li_20, li_21, li_24, li_28, li_30, li_31, li_40, li_41, li_42, li_43, li_44, li_45, li_47, li_48, li_49, li_57, li_59, li_60, li_61, li_62, li_63, li_70, li_71, li_76, li_80, li_96, li_97, li_98, li_99, li_100, li_101, li_102, li_103, li_104, li_105, li_106, li_107, li_108, li_109, li_110, li_111, li_112, li_113, li_114, li_115, li_116, li_117, li_118, li_119, li_120, li_128, li_142, li_255, li_320, li_781, li_852, li_999, li_1000, li_2000, li_3000, li_9999, li_12345, li_65536, li_1000000, li_252645135, li_858993459, li_1103515245, li_1431655765]
    refine so_mono (m_tell _ _) ?_
    intro u hu
    refine so_mono (m_more hu (by simp) _) ?_
    intro s hs
    exact ⟨(by first | rfl | trivial), _, _, hs, rfl⟩
  · rw [if_neg q]
    simp (disch := omega) only [gd_t, so_some, so_bind, so_gd, so_none, Option.bind_some, iI_add, iI_sub, iI_mul, iI_neg, iI_clamp, iI_nat, vin_i, iI_le, iI_lt, iI_eq, mn_i, mx_i, if_true, if_false, if_pos, if_neg, li_0, li_1, li_2, li_3, li_4, li_5, li_6, li_7, li_8, li_9, li_10, li_11, li_12, li_14, li_15, li_16, li_20, li_21, li_24, li_28, li_30, li_31, li_40, li_41, li_42, li_43, li_44, li_45, li_47, li_48, li_49, li_57, li_59, li_60, li_61, li_62, li_63, li_70, li_71, li_76, li_80, li_96, li_97, li_98, li_99, li_100, li_101, li_102, li_103, li_104, li_105, li_106, li_107, li_108, li_109, li_110, li_111, li_112, li_113, li_114, li_115, li_116, li_117, li_118, li_119, li_120, li_128, li_142, li_255, li_320, li_781, li_852, li_999, li_1000, li_2000, li_3000, li_9999, li_12345, li_65536, li_1000000, li_252645135, li_858993459, li_1103515245, li_1431655765]
    refine so_mono (m_tell _ _) ?_
    intro u hu
    refine so_mono (m_more hu (by simp) _) ?_
    intro s hs
    exact ⟨(by first | rfl | trivial), _, _, hs, rfl⟩
theorem ite_bd {α β : Type} {c : Prop} (d : Decidable c) (a b : Option α) (F : α → Option β) : (@ite _ c d (Option.bind a F) (Option.bind b F)) = Option.bind (@ite _ c d a b) F := by
  by_cases q : c
  · rw [if_pos q, if_pos q]
  · rw [if_neg q, if_neg q]
theorem s_night {n : Int} {σ : CS} {τ : MS} (h : R n σ τ) (hn : n < 1000) : Ok n (x_night σ) (y_night τ) := by
  obtain ⟨n0, g, c, m, G⟩ := h
  obtain ⟨c1, c2, c3, c4, c5, c6, c7, c8, c9⟩ := c
  obtain ⟨m1, m2, m3, m4, m5, m6, m7, m8, m9⟩ := m
  have e := G.1.1
  have hS := G.2.2.1
  have a7 := hS.2.2
  have g6 := G.2.2.2.2.2.1
  have hmn : mn (iI g.2.2.2.2.2.2.2.1) (iI 60) = iI (min g.2.2.2.2.2.2.2.1 60) := mn_i (by omega) (by omega) (by omega) (by omega)
  have em : ∀ {σ' : CS} {τ' : MS}, RC ((g.1, g.2.1, g.2.2.1, g.2.2.2.1, g.2.2.2.2.1, g.2.2.2.2.2.1, g.2.2.2.2.2.2.1, 0, g.2.2.2.2.2.2.2.2.1, g.2.2.2.2.2.2.2.2.2.1, g.2.2.2.2.2.2.2.2.2.2.1, g.2.2.2.2.2.2.2.2.2.2.2.1, g.2.2.2.2.2.2.2.2.2.2.2.2.1, g.2.2.2.2.2.2.2.2.2.2.2.2.2.1, g.2.2.2.2.2.2.2.2.2.2.2.2.2.2.1, g.2.2.2.2.2.2.2.2.2.2.2.2.2.2.2) : GH) σ' → RM ((g.1, g.2.1, g.2.2.1, g.2.2.2.1, g.2.2.2.2.1, g.2.2.2.2.2.1, g.2.2.2.2.2.2.1, 0, g.2.2.2.2.2.2.2.2.1, g.2.2.2.2.2.2.2.2.2.1, g.2.2.2.2.2.2.2.2.2.2.1, g.2.2.2.2.2.2.2.2.2.2.2.1, g.2.2.2.2.2.2.2.2.2.2.2.2.1, g.2.2.2.2.2.2.2.2.2.2.2.2.2.1, g.2.2.2.2.2.2.2.2.2.2.2.2.2.2.1, g.2.2.2.2.2.2.2.2.2.2.2.2.2.2.2) : GH) τ' → R (n + 1) σ' τ' := by
    intro σ' τ' c m
    obtain ⟨h1, h2, h3, h4, h5, h6, h7, h8, h9⟩ := G.mono (show n ≤ n + 1 by omega)
    exact ⟨by omega, _, c, m, h1, h2, h3, h4, h5, ⟨Int.le_refl 0, by show (0 : Int) ≤ 80; omega, h6.2.2⟩, h7, h8, h9⟩
  -- both read the text
  have RD : So (fX0_read (σ.1 0) (σ.2.1 1) (σ.2.1 0) (σ.2.1 2) (σ.1 22) (σ.1 24) (σ.1 23) (σ.2.1 24)) (fun o => So (if iI g.2.2.2.2.2.2.2.1 ≤ iI 0 then fX12_night_L39 (τ.2.1 18) (iI g.2.2.2.2.2.2.2.1) (iI 60) FU (iI 0) (iI 0) (iI 0) (iI (-1)) (τ.2.1 0) else fX12_night_L39 (τ.2.1 18) (iI g.2.2.2.2.2.2.2.1) (iI 60) FU (iI 0) (iI 1) (iI 0) (iI (-1)) (τ.2.1 0)) (fun p =>
      (∃ w : Int, 0 ≤ w ∧ w < 1000 ∧ o.1 = iI 0 ∧ o.2.2.2.2.2.1 = iI w ∧ (p.2.2.1 = iI w ∨ (p.2.2.1 = iI (-1) ∧ p.2.1 = iI w ∧ w < g.2.2.2.2.2.2.2.1))) ∨
      (∃ N : Int, 0 ≤ N ∧ N ≤ 30 ∧ o.1 = iI 1 ∧ o.2.1 = iI N ∧ p.1 = iI N ∧ p.2.1 = iI g.2.2.2.2.2.2.2.1 ∧ p.2.2.1 = iI (-1) ∧ ∀ j, 0 ≤ j → j < N → AcR p.2.2.2 o.2.2.1 o.2.2.2.1 o.2.2.2.2.1 j))) := by
    unfold fX0_read fX6_open fX6_isThrough
    rw [c6.2]
    simp only [li_0, li_60, hmn, Option.bind_some]
    by_cases q0 : g.2.2.2.2.2.2.2.1 = 0
    · have e0 : fX12_night_L39 (τ.2.1 18) (iI g.2.2.2.2.2.2.2.1) (iI 60) FU (iI 0) (iI 0) (iI 0) (iI (-1)) (τ.2.1 0) = some (iI 0, iI 0, iI (-1), (τ.2.1 0)) := by
        rw [show FU = 3999 + 1 from rfl, fX12_night_L39, if_pos (by decide)]
      simp (disch := omega) only [gd_t, so_some, so_bind, so_gd, so_none, Option.bind_some, iI_add, iI_sub, iI_mul, iI_neg, iI_clamp, iI_nat, vin_i, iI_le, iI_lt, iI_eq, mn_i, mx_i, if_true, if_false, if_pos, if_neg, li_0, li_1, li_2, li_3, li_4, li_5, li_6, li_7, li_8, li_9, li_10, li_11, li_12, li_14, li_15, li_16, li_20, li_21, li_24, li_28, li_30, li_31, li_40, li_41, li_42, li_43, li_44, li_45, li_47, li_48, li_49, li_57, li_59, li_60, li_61, li_62, li_63, li_70, li_71, li_76, li_80, li_96, li_97, li_98, li_99, li_100, li_101, li_102, li_103, li_104, li_105, li_106, li_107, li_108, li_109, li_110, li_111, li_112, li_113, li_114, li_115, li_116, li_117, li_118, li_119, li_120, li_128, li_142, li_255, li_320, li_781, li_852, li_999, li_1000, li_2000, li_3000, li_9999, li_12345, li_65536, li_1000000, li_252645135, li_858993459, li_1103515245, li_1431655765, e0]
      exact Or.inr ⟨0, by omega, by omega, (by first | rfl | trivial), (by first | rfl | trivial), (by first | rfl | trivial), by rw [q0], (by first | rfl | trivial), fun j j0 j1 => by omega⟩
    · simp (disch := omega) only [gd_t, so_some, so_bind, so_gd, so_none, Option.bind_some, iI_add, iI_sub, iI_mul, iI_neg, iI_clamp, iI_nat, vin_i, iI_le, iI_lt, iI_eq, mn_i, mx_i, if_true, if_false, if_pos, if_neg, li_0, li_1, li_2, li_3, li_4, li_5, li_6, li_7, li_8, li_9, li_10, li_11, li_12, li_14, li_15, li_16, li_20, li_21, li_24, li_28, li_30, li_31, li_40, li_41, li_42, li_43, li_44, li_45, li_47, li_48, li_49, li_57, li_59, li_60, li_61, li_62, li_63, li_70, li_71, li_76, li_80, li_96, li_97, li_98, li_99, li_100, li_101, li_102, li_103, li_104, li_105, li_106, li_107, li_108, li_109, li_110, li_111, li_112, li_113, li_114, li_115, li_116, li_117, li_118, li_119, li_120, li_128, li_142, li_255, li_320, li_781, li_852, li_999, li_1000, li_2000, li_3000, li_9999, li_12345, li_65536, li_1000000, li_252645135, li_858993459, li_1103515245, li_1431655765]
      refine so_mono (s_nread_L g6.2.2 c6.1 m6.1 g6.1 g6.2.1 30 0 0 FU (σ.2.1 1) (σ.2.1 0) (σ.2.1 2) (τ.2.1 0) (by omega) (by omega) (show _ < 4000 by omega) (by omega) (by omega) (by omega) (fun j j0 j1 => by omega)) ?_
      rintro o ⟨p, hp, ho⟩
      simp only [hp, so_some]
      rcases ho with ⟨w, w0, w1, ho, hw⟩ | ⟨N, y, N1, N30, rfl, y1, y2, p1, p2, p3, AC⟩
      · rcases ho with ⟨x, rfl, x1⟩ | ⟨y, rfl, y1, y2⟩
        · rw [Sum.elim_inl]
          simp only [so_some]
          exact Or.inl ⟨w, w0, w1, (by first | rfl | trivial), x1, hw⟩
        · rw [Sum.elim_inr]
          simp only [so_some]
          exact Or.inl ⟨w, w0, w1, y1, y2, hw⟩
      · rw [Sum.elim_inr]
        simp only [so_some]
        exact Or.inr ⟨N, by omega, N30, y1, y2, p1, p2, p3, AC⟩
  unfold Ok x_night y_night fX11_night fX12_night fX12_begin fX6_empty fX6_fault
  rw [m6.2]
  simp only [Option.bind_some, so_bind]
  refine so_mono RD ?_
  rintro o ⟨p, hp, ho⟩
  have hp2 : ∀ inst : Decidable (iI g.2.2.2.2.2.2.2.1 ≤ 0), @ite _ (iI g.2.2.2.2.2.2.2.1 ≤ 0) inst (fX12_night_L39 (τ.2.1 18) (iI g.2.2.2.2.2.2.2.1) 60 FU 0 0 0 (-1) (τ.2.1 0)) (fX12_night_L39 (τ.2.1 18) (iI g.2.2.2.2.2.2.2.1) 60 FU 0 1 0 (-1) (τ.2.1 0)) = some p := by
    intro inst
    by_cases q : iI g.2.2.2.2.2.2.2.1 ≤ iI 0
    · rw [if_pos q] at hp
      rw [if_pos (show iI g.2.2.2.2.2.2.2.1 ≤ 0 from q)]
      exact hp
    · rw [if_neg q] at hp
      rw [if_neg (show ¬ iI g.2.2.2.2.2.2.2.1 ≤ 0 from q)]
      exact hp
  rw [ite_bd, hp2, Option.bind_some]
  rcases ho with ⟨w, w0, w1, o1, o2, hw⟩ | ⟨N, N0, N30, o1, o2, p1, p2, p3, AC⟩
  · have mJ : ∀ z1 z2 z3 z4 : Int32, True := fun _ _ _ _ => True.intro
    clear mJ
    rw [o1, o2]
    unfold fX12_night_J70 fX12_night_J89
    rcases hw with hw | ⟨hw, hw2, hw3⟩
    · rw [hw, m_fault_f w0 w1]
      have fi : fX12_fine (iI w) = some (iI 0) := by
        unfold fX12_fine
        simp (disch := omega) only [gd_t, so_some, so_bind, so_gd, so_none, Option.bind_some, iI_add, iI_sub, iI_mul, iI_neg, iI_clamp, iI_nat, vin_i, iI_le, iI_lt, iI_eq, mn_i, mx_i, if_true, if_false, if_pos, if_neg, li_0, li_1, li_2, li_3, li_4, li_5, li_6, li_7, li_8, li_9, li_10, li_11, li_12, li_14, li_15, li_16, li_20, li_21, li_24, li_28, li_30, li_31, li_40, li_41, li_42, li_43, li_44, li_45, li_47, li_48, li_49, li_57, li_59, li_60, li_61, li_62, li_63, li_70, li_71, li_76, li_80, li_96, li_97, li_98, li_99, li_100, li_101, li_102, li_103, li_104, li_105, li_106, li_107, li_108, li_109, li_110, li_111, li_112, li_113, li_114, li_115, li_116, li_117, li_118, li_119, li_120, li_128, li_142, li_255, li_320, li_781, li_852, li_999, li_1000, li_2000, li_3000, li_9999, li_12345, li_65536, li_1000000, li_252645135, li_858993459, li_1103515245, li_1431655765]
      by_cases z : iI g.2.2.2.2.2.2.2.1 ≤ p.2.1
      · rw [if_pos z]
        simp (disch := omega) only [gd_t, so_some, so_bind, so_gd, so_none, Option.bind_some, iI_add, iI_sub, iI_mul, iI_neg, iI_clamp, iI_nat, vin_i, iI_le, iI_lt, iI_eq, mn_i, mx_i, if_true, if_false, if_pos, if_neg, li_0, li_1, li_2, li_3, li_4, li_5, li_6, li_7, li_8, li_9, li_10, li_11, li_12, li_14, li_15, li_16, li_20, li_21, li_24, li_28, li_30, li_31, li_40, li_41, li_42, li_43, li_44, li_45, li_47, li_48, li_49, li_57, li_59, li_60, li_61, li_62, li_63, li_70, li_71, li_76, li_80, li_96, li_97, li_98, li_99, li_100, li_101, li_102, li_103, li_104, li_105, li_106, li_107, li_108, li_109, li_110, li_111, li_112, li_113, li_114, li_115, li_116, li_117, li_118, li_119, li_120, li_128, li_142, li_255, li_320, li_781, li_852, li_999, li_1000, li_2000, li_3000, li_9999, li_12345, li_65536, li_1000000, li_252645135, li_858993459, li_1103515245, li_1431655765, fi]
        exact ⟨(by first | rfl | trivial), em ⟨c1, c2, c3, c4, c5, ⟨c6.1, rfl⟩, c7, c8, c9⟩ ⟨m1, m2, m3, m4, m5, ⟨m6.1, rfl⟩, m7, m8, m9⟩⟩
      · rw [if_neg z]
        simp (disch := omega) only [gd_t, so_some, so_bind, so_gd, so_none, Option.bind_some, iI_add, iI_sub, iI_mul, iI_neg, iI_clamp, iI_nat, vin_i, iI_le, iI_lt, iI_eq, mn_i, mx_i, if_true, if_false, if_pos, if_neg, li_0, li_1, li_2, li_3, li_4, li_5, li_6, li_7, li_8, li_9, li_10, li_11, li_12, li_14, li_15, li_16, li_20, li_21, li_24, li_28, li_30, li_31, li_40, li_41, li_42, li_43, li_44, li_45, li_47, li_48, li_49, li_57, li_59, li_60, li_61, li_62, li_63, li_70, li_71, li_76, li_80, li_96, li_97, li_98, li_99, li_100, li_101, li_102, li_103, li_104, li_105, li_106, li_107, li_108, li_109, li_110, li_111, li_112, li_113, li_114, li_115, li_116, li_117, li_118, li_119, li_120, li_128, li_142, li_255, li_320, li_781, li_852, li_999, li_1000, li_2000, li_3000, li_9999, li_12345, li_65536, li_1000000, li_252645135, li_858993459, li_1103515245, li_1431655765, fi]
        exact ⟨(by first | rfl | trivial), em ⟨c1, c2, c3, c4, c5, ⟨c6.1, rfl⟩, c7, c8, c9⟩ ⟨m1, m2, m3, m4, m5, ⟨m6.1, rfl⟩, m7, m8, m9⟩⟩
    · rw [hw, hw2, m_fault_t]
      have fi : fX12_fine (iI w) = some (iI 0) := by
        unfold fX12_fine
        simp (disch := omega) only [gd_t, so_some, so_bind, so_gd, so_none, Option.bind_some, iI_add, iI_sub, iI_mul, iI_neg, iI_clamp, iI_nat, vin_i, iI_le, iI_lt, iI_eq, mn_i, mx_i, if_true, if_false, if_pos, if_neg, li_0, li_1, li_2, li_3, li_4, li_5, li_6, li_7, li_8, li_9, li_10, li_11, li_12, li_14, li_15, li_16, li_20, li_21, li_24, li_28, li_30, li_31, li_40, li_41, li_42, li_43, li_44, li_45, li_47, li_48, li_49, li_57, li_59, li_60, li_61, li_62, li_63, li_70, li_71, li_76, li_80, li_96, li_97, li_98, li_99, li_100, li_101, li_102, li_103, li_104, li_105, li_106, li_107, li_108, li_109, li_110, li_111, li_112, li_113, li_114, li_115, li_116, li_117, li_118, li_119, li_120, li_128, li_142, li_255, li_320, li_781, li_852, li_999, li_1000, li_2000, li_3000, li_9999, li_12345, li_65536, li_1000000, li_252645135, li_858993459, li_1103515245, li_1431655765]
      simp (disch := omega) only [gd_t, so_some, so_bind, so_gd, so_none, Option.bind_some, iI_add, iI_sub, iI_mul, iI_neg, iI_clamp, iI_nat, vin_i, iI_le, iI_lt, iI_eq, mn_i, mx_i, if_true, if_false, if_pos, if_neg, li_0, li_1, li_2, li_3, li_4, li_5, li_6, li_7, li_8, li_9, li_10, li_11, li_12, li_14, li_15, li_16, li_20, li_21, li_24, li_28, li_30, li_31, li_40, li_41, li_42, li_43, li_44, li_45, li_47, li_48, li_49, li_57, li_59, li_60, li_61, li_62, li_63, li_70, li_71, li_76, li_80, li_96, li_97, li_98, li_99, li_100, li_101, li_102, li_103, li_104, li_105, li_106, li_107, li_108, li_109, li_110, li_111, li_112, li_113, li_114, li_115, li_116, li_117, li_118, li_119, li_120, li_128, li_142, li_255, li_320, li_781, li_852, li_999, li_1000, li_2000, li_3000, li_9999, li_12345, li_65536, li_1000000, li_252645135, li_858993459, li_1103515245, li_1431655765, fi]
      exact ⟨(by first | rfl | trivial), em ⟨c1, c2, c3, c4, c5, ⟨c6.1, rfl⟩, c7, c8, c9⟩ ⟨m1, m2, m3, m4, m5, ⟨m6.1, rfl⟩, m7, m8, m9⟩⟩
  · have fi : fX12_fine (iI (-1)) = some (iI 1) := rfl
    rw [o1, o2, p1, p2, p3]
    unfold fX12_night_J70 fX12_night_J89
    obtain ⟨ly, hly, hly2⟩ := m_lay0 (b := (τ.2.1 1)) m3
    rw [li_0] at hly
    obtain ⟨bc, hbc, bc1, bc2, bc3, bc4⟩ := m_beginCount (τ.1 18) (τ.1 13) (τ.1 17) (τ.2.1 13)
    have L0 : Mk (mw0 g.2.2.1) bc.1 bc.2.1 bc.2.2.1 bc.2.2.2 (τ.2.1 12) := ⟨bc1, bc2, bc3, bc4, m3⟩
    simp (disch := omega) only [gd_t, so_some, so_bind, so_gd, so_none, Option.bind_some, iI_add, iI_sub, iI_mul, iI_neg, iI_clamp, iI_nat, vin_i, iI_le, iI_lt, iI_eq, mn_i, mx_i, if_true, if_false, if_pos, if_neg, li_0, li_1, li_2, li_3, li_4, li_5, li_6, li_7, li_8, li_9, li_10, li_11, li_12, li_14, li_15, li_16, li_20, li_21, li_24, li_28, li_30, li_31, li_40, li_41, li_42, li_43, li_44, li_45, li_47, li_48, li_49, li_57, li_59, li_60, li_61, li_62, li_63, li_70, li_71, li_76, li_80, li_96, li_97, li_98, li_99, li_100, li_101, li_102, li_103, li_104, li_105, li_106, li_107, li_108, li_109, li_110, li_111, li_112, li_113, li_114, li_115, li_116, li_117, li_118, li_119, li_120, li_128, li_142, li_255, li_320, li_781, li_852, li_999, li_1000, li_2000, li_3000, li_9999, li_12345, li_65536, li_1000000, li_252645135, li_858993459, li_1103515245, li_1431655765, fi, hly, hbc]
    refine so_mono (c_startCall c3 _ _ _ _ _ _ _ _ _) ?_
    rintro s ⟨⟨s1, s2, s3, s4, s5⟩, hb⟩
    have K0 : Wk (fw0 g.2.2.1) s.1 s.2.1 s.2.2.1 s.2.2.2.1 (σ.1 11) (σ.2.1 12) (σ.2.1 11) (σ.2.1 10) s.2.2.2.2.2.2.2.2 := ⟨s1, s2, s3, s4, c3, s5⟩
    have XL := s_nx_L G.1 c1 m1 N30 AC (A0 := g.2.2.1) (by omega) N.toNat 0 FU (fw0 g.2.2.1) (mw0 g.2.2.1) s.1 s.2.1 s.2.2.1 s.2.2.2.1 (σ.1 11) (σ.2.1 12) (σ.2.1 11) (σ.2.1 10) s.2.2.2.2.2.2.2.2 (σ.2.1 20) (σ.2.1 19) 1 (iI g.2.2.2.2.2.2.2.1) (iI 60) (iI g.2.2.2.2.2.2.2.1) (iI (-1)) (τ.1 10) (τ.1 2) (τ.1 4) (τ.1 1) (τ.1 5) (τ.1 0) (τ.1 3) bc.1 bc.2.1 bc.2.2.1 (τ.2.1 12) bc.2.2.2 (by omega) (by omega) (show _ < 4000 by omega) rfl hS.1 hS.2.1 (by show g.2.2.1 70 ≤ _; omega) (fun _ => rfl) K0 L0
    refine so_mono XL ?_
    rintro r ⟨q, hq, d, x', y', r1, q1, d0, dN, W, hA', Z', a7', hd0, K', L'⟩
    simp only [hq, so_some]
    have W : x'.1 = y'.1 := W
    have SA : SG g.1.1 (n + 1) x'.1.1 := ⟨hA', Z', by omega⟩
    unfold fX11_night_J64 fX12_night_J142
    rw [r1, q1]
    obtain ⟨k1, k2, k3, k4, k5, k9⟩ := K'
    obtain ⟨l1, l2, l3, l4, l5⟩ := L'
    have ew : q.2.2.2.2.2.2.2.2.2.2.2.2.2.2.1 = r.2.1 := by rw [l2, k1, W]
    rw [← W] at l5
    by_cases qN : N ≤ d
    · by_cases qd : d ≤ 0
      · simp (disch := omega) only [gd_t, so_some, so_bind, so_gd, so_none, Option.bind_some, iI_add, iI_sub, iI_mul, iI_neg, iI_clamp, iI_nat, vin_i, iI_le, iI_lt, iI_eq, mn_i, mx_i, if_true, if_false, if_pos, if_neg, li_0, li_1, li_2, li_3, li_4, li_5, li_6, li_7, li_8, li_9, li_10, li_11, li_12, li_14, li_15, li_16, li_20, li_21, li_24, li_28, li_30, li_31, li_40, li_41, li_42, li_43, li_44, li_45, li_47, li_48, li_49, li_57, li_59, li_60, li_61, li_62, li_63, li_70, li_71, li_76, li_80, li_96, li_97, li_98, li_99, li_100, li_101, li_102, li_103, li_104, li_105, li_106, li_107, li_108, li_109, li_110, li_111, li_112, li_113, li_114, li_115, li_116, li_117, li_118, li_119, li_120, li_128, li_142, li_255, li_320, li_781, li_852, li_999, li_1000, li_2000, li_3000, li_9999, li_12345, li_65536, li_1000000, li_252645135, li_858993459, li_1103515245, li_1431655765]
        unfold fX11_night_J81
        simp only [so_bind]
        refine so_mono (c_tell2 _ _ _ _) ?_
        intro t ht
        simp (disch := omega) only [gd_t, so_some, so_bind, so_gd, so_none, Option.bind_some, iI_add, iI_sub, iI_mul, iI_neg, iI_clamp, iI_nat, vin_i, iI_le, iI_lt, iI_eq, mn_i, mx_i, if_true, if_false, if_pos, if_neg, li_0, li_1, li_2, li_3, li_4, li_5, li_6, li_7, li_8, li_9, li_10, li_11, li_12, li_14, li_15, li_16, li_20, li_21, li_24, li_28, li_30, li_31, li_40, li_41, li_42, li_43, li_44, li_45, li_47, li_48, li_49, li_57, li_59, li_60, li_61, li_62, li_63, li_70, li_71, li_76, li_80, li_96, li_97, li_98, li_99, li_100, li_101, li_102, li_103, li_104, li_105, li_106, li_107, li_108, li_109, li_110, li_111, li_112, li_113, li_114, li_115, li_116, li_117, li_118, li_119, li_120, li_128, li_142, li_255, li_320, li_781, li_852, li_999, li_1000, li_2000, li_3000, li_9999, li_12345, li_65536, li_1000000, li_252645135, li_858993459, li_1103515245, li_1431655765]
        have d00 : d = 0 := by omega
        have eA := hd0 d00
        refine so_mono (m_nrow d0 dN N30 rfl rfl _ _ _ _ _ _ _ _ _ _ _ _ _ _ _ _ _ _ _ _ _ _ _ _) ?_
        rintro u ⟨u1, r1', r2', hrw, rfl⟩
        rw [if_pos qN, ew] at hrw
        obtain ⟨h1, h2, h3, h4, h5, h6, h7, h8, h9⟩ := G.mono (show n ≤ n + 1 by omega)
        exact ⟨(by first | rfl | trivial), by omega, ((g.1, g.2.1, x'.1.1, g.2.2.2.1, g.2.2.2.2.1, g.2.2.2.2.2.1, g.2.2.2.2.2.2.1, 0, [iI 0, r.2.1], g.2.2.2.2.2.2.2.2.2.1, g.2.2.2.2.2.2.2.2.2.2.1, g.2.2.2.2.2.2.2.2.2.2.2.1, g.2.2.2.2.2.2.2.2.2.2.2.2.1, g.2.2.2.2.2.2.2.2.2.2.2.2.2.1, g.2.2.2.2.2.2.2.2.2.2.2.2.2.2.1, g.2.2.2.2.2.2.2.2.2.2.2.2.2.2.2) : GH), ⟨c1, c2, k5, c4, c5, ⟨c6.1, rfl⟩, ht, c8, c9⟩, ⟨m1, m2, l5, m4, m5, ⟨m6.1, rfl⟩, hrw, m8, m9⟩, h1, h2, SA, h4, h5, ⟨Int.le_refl 0, by show (0 : Int) ≤ 80; omega, h6.2.2⟩, by show 2 ≤ 8; omega, h8, h9⟩
      · simp (disch := omega) only [gd_t, so_some, so_bind, so_gd, so_none, Option.bind_some, iI_add, iI_sub, iI_mul, iI_neg, iI_clamp, iI_nat, vin_i, iI_le, iI_lt, iI_eq, mn_i, mx_i, if_true, if_false, if_pos, if_neg, li_0, li_1, li_2, li_3, li_4, li_5, li_6, li_7, li_8, li_9, li_10, li_11, li_12, li_14, li_15, li_16, li_20, li_21, li_24, li_28, li_30, li_31, li_40, li_41, li_42, li_43, li_44, li_45, li_47, li_48, li_49, li_57, li_59, li_60, li_61, li_62, li_63, li_70, li_71, li_76, li_80, li_96, li_97, li_98, li_99, li_100, li_101, li_102, li_103, li_104, li_105, li_106, li_107, li_108, li_109, li_110, li_111, li_112, li_113, li_114, li_115, li_116, li_117, li_118, li_119, li_120, li_128, li_142, li_255, li_320, li_781, li_852, li_999, li_1000, li_2000, li_3000, li_9999, li_12345, li_65536, li_1000000, li_252645135, li_858993459, li_1103515245, li_1431655765]
        unfold fX11_night_J81
        simp only [so_bind]
        refine so_mono (c_tell2 _ _ _ _) ?_
        intro t ht
        simp (disch := omega) only [gd_t, so_some, so_bind, so_gd, so_none, Option.bind_some, iI_add, iI_sub, iI_mul, iI_neg, iI_clamp, iI_nat, vin_i, iI_le, iI_lt, iI_eq, mn_i, mx_i, if_true, if_false, if_pos, if_neg, li_0, li_1, li_2, li_3, li_4, li_5, li_6, li_7, li_8, li_9, li_10, li_11, li_12, li_14, li_15, li_16, li_20, li_21, li_24, li_28, li_30, li_31, li_40, li_41, li_42, li_43, li_44, li_45, li_47, li_48, li_49, li_57, li_59, li_60, li_61, li_62, li_63, li_70, li_71, li_76, li_80, li_96, li_97, li_98, li_99, li_100, li_101, li_102, li_103, li_104, li_105, li_106, li_107, li_108, li_109, li_110, li_111, li_112, li_113, li_114, li_115, li_116, li_117, li_118, li_119, li_120, li_128, li_142, li_255, li_320, li_781, li_852, li_999, li_1000, li_2000, li_3000, li_9999, li_12345, li_65536, li_1000000, li_252645135, li_858993459, li_1103515245, li_1431655765]
        refine so_mono (c_push c5 hb) ?_
        intro z hz
        refine so_mono (m_remember m5 hly2) ?_
        intro v hv
        refine so_mono (m_nrow d0 dN N30 rfl rfl _ _ _ _ _ _ _ _ _ _ _ _ _ _ _ _ _ _ _ _ _ _ _ _) ?_
        rintro u ⟨u1, r1', r2', hrw, rfl⟩
        rw [if_pos qN, ew] at hrw
        obtain ⟨h1, h2, h3, h4, h5, h6, h7, h8, h9⟩ := G.mono (show n ≤ n + 1 by omega)
        exact ⟨(by first | rfl | trivial), by omega, ((g.1, g.2.1, x'.1.1, g.2.2.2.1, puU g.2.2.2.2.1 g.2.2.2.2.2.1 g.2.2.1, puN g.2.2.2.2.2.1, g.2.2.2.2.2.2.1, 0, [iI 0, r.2.1], g.2.2.2.2.2.2.2.2.2.1, g.2.2.2.2.2.2.2.2.2.2.1, g.2.2.2.2.2.2.2.2.2.2.2.1, g.2.2.2.2.2.2.2.2.2.2.2.2.1, g.2.2.2.2.2.2.2.2.2.2.2.2.2.1, g.2.2.2.2.2.2.2.2.2.2.2.2.2.2.1, g.2.2.2.2.2.2.2.2.2.2.2.2.2.2.2) : GH), ⟨c1, c2, k5, c4, hz, ⟨c6.1, rfl⟩, ht, c8, c9⟩, ⟨m1, m2, l5, m4, hv, ⟨m6.1, rfl⟩, hrw, m8, m9⟩, h1, h2, SA, h4, SG.pu c5.2.1 h5 h3, ⟨Int.le_refl 0, by show (0 : Int) ≤ 80; omega, h6.2.2⟩, by show 2 ≤ 8; omega, h8, h9⟩
    · by_cases qd : d ≤ 0
      · simp (disch := omega) only [gd_t, so_some, so_bind, so_gd, so_none, Option.bind_some, iI_add, iI_sub, iI_mul, iI_neg, iI_clamp, iI_nat, vin_i, iI_le, iI_lt, iI_eq, mn_i, mx_i, if_true, if_false, if_pos, if_neg, li_0, li_1, li_2, li_3, li_4, li_5, li_6, li_7, li_8, li_9, li_10, li_11, li_12, li_14, li_15, li_16, li_20, li_21, li_24, li_28, li_30, li_31, li_40, li_41, li_42, li_43, li_44, li_45, li_47, li_48, li_49, li_57, li_59, li_60, li_61, li_62, li_63, li_70, li_71, li_76, li_80, li_96, li_97, li_98, li_99, li_100, li_101, li_102, li_103, li_104, li_105, li_106, li_107, li_108, li_109, li_110, li_111, li_112, li_113, li_114, li_115, li_116, li_117, li_118, li_119, li_120, li_128, li_142, li_255, li_320, li_781, li_852, li_999, li_1000, li_2000, li_3000, li_9999, li_12345, li_65536, li_1000000, li_252645135, li_858993459, li_1103515245, li_1431655765]
        unfold fX11_night_J81
        simp only [so_bind]
        refine so_mono (c_tell2 _ _ _ _) ?_
        intro t ht
        simp (disch := omega) only [gd_t, so_some, so_bind, so_gd, so_none, Option.bind_some, iI_add, iI_sub, iI_mul, iI_neg, iI_clamp, iI_nat, vin_i, iI_le, iI_lt, iI_eq, mn_i, mx_i, if_true, if_false, if_pos, if_neg, li_0, li_1, li_2, li_3, li_4, li_5, li_6, li_7, li_8, li_9, li_10, li_11, li_12, li_14, li_15, li_16, li_20, li_21, li_24, li_28, li_30, li_31, li_40, li_41, li_42, li_43, li_44, li_45, li_47, li_48, li_49, li_57, li_59, li_60, li_61, li_62, li_63, li_70, li_71, li_76, li_80, li_96, li_97, li_98, li_99, li_100, li_101, li_102, li_103, li_104, li_105, li_106, li_107, li_108, li_109, li_110, li_111, li_112, li_113, li_114, li_115, li_116, li_117, li_118, li_119, li_120, li_128, li_142, li_255, li_320, li_781, li_852, li_999, li_1000, li_2000, li_3000, li_9999, li_12345, li_65536, li_1000000, li_252645135, li_858993459, li_1103515245, li_1431655765]
        have d00 : d = 0 := by omega
        have eA := hd0 d00
        refine so_mono (m_nrow d0 dN N30 rfl rfl _ _ _ _ _ _ _ _ _ _ _ _ _ _ _ _ _ _ _ _ _ _ _ _) ?_
        rintro u ⟨u1, r1', r2', hrw, rfl⟩
        rw [if_neg qN, ew] at hrw
        obtain ⟨h1, h2, h3, h4, h5, h6, h7, h8, h9⟩ := G.mono (show n ≤ n + 1 by omega)
        exact ⟨(by first | rfl | trivial), by omega, ((g.1, g.2.1, x'.1.1, g.2.2.2.1, g.2.2.2.2.1, g.2.2.2.2.2.1, g.2.2.2.2.2.2.1, 0, [iI 1, r.2.1], g.2.2.2.2.2.2.2.2.2.1, g.2.2.2.2.2.2.2.2.2.2.1, g.2.2.2.2.2.2.2.2.2.2.2.1, g.2.2.2.2.2.2.2.2.2.2.2.2.1, g.2.2.2.2.2.2.2.2.2.2.2.2.2.1, g.2.2.2.2.2.2.2.2.2.2.2.2.2.2.1, g.2.2.2.2.2.2.2.2.2.2.2.2.2.2.2) : GH), ⟨c1, c2, k5, c4, c5, ⟨c6.1, rfl⟩, ht, c8, c9⟩, ⟨m1, m2, l5, m4, m5, ⟨m6.1, rfl⟩, hrw, m8, m9⟩, h1, h2, SA, h4, h5, ⟨Int.le_refl 0, by show (0 : Int) ≤ 80; omega, h6.2.2⟩, by show 2 ≤ 8; omega, h8, h9⟩
      · simp (disch := omega) only [gd_t, so_some, so_bind, so_gd, so_none, Option.bind_some, iI_add, iI_sub, iI_mul, iI_neg, iI_clamp, iI_nat, vin_i, iI_le, iI_lt, iI_eq, mn_i, mx_i, if_true, if_false, if_pos, if_neg, li_0, li_1, li_2, li_3, li_4, li_5, li_6, li_7, li_8, li_9, li_10, li_11, li_12, li_14, li_15, li_16, li_20, li_21, li_24, li_28, li_30, li_31, li_40, li_41, li_42, li_43, li_44, li_45, li_47, li_48, li_49, li_57, li_59, li_60, li_61, li_62, li_63, li_70, li_71, li_76, li_80, li_96, li_97, li_98, li_99, li_100, li_101, li_102, li_103, li_104, li_105, li_106, li_107, li_108, li_109, li_110, li_111, li_112, li_113, li_114, li_115, li_116, li_117, li_118, li_119, li_120, li_128, li_142, li_255, li_320, li_781, li_852, li_999, li_1000, li_2000, li_3000, li_9999, li_12345, li_65536, li_1000000, li_252645135, li_858993459, li_1103515245, li_1431655765]
        unfold fX11_night_J81
        simp only [so_bind]
        refine so_mono (c_tell2 _ _ _ _) ?_
        intro t ht
        simp (disch := omega) only [gd_t, so_some, so_bind, so_gd, so_none, Option.bind_some, iI_add, iI_sub, iI_mul, iI_neg, iI_clamp, iI_nat, vin_i, iI_le, iI_lt, iI_eq, mn_i, mx_i, if_true, if_false, if_pos, if_neg, li_0, li_1, li_2, li_3, li_4, li_5, li_6, li_7, li_8, li_9, li_10, li_11, li_12, li_14, li_15, li_16, li_20, li_21, li_24, li_28, li_30, li_31, li_40, li_41, li_42, li_43, li_44, li_45, li_47, li_48, li_49, li_57, li_59, li_60, li_61, li_62, li_63, li_70, li_71, li_76, li_80, li_96, li_97, li_98, li_99, li_100, li_101, li_102, li_103, li_104, li_105, li_106, li_107, li_108, li_109, li_110, li_111, li_112, li_113, li_114, li_115, li_116, li_117, li_118, li_119, li_120, li_128, li_142, li_255, li_320, li_781, li_852, li_999, li_1000, li_2000, li_3000, li_9999, li_12345, li_65536, li_1000000, li_252645135, li_858993459, li_1103515245, li_1431655765]
        refine so_mono (c_push c5 hb) ?_
        intro z hz
        refine so_mono (m_remember m5 hly2) ?_
        intro v hv
        refine so_mono (m_nrow d0 dN N30 rfl rfl _ _ _ _ _ _ _ _ _ _ _ _ _ _ _ _ _ _ _ _ _ _ _ _) ?_
        rintro u ⟨u1, r1', r2', hrw, rfl⟩
        rw [if_neg qN, ew] at hrw
        obtain ⟨h1, h2, h3, h4, h5, h6, h7, h8, h9⟩ := G.mono (show n ≤ n + 1 by omega)
        exact ⟨(by first | rfl | trivial), by omega, ((g.1, g.2.1, x'.1.1, g.2.2.2.1, puU g.2.2.2.2.1 g.2.2.2.2.2.1 g.2.2.1, puN g.2.2.2.2.2.1, g.2.2.2.2.2.2.1, 0, [iI 1, r.2.1], g.2.2.2.2.2.2.2.2.2.1, g.2.2.2.2.2.2.2.2.2.2.1, g.2.2.2.2.2.2.2.2.2.2.2.1, g.2.2.2.2.2.2.2.2.2.2.2.2.1, g.2.2.2.2.2.2.2.2.2.2.2.2.2.1, g.2.2.2.2.2.2.2.2.2.2.2.2.2.2.1, g.2.2.2.2.2.2.2.2.2.2.2.2.2.2.2) : GH), ⟨c1, c2, k5, c4, hz, ⟨c6.1, rfl⟩, ht, c8, c9⟩, ⟨m1, m2, l5, m4, hv, ⟨m6.1, rfl⟩, hrw, m8, m9⟩, h1, h2, SA, h4, SG.pu c5.2.1 h5 h3, ⟨Int.le_refl 0, by show (0 : Int) ≤ 80; omega, h6.2.2⟩, by show 2 ≤ 8; omega, h8, h9⟩
