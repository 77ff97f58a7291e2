/-- up to three digits, the first being read -/
theorem nm_L {n : Nat} {Tx : Int → Int} (hT : ∀ i, 0 ≤ Tx i ∧ Tx i ≤ 255) {l : Int} {a b : Nat → Int32} (ha : Arr 80 a Tx) (hb : Arr (min l 40) b (fun i => sb (Tx i))) (l0 : 0 ≤ l) (l1 : l ≤ 1000) (hn : min l 40 ≤ n) (n1 : n ≤ 1000) :
    ∀ (s : Nat) (j k v : Int), 1 ≤ j → j + s = 3 → j ≤ k → k ≤ min l 40 → 0 ≤ v → (j = 1 ∧ v ≤ 9) ∨ (j = 2 ∧ v ≤ 99) ∨ (j = 3 ∧ v ≤ 999) → ∃ v' k' : Int, k ≤ k' ∧ k' ≤ k + s ∧ k' ≤ min l 40 ∧ 0 ≤ v' ∧ v' ≤ 999 ∧
      (∀ f : Nat, s < f → fX6_takeNumber_L10 (iI (min l 40)) a (iI 3) f (iI v) (iI j) (iI k) = some (Sum.inl (iI v', iI k')) ∨ fX6_takeNumber_L10 (iI (min l 40)) a (iI 3) f (iI v) (iI j) (iI k) = some (Sum.inr (iI v', iI k'))) ∧
      (∀ f : Nat, s < f → fX12_number_L18 n (iI l) (iI 40) b (iI 3) (iI (k - j)) f (iI v) (iI k) = some (iI v', iI k'))
  | 0, j, k, v, j1, hj, jk, km, v0, hv => by
    refine ⟨v, k, by omega, by omega, km, v0, by omega, fun f hf => ?_, fun f hf => ?_⟩
    · obtain ⟨f, rfl⟩ : ∃ g, f = g + 1 := ⟨f - 1, by omega⟩
      left
      rw [fX6_takeNumber_L10]
      simp (disch := omega) only [gd_t, so_some, so_bind, so_gd, so_none, Option.bind_some, iI_add, iI_sub, iI_mul, iI_neg, iI_clamp, iI_nat, vin_i, iI_le, iI_lt, iI_eq, mn_i, mx_i, if_true, if_false, if_pos, if_neg, li_0, li_1, li_2, li_3, li_4, li_5, li_6, li_7, li_8, li_9, li_10, li_11, li_12, li_14, li_15, li_16, li_20, li_21, li_24, li_28, li_30, li_31, li_40, li_41, li_42, li_43, li_44, li_45, li_47, li_48, li_49, li_57, li_59, li_60, li_61, li_62, li_63, li_70, li_71, li_76, li_80, li_96, li_97, li_98, li_99, li_100, li_101, li_102, li_103, li_104, li_105, li_106, li_107, li_108, li_109, li_110, li_111, li_112, li_113, li_114, li_115, li_116, li_117, li_118, li_119, li_120, li_128, li_142, li_255, li_320, li_781, li_852, li_999, li_1000, li_2000, li_3000, li_9999, li_12345, li_65536, li_1000000, li_252645135, li_858993459, li_1103515245, li_1431655765]
    · obtain ⟨f, rfl⟩ : ∃ g, f = g + 1 := ⟨f - 1, by omega⟩
      rw [fX12_number_L18]
      simp (disch := omega) only [gd_t, so_some, so_bind, so_gd, so_none, Option.bind_some, iI_add, iI_sub, iI_mul, iI_neg, iI_clamp, iI_nat, vin_i, iI_le, iI_lt, iI_eq, mn_i, mx_i, if_true, if_false, if_pos, if_neg, li_0, li_1, li_2, li_3, li_4, li_5, li_6, li_7, li_8, li_9, li_10, li_11, li_12, li_14, li_15, li_16, li_20, li_21, li_24, li_28, li_30, li_31, li_40, li_41, li_42, li_43, li_44, li_45, li_47, li_48, li_49, li_57, li_59, li_60, li_61, li_62, li_63, li_70, li_71, li_76, li_80, li_96, li_97, li_98, li_99, li_100, li_101, li_102, li_103, li_104, li_105, li_106, li_107, li_108, li_109, li_110, li_111, li_112, li_113, li_114, li_115, li_116, li_117, li_118, li_119, li_120, li_128, li_142, li_255, li_320, li_781, li_852, li_999, li_1000, li_2000, li_3000, li_9999, li_12345, li_65536, li_1000000, li_252645135, li_858993459, li_1103515245, li_1431655765]
  | s + 1, j, k, v, j1, hj, jk, km, v0, hv => by
    have x := hk_b hT (min l 40) k
    have p1 := c_peek (m := min l 40) (k := k) ha (by omega) (by omega) (by omega) (by omega)
    have h1 := m_hereL (l := l) (tp := 40) (k := k) hb (by omega) l0 l1 (by omega) (by omega) (by omega) hn n1
    have d1 := m_dig x.1 x.2
    have i1 : hk Tx (min l 40) k ≠ -1 → k < min l 40 := fun z => by
      by_cases w : k < min l 40
      · exact w
      · exact absurd (if_neg w) z
    obtain ⟨X, hX⟩ : ∃ X, hk Tx (min l 40) k = X := ⟨_, rfl⟩
    rw [hX] at x p1 h1 d1 i1
    by_cases q : dg X
    · have q' := q
      unfold dg at q'
      have s1 : sb X = X := sb_lo (by omega)
      have z1 := d1.1 q
      rw [s1] at z1 h1
      have kk := i1 (by omega)
      obtain ⟨v', k', e1, e2, e3, e4, e5, e6, e7⟩ := nm_L hT ha hb l0 l1 hn n1 s (j + 1) (k + 1) (10 * v + (X - 48)) (by omega) (by omega) (by omega) (by omega) (by omega) (by omega)
      refine ⟨v', k', by omega, by omega, e3, e4, e5, fun f hf => ?_, fun f hf => ?_⟩
      · obtain ⟨f, rfl⟩ : ∃ g, f = g + 1 := ⟨f - 1, by omega⟩
        rw [fX6_takeNumber_L10]
        unfold fX6_takeDigit
        simp (disch := omega) only [gd_t, so_some, so_bind, so_gd, so_none, Option.bind_some, iI_add, iI_sub, iI_mul, iI_neg, iI_clamp, iI_nat, vin_i, iI_le, iI_lt, iI_eq, mn_i, mx_i, if_true, if_false, if_pos, if_neg, li_0, li_1, li_2, li_3, li_4, li_5, li_6, li_7, li_8, li_9, li_10, li_11, li_12, li_14, li_15, li_16, li_20, li_21, li_24, li_28, li_30, li_31, li_40, li_41, li_42, li_43, li_44, li_45, li_47, li_48, li_49, li_57, li_59, li_60, li_61, li_62, li_63, li_70, li_71, li_76, li_80, li_96, li_97, li_98, li_99, li_100, li_101, li_102, li_103, li_104, li_105, li_106, li_107, li_108, li_109, li_110, li_111, li_112, li_113, li_114, li_115, li_116, li_117, li_118, li_119, li_120, li_128, li_142, li_255, li_320, li_781, li_852, li_999, li_1000, li_2000, li_3000, li_9999, li_12345, li_65536, li_1000000, li_252645135, li_858993459, li_1103515245, li_1431655765, p1]
        exact e6 f (by omega)
      · obtain ⟨f, rfl⟩ : ∃ g, f = g + 1 := ⟨f - 1, by omega⟩
        rw [fX12_number_L18]
        simp (disch := omega) only [gd_t, so_some, so_bind, so_gd, so_none, Option.bind_some, iI_add, iI_sub, iI_mul, iI_neg, iI_clamp, iI_nat, vin_i, iI_le, iI_lt, iI_eq, mn_i, mx_i, if_true, if_false, if_pos, if_neg, li_0, li_1, li_2, li_3, li_4, li_5, li_6, li_7, li_8, li_9, li_10, li_11, li_12, li_14, li_15, li_16, li_20, li_21, li_24, li_28, li_30, li_31, li_40, li_41, li_42, li_43, li_44, li_45, li_47, li_48, li_49, li_57, li_59, li_60, li_61, li_62, li_63, li_70, li_71, li_76, li_80, li_96, li_97, li_98, li_99, li_100, li_101, li_102, li_103, li_104, li_105, li_106, li_107, li_108, li_109, li_110, li_111, li_112, li_113, li_114, li_115, li_116, li_117, li_118, li_119, li_120, li_128, li_142, li_255, li_320, li_781, li_852, li_999, li_1000, li_2000, li_3000, li_9999, li_12345, li_65536, li_1000000, li_252645135, li_858993459, li_1103515245, li_1431655765, h1, z1]
        rw [show 10 * v + X - 48 = 10 * v + (X - 48) by omega]
        have := e7 f (by omega)
        rw [show k + 1 - (j + 1) = k - j by omega] at this
        exact this
    · have q' := q
      unfold dg at q'
      refine ⟨v, k, by omega, by omega, km, v0, by omega, fun f hf => ?_, fun f hf => ?_⟩
      · obtain ⟨f, rfl⟩ : ∃ g, f = g + 1 := ⟨f - 1, by omega⟩
        right
        rw [fX6_takeNumber_L10]
        unfold fX6_takeDigit
        by_cases q3 : X - 48 < 0
        · simp (disch := omega) only [gd_t, so_some, so_bind, so_gd, so_none, Option.bind_some, iI_add, iI_sub, iI_mul, iI_neg, iI_clamp, iI_nat, vin_i, iI_le, iI_lt, iI_eq, mn_i, mx_i, if_true, if_false, if_pos, if_neg, li_0, li_1, li_2, li_3, li_4, li_5, li_6, li_7, li_8, li_9, li_10, li_11, li_12, li_14, li_15, li_16, li_20, li_21, li_24, li_28, li_30, li_31, li_40, li_41, li_42, li_43, li_44, li_45, li_47, li_48, li_49, li_57, li_59, li_60, li_61, li_62, li_63, li_70, li_71, li_76, li_80, li_96, li_97, li_98, li_99, li_100, li_101, li_102, li_103, li_104, li_105, li_106, li_107, li_108, li_109, li_110, li_111, li_112, li_113, li_114, li_115, li_116, li_117, li_118, li_119, li_120, li_128, li_142, li_255, li_320, li_781, li_852, li_999, li_1000, li_2000, li_3000, li_9999, li_12345, li_65536, li_1000000, li_252645135, li_858993459, li_1103515245, li_1431655765, p1]
        · simp (disch := omega) only [gd_t, so_some, so_bind, so_gd, so_none, Option.bind_some, iI_add, iI_sub, iI_mul, iI_neg, iI_clamp, iI_nat, vin_i, iI_le, iI_lt, iI_eq, mn_i, mx_i, if_true, if_false, if_pos, if_neg, li_0, li_1, li_2, li_3, li_4, li_5, li_6, li_7, li_8, li_9, li_10, li_11, li_12, li_14, li_15, li_16, li_20, li_21, li_24, li_28, li_30, li_31, li_40, li_41, li_42, li_43, li_44, li_45, li_47, li_48, li_49, li_57, li_59, li_60, li_61, li_62, li_63, li_70, li_71, li_76, li_80, li_96, li_97, li_98, li_99, li_100, li_101, li_102, li_103, li_104, li_105, li_106, li_107, li_108, li_109, li_110, li_111, li_112, li_113, li_114, li_115, li_116, li_117, li_118, li_119, li_120, li_128, li_142, li_255, li_320, li_781, li_852, li_999, li_1000, li_2000, li_3000, li_9999, li_12345, li_65536, li_1000000, li_252645135, li_858993459, li_1103515245, li_1431655765, p1]
      · obtain ⟨f, rfl⟩ : ∃ g, f = g + 1 := ⟨f - 1, by omega⟩
        rw [fX12_number_L18]
        simp (disch := omega) only [gd_t, so_some, so_bind, so_gd, so_none, Option.bind_some, iI_add, iI_sub, iI_mul, iI_neg, iI_clamp, iI_nat, vin_i, iI_le, iI_lt, iI_eq, mn_i, mx_i, if_true, if_false, if_pos, if_neg, li_0, li_1, li_2, li_3, li_4, li_5, li_6, li_7, li_8, li_9, li_10, li_11, li_12, li_14, li_15, li_16, li_20, li_21, li_24, li_28, li_30, li_31, li_40, li_41, li_42, li_43, li_44, li_45, li_47, li_48, li_49, li_57, li_59, li_60, li_61, li_62, li_63, li_70, li_71, li_76, li_80, li_96, li_97, li_98, li_99, li_100, li_101, li_102, li_103, li_104, li_105, li_106, li_107, li_108, li_109, li_110, li_111, li_112, li_113, li_114, li_115, li_116, li_117, li_118, li_119, li_120, li_128, li_142, li_255, li_320, li_781, li_852, li_999, li_1000, li_2000, li_3000, li_9999, li_12345, li_65536, li_1000000, li_252645135, li_858993459, li_1103515245, li_1431655765, h1, d1.2 q]
theorem c_num3 {Tx : Int → Int} (hT : ∀ i, 0 ≤ Tx i ∧ Tx i ≤ 255) {l k : Int} {a : Nat → Int32} (ha : Arr 80 a Tx) (l0 : 0 ≤ l) (l1 : l ≤ 1000) (k0 : 0 ≤ k) (hd : dg (hk Tx (min l 40) k)) :
    ∃ v k' : Int, k < k' ∧ k' ≤ min l 40 ∧ 0 ≤ v ∧ v ≤ 999 ∧ fX6_takeNumber (iI k) (iI (min l 40)) a (iI 3) = some (iI v, iI k') ∧
      ∀ (n : Nat) (b : Nat → Int32), Arr (min l 40) b (fun i => sb (Tx i)) → min l 40 ≤ n → n ≤ 1000 → fX12_number n (iI l) (iI 40) (iI k) (iI (-1)) b (iI 3) (iI 0) (iI 999) = some (iI v, iI k', iI (-1)) := by
  have x := hk_b hT (min l 40) k
  have km : k < min l 40 := by
    by_cases w : k < min l 40
    · exact w
    · rw [hk, if_neg w] at hd
      unfold dg at hd
      omega
  have p1 := c_peek (m := min l 40) (k := k) ha k0 (by omega) (by omega) (by omega)
  obtain ⟨X, hX⟩ : ∃ X, hk Tx (min l 40) k = X := ⟨_, rfl⟩
  rw [hX] at x p1 hd
  have q' := hd
  unfold dg at q'
  have s1 : sb X = X := sb_lo (by omega)
  have L := fun (n : Nat) (b : Nat → Int32) (hb : Arr (min l 40) b (fun i => sb (Tx i))) (hn : min l 40 ≤ n) (n1 : n ≤ 1000) => nm_L hT ha hb l0 l1 hn n1 2 1 (k + 1) (X - 48) (by omega) (by omega) (by omega) (by omega) (by omega) (by omega)
  -- the class's side does not depend on the model's text
  obtain ⟨v, k', e1, e2, e3, e4, e5, e6, -⟩ := L 80 (fun i => iI (sb (Tx i))) (fun x x0 x1 => by show iI (sb (Tx ((x.toNat : Nat) : Int))) = iI (sb (Tx x)); rw [show ((x.toNat : Nat) : Int) = x by omega]) (by omega) (by omega)
  have c1 : fX6_takeNumber (iI k) (iI (min l 40)) a (iI 3) = some (iI v, iI k') := by
    unfold fX6_takeNumber fX6_takeDigit
    simp (disch := omega) only [gd_t, so_some, so_bind, so_gd, so_none, Option.bind_some, iI_add, iI_sub, iI_mul, iI_neg, iI_clamp, iI_nat, vin_i, iI_le, iI_lt, iI_eq, mn_i, mx_i, if_true, if_false, if_pos, if_neg, li_0, li_1, li_2, li_3, li_4, li_5, li_6, li_7, li_8, li_9, li_10, li_11, li_12, li_14, li_15, li_16, li_20, li_21, li_24, li_28, li_30, li_31, li_40, li_41, li_42, li_43, li_44, li_45, li_47, li_48, li_49, li_57, li_59, li_60, li_61, li_62, li_63, li_70, li_71, li_76, li_80, li_96, li_97, li_98, li_99, li_100, li_101, li_102, li_103, li_104, li_105, li_106, li_107, li_108, li_109, li_110, li_111, li_112, li_113, li_114, li_115, li_116, li_117, li_118, li_119, li_120, li_128, li_142, li_255, li_320, li_781, li_852, li_999, li_1000, li_2000, li_3000, li_9999, li_12345, li_65536, li_1000000, li_252645135, li_858993459, li_1103515245, li_1431655765, p1]
    rcases e6 FU (show _ < 4000 by omega) with h | h
    · rw [h]; rfl
    · rw [h]; rfl
  refine ⟨v, k', by omega, e3, e4, e5, c1, fun n b hb hn n1 => ?_⟩
  obtain ⟨v2, k2, f1, f2, f3, f4, f5, f6, f7⟩ := L n b hb hn n1
  have same : v2 = v ∧ k2 = k' := by
    have g1 := e6 3 (by omega)
    have g2 := f6 3 (by omega)
    rcases g1 with g1 | g1 <;> rcases g2 with g2 | g2 <;> rw [g1] at g2
    · have := Sum.inl.inj (Option.some.inj g2)
      have h1 := (Prod.mk.inj this).1
      have h2 := (Prod.mk.inj this).2
      rw [iI_eq (by omega) (by omega) (by omega) (by omega)] at h1 h2
      exact ⟨h1.symm, h2.symm⟩
    · exact absurd (Option.some.inj g2) (by intro z; cases z)
    · exact absurd (Option.some.inj g2) (by intro z; cases z)
    · have := Sum.inr.inj (Option.some.inj g2)
      have h1 := (Prod.mk.inj this).1
      have h2 := (Prod.mk.inj this).2
      rw [iI_eq (by omega) (by omega) (by omega) (by omega)] at h1 h2
      exact ⟨h1.symm, h2.symm⟩
  obtain ⟨rfl, rfl⟩ := same
  have h1 := m_hereL (l := l) (tp := 40) (k := k) hb k0 l0 l1 (by omega) (by omega) (by omega) hn n1
  rw [hX, s1] at h1
  have z1 := (m_dig (x := X) (by omega) (by omega)).1 hd
  rw [s1] at z1
  have g7 := f7 3999 (by omega)
  rw [show k + 1 - 1 = k by omega] at g7
  unfold fX12_number fX12_fine
  rw [show FU = 3999 + 1 from rfl, fX12_number_L18]
  simp (disch := omega) only [gd_t, so_some, so_bind, so_gd, so_none, Option.bind_some, iI_add, iI_sub, iI_mul, iI_neg, iI_clamp, iI_nat, vin_i, iI_le, iI_lt, iI_eq, mn_i, mx_i, if_true, if_false, if_pos, if_neg, li_0, li_1, li_2, li_3, li_4, li_5, li_6, li_7, li_8, li_9, li_10, li_11, li_12, li_14, li_15, li_16, li_20, li_21, li_24, li_28, li_30, li_31, li_40, li_41, li_42, li_43, li_44, li_45, li_47, li_48, li_49, li_57, li_59, li_60, li_61, li_62, li_63, li_70, li_71, li_76, li_80, li_96, li_97, li_98, li_99, li_100, li_101, li_102, li_103, li_104, li_105, li_106, li_107, li_108, li_109, li_110, li_111, li_112, li_113, li_114, li_115, li_116, li_117, li_118, li_119, li_120, li_128, li_142, li_255, li_320, li_781, li_852, li_999, li_1000, li_2000, li_3000, li_9999, li_12345, li_65536, li_1000000, li_252645135, li_858993459, li_1103515245, li_1431655765, h1, z1]
  rw [show 10 * 0 + X - 48 = X - 48 by omega, g7, Option.bind_some]
  have := m_num_end (k := k) (k' := k2) (v := v2) (lo := 0) (hi := 999) (by omega) k0 (by omega) (by omega) f4 f5 (by omega) (by omega) (by omega)
  rw [this, if_pos ⟨f4, f5⟩]
