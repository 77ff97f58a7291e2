theorem c_prod_0 (G : Nat → Int32 → (Nat → Int32) → Int32 → Int32 → (Nat → Int32) → Int32 → Option (Int32 × Int32 × (Nat → Int32) × Int32)) (m : Int32) (a : Nat → Int32) (d : Int32) (f : Nat) (v4 D : Int32) (draft : Nat → Int32) (pl : Int32) : fX4_readProduct_L10 G m a d (f + 1) (iI 0) v4 D draft pl = some (Sum.inl (iI 0, D, draft, pl)) := by
  rw [fX4_readProduct_L10]
  split
  · rfl
  · rw [if_pos (by rfl)]
theorem m_prod_0 (G : Nat → Nat → Int32 → Int32 → Int32 → Int32 → Int32 → Int32 → Int32 → Int32 → Int32 → Int32 → Int32 → Int32 → (Nat → Int32) → (Nat → Int32) → (Nat → Int32) → Int32 → Option (Int32 × Int32 × Int32)) (nb : Nat) (many l tp asked q1 q2 q3 q4 q5 q6 : Int32) (b hold weather : Nat → Int32) (d : Int32) (f : Nat) (v k : Int32) {w : Int} (w0 : 0 ≤ w) (w1 : w < 1000) :
    fX12_product_L6 G nb many l tp asked q1 q2 q3 q4 q5 q6 b hold weather d (f + 1) v k (iI w) = some (v, k, iI w) := by
  rw [fX12_product_L6]
  unfold fX12_fine
  simp (disch := omega) only [gd_t, so_some, so_bind, so_gd, so_none, Option.bind_some, iI_add, iI_sub, iI_mul, iI_neg, iI_clamp, iI_nat, vin_i, iI_le, iI_lt, iI_eq, mn_i, mx_i, if_true, if_false, if_pos, if_neg, li_0, li_1, li_2, li_3, li_4, li_5, li_6, li_7, li_8, li_9, li_10, li_11, li_12, li_14, li_15, li_16, li_20, li_21, li_24, li_28, li_30, li_31, li_40, li_41, li_42, li_43, li_44, li_45, li_47, li_48, li_49, li_57, li_59, li_60, li_61, li_62, li_63, li_70, li_71, li_76, li_80, li_96, li_97, li_98, li_99, li_100, li_101, li_102, li_103, li_104, li_105, li_106, li_107, li_108, li_109, li_110, li_111, li_112, li_113, li_114, li_115, li_116, li_117, li_118, li_119, li_120, li_128, li_142, li_255, li_320, li_781, li_852, li_999, li_1000, li_2000, li_3000, li_9999, li_12345, li_65536, li_1000000, li_252645135, li_858993459, li_1103515245, li_1431655765]
theorem pr_prod_L {Tx : Int → Int} (hT : ∀ i, 0 ≤ Tx i ∧ Tx i ≤ 255) {l d mfc cft : Int} {a : Nat → Int32} (ha : Arr 80 a Tx) (l0 : 0 ≤ l) (l1 : l ≤ 1000)
    (PT : ∀ k, 0 ≤ k → k ≤ min l 40 → PR Tx a l 3 3 cft (mfc + (min l 40 - k)) d k) :
    ∀ (s : Nat) (k : Int), 0 ≤ k → k ≤ min l 40 → min l 40 - k ≤ s →
    (∃ w : Int, 0 ≤ w ∧ w ≤ 100 ∧
      (∀ (t f : Nat) (i D : Int) (draft : Nat → Int32), cft ≤ t → s + 1 < f → 0 ≤ i → i < k → 0 ≤ D → D ≤ k → So (fX4_readProduct_L10 (frul t) (iI (min l 40)) a (iI d) f (iI 1) (iI i) (iI D) draft (iI k)) (fun o => ∃ (D' : Int) (dr : Nat → Int32), 0 ≤ D' ∧ D' ≤ 1000 ∧ o = Sum.inl (iI 0, iI D', dr, iI w))) ∧
      (∀ (t nb f : Nat) (b : Nat → Int32) (asked many q1 q2 q3 q4 q5 q6 v : Int32) (hold weather : Nat → Int32) (T : Int → Int), mfc + (min l 40 - k) ≤ t → s + 1 < f → min l 40 ≤ nb → nb ≤ 1000 → Arr (min l 40) b (fun i => sb (Tx i)) → LtR asked many q1 q2 q3 q4 q5 q6 hold weather T →
        So (fX12_product_L6 (fhsp t) nb many (iI l) (iI 40) asked q1 q2 q3 q4 q5 q6 b hold weather (iI d) f v (iI k) (iI (-1))) (fun p => p.2.2 = iI w))) ∨
    (∃ (k' : Int) (c : List Int) (W : (Int → Int) → Int32 → Int32), k ≤ k' ∧ k' ≤ min l 40 ∧ (c.length : Int) ≤ k' - k ∧ (∀ T v r, evs T c (v :: r) = W T v :: r) ∧ (∀ x, x ∈ c → okC x) ∧
      (∀ (t f : Nat) (i D : Int) (draft : Nat → Int32), cft ≤ t → s + 1 < f → 0 ≤ i → i < k → 0 ≤ D → D ≤ k → So (fX4_readProduct_L10 (frul t) (iI (min l 40)) a (iI d) f (iI 1) (iI i) (iI D) draft (iI k)) (fun o => ∃ dr : Nat → Int32, o = Sum.inr (iI 1, iI (D + c.length), dr, iI k') ∧ Lay D c draft dr)) ∧
      (∀ (t nb f : Nat) (b : Nat → Int32) (asked many q1 q2 q3 q4 q5 q6 v : Int32) (hold weather : Nat → Int32) (T : Int → Int), mfc + (min l 40 - k) ≤ t → s + 1 < f → min l 40 ≤ nb → nb ≤ 1000 → Arr (min l 40) b (fun i => sb (Tx i)) → LtR asked many q1 q2 q3 q4 q5 q6 hold weather T →
        So (fX12_product_L6 (fhsp t) nb many (iI l) (iI 40) asked q1 q2 q3 q4 q5 q6 b hold weather (iI d) f v (iI k) (iI (-1))) (fun p => p = (W T v, iI k', iI (-1))))) := by
  intro s
  induction s with
  | zero =>
    intro k k0 km ks
    have x := hk_b hT (min l 40) k
    have p1 := c_peek (m := min l 40) (k := k) ha k0 (by omega) (by omega) (by omega)
    have q : ¬ (hk Tx (min l 40) k = 42 ∨ hk Tx (min l 40) k = 47) := by
      rintro (h | h)
      · have := hk_lt (by omega) h; omega
      · have := hk_lt (by omega) h; omega
    have h1 := fun (nb : Nat) (b : Nat → Int32) (hb : Arr (min l 40) b (fun i => sb (Tx i))) (hn : min l 40 ≤ nb) (n1 : nb ≤ 1000) => m_hereL (l := l) (tp := 40) (k := k) hb k0 l0 l1 (by omega) (by omega) (by omega) hn n1
    right
    obtain ⟨X, hX⟩ : ∃ X, hk Tx (min l 40) k = X := ⟨_, rfl⟩
    rw [hX] at x p1 q h1
    refine ⟨k, [], fun _ v => v, by omega, km, by show (0 : Int) ≤ _; omega, fun T v r => rfl, fun y hy => absurd hy (by simp), fun t f i D draft ht hf i0 i1 D0 Dk => ?_, fun t nb f b asked many q1 q2 q3 q4 q5 q6 v hold weather T ht hf hn n1 hb LT => ?_⟩
    · obtain ⟨f, rfl⟩ : ∃ g, f = g + 1 := ⟨f - 1, by omega⟩
      rw [fX4_readProduct_L10]
      simp (disch := omega) only [gd_t, so_some, so_bind, so_gd, so_none, Option.bind_some, iI_add, iI_sub, iI_mul, iI_neg, iI_clamp, iI_nat, vin_i, iI_le, iI_lt, iI_eq, mn_i, mx_i, if_true, if_false, if_pos, if_neg, li_0, li_1, li_2, li_3, li_4, li_5, li_6, li_7, li_8, li_9, li_10, li_11, li_12, li_14, li_15, li_16, li_20, li_21, li_24, li_28, li_30, li_31, li_40, li_41, li_42, li_43, li_44, li_45, li_47, li_48, li_49, li_57, li_59, li_60, li_61, li_62, li_63, li_70, li_71, li_76, li_80, li_96, li_97, li_98, li_99, li_100, li_101, li_102, li_103, li_104, li_105, li_106, li_107, li_108, li_109, li_110, li_111, li_112, li_113, li_114, li_115, li_116, li_117, li_118, li_119, li_120, li_128, li_142, li_255, li_320, li_781, li_852, li_999, li_1000, li_2000, li_3000, li_9999, li_12345, li_65536, li_1000000, li_252645135, li_858993459, li_1103515245, li_1431655765, p1]
      exact ⟨draft, by rw [show D + (([] : List Int).length : Int) = D by show D + 0 = D; omega], Lay.nil D draft⟩
    · obtain ⟨f, rfl⟩ : ∃ g, f = g + 1 := ⟨f - 1, by omega⟩
      have h2 := h1 nb b hb hn n1
      have g1 : ¬ iI (sb X) = iI 42 := fun z => q (Or.inl ((sb_c x.1 x.2 (by omega) (by omega)).1 z))
      have g2 : ¬ iI (sb X) = iI 47 := fun z => q (Or.inr ((sb_c x.1 x.2 (by omega) (by omega)).1 z))
      rw [fX12_product_L6]
      unfold fX12_fine
      simp (disch := omega) only [gd_t, so_some, so_bind, so_gd, so_none, Option.bind_some, iI_add, iI_sub, iI_mul, iI_neg, iI_clamp, iI_nat, vin_i, iI_le, iI_lt, iI_eq, mn_i, mx_i, if_true, if_false, if_pos, if_neg, li_0, li_1, li_2, li_3, li_4, li_5, li_6, li_7, li_8, li_9, li_10, li_11, li_12, li_14, li_15, li_16, li_20, li_21, li_24, li_28, li_30, li_31, li_40, li_41, li_42, li_43, li_44, li_45, li_47, li_48, li_49, li_57, li_59, li_60, li_61, li_62, li_63, li_70, li_71, li_76, li_80, li_96, li_97, li_98, li_99, li_100, li_101, li_102, li_103, li_104, li_105, li_106, li_107, li_108, li_109, li_110, li_111, li_112, li_113, li_114, li_115, li_116, li_117, li_118, li_119, li_120, li_128, li_142, li_255, li_320, li_781, li_852, li_999, li_1000, li_2000, li_3000, li_9999, li_12345, li_65536, li_1000000, li_252645135, li_858993459, li_1103515245, li_1431655765, h2, g1, g2]
  | succ s ih =>
    intro k k0 km ks
    have x := hk_b hT (min l 40) k
    have p1 := c_peek (m := min l 40) (k := k) ha k0 (by omega) (by omega) (by omega)
    have h1 := fun (nb : Nat) (b : Nat → Int32) (hb : Arr (min l 40) b (fun i => sb (Tx i))) (hn : min l 40 ≤ nb) (n1 : nb ≤ 1000) => m_hereL (l := l) (tp := 40) (k := k) hb k0 l0 l1 (by omega) (by omega) (by omega) hn n1
    by_cases q : hk Tx (min l 40) k = 42 ∨ hk Tx (min l 40) k = 47
    · have kk : k < min l 40 := by
        rcases q with h | h
        · exact hk_lt (by omega) h
        · exact hk_lt (by omega) h
      obtain ⟨X, hX⟩ : ∃ X, hk Tx (min l 40) k = X := ⟨_, rfl⟩
      rw [hX] at x p1 q h1
      have oX : isO X := by unfold isO; omega
      have xb : 42 ≤ X ∧ X ≤ 62 := by omega
      have cs : ∀ (t f : Nat) (i D : Int) (draft : Nat → Int32), 0 ≤ i → i < k → fX4_readProduct_L10 (frul t) (iI (min l 40)) a (iI d) (f + 1) (iI 1) (iI i) (iI D) draft (iI k) = Option.bind (frul t 3 (iI D) draft (iI (k + 1)) (iI (min l 40)) a (iI d)) (fun o10 => Option.bind (fX4_put o10.2.1 o10.2.2.1 (iI (2000 + X))) (fun o12 => fX4_readProduct_L10 (frul t) (iI (min l 40)) a (iI d) f o10.1 (iI (i + 1)) o12.1 o12.2 o10.2.2.2)) := by
        intro t f i D draft i0 i1
        rw [fX4_readProduct_L10]
        rcases q with rfl | rfl
        · unfold fX4_readProduct_J43
          simp (disch := omega) only [gd_t, so_some, so_bind, so_gd, so_none, Option.bind_some, iI_add, iI_sub, iI_mul, iI_neg, iI_clamp, iI_nat, vin_i, iI_le, iI_lt, iI_eq, mn_i, mx_i, if_true, if_false, if_pos, if_neg, li_0, li_1, li_2, li_3, li_4, li_5, li_6, li_7, li_8, li_9, li_10, li_11, li_12, li_14, li_15, li_16, li_20, li_21, li_24, li_28, li_30, li_31, li_40, li_41, li_42, li_43, li_44, li_45, li_47, li_48, li_49, li_57, li_59, li_60, li_61, li_62, li_63, li_70, li_71, li_76, li_80, li_96, li_97, li_98, li_99, li_100, li_101, li_102, li_103, li_104, li_105, li_106, li_107, li_108, li_109, li_110, li_111, li_112, li_113, li_114, li_115, li_116, li_117, li_118, li_119, li_120, li_128, li_142, li_255, li_320, li_781, li_852, li_999, li_1000, li_2000, li_3000, li_9999, li_12345, li_65536, li_1000000, li_252645135, li_858993459, li_1103515245, li_1431655765, p1, c_skip]
        · unfold fX4_readProduct_J43
          simp (disch := omega) only [gd_t, so_some, so_bind, so_gd, so_none, Option.bind_some, iI_add, iI_sub, iI_mul, iI_neg, iI_clamp, iI_nat, vin_i, iI_le, iI_lt, iI_eq, mn_i, mx_i, if_true, if_false, if_pos, if_neg, li_0, li_1, li_2, li_3, li_4, li_5, li_6, li_7, li_8, li_9, li_10, li_11, li_12, li_14, li_15, li_16, li_20, li_21, li_24, li_28, li_30, li_31, li_40, li_41, li_42, li_43, li_44, li_45, li_47, li_48, li_49, li_57, li_59, li_60, li_61, li_62, li_63, li_70, li_71, li_76, li_80, li_96, li_97, li_98, li_99, li_100, li_101, li_102, li_103, li_104, li_105, li_106, li_107, li_108, li_109, li_110, li_111, li_112, li_113, li_114, li_115, li_116, li_117, li_118, li_119, li_120, li_128, li_142, li_255, li_320, li_781, li_852, li_999, li_1000, li_2000, li_3000, li_9999, li_12345, li_65536, li_1000000, li_252645135, li_858993459, li_1103515245, li_1431655765, p1, c_skip]
      have ms : ∀ (t nb f : Nat) (b : Nat → Int32) (asked many q1 q2 q3 q4 q5 q6 v : Int32) (hold weather : Nat → Int32), min l 40 ≤ nb → nb ≤ 1000 → Arr (min l 40) b (fun i => sb (Tx i)) → fX12_product_L6 (fhsp t) nb many (iI l) (iI 40) asked q1 q2 q3 q4 q5 q6 b hold weather (iI d) (f + 1) v (iI k) (iI (-1)) = Option.bind (fhsp t 3 nb many (iI l) (iI 40) (iI (k + 1)) (iI (-1)) asked q1 q2 q3 q4 q5 q6 b hold weather (iI d)) (fun o12 => fX12_product_L6 (fhsp t) nb many (iI l) (iI 40) asked q1 q2 q3 q4 q5 q6 b hold weather (iI d) f (jn X v o12.1) o12.2.1 o12.2.2) := by
        intro t nb f b asked many q1 q2 q3 q4 q5 q6 v hold weather hn n1 hb
        have h2 := h1 nb b hb hn n1
        rw [fX12_product_L6]
        unfold fX12_fine
        rcases q with rfl | rfl
        · rw [show sb 42 = 42 from rfl] at h2
          unfold fX12_product_J31 fX12_product_J45
          simp (disch := omega) only [gd_t, so_some, so_bind, so_gd, so_none, Option.bind_some, iI_add, iI_sub, iI_mul, iI_neg, iI_clamp, iI_nat, vin_i, iI_le, iI_lt, iI_eq, mn_i, mx_i, if_true, if_false, if_pos, if_neg, li_0, li_1, li_2, li_3, li_4, li_5, li_6, li_7, li_8, li_9, li_10, li_11, li_12, li_14, li_15, li_16, li_20, li_21, li_24, li_28, li_30, li_31, li_40, li_41, li_42, li_43, li_44, li_45, li_47, li_48, li_49, li_57, li_59, li_60, li_61, li_62, li_63, li_70, li_71, li_76, li_80, li_96, li_97, li_98, li_99, li_100, li_101, li_102, li_103, li_104, li_105, li_106, li_107, li_108, li_109, li_110, li_111, li_112, li_113, li_114, li_115, li_116, li_117, li_118, li_119, li_120, li_128, li_142, li_255, li_320, li_781, li_852, li_999, li_1000, li_2000, li_3000, li_9999, li_12345, li_65536, li_1000000, li_252645135, li_858993459, li_1103515245, li_1431655765, h2]
          rfl
        · rw [show sb 47 = 47 from rfl] at h2
          unfold fX12_product_J31 fX12_product_J45
          simp (disch := omega) only [gd_t, so_some, so_bind, so_gd, so_none, Option.bind_some, iI_add, iI_sub, iI_mul, iI_neg, iI_clamp, iI_nat, vin_i, iI_le, iI_lt, iI_eq, mn_i, mx_i, if_true, if_false, if_pos, if_neg, li_0, li_1, li_2, li_3, li_4, li_5, li_6, li_7, li_8, li_9, li_10, li_11, li_12, li_14, li_15, li_16, li_20, li_21, li_24, li_28, li_30, li_31, li_40, li_41, li_42, li_43, li_44, li_45, li_47, li_48, li_49, li_57, li_59, li_60, li_61, li_62, li_63, li_70, li_71, li_76, li_80, li_96, li_97, li_98, li_99, li_100, li_101, li_102, li_103, li_104, li_105, li_106, li_107, li_108, li_109, li_110, li_111, li_112, li_113, li_114, li_115, li_116, li_117, li_118, li_119, li_120, li_128, li_142, li_255, li_320, li_781, li_852, li_999, li_1000, li_2000, li_3000, li_9999, li_12345, li_65536, li_1000000, li_252645135, li_858993459, li_1103515245, li_1431655765, h2]
          congr 1
          funext o
          unfold jn
          rw [if_neg (by omega), if_neg (by omega), if_neg (by omega), if_pos (by rfl)]
          have nzz : ¬ o.1 = iI 0 → nz o.1 = true := fun z => by unfold nz; exact decide_eq_true z
          by_cases z : o.1 = iI 0
          · simp only [li_0, z, if_true]
          · simp only [li_0, z, if_false, nzz z, gd_t]
      have hP := PT (k + 1) (by omega) (by omega)
      rcases hP with ⟨w, w0, w1, C, M⟩ | ⟨k2, c1, V1, e1, e2, e3, e4, C, M⟩
      · left
        refine ⟨w, w0, w1, fun t f i D draft ht hf i0 i1 D0 Dk => ?_, fun t nb f b asked many q1 q2 q3 q4 q5 q6 v hold weather T ht hf hn n1 hb LT => ?_⟩
        · obtain ⟨f, rfl⟩ : ∃ g, f = g + 1 + 1 := ⟨f - 2, by omega⟩
          rw [cs t (f + 1) i D draft i0 i1, so_bind]
          refine so_mono (C t D draft ht D0 (by omega)) ?_
          rintro o ⟨o1, o2, D', o3, o4, o5⟩
          obtain ⟨D2, dr, g1, g2, g3⟩ := c_put_b o3 o4 o.2.2.1 (iI (2000 + X))
          rw [o1, o2, o5, g3, Option.bind_some, c_prod_0, so_some]
          exact ⟨D2, dr, g1, g2, rfl⟩
        · obtain ⟨f, rfl⟩ : ∃ g, f = g + 1 + 1 := ⟨f - 2, by omega⟩
          rw [ms t nb (f + 1) b asked many q1 q2 q3 q4 q5 q6 v hold weather hn n1 hb, so_bind]
          refine so_mono (M t nb b asked many q1 q2 q3 q4 q5 q6 hold weather T (by omega) hn n1 hb LT) ?_
          intro p hp
          rw [hp, m_prod_0 _ _ _ _ _ _ _ _ _ _ _ _ _ _ _ _ _ _ _ w0 (by omega), so_some]
      · rcases ih k2 (by omega) (by omega) (by omega) with ⟨w, w0, w1, C2, M2⟩ | ⟨k3, c2, W, f1, f2, f3, f4, f5, C2, M2⟩
        · left
          refine ⟨w, w0, w1, fun t f i D draft ht hf i0 i1 D0 Dk => ?_, fun t nb f b asked many q1 q2 q3 q4 q5 q6 v hold weather T ht hf hn n1 hb LT => ?_⟩
          · obtain ⟨f, rfl⟩ : ∃ g, f = g + 1 := ⟨f - 1, by omega⟩
            rw [cs t f i D draft i0 i1, so_bind]
            refine so_mono (C t D draft ht D0 (by omega)) ?_
            rintro o ⟨o1, o2, o3, o4⟩
            have pt := c_put (D := D + c1.length) (by omega) (by omega) o.2.2.1 (2000 + X)
            rw [o1, o2, o3, pt, Option.bind_some]
            exact C2 t f (i + 1) (D + c1.length + 1) _ ht (by omega) (by omega) (by omega) (by omega) (by omega)
          · obtain ⟨f, rfl⟩ : ∃ g, f = g + 1 := ⟨f - 1, by omega⟩
            rw [ms t nb f b asked many q1 q2 q3 q4 q5 q6 v hold weather hn n1 hb, so_bind]
            refine so_mono (M t nb b asked many q1 q2 q3 q4 q5 q6 hold weather T (by omega) hn n1 hb LT) ?_
            intro p hp
            rw [hp]
            exact M2 t nb f b asked many q1 q2 q3 q4 q5 q6 _ hold weather T (by omega) (by omega) hn n1 hb LT
        · right
          have ln : ((c1 ++ [2000 + X]).length : Int) = c1.length + 1 := by rw [List.length_append]; show ((c1.length + 1 : Nat) : Int) = _; omega
          refine ⟨k3, (c1 ++ [2000 + X]) ++ c2, fun T v => W T (jn X v (V1 T)), by omega, f2, by rw [List.length_append]; omega, fun T v r => ?_, fun y hy => ?_, fun t f i D draft ht hf i0 i1 D0 Dk => ?_, fun t nb f b asked many q1 q2 q3 q4 q5 q6 v hold weather T ht hf hn n1 hb LT => ?_⟩
          · rw [evs_app, evs_app, e4.1]
            show evs T c2 (stp T (2000 + X) (V1 T :: v :: r)) = _
            unfold stp
            rw [if_neg (by omega), if_pos (by omega), show 2000 + X - 2000 = X by omega]
            exact f4 T _ r
          · rcases List.mem_append.1 hy with h | h
            · rcases List.mem_append.1 h with h | h
              · exact e4.2 y h
              · rw [List.mem_singleton] at h
                exact Or.inr (Or.inr (Or.inl ⟨X, oX, h⟩))
            · exact f5 y h
          · obtain ⟨f, rfl⟩ : ∃ g, f = g + 1 := ⟨f - 1, by omega⟩
            rw [cs t f i D draft i0 i1, so_bind]
            refine so_mono (C t D draft ht D0 (by omega)) ?_
            rintro o ⟨o1, o2, o3, o4⟩
            have pt := c_put (D := D + c1.length) (by omega) (by omega) o.2.2.1 (2000 + X)
            rw [o1, o2, o3, pt, Option.bind_some]
            refine so_mono (C2 t f (i + 1) (D + c1.length + 1) _ ht (by omega) (by omega) (by omega) (by omega) (by omega)) ?_
            rintro u ⟨dr, u1, u2⟩
            have L1 : Lay D (c1 ++ [2000 + X]) draft _ := Lay.app D0 o4 (Lay.one (D + c1.length) (by omega) (2000 + X) _)
            refine ⟨dr, ?_, Lay.app D0 L1 ?_⟩
            · rw [u1, show (((c1 ++ [2000 + X]) ++ c2).length : Int) = c1.length + 1 + c2.length by rw [List.length_append]; omega, show D + (c1.length + 1 + c2.length : Int) = D + c1.length + 1 + c2.length by omega]
            · rw [ln, show D + (c1.length + 1 : Int) = D + c1.length + 1 by omega]
              exact u2
          · obtain ⟨f, rfl⟩ : ∃ g, f = g + 1 := ⟨f - 1, by omega⟩
            rw [ms t nb f b asked many q1 q2 q3 q4 q5 q6 v hold weather hn n1 hb, so_bind]
            refine so_mono (M t nb b asked many q1 q2 q3 q4 q5 q6 hold weather T (by omega) hn n1 hb LT) ?_
            intro p hp
            rw [hp]
            exact M2 t nb f b asked many q1 q2 q3 q4 q5 q6 _ hold weather T (by omega) (by omega) hn n1 hb LT
    · right
      obtain ⟨X, hX⟩ : ∃ X, hk Tx (min l 40) k = X := ⟨_, rfl⟩
      rw [hX] at x p1 q h1
      refine ⟨k, [], fun _ v => v, by omega, km, by show (0 : Int) ≤ _; omega, fun T v r => rfl, fun y hy => absurd hy (by simp), fun t f i D draft ht hf i0 i1 D0 Dk => ?_, fun t nb f b asked many q1 q2 q3 q4 q5 q6 v hold weather T ht hf hn n1 hb LT => ?_⟩
      · obtain ⟨f, rfl⟩ : ∃ g, f = g + 1 := ⟨f - 1, by omega⟩
        rw [fX4_readProduct_L10]
        simp (disch := omega) only [gd_t, so_some, so_bind, so_gd, so_none, Option.bind_some, iI_add, iI_sub, iI_mul, iI_neg, iI_clamp, iI_nat, vin_i, iI_le, iI_lt, iI_eq, mn_i, mx_i, if_true, if_false, if_pos, if_neg, li_0, li_1, li_2, li_3, li_4, li_5, li_6, li_7, li_8, li_9, li_10, li_11, li_12, li_14, li_15, li_16, li_20, li_21, li_24, li_28, li_30, li_31, li_40, li_41, li_42, li_43, li_44, li_45, li_47, li_48, li_49, li_57, li_59, li_60, li_61, li_62, li_63, li_70, li_71, li_76, li_80, li_96, li_97, li_98, li_99, li_100, li_101, li_102, li_103, li_104, li_105, li_106, li_107, li_108, li_109, li_110, li_111, li_112, li_113, li_114, li_115, li_116, li_117, li_118, li_119, li_120, li_128, li_142, li_255, li_320, li_781, li_852, li_999, li_1000, li_2000, li_3000, li_9999, li_12345, li_65536, li_1000000, li_252645135, li_858993459, li_1103515245, li_1431655765, p1]
        exact ⟨draft, by rw [show D + (([] : List Int).length : Int) = D by show D + 0 = D; omega], Lay.nil D draft⟩
      · obtain ⟨f, rfl⟩ : ∃ g, f = g + 1 := ⟨f - 1, by omega⟩
        have h2 := h1 nb b hb hn n1
        have g1 : ¬ iI (sb X) = iI 42 := fun z => q (Or.inl ((sb_c x.1 x.2 (by omega) (by omega)).1 z))
        have g2 : ¬ iI (sb X) = iI 47 := fun z => q (Or.inr ((sb_c x.1 x.2 (by omega) (by omega)).1 z))
        rw [fX12_product_L6]
        unfold fX12_fine
        simp (disch := omega) only [gd_t, so_some, so_bind, so_gd, so_none, Option.bind_some, iI_add, iI_sub, iI_mul, iI_neg, iI_clamp, iI_nat, vin_i, iI_le, iI_lt, iI_eq, mn_i, mx_i, if_true, if_false, if_pos, if_neg, li_0, li_1, li_2, li_3, li_4, li_5, li_6, li_7, li_8, li_9, li_10, li_11, li_12, li_14, li_15, li_16, li_20, li_21, li_24, li_28, li_30, li_31, li_40, li_41, li_42, li_43, li_44, li_45, li_47, li_48, li_49, li_57, li_59, li_60, li_61, li_62, li_63, li_70, li_71, li_76, li_80, li_96, li_97, li_98, li_99, li_100, li_101, li_102, li_103, li_104, li_105, li_106, li_107, li_108, li_109, li_110, li_111, li_112, li_113, li_114, li_115, li_116, li_117, li_118, li_119, li_120, li_128, li_142, li_255, li_320, li_781, li_852, li_999, li_1000, li_2000, li_3000, li_9999, li_12345, li_65536, li_1000000, li_252645135, li_858993459, li_1103515245, li_1431655765, h2, g1, g2]
theorem pr_prod {Tx : Int → Int} (hT : ∀ i, 0 ≤ Tx i ∧ Tx i ≤ 255) {l d mfc cft : Int} {a : Nat → Int32} (ha : Arr 80 a Tx) (l0 : 0 ≤ l) (l1 : l ≤ 1000) (m0 : 0 ≤ mfc) (c0 : 0 ≤ cft)
    (PT : ∀ k, 0 ≤ k → k ≤ min l 40 → PR Tx a l 3 3 cft (mfc + (min l 40 - k)) d k) (k : Int) (k0 : 0 ≤ k) (km : k ≤ min l 40) : PR Tx a l 2 2 (cft + 1) (mfc + 1 + (min l 40 - k)) d k := by
  have cb : ∀ (t : Nat) (D : Int) (draft : Nat → Int32), frul (t + 1) 2 (iI D) draft (iI k) (iI (min l 40)) a (iI d) = Option.bind (frul t 3 (iI D) draft (iI k) (iI (min l 40)) a (iI d)) (fun o1 => Option.bind (fX4_readProduct_L10 (frul t) (iI (min l 40)) a (iI d) FU o1.1 (iI 0) o1.2.1 o1.2.2.1 o1.2.2.2) (fun o15 => Sum.elim (fun x17 => (gd (isb x17.1) (some (x17.1, x17.2.1, x17.2.2.1, x17.2.2.2)))) (fun r => some r) o15)) := by
    intro t D draft
    rfl
  have mb : ∀ (t nb : Nat) (b : Nat → Int32) (asked many q1 q2 q3 q4 q5 q6 : Int32) (hold weather : Nat → Int32), fhsp (t + 1) 2 nb many (iI l) (iI 40) (iI k) (iI (-1)) asked q1 q2 q3 q4 q5 q6 b hold weather (iI d) = Option.bind (fhsp t 3 nb many (iI l) (iI 40) (iI k) (iI (-1)) asked q1 q2 q3 q4 q5 q6 b hold weather (iI d)) (fun o1 => Option.bind (fX12_product_L6 (fhsp t) nb many (iI l) (iI 40) asked q1 q2 q3 q4 q5 q6 b hold weather (iI d) FU o1.1 o1.2.1 o1.2.2) (fun o18 => some (o18.1, o18.2.1, o18.2.2))) := by
    intro t nb b asked many q1 q2 q3 q4 q5 q6 hold weather
    rfl
  have fu : 40 + 1 < FU := by show 41 < 4000; omega
  have fu' : FU = 3999 + 1 := rfl
  rcases PT k k0 km with ⟨w, w0, w1, C, M⟩ | ⟨k1, c, V, e1, e2, e3, e4, C, M⟩
  · left
    refine ⟨w, w0, w1, fun t D draft ht D0 Dk => ?_, fun t nb b asked many q1 q2 q3 q4 q5 q6 hold weather T ht hn n1 hb LT => ?_⟩
    · obtain ⟨t, rfl⟩ : ∃ u, t = u + 1 := ⟨t - 1, by omega⟩
      rw [cb, so_bind]
      refine so_mono (C t D draft (by omega) D0 Dk) ?_
      rintro o ⟨o1, o2, D', o3, o4, o5⟩
      rw [o1, fu', c_prod_0, Option.bind_some]
      dsimp only [Sum.elim_inl]
      rw [isb_0, gd_t, so_some]
      exact ⟨rfl, o2, D', o3, o4, o5⟩
    · obtain ⟨t, rfl⟩ : ∃ u, t = u + 1 := ⟨t - 1, by omega⟩
      rw [mb, so_bind]
      refine so_mono (M t nb b asked many q1 q2 q3 q4 q5 q6 hold weather T (by omega) hn n1 hb LT) ?_
      intro p hp
      rw [hp, fu', m_prod_0 _ _ _ _ _ _ _ _ _ _ _ _ _ _ _ _ _ _ _ w0 (by omega), Option.bind_some, so_some]
  · rcases pr_prod_L hT ha l0 l1 PT 40 k1 (by omega) (by omega) (by omega) with ⟨w, w0, w1, C2, M2⟩ | ⟨k3, c2, W, f1, f2, f3, f4, f5, C2, M2⟩
    · left
      refine ⟨w, w0, w1, fun t D draft ht D0 Dk => ?_, fun t nb b asked many q1 q2 q3 q4 q5 q6 hold weather T ht hn n1 hb LT => ?_⟩
      · obtain ⟨t, rfl⟩ : ∃ u, t = u + 1 := ⟨t - 1, by omega⟩
        rw [cb, so_bind]
        refine so_mono (C t D draft (by omega) D0 Dk) ?_
        rintro o ⟨o1, o2, o3, o4⟩
        rw [o1, o2, o3, so_bind]
        refine so_mono (C2 t FU 0 (D + c.length) _ (by omega) fu (by omega) (by omega) (by omega) (by omega)) ?_
        rintro u ⟨D', dr, u1, u2, rfl⟩
        dsimp only [Sum.elim_inl]
        rw [isb_0, gd_t, so_some]
        exact ⟨rfl, rfl, D', u1, u2, rfl⟩
      · obtain ⟨t, rfl⟩ : ∃ u, t = u + 1 := ⟨t - 1, by omega⟩
        rw [mb, so_bind]
        refine so_mono (M t nb b asked many q1 q2 q3 q4 q5 q6 hold weather T (by omega) hn n1 hb LT) ?_
        intro p hp
        rw [hp, so_bind]
        refine so_mono (M2 t nb FU b asked many q1 q2 q3 q4 q5 q6 _ hold weather T (by omega) fu hn n1 hb LT) ?_
        intro p hp
        rw [so_some]
        exact hp
    · right
      refine ⟨k3, c ++ c2, fun T => W T (V T), by omega, f2, by rw [List.length_append]; omega, ⟨fun T r => ?_, fun y hy => ?_⟩, fun t D draft ht D0 Dk => ?_, fun t nb b asked many q1 q2 q3 q4 q5 q6 hold weather T ht hn n1 hb LT => ?_⟩
      · rw [evs_app, e4.1, f4]
      · rcases List.mem_append.1 hy with h | h
        · exact e4.2 y h
        · exact f5 y h
      · obtain ⟨t, rfl⟩ : ∃ u, t = u + 1 := ⟨t - 1, by omega⟩
        rw [cb, so_bind]
        refine so_mono (C t D draft (by omega) D0 Dk) ?_
        rintro o ⟨o1, o2, o3, o4⟩
        rw [o1, o2, o3, so_bind]
        refine so_mono (C2 t FU 0 (D + c.length) _ (by omega) fu (by omega) (by omega) (by omega) (by omega)) ?_
        rintro u ⟨dr, rfl, u2⟩
        dsimp only [Sum.elim_inr]
        rw [so_some]
        refine ⟨rfl, ?_, rfl, Lay.app D0 o4 u2⟩
        show iI (D + c.length + c2.length) = _
        rw [show ((c ++ c2).length : Int) = c.length + c2.length by rw [List.length_append]; omega, show D + (c.length + c2.length : Int) = D + c.length + c2.length by omega]
      · obtain ⟨t, rfl⟩ : ∃ u, t = u + 1 := ⟨t - 1, by omega⟩
        rw [mb, so_bind]
        refine so_mono (M t nb b asked many q1 q2 q3 q4 q5 q6 hold weather T (by omega) hn n1 hb LT) ?_
        intro p hp
        rw [hp, so_bind]
        refine so_mono (M2 t nb FU b asked many q1 q2 q3 q4 q5 q6 _ hold weather T (by omega) fu hn n1 hb LT) ?_
        intro p hp
        rw [so_some, hp]
theorem c_sum_0 (G : Nat → Int32 → (Nat → Int32) → Int32 → Int32 → (Nat → Int32) → Int32 → Option (Int32 × Int32 × (Nat → Int32) × Int32)) (m : Int32) (a : Nat → Int32) (d : Int32) (f : Nat) (v4 D : Int32) (draft : Nat → Int32) (pl : Int32) : fX4_readSum_L10 G m a d (f + 1) (iI 0) v4 D draft pl = some (Sum.inl (iI 0, D, draft, pl)) := by
  rw [fX4_readSum_L10]
  split
  · rfl
  · rw [if_pos (by rfl)]
theorem m_sum_0 (G : Nat → Nat → Int32 → Int32 → Int32 → Int32 → Int32 → Int32 → Int32 → Int32 → Int32 → Int32 → Int32 → Int32 → (Nat → Int32) → (Nat → Int32) → (Nat → Int32) → Int32 → Option (Int32 × Int32 × Int32)) (nb : Nat) (many l tp asked q1 q2 q3 q4 q5 q6 : Int32) (b hold weather : Nat → Int32) (d : Int32) (f : Nat) (v k : Int32) {w : Int} (w0 : 0 ≤ w) (w1 : w < 1000) :
    fX12_sum_L6 G nb many l tp asked q1 q2 q3 q4 q5 q6 b hold weather d (f + 1) v k (iI w) = some (v, k, iI w) := by
  rw [fX12_sum_L6]
  unfold fX12_fine
  simp (disch := omega) only [gd_t, so_some, so_bind, so_gd, so_none, Option.bind_some, iI_add, iI_sub, iI_mul, iI_neg, iI_clamp, iI_nat, vin_i, iI_le, iI_lt, iI_eq, mn_i, mx_i, if_true, if_false, if_pos, if_neg, li_0, li_1, li_2, li_3, li_4, li_5, li_6, li_7, li_8, li_9, li_10, li_11, li_12, li_14, li_15, li_16, li_20, li_21, li_24, li_28, li_30, li_31, li_40, li_41, li_42, li_43, li_44, li_45, li_47, li_48, li_49, li_57, li_59, li_60, li_61, li_62, li_63, li_70, li_71, li_76, li_80, li_96, li_97, li_98, li_99, li_100, li_101, li_102, li_103, li_104, li_105, li_106, li_107, li_108, li_109, li_110, li_111, li_112, li_113, li_114, li_115, li_116, li_117, li_118, li_119, li_120, li_128, li_142, li_255, li_320, li_781, li_852, li_999, li_1000, li_2000, li_3000, li_9999, li_12345, li_65536, li_1000000, li_252645135, li_858993459, li_1103515245, li_1431655765]
theorem pr_sum_L {Tx : Int → Int} (hT : ∀ i, 0 ≤ Tx i ∧ Tx i ≤ 255) {l d mfc cft : Int} {a : Nat → Int32} (ha : Arr 80 a Tx) (l0 : 0 ≤ l) (l1 : l ≤ 1000)
    (PT : ∀ k, 0 ≤ k → k ≤ min l 40 → PR Tx a l 2 2 cft (mfc + (min l 40 - k)) d k) :
    ∀ (s : Nat) (k : Int), 0 ≤ k → k ≤ min l 40 → min l 40 - k ≤ s →
    (∃ w : Int, 0 ≤ w ∧ w ≤ 100 ∧
      (∀ (t f : Nat) (i D : Int) (draft : Nat → Int32), cft ≤ t → s + 1 < f → 0 ≤ i → i < k → 0 ≤ D → D ≤ k → So (fX4_readSum_L10 (frul t) (iI (min l 40)) a (iI d) f (iI 1) (iI i) (iI D) draft (iI k)) (fun o => ∃ (D' : Int) (dr : Nat → Int32), 0 ≤ D' ∧ D' ≤ 1000 ∧ o = Sum.inl (iI 0, iI D', dr, iI w))) ∧
      (∀ (t nb f : Nat) (b : Nat → Int32) (asked many q1 q2 q3 q4 q5 q6 v : Int32) (hold weather : Nat → Int32) (T : Int → Int), mfc + (min l 40 - k) ≤ t → s + 1 < f → min l 40 ≤ nb → nb ≤ 1000 → Arr (min l 40) b (fun i => sb (Tx i)) → LtR asked many q1 q2 q3 q4 q5 q6 hold weather T →
        So (fX12_sum_L6 (fhsp t) nb many (iI l) (iI 40) asked q1 q2 q3 q4 q5 q6 b hold weather (iI d) f v (iI k) (iI (-1))) (fun p => p.2.2 = iI w))) ∨
    (∃ (k' : Int) (c : List Int) (W : (Int → Int) → Int32 → Int32), k ≤ k' ∧ k' ≤ min l 40 ∧ (c.length : Int) ≤ k' - k ∧ (∀ T v r, evs T c (v :: r) = W T v :: r) ∧ (∀ x, x ∈ c → okC x) ∧
      (∀ (t f : Nat) (i D : Int) (draft : Nat → Int32), cft ≤ t → s + 1 < f → 0 ≤ i → i < k → 0 ≤ D → D ≤ k → So (fX4_readSum_L10 (frul t) (iI (min l 40)) a (iI d) f (iI 1) (iI i) (iI D) draft (iI k)) (fun o => ∃ dr : Nat → Int32, o = Sum.inr (iI 1, iI (D + c.length), dr, iI k') ∧ Lay D c draft dr)) ∧
      (∀ (t nb f : Nat) (b : Nat → Int32) (asked many q1 q2 q3 q4 q5 q6 v : Int32) (hold weather : Nat → Int32) (T : Int → Int), mfc + (min l 40 - k) ≤ t → s + 1 < f → min l 40 ≤ nb → nb ≤ 1000 → Arr (min l 40) b (fun i => sb (Tx i)) → LtR asked many q1 q2 q3 q4 q5 q6 hold weather T →
        So (fX12_sum_L6 (fhsp t) nb many (iI l) (iI 40) asked q1 q2 q3 q4 q5 q6 b hold weather (iI d) f v (iI k) (iI (-1))) (fun p => p = (W T v, iI k', iI (-1))))) := by
  intro s
  induction s with
  | zero =>
    intro k k0 km ks
    have x := hk_b hT (min l 40) k
    have p1 := c_peek (m := min l 40) (k := k) ha k0 (by omega) (by omega) (by omega)
    have q : ¬ (hk Tx (min l 40) k = 43 ∨ hk Tx (min l 40) k = 45) := by
      rintro (h | h)
      · have := hk_lt (by omega) h; omega
      · have := hk_lt (by omega) h; omega
    have h1 := fun (nb : Nat) (b : Nat → Int32) (hb : Arr (min l 40) b (fun i => sb (Tx i))) (hn : min l 40 ≤ nb) (n1 : nb ≤ 1000) => m_hereL (l := l) (tp := 40) (k := k) hb k0 l0 l1 (by omega) (by omega) (by omega) hn n1
    right
    obtain ⟨X, hX⟩ : ∃ X, hk Tx (min l 40) k = X := ⟨_, rfl⟩
    rw [hX] at x p1 q h1
    refine ⟨k, [], fun _ v => v, by omega, km, by show (0 : Int) ≤ _; omega, fun T v r => rfl, fun y hy => absurd hy (by simp), fun t f i D draft ht hf i0 i1 D0 Dk => ?_, fun t nb f b asked many q1 q2 q3 q4 q5 q6 v hold weather T ht hf hn n1 hb LT => ?_⟩
    · obtain ⟨f, rfl⟩ : ∃ g, f = g + 1 := ⟨f - 1, by omega⟩
      rw [fX4_readSum_L10]
      simp (disch := omega) only [gd_t, so_some, so_bind, so_gd, so_none, Option.bind_some, iI_add, iI_sub, iI_mul, iI_neg, iI_clamp, iI_nat, vin_i, iI_le, iI_lt, iI_eq, mn_i, mx_i, if_true, if_false, if_pos, if_neg, li_0, li_1, li_2, li_3, li_4, li_5, li_6, li_7, li_8, li_9, li_10, li_11, li_12, li_14, li_15, li_16, li_20, li_21, li_24, li_28, li_30, li_31, li_40, li_41, li_42, li_43, li_44, li_45, li_47, li_48, li_49, li_57, li_59, li_60, li_61, li_62, li_63, li_70, li_71, li_76, li_80, li_96, li_97, li_98, li_99, li_100, li_101, li_102, li_103, li_104, li_105, li_106, li_107, li_108, li_109, li_110, li_111, li_112, li_113, li_114, li_115, li_116, li_117, li_118, li_119, li_120, li_128, li_142, li_255, li_320, li_781, li_852, li_999, li_1000, li_2000, li_3000, li_9999, li_12345, li_65536, li_1000000, li_252645135, li_858993459, li_1103515245, li_1431655765, p1]
      exact ⟨draft, by rw [show D + (([] : List Int).length : Int) = D by show D + 0 = D; omega], Lay.nil D draft⟩
    · obtain ⟨f, rfl⟩ : ∃ g, f = g + 1 := ⟨f - 1, by omega⟩
      have h2 := h1 nb b hb hn n1
      have g1 : ¬ iI (sb X) = iI 43 := fun z => q (Or.inl ((sb_c x.1 x.2 (by omega) (by omega)).1 z))
      have g2 : ¬ iI (sb X) = iI 45 := fun z => q (Or.inr ((sb_c x.1 x.2 (by omega) (by omega)).1 z))
      rw [fX12_sum_L6]
      unfold fX12_fine
      simp (disch := omega) only [gd_t, so_some, so_bind, so_gd, so_none, Option.bind_some, iI_add, iI_sub, iI_mul, iI_neg, iI_clamp, iI_nat, vin_i, iI_le, iI_lt, iI_eq, mn_i, mx_i, if_true, if_false, if_pos, if_neg, li_0, li_1, li_2, li_3, li_4, li_5, li_6, li_7, li_8, li_9, li_10, li_11, li_12, li_14, li_15, li_16, li_20, li_21, li_24, li_28, li_30, li_31, li_40, li_41, li_42, li_43, li_44, li_45, li_47, li_48, li_49, li_57, li_59, li_60, li_61, li_62, li_63, li_70, li_71, li_76, li_80, li_96, li_97, li_98, li_99, li_100, li_101, li_102, li_103, li_104, li_105, li_106, li_107, li_108, li_109, li_110, li_111, li_112, li_113, li_114, li_115, li_116, li_117, li_118, li_119, li_120, li_128, li_142, li_255, li_320, li_781, li_852, li_999, li_1000, li_2000, li_3000, li_9999, li_12345, li_65536, li_1000000, li_252645135, li_858993459, li_1103515245, li_1431655765, h2, g1, g2]
  | succ s ih =>
    intro k k0 km ks
    have x := hk_b hT (min l 40) k
    have p1 := c_peek (m := min l 40) (k := k) ha k0 (by omega) (by omega) (by omega)
    have h1 := fun (nb : Nat) (b : Nat → Int32) (hb : Arr (min l 40) b (fun i => sb (Tx i))) (hn : min l 40 ≤ nb) (n1 : nb ≤ 1000) => m_hereL (l := l) (tp := 40) (k := k) hb k0 l0 l1 (by omega) (by omega) (by omega) hn n1
    by_cases q : hk Tx (min l 40) k = 43 ∨ hk Tx (min l 40) k = 45
    · have kk : k < min l 40 := by
        rcases q with h | h
        · exact hk_lt (by omega) h
        · exact hk_lt (by omega) h
      obtain ⟨X, hX⟩ : ∃ X, hk Tx (min l 40) k = X := ⟨_, rfl⟩
      rw [hX] at x p1 q h1
      have oX : isO X := by unfold isO; omega
      have xb : 42 ≤ X ∧ X ≤ 62 := by omega
      have cs : ∀ (t f : Nat) (i D : Int) (draft : Nat → Int32), 0 ≤ i → i < k → fX4_readSum_L10 (frul t) (iI (min l 40)) a (iI d) (f + 1) (iI 1) (iI i) (iI D) draft (iI k) = Option.bind (frul t 2 (iI D) draft (iI (k + 1)) (iI (min l 40)) a (iI d)) (fun o10 => Option.bind (fX4_put o10.2.1 o10.2.2.1 (iI (2000 + X))) (fun o12 => fX4_readSum_L10 (frul t) (iI (min l 40)) a (iI d) f o10.1 (iI (i + 1)) o12.1 o12.2 o10.2.2.2)) := by
        intro t f i D draft i0 i1
        rw [fX4_readSum_L10]
        rcases q with rfl | rfl
        · unfold fX4_readSum_J43
          simp (disch := omega) only [gd_t, so_some, so_bind, so_gd, so_none, Option.bind_some, iI_add, iI_sub, iI_mul, iI_neg, iI_clamp, iI_nat, vin_i, iI_le, iI_lt, iI_eq, mn_i, mx_i, if_true, if_false, if_pos, if_neg, li_0, li_1, li_2, li_3, li_4, li_5, li_6, li_7, li_8, li_9, li_10, li_11, li_12, li_14, li_15, li_16, li_20, li_21, li_24, li_28, li_30, li_31, li_40, li_41, li_42, li_43, li_44, li_45, li_47, li_48, li_49, li_57, li_59, li_60, li_61, li_62, li_63, li_70, li_71, li_76, li_80, li_96, li_97, li_98, li_99, li_100, li_101, li_102, li_103, li_104, li_105, li_106, li_107, li_108, li_109, li_110, li_111, li_112, li_113, li_114, li_115, li_116, li_117, li_118, li_119, li_120, li_128, li_142, li_255, li_320, li_781, li_852, li_999, li_1000, li_2000, li_3000, li_9999, li_12345, li_65536, li_1000000, li_252645135, li_858993459, li_1103515245, li_1431655765, p1, c_skip]
        · unfold fX4_readSum_J43
          simp (disch := omega) only [gd_t, so_some, so_bind, so_gd, so_none, Option.bind_some, iI_add, iI_sub, iI_mul, iI_neg, iI_clamp, iI_nat, vin_i, iI_le, iI_lt, iI_eq, mn_i, mx_i, if_true, if_false, if_pos, if_neg, li_0, li_1, li_2, li_3, li_4, li_5, li_6, li_7, li_8, li_9, li_10, li_11, li_12, li_14, li_15, li_16, li_20, li_21, li_24, li_28, li_30, li_31, li_40, li_41, li_42, li_43, li_44, li_45, li_47, li_48, li_49, li_57, li_59, li_60, li_61, li_62, li_63, li_70, li_71, li_76, li_80, li_96, li_97, li_98, li_99, li_100, li_101, li_102, li_103, li_104, li_105, li_106, li_107, li_108, li_109, li_110, li_111, li_112, li_113, li_114, li_115, li_116, li_117, li_118, li_119, li_120, li_128, li_142, li_255, li_320, li_781, li_852, li_999, li_1000, li_2000, li_3000, li_9999, li_12345, li_65536, li_1000000, li_252645135, li_858993459, li_1103515245, li_1431655765, p1, c_skip]
      have ms : ∀ (t nb f : Nat) (b : Nat → Int32) (asked many q1 q2 q3 q4 q5 q6 v : Int32) (hold weather : Nat → Int32), min l 40 ≤ nb → nb ≤ 1000 → Arr (min l 40) b (fun i => sb (Tx i)) → fX12_sum_L6 (fhsp t) nb many (iI l) (iI 40) asked q1 q2 q3 q4 q5 q6 b hold weather (iI d) (f + 1) v (iI k) (iI (-1)) = Option.bind (fhsp t 2 nb many (iI l) (iI 40) (iI (k + 1)) (iI (-1)) asked q1 q2 q3 q4 q5 q6 b hold weather (iI d)) (fun o12 => fX12_sum_L6 (fhsp t) nb many (iI l) (iI 40) asked q1 q2 q3 q4 q5 q6 b hold weather (iI d) f (jn X v o12.1) o12.2.1 o12.2.2) := by
        intro t nb f b asked many q1 q2 q3 q4 q5 q6 v hold weather hn n1 hb
        have h2 := h1 nb b hb hn n1
        rw [fX12_sum_L6]
        unfold fX12_fine
        rcases q with rfl | rfl
        · rw [show sb 43 = 43 from rfl] at h2
          unfold fX12_sum_J31 fX12_sum_J45
          simp (disch := omega) only [gd_t, so_some, so_bind, so_gd, so_none, Option.bind_some, iI_add, iI_sub, iI_mul, iI_neg, iI_clamp, iI_nat, vin_i, iI_le, iI_lt, iI_eq, mn_i, mx_i, if_true, if_false, if_pos, if_neg, li_0, li_1, li_2, li_3, li_4, li_5, li_6, li_7, li_8, li_9, li_10, li_11, li_12, li_14, li_15, li_16, li_20, li_21, li_24, li_28, li_30, li_31, li_40, li_41, li_42, li_43, li_44, li_45, li_47, li_48, li_49, li_57, li_59, li_60, li_61, li_62, li_63, li_70, li_71, li_76, li_80, li_96, li_97, li_98, li_99, li_100, li_101, li_102, li_103, li_104, li_105, li_106, li_107, li_108, li_109, li_110, li_111, li_112, li_113, li_114, li_115, li_116, li_117, li_118, li_119, li_120, li_128, li_142, li_255, li_320, li_781, li_852, li_999, li_1000, li_2000, li_3000, li_9999, li_12345, li_65536, li_1000000, li_252645135, li_858993459, li_1103515245, li_1431655765, h2]
          rfl
        · rw [show sb 45 = 45 from rfl] at h2
          unfold fX12_sum_J31 fX12_sum_J45
          simp (disch := omega) only [gd_t, so_some, so_bind, so_gd, so_none, Option.bind_some, iI_add, iI_sub, iI_mul, iI_neg, iI_clamp, iI_nat, vin_i, iI_le, iI_lt, iI_eq, mn_i, mx_i, if_true, if_false, if_pos, if_neg, li_0, li_1, li_2, li_3, li_4, li_5, li_6, li_7, li_8, li_9, li_10, li_11, li_12, li_14, li_15, li_16, li_20, li_21, li_24, li_28, li_30, li_31, li_40, li_41, li_42, li_43, li_44, li_45, li_47, li_48, li_49, li_57, li_59, li_60, li_61, li_62, li_63, li_70, li_71, li_76, li_80, li_96, li_97, li_98, li_99, li_100, li_101, li_102, li_103, li_104, li_105, li_106, li_107, li_108, li_109, li_110, li_111, li_112, li_113, li_114, li_115, li_116, li_117, li_118, li_119, li_120, li_128, li_142, li_255, li_320, li_781, li_852, li_999, li_1000, li_2000, li_3000, li_9999, li_12345, li_65536, li_1000000, li_252645135, li_858993459, li_1103515245, li_1431655765, h2]
          rfl
      have hP := PT (k + 1) (by omega) (by omega)
      rcases hP with ⟨w, w0, w1, C, M⟩ | ⟨k2, c1, V1, e1, e2, e3, e4, C, M⟩
      · left
        refine ⟨w, w0, w1, fun t f i D draft ht hf i0 i1 D0 Dk => ?_, fun t nb f b asked many q1 q2 q3 q4 q5 q6 v hold weather T ht hf hn n1 hb LT => ?_⟩
        · obtain ⟨f, rfl⟩ : ∃ g, f = g + 1 + 1 := ⟨f - 2, by omega⟩
          rw [cs t (f + 1) i D draft i0 i1, so_bind]
          refine so_mono (C t D draft ht D0 (by omega)) ?_
          rintro o ⟨o1, o2, D', o3, o4, o5⟩
          obtain ⟨D2, dr, g1, g2, g3⟩ := c_put_b o3 o4 o.2.2.1 (iI (2000 + X))
          rw [o1, o2, o5, g3, Option.bind_some, c_sum_0, so_some]
          exact ⟨D2, dr, g1, g2, rfl⟩
        · obtain ⟨f, rfl⟩ : ∃ g, f = g + 1 + 1 := ⟨f - 2, by omega⟩
          rw [ms t nb (f + 1) b asked many q1 q2 q3 q4 q5 q6 v hold weather hn n1 hb, so_bind]
          refine so_mono (M t nb b asked many q1 q2 q3 q4 q5 q6 hold weather T (by omega) hn n1 hb LT) ?_
          intro p hp
          rw [hp, m_sum_0 _ _ _ _ _ _ _ _ _ _ _ _ _ _ _ _ _ _ _ w0 (by omega), so_some]
      · rcases ih k2 (by omega) (by omega) (by omega) with ⟨w, w0, w1, C2, M2⟩ | ⟨k3, c2, W, f1, f2, f3, f4, f5, C2, M2⟩
        · left
          refine ⟨w, w0, w1, fun t f i D draft ht hf i0 i1 D0 Dk => ?_, fun t nb f b asked many q1 q2 q3 q4 q5 q6 v hold weather T ht hf hn n1 hb LT => ?_⟩
          · obtain ⟨f, rfl⟩ : ∃ g, f = g + 1 := ⟨f - 1, by omega⟩
            rw [cs t f i D draft i0 i1, so_bind]
            refine so_mono (C t D draft ht D0 (by omega)) ?_
            rintro o ⟨o1, o2, o3, o4⟩
            have pt := c_put (D := D + c1.length) (by omega) (by omega) o.2.2.1 (2000 + X)
            rw [o1, o2, o3, pt, Option.bind_some]
            exact C2 t f (i + 1) (D + c1.length + 1) _ ht (by omega) (by omega) (by omega) (by omega) (by omega)
          · obtain ⟨f, rfl⟩ : ∃ g, f = g + 1 := ⟨f - 1, by omega⟩
            rw [ms t nb f b asked many q1 q2 q3 q4 q5 q6 v hold weather hn n1 hb, so_bind]
            refine so_mono (M t nb b asked many q1 q2 q3 q4 q5 q6 hold weather T (by omega) hn n1 hb LT) ?_
            intro p hp
            rw [hp]
            exact M2 t nb f b asked many q1 q2 q3 q4 q5 q6 _ hold weather T (by omega) (by omega) hn n1 hb LT
        · right
          have ln : ((c1 ++ [2000 + X]).length : Int) = c1.length + 1 := by rw [List.length_append]; show ((c1.length + 1 : Nat) : Int) = _; omega
          refine ⟨k3, (c1 ++ [2000 + X]) ++ c2, fun T v => W T (jn X v (V1 T)), by omega, f2, by rw [List.length_append]; omega, fun T v r => ?_, fun y hy => ?_, fun t f i D draft ht hf i0 i1 D0 Dk => ?_, fun t nb f b asked many q1 q2 q3 q4 q5 q6 v hold weather T ht hf hn n1 hb LT => ?_⟩
          · rw [evs_app, evs_app, e4.1]
            show evs T c2 (stp T (2000 + X) (V1 T :: v :: r)) = _
            unfold stp
            rw [if_neg (by omega), if_pos (by omega), show 2000 + X - 2000 = X by omega]
            exact f4 T _ r
          · rcases List.mem_append.1 hy with h | h
            · rcases List.mem_append.1 h with h | h
              · exact e4.2 y h
              · rw [List.mem_singleton] at h
                exact Or.inr (Or.inr (Or.inl ⟨X, oX, h⟩))
            · exact f5 y h
          · obtain ⟨f, rfl⟩ : ∃ g, f = g + 1 := ⟨f - 1, by omega⟩
            rw [cs t f i D draft i0 i1, so_bind]
            refine so_mono (C t D draft ht D0 (by omega)) ?_
            rintro o ⟨o1, o2, o3, o4⟩
            have pt := c_put (D := D + c1.length) (by omega) (by omega) o.2.2.1 (2000 + X)
            rw [o1, o2, o3, pt, Option.bind_some]
            refine so_mono (C2 t f (i + 1) (D + c1.length + 1) _ ht (by omega) (by omega) (by omega) (by omega) (by omega)) ?_
            rintro u ⟨dr, u1, u2⟩
            have L1 : Lay D (c1 ++ [2000 + X]) draft _ := Lay.app D0 o4 (Lay.one (D + c1.length) (by omega) (2000 + X) _)
            refine ⟨dr, ?_, Lay.app D0 L1 ?_⟩
            · rw [u1, show (((c1 ++ [2000 + X]) ++ c2).length : Int) = c1.length + 1 + c2.length by rw [List.length_append]; omega, show D + (c1.length + 1 + c2.length : Int) = D + c1.length + 1 + c2.length by omega]
            · rw [ln, show D + (c1.length + 1 : Int) = D + c1.length + 1 by omega]
              exact u2
          · obtain ⟨f, rfl⟩ : ∃ g, f = g + 1 := ⟨f - 1, by omega⟩
            rw [ms t nb f b asked many q1 q2 q3 q4 q5 q6 v hold weather hn n1 hb, so_bind]
            refine so_mono (M t nb b asked many q1 q2 q3 q4 q5 q6 hold weather T (by omega) hn n1 hb LT) ?_
            intro p hp
            rw [hp]
            exact M2 t nb f b asked many q1 q2 q3 q4 q5 q6 _ hold weather T (by omega) (by omega) hn n1 hb LT
    · right
      obtain ⟨X, hX⟩ : ∃ X, hk Tx (min l 40) k = X := ⟨_, rfl⟩
      rw [hX] at x p1 q h1
      refine ⟨k, [], fun _ v => v, by omega, km, by show (0 : Int) ≤ _; omega, fun T v r => rfl, fun y hy => absurd hy (by simp), fun t f i D draft ht hf i0 i1 D0 Dk => ?_, fun t nb f b asked many q1 q2 q3 q4 q5 q6 v hold weather T ht hf hn n1 hb LT => ?_⟩
      · obtain ⟨f, rfl⟩ : ∃ g, f = g + 1 := ⟨f - 1, by omega⟩
        rw [fX4_readSum_L10]
        simp (disch := omega) only [gd_t, so_some, so_bind, so_gd, so_none, Option.bind_some, iI_add, iI_sub, iI_mul, iI_neg, iI_clamp, iI_nat, vin_i, iI_le, iI_lt, iI_eq, mn_i, mx_i, if_true, if_false, if_pos, if_neg, li_0, li_1, li_2, li_3, li_4, li_5, li_6, li_7, li_8, li_9, li_10, li_11, li_12, li_14, li_15, li_16, li_20, li_21, li_24, li_28, li_30, li_31, li_40, li_41, li_42, li_43, li_44, li_45, li_47, li_48, li_49, li_57, li_59, li_60, li_61, li_62, li_63, li_70, li_71, li_76, li_80, li_96, li_97, li_98, li_99, li_100, li_101, li_102, li_103, li_104, li_105, li_106, li_107, li_108, li_109, li_110, li_111, li_112, li_113, li_114, li_115, li_116, li_117, li_118, li_119, li_120, li_128, li_142, li_255, li_320, li_781, li_852, li_999, li_1000, li_2000, li_3000, li_9999, li_12345, li_65536, li_1000000, li_252645135, li_858993459, li_1103515245, li_1431655765, p1]
        exact ⟨draft, by rw [show D + (([] : List Int).length : Int) = D by show D + 0 = D; omega], Lay.nil D draft⟩
      · obtain ⟨f, rfl⟩ : ∃ g, f = g + 1 := ⟨f - 1, by omega⟩
        have h2 := h1 nb b hb hn n1
        have g1 : ¬ iI (sb X) = iI 43 := fun z => q (Or.inl ((sb_c x.1 x.2 (by omega) (by omega)).1 z))
        have g2 : ¬ iI (sb X) = iI 45 := fun z => q (Or.inr ((sb_c x.1 x.2 (by omega) (by omega)).1 z))
        rw [fX12_sum_L6]
        unfold fX12_fine
        simp (disch := omega) only [gd_t, so_some, so_bind, so_gd, so_none, Option.bind_some, iI_add, iI_sub, iI_mul, iI_neg, iI_clamp, iI_nat, vin_i, iI_le, iI_lt, iI_eq, mn_i, mx_i, if_true, if_false, if_pos, if_neg, li_0, li_1, li_2, li_3, li_4, li_5, li_6, li_7, li_8, li_9, li_10, li_11, li_12, li_14, li_15, li_16, li_20, li_21, li_24, li_28, li_30, li_31, li_40, li_41, li_42, li_43, li_44, li_45, li_47, li_48, li_49, li_57, li_59, li_60, li_61, li_62, li_63, li_70, li_71, li_76, li_80, li_96, li_97, li_98, li_99, li_100, li_101, li_102, li_103, li_104, li_105, li_106, li_107, li_108, li_109, li_110, li_111, li_112, li_113, li_114, li_115, li_116, li_117, li_118, li_119, li_120, li_128, li_142, li_255, li_320, li_781, li_852, li_999, li_1000, li_2000, li_3000, li_9999, li_12345, li_65536, li_1000000, li_252645135, li_858993459, li_1103515245, li_1431655765, h2, g1, g2]
theorem pr_sum {Tx : Int → Int} (hT : ∀ i, 0 ≤ Tx i ∧ Tx i ≤ 255) {l d mfc cft : Int} {a : Nat → Int32} (ha : Arr 80 a Tx) (l0 : 0 ≤ l) (l1 : l ≤ 1000) (m0 : 0 ≤ mfc) (c0 : 0 ≤ cft)
    (PT : ∀ k, 0 ≤ k → k ≤ min l 40 → PR Tx a l 2 2 cft (mfc + (min l 40 - k)) d k) (k : Int) (k0 : 0 ≤ k) (km : k ≤ min l 40) : PR Tx a l 1 1 (cft + 1) (mfc + 1 + (min l 40 - k)) d k := by
  have cb : ∀ (t : Nat) (D : Int) (draft : Nat → Int32), frul (t + 1) 1 (iI D) draft (iI k) (iI (min l 40)) a (iI d) = Option.bind (frul t 2 (iI D) draft (iI k) (iI (min l 40)) a (iI d)) (fun o1 => Option.bind (fX4_readSum_L10 (frul t) (iI (min l 40)) a (iI d) FU o1.1 (iI 0) o1.2.1 o1.2.2.1 o1.2.2.2) (fun o15 => Sum.elim (fun x17 => (gd (isb x17.1) (some (x17.1, x17.2.1, x17.2.2.1, x17.2.2.2)))) (fun r => some r) o15)) := by
    intro t D draft
    rfl
  have mb : ∀ (t nb : Nat) (b : Nat → Int32) (asked many q1 q2 q3 q4 q5 q6 : Int32) (hold weather : Nat → Int32), fhsp (t + 1) 1 nb many (iI l) (iI 40) (iI k) (iI (-1)) asked q1 q2 q3 q4 q5 q6 b hold weather (iI d) = Option.bind (fhsp t 2 nb many (iI l) (iI 40) (iI k) (iI (-1)) asked q1 q2 q3 q4 q5 q6 b hold weather (iI d)) (fun o1 => Option.bind (fX12_sum_L6 (fhsp t) nb many (iI l) (iI 40) asked q1 q2 q3 q4 q5 q6 b hold weather (iI d) FU o1.1 o1.2.1 o1.2.2) (fun o18 => some (o18.1, o18.2.1, o18.2.2))) := by
    intro t nb b asked many q1 q2 q3 q4 q5 q6 hold weather
    rfl
  have fu : 40 + 1 < FU := by show 41 < 4000; omega
  have fu' : FU = 3999 + 1 := rfl
  rcases PT k k0 km with ⟨w, w0, w1, C, M⟩ | ⟨k1, c, V, e1, e2, e3, e4, C, M⟩
  · left
    refine ⟨w, w0, w1, fun t D draft ht D0 Dk => ?_, fun t nb b asked many q1 q2 q3 q4 q5 q6 hold weather T ht hn n1 hb LT => ?_⟩
    · obtain ⟨t, rfl⟩ : ∃ u, t = u + 1 := ⟨t - 1, by omega⟩
      rw [cb, so_bind]
      refine so_mono (C t D draft (by omega) D0 Dk) ?_
      rintro o ⟨o1, o2, D', o3, o4, o5⟩
      rw [o1, fu', c_sum_0, Option.bind_some]
      dsimp only [Sum.elim_inl]
      rw [isb_0, gd_t, so_some]
      exact ⟨rfl, o2, D', o3, o4, o5⟩
    · obtain ⟨t, rfl⟩ : ∃ u, t = u + 1 := ⟨t - 1, by omega⟩
      rw [mb, so_bind]
      refine so_mono (M t nb b asked many q1 q2 q3 q4 q5 q6 hold weather T (by omega) hn n1 hb LT) ?_
      intro p hp
      rw [hp, fu', m_sum_0 _ _ _ _ _ _ _ _ _ _ _ _ _ _ _ _ _ _ _ w0 (by omega), Option.bind_some, so_some]
  · rcases pr_sum_L hT ha l0 l1 PT 40 k1 (by omega) (by omega) (by omega) with ⟨w, w0, w1, C2, M2⟩ | ⟨k3, c2, W, f1, f2, f3, f4, f5, C2, M2⟩
    · left
      refine ⟨w, w0, w1, fun t D draft ht D0 Dk => ?_, fun t nb b asked many q1 q2 q3 q4 q5 q6 hold weather T ht hn n1 hb LT => ?_⟩
      · obtain ⟨t, rfl⟩ : ∃ u, t = u + 1 := ⟨t - 1, by omega⟩
        rw [cb, so_bind]
        refine so_mono (C t D draft (by omega) D0 Dk) ?_
        rintro o ⟨o1, o2, o3, o4⟩
        rw [o1, o2, o3, so_bind]
        refine so_mono (C2 t FU 0 (D + c.length) _ (by omega) fu (by omega) (by omega) (by omega) (by omega)) ?_
        rintro u ⟨D', dr, u1, u2, rfl⟩
        dsimp only [Sum.elim_inl]
        rw [isb_0, gd_t, so_some]
        exact ⟨rfl, rfl, D', u1, u2, rfl⟩
      · obtain ⟨t, rfl⟩ : ∃ u, t = u + 1 := ⟨t - 1, by omega⟩
        rw [mb, so_bind]
        refine so_mono (M t nb b asked many q1 q2 q3 q4 q5 q6 hold weather T (by omega) hn n1 hb LT) ?_
        intro p hp
        rw [hp, so_bind]
        refine so_mono (M2 t nb FU b asked many q1 q2 q3 q4 q5 q6 _ hold weather T (by omega) fu hn n1 hb LT) ?_
        intro p hp
        rw [so_some]
        exact hp
    · right
      refine ⟨k3, c ++ c2, fun T => W T (V T), by omega, f2, by rw [List.length_append]; omega, ⟨fun T r => ?_, fun y hy => ?_⟩, fun t D draft ht D0 Dk => ?_, fun t nb b asked many q1 q2 q3 q4 q5 q6 hold weather T ht hn n1 hb LT => ?_⟩
      · rw [evs_app, e4.1, f4]
      · rcases List.mem_append.1 hy with h | h
        · exact e4.2 y h
        · exact f5 y h
      · obtain ⟨t, rfl⟩ : ∃ u, t = u + 1 := ⟨t - 1, by omega⟩
        rw [cb, so_bind]
        refine so_mono (C t D draft (by omega) D0 Dk) ?_
        rintro o ⟨o1, o2, o3, o4⟩
        rw [o1, o2, o3, so_bind]
        refine so_mono (C2 t FU 0 (D + c.length) _ (by omega) fu (by omega) (by omega) (by omega) (by omega)) ?_
        rintro u ⟨dr, rfl, u2⟩
        dsimp only [Sum.elim_inr]
        rw [so_some]
        refine ⟨rfl, ?_, rfl, Lay.app D0 o4 u2⟩
        show iI (D + c.length + c2.length) = _
        rw [show ((c ++ c2).length : Int) = c.length + c2.length by rw [List.length_append]; omega, show D + (c.length + c2.length : Int) = D + c.length + c2.length by omega]
      · obtain ⟨t, rfl⟩ : ∃ u, t = u + 1 := ⟨t - 1, by omega⟩
        rw [mb, so_bind]
        refine so_mono (M t nb b asked many q1 q2 q3 q4 q5 q6 hold weather T (by omega) hn n1 hb LT) ?_
        intro p hp
        rw [hp, so_bind]
        refine so_mono (M2 t nb FU b asked many q1 q2 q3 q4 q5 q6 _ hold weather T (by omega) fu hn n1 hb LT) ?_
        intro p hp
        rw [so_some, hp]
