/-! comparisons -/
theorem jn_60 (x y : Int32) : jn 60 x y = if y ≤ x then 0 else 1 := by
  unfold jn
  rw [if_neg (by decide), if_neg (by decide), if_neg (by decide), if_neg (by decide), if_pos (by decide)]
theorem jn_61 (x y : Int32) : jn 61 x y = if x = y then 1 else 0 := by
  unfold jn
  rw [if_neg (by decide), if_neg (by decide), if_neg (by decide), if_neg (by decide), if_neg (by decide), if_neg (by decide)]
theorem jn_62 (x y : Int32) : jn 62 x y = if x ≤ y then 0 else 1 := by
  unfold jn
  rw [if_neg (by decide), if_neg (by decide), if_neg (by decide), if_neg (by decide), if_neg (by decide), if_pos (by decide)]
theorem pr_cmp1 {Tx : Int → Int} (hT : ∀ i, 0 ≤ Tx i ∧ Tx i ≤ 255) {l d mfc cft : Int} {a : Nat → Int32} (ha : Arr 80 a Tx) (l0 : 0 ≤ l) (l1 : l ≤ 1000) (m0 : 0 ≤ mfc) (c0 : 0 ≤ cft)
    (PT : ∀ k, 0 ≤ k → k ≤ min l 40 → PR Tx a l 1 1 cft (mfc + (min l 40 - k)) d k) (k : Int) (k0 : 0 ≤ k) (km : k ≤ min l 40) : PR Tx a l 0 0 (cft + 1) (mfc + 1 + (min l 40 - k)) d k := by
  have cb : ∀ (t : Nat) (D : Int) (draft : Nat → Int32), frul (t + 1) 0 (iI D) draft (iI k) (iI (min l 40)) a (iI d) = fX4_readComparison_B (frul t) (iI D) draft (iI k) (iI (min l 40)) a (iI d) := by
    intro t D draft
    exact frul_0 _ _ _ _ _ _ _
  have mb : ∀ (t nb : Nat) (b : Nat → Int32) (asked many q1 q2 q3 q4 q5 q6 : Int32) (hold weather : Nat → Int32), fhsp (t + 1) 0 nb many (iI l) (iI 40) (iI k) (iI (-1)) asked q1 q2 q3 q4 q5 q6 b hold weather (iI d) = fX12_held_B (fhsp t) nb many (iI l) (iI 40) (iI k) (iI (-1)) asked q1 q2 q3 q4 q5 q6 b hold weather (iI d) := by
    intro t nb b asked many q1 q2 q3 q4 q5 q6 hold weather
    exact fhsp_0 _ _ _ _ _ _ _ _ _ _ _ _ _ _ _ _ _ _
  rcases PT k k0 km with ⟨w, w0, w1, C, M⟩ | ⟨k1, c, V, e1, e2, e3, e4, C, M⟩
  · left
    refine ⟨w, w0, w1, fun t D draft ht D0 Dk => ?_, fun t nb b asked many q1 q2 q3 q4 q5 q6 hold weather T ht hn n1 hb LT => ?_⟩
    · obtain ⟨t, rfl⟩ : ∃ u, t = u + 1 := ⟨t - 1, by omega⟩
      rw [cb]
      unfold fX4_readComparison_B
      rw [so_bind]
      refine so_mono (C t D draft (by omega) D0 Dk) ?_
      rintro o ⟨o1, o2, D', o3, o4, o5⟩
      rw [o1, if_pos (by rfl), so_some]
      exact ⟨rfl, o2, D', o3, o4, o5⟩
    · obtain ⟨t, rfl⟩ : ∃ u, t = u + 1 := ⟨t - 1, by omega⟩
      rw [mb]
      unfold fX12_held_B
      rw [so_bind]
      refine so_mono (M t nb b asked many q1 q2 q3 q4 q5 q6 hold weather T (by omega) hn n1 hb LT) ?_
      intro p hp
      simp (disch := omega) only [gd_t, so_some, so_bind, so_gd, so_none, Option.bind_some, iI_add, iI_sub, iI_mul, iI_neg, iI_clamp, iI_nat, vin_i, iI_le, iI_lt, iI_eq, mn_i, mx_i, if_true, if_false, if_pos, if_neg, li_0, li_1, li_2, li_3, li_4, li_5, li_6, li_7, li_8, li_9, li_10, li_11, li_12, li_14, li_15, li_16, li_20, li_21, li_24, li_28, li_30, li_31, li_40, li_41, li_42, li_43, li_44, li_45, li_47, li_48, li_49, li_57, li_59, li_60, li_61, li_62, li_63, li_70, li_71, li_76, li_80, li_96, li_97, li_98, li_99, li_100, li_101, li_102, li_103, li_104, li_105, li_106, li_107, li_108, li_109, li_110, li_111, li_112, li_113, li_114, li_115, li_116, li_117, li_118, li_119, li_120, li_128, li_142, li_255, li_320, li_781, li_852, li_999, li_1000, li_2000, li_3000, li_9999, li_12345, li_65536, li_1000000, li_252645135, li_858993459, li_1103515245, li_1431655765, hp, m_passes_f w0 (show w < 1000 by omega)]
  · have x := hk_b hT (min l 40) k1
    have p1 := c_peek (m := min l 40) (k := k1) ha (by omega) (by omega) (by omega) (by omega)
    have ps := fun (nb : Nat) (b : Nat → Int32) (hb : Arr (min l 40) b (fun i => sb (Tx i))) (hn : min l 40 ≤ nb) (n1 : nb ≤ 1000) (ch : Int) (ch0 : 0 ≤ ch) (ch1 : ch < 128) => m_passesL hT (l := l) (tp := 40) (k := k1) (c := ch) hb (by omega) l0 l1 (by omega) (by omega) (by omega) hn n1 ch0 ch1
    have kl : ∀ ch, 0 ≤ ch → hk Tx (min l 40) k1 = ch → k1 < min l 40 := fun ch h0 h => hk_lt h0 h
    obtain ⟨X, hX⟩ : ∃ X, hk Tx (min l 40) k1 = X := ⟨_, rfl⟩
    rw [hX] at x p1 ps kl
    by_cases q : X = 60 ∨ X = 61 ∨ X = 62
    · have oX : isO X := by unfold isO; omega
      have kk : k1 < min l 40 := kl X (by omega) rfl
      have cs : ∀ (t : Nat) (D : Int) (draft : Nat → Int32), cft ≤ t → 0 ≤ D → D ≤ k → ∀ Q, (∀ (dr : Nat → Int32), Lay D c draft dr → So (Option.bind (frul t 1 (iI (D + c.length)) dr (iI (k1 + 1)) (iI (min l 40)) a (iI d)) (fun o9 => (if (o9.1 : Int32) = 0 then (some (0, o9.2.1, o9.2.2.1, o9.2.2.2)) else (Option.bind (fX4_put o9.2.1 o9.2.2.1 (iI (2000 + X))) (fun o12 => (some (1, o12.1, o12.2, o9.2.2.2))))))) Q) → So (frul (t + 1) 0 (iI D) draft (iI k) (iI (min l 40)) a (iI d)) Q := by
        intro t D draft ht D0 Dk Q hQ
        rw [cb]
        unfold fX4_readComparison_B
        rw [so_bind]
        refine so_mono (C t D draft ht D0 Dk) ?_
        rintro o ⟨o1, o2, o3, o4⟩
        have := hQ o.2.2.1 o4
        rw [o1, if_neg (by decide), o3, p1, Option.bind_some, o2]
        unfold fX4_readComparison_J36
        rw [c_skip, Option.bind_some, li_2000, iI_add]
        rcases q with rfl | rfl | rfl
        · rw [if_pos li_60.symm]
          exact this
        · rw [if_neg (by decide), if_neg (by decide), if_pos li_61.symm]
          exact this
        · rw [if_neg (by decide), if_pos li_62.symm]
          exact this
      have ms : ∀ (t nb : Nat) (b : Nat → Int32) (asked many q1 q2 q3 q4 q5 q6 : Int32) (hold weather : Nat → Int32) (T : Int → Int), mfc + (min l 40 - k) ≤ t → min l 40 ≤ nb → nb ≤ 1000 → Arr (min l 40) b (fun i => sb (Tx i)) → LtR asked many q1 q2 q3 q4 q5 q6 hold weather T → ∀ Q,
          So (Option.bind (fhsp t 1 nb many (iI l) (iI 40) (iI (k1 + 1)) (iI (-1)) asked q1 q2 q3 q4 q5 q6 b hold weather (iI d)) (fun o => some (jn X (V T) o.1, o.2.1, o.2.2))) Q → So (fhsp (t + 1) 0 nb many (iI l) (iI 40) (iI k) (iI (-1)) asked q1 q2 q3 q4 q5 q6 b hold weather (iI d)) Q := by
        intro t nb b asked many q1 q2 q3 q4 q5 q6 hold weather T ht hn n1 hb LT Q hQ
        have s1 := ps nb b hb hn n1 60 (by omega) (by omega)
        have s2 := ps nb b hb hn n1 62 (by omega) (by omega)
        have s3 := ps nb b hb hn n1 61 (by omega) (by omega)
        rw [mb]
        unfold fX12_held_B
        rw [so_bind]
        refine so_mono (M t nb b asked many q1 q2 q3 q4 q5 q6 hold weather T (by omega) hn n1 hb LT) ?_
        intro p hp
        rw [hp]
        rw [so_bind] at hQ
        rcases q with rfl | rfl | rfl
        · rw [if_pos (by rfl)] at s1
          dsimp only
          rw [li_60, s1, Option.bind_some]
          dsimp only
          rw [if_neg (by decide), so_bind]
          refine so_mono hQ ?_
          intro o ho
          rw [so_some] at ho
          have := jn_60 (V T) o.1
          rw [this] at ho
          by_cases z : o.1 ≤ V T
          · rw [if_pos z] at ho ⊢
            rw [so_some]
            exact ho
          · rw [if_neg z] at ho ⊢
            rw [so_some]
            exact ho
        · rw [if_neg (by omega)] at s1 s2
          rw [if_pos (by rfl)] at s3
          dsimp only
          rw [li_60, s1, Option.bind_some]
          dsimp only
          rw [if_pos li_0.symm, li_62, s2, Option.bind_some]
          dsimp only
          rw [if_pos li_0.symm, li_61, s3, Option.bind_some]
          dsimp only
          rw [if_neg (by decide), so_bind]
          refine so_mono hQ ?_
          intro o ho
          rw [so_some] at ho
          have := jn_61 (V T) o.1
          rw [this] at ho
          by_cases z : V T = o.1
          · rw [if_pos z] at ho ⊢
            rw [so_some]
            exact ho
          · rw [if_neg z] at ho ⊢
            rw [so_some]
            exact ho
        · rw [if_neg (by omega)] at s1
          rw [if_pos (by rfl)] at s2
          dsimp only
          rw [li_60, s1, Option.bind_some]
          dsimp only
          rw [if_pos li_0.symm, li_62, s2, Option.bind_some]
          dsimp only
          rw [if_neg (by decide), so_bind]
          refine so_mono hQ ?_
          intro o ho
          rw [so_some] at ho
          have := jn_62 (V T) o.1
          rw [this] at ho
          by_cases z : V T ≤ o.1
          · rw [if_pos z] at ho ⊢
            rw [so_some]
            exact ho
          · rw [if_neg z] at ho ⊢
            rw [so_some]
            exact ho
      rcases PT (k1 + 1) (by omega) (by omega) with ⟨w, w0, w1, C2, M2⟩ | ⟨k2, c2, V2, f1, f2, f3, f4, C2, M2⟩
      · left
        refine ⟨w, w0, w1, fun t D draft ht D0 Dk => ?_, fun t nb b asked many q1 q2 q3 q4 q5 q6 hold weather T ht hn n1 hb LT => ?_⟩
        · obtain ⟨t, rfl⟩ : ∃ u, t = u + 1 := ⟨t - 1, by omega⟩
          refine cs t D draft (by omega) D0 Dk _ (fun dr hdr => ?_)
          rw [so_bind]
          refine so_mono (C2 t (D + c.length) dr (by omega) (by omega) (by omega)) ?_
          rintro o ⟨o1, o2, D', o3, o4, o5⟩
          rw [o1, if_pos (by rfl), so_some]
          exact ⟨rfl, o2, D', o3, o4, o5⟩
        · obtain ⟨t, rfl⟩ : ∃ u, t = u + 1 := ⟨t - 1, by omega⟩
          refine ms t nb b asked many q1 q2 q3 q4 q5 q6 hold weather T (by omega) hn n1 hb LT _ ?_
          rw [so_bind]
          refine so_mono (M2 t nb b asked many q1 q2 q3 q4 q5 q6 hold weather T (by omega) hn n1 hb LT) ?_
          intro p hp
          rw [so_some]
          exact hp
      · right
        have ln : ((c ++ c2 ++ [2000 + X]).length : Int) = c.length + c2.length + 1 := by rw [List.length_append, List.length_append]; show ((c.length + c2.length + 1 : Nat) : Int) = _; omega
        refine ⟨k2, c ++ c2 ++ [2000 + X], fun T => jn X (V T) (V2 T), by omega, f2, by omega, Cd.join oX e4 f4, fun t D draft ht D0 Dk => ?_, fun t nb b asked many q1 q2 q3 q4 q5 q6 hold weather T ht hn n1 hb LT => ?_⟩
        · obtain ⟨t, rfl⟩ : ∃ u, t = u + 1 := ⟨t - 1, by omega⟩
          refine cs t D draft (by omega) D0 Dk _ (fun dr hdr => ?_)
          rw [so_bind]
          refine so_mono (C2 t (D + c.length) dr (by omega) (by omega) (by omega)) ?_
          rintro o ⟨o1, o2, o3, o4⟩
          have pt := c_put (D := D + c.length + c2.length) (by omega) (by omega) o.2.2.1 (2000 + X)
          rw [o1, if_neg (by decide), o2, pt, Option.bind_some, so_some]
          have L1 : Lay D (c ++ c2) draft o.2.2.1 := Lay.app D0 hdr o4
          have l2 : ((c ++ c2).length : Int) = c.length + c2.length := by rw [List.length_append]; omega
          refine ⟨rfl, ?_, o3, Lay.app D0 L1 ?_⟩
          · rw [ln, show D + (c.length + c2.length + 1 : Int) = D + c.length + c2.length + 1 by omega]
          · rw [l2, show D + (c.length + c2.length : Int) = D + c.length + c2.length by omega]
            exact Lay.one _ (by omega) _ _
        · obtain ⟨t, rfl⟩ : ∃ u, t = u + 1 := ⟨t - 1, by omega⟩
          refine ms t nb b asked many q1 q2 q3 q4 q5 q6 hold weather T (by omega) hn n1 hb LT _ ?_
          rw [so_bind]
          refine so_mono (M2 t nb b asked many q1 q2 q3 q4 q5 q6 hold weather T (by omega) hn n1 hb LT) ?_
          intro p hp
          rw [so_some, hp]
    · right
      refine ⟨k1, c, V, e1, e2, e3, e4, fun t D draft ht D0 Dk => ?_, fun t nb b asked many q1 q2 q3 q4 q5 q6 hold weather T ht hn n1 hb LT => ?_⟩
      · obtain ⟨t, rfl⟩ : ∃ u, t = u + 1 := ⟨t - 1, by omega⟩
        rw [cb]
        unfold fX4_readComparison_B
        rw [so_bind]
        refine so_mono (C t D draft (by omega) D0 Dk) ?_
        rintro o ⟨o1, o2, o3, o4⟩
        rw [o1, if_neg (by decide), o3, p1, Option.bind_some]
        simp (disch := omega) only [gd_t, so_some, so_bind, so_gd, so_none, Option.bind_some, iI_add, iI_sub, iI_mul, iI_neg, iI_clamp, iI_nat, vin_i, iI_le, iI_lt, iI_eq, mn_i, mx_i, if_true, if_false, if_pos, if_neg, li_0, li_1, li_2, li_3, li_4, li_5, li_6, li_7, li_8, li_9, li_10, li_11, li_12, li_14, li_15, li_16, li_20, li_21, li_24, li_28, li_30, li_31, li_40, li_41, li_42, li_43, li_44, li_45, li_47, li_48, li_49, li_57, li_59, li_60, li_61, li_62, li_63, li_70, li_71, li_76, li_80, li_96, li_97, li_98, li_99, li_100, li_101, li_102, li_103, li_104, li_105, li_106, li_107, li_108, li_109, li_110, li_111, li_112, li_113, li_114, li_115, li_116, li_117, li_118, li_119, li_120, li_128, li_142, li_255, li_320, li_781, li_852, li_999, li_1000, li_2000, li_3000, li_9999, li_12345, li_65536, li_1000000, li_252645135, li_858993459, li_1103515245, li_1431655765]
        exact ⟨(by first | rfl | trivial), o2, (by first | rfl | trivial), o4⟩
      · obtain ⟨t, rfl⟩ : ∃ u, t = u + 1 := ⟨t - 1, by omega⟩
        have s1 := ps nb b hb hn n1 60 (by omega) (by omega)
        have s2 := ps nb b hb hn n1 62 (by omega) (by omega)
        have s3 := ps nb b hb hn n1 61 (by omega) (by omega)
        rw [if_neg (by omega)] at s1 s2 s3
        rw [mb]
        unfold fX12_held_B
        rw [so_bind]
        refine so_mono (M t nb b asked many q1 q2 q3 q4 q5 q6 hold weather T (by omega) hn n1 hb LT) ?_
        intro p hp
        rw [hp]
        dsimp only
        rw [li_60, s1, Option.bind_some]
        dsimp only
        rw [if_pos li_0.symm, li_62, s2, Option.bind_some]
        dsimp only
        rw [if_pos li_0.symm, li_61, s3, Option.bind_some]
        dsimp only
        rw [if_pos li_0.symm, so_some]
theorem pr_all {Tx : Int → Int} (hT : ∀ i, 0 ≤ Tx i ∧ Tx i ≤ 255) {l : Int} {a : Nat → Int32} (ha : Arr 80 a Tx) (l0 : 0 ≤ l) (l1 : l ≤ 1000) :
    ∀ (e : Nat) (d : Int), 0 ≤ d → d + e = 4 → ∀ k : Int, 0 ≤ k → k ≤ min l 40 → PR Tx a l 0 0 (5 * (e + 1)) (4 * (e + 1) + (min l 40 - k)) d k := by
  intro e
  induction e with
  | zero =>
    intro d d0 de k k0 km
    have PT : ∀ k, 0 ≤ k → k ≤ min l 40 → hk Tx (min l 40) k ≠ 45 → PR Tx a l 4 3 1 (1 + (min l 40 - k)) d k := fun k k0 km h =>
      (pr_thing (cfc := 0) (mfc := 0) hT ha l0 l1 k0 km d0 (by omega) (by omega) (by omega) (fun h => absurd h (by omega)) h).mono (by omega) (by omega)
    have P1 := pr_factor hT ha l0 l1 (by omega) (by omega) PT
    have P2 := pr_prod hT ha l0 l1 (by omega) (by omega) P1
    have P3 := pr_sum hT ha l0 l1 (by omega) (by omega) P2
    exact (pr_cmp1 hT ha l0 l1 (by omega) (by omega) P3 k k0 km).mono (by omega) (by omega)
  | succ e ih =>
    intro d d0 de k k0 km
    have PT : ∀ k, 0 ≤ k → k ≤ min l 40 → hk Tx (min l 40) k ≠ 45 → PR Tx a l 4 3 (5 * (e + 1) + 1) (4 * (e + 1) + 1 + (min l 40 - k)) d k := fun k k0 km h =>
      (pr_thing (cfc := 5 * (e + 1)) (mfc := 4 * (e + 1) + (min l 40 - k)) hT ha l0 l1 k0 km d0 (by omega) (by omega) (by omega) (fun h h2 => (ih (d + 1) (by omega) (by omega) (k + 1) (by omega) h2).mono (by omega) (by omega)) h).mono (by omega) (by omega)
    have P1 := pr_factor hT ha l0 l1 (by omega) (by omega) PT
    have P2 := pr_prod hT ha l0 l1 (by omega) (by omega) P1
    have P3 := pr_sum hT ha l0 l1 (by omega) (by omega) P2
    exact (pr_cmp1 hT ha l0 l1 (by omega) (by omega) P3 k k0 km).mono (by omega) (by omega)
