theorem PR.mono {Tx : Int → Int} {a : Nat → Int32} {l : Int} {tc tm : Nat} {cf mf cf' mf' d k : Int} (h : PR Tx a l tc tm cf mf d k) (h1 : cf ≤ cf') (h2 : mf ≤ mf') : PR Tx a l tc tm cf' mf' d k := by
  rcases h with ⟨w, w0, w1, C, M⟩ | ⟨k', c, V, e1, e2, e3, e4, C, M⟩
  · exact Or.inl ⟨w, w0, w1, fun t D draft ht => C t D draft (by omega), fun t nb b asked many q1 q2 q3 q4 q5 q6 hold weather T ht => M t nb b asked many q1 q2 q3 q4 q5 q6 hold weather T (by omega)⟩
  · exact Or.inr ⟨k', c, V, e1, e2, e3, e4, fun t D draft ht => C t D draft (by omega), fun t nb b asked many q1 q2 q3 q4 q5 q6 hold weather T ht => M t nb b asked many q1 q2 q3 q4 q5 q6 hold weather T (by omega)⟩
def sgn (j : Int) (x : Int32) : Int32 := if j % 2 = 1 then -x else x
theorem sgn_s {j : Int} (x : Int32) : sgn (j + 1) x = sgn j (-x) := by
  unfold sgn
  by_cases h : j % 2 = 1
  · rw [if_neg (by omega), if_pos h, Int32.neg_neg]
  · rw [if_pos (by omega), if_neg h]
theorem c_put_b {D : Int} (D0 : 0 ≤ D) (D1 : D ≤ 1000) (draft : Nat → Int32) (v : Int32) : ∃ (D' : Int) (dr : Nat → Int32), 0 ≤ D' ∧ D' ≤ 1000 ∧ fX4_put (iI D) draft v = some (iI D', dr) := by
  unfold fX4_put
  by_cases q : 40 ≤ D
  · simp (disch := omega) only [gd_t, so_some, so_bind, so_gd, so_none, Option.bind_some, iI_add, iI_sub, iI_mul, iI_neg, iI_clamp, iI_nat, vin_i, iI_le, iI_lt, iI_eq, mn_i, mx_i, if_true, if_false, if_pos, if_neg, li_0, li_1, li_2, li_3, li_4, li_5, li_6, li_7, li_8, li_9, li_10, li_11, li_12, li_14, li_15, li_16, li_20, li_21, li_24, li_28, li_30, li_31, li_40, li_41, li_42, li_43, li_44, li_45, li_47, li_48, li_49, li_57, li_59, li_60, li_61, li_62, li_63, li_70, li_71, li_76, li_80, li_96, li_97, li_98, li_99, li_100, li_101, li_102, li_103, li_104, li_105, li_106, li_107, li_108, li_109, li_110, li_111, li_112, li_113, li_114, li_115, li_116, li_117, li_118, li_119, li_120, li_128, li_142, li_255, li_320, li_781, li_852, li_999, li_1000, li_2000, li_3000, li_9999, li_12345, li_65536, li_1000000, li_252645135, li_858993459, li_1103515245, li_1431655765]
    exact ⟨D, draft, D0, D1, rfl⟩
  · simp (disch := omega) only [gd_t, so_some, so_bind, so_gd, so_none, Option.bind_some, iI_add, iI_sub, iI_mul, iI_neg, iI_clamp, iI_nat, vin_i, iI_le, iI_lt, iI_eq, mn_i, mx_i, if_true, if_false, if_pos, if_neg, li_0, li_1, li_2, li_3, li_4, li_5, li_6, li_7, li_8, li_9, li_10, li_11, li_12, li_14, li_15, li_16, li_20, li_21, li_24, li_28, li_30, li_31, li_40, li_41, li_42, li_43, li_44, li_45, li_47, li_48, li_49, li_57, li_59, li_60, li_61, li_62, li_63, li_70, li_71, li_76, li_80, li_96, li_97, li_98, li_99, li_100, li_101, li_102, li_103, li_104, li_105, li_106, li_107, li_108, li_109, li_110, li_111, li_112, li_113, li_114, li_115, li_116, li_117, li_118, li_119, li_120, li_128, li_142, li_255, li_320, li_781, li_852, li_999, li_1000, li_2000, li_3000, li_9999, li_12345, li_65536, li_1000000, li_252645135, li_858993459, li_1103515245, li_1431655765]
    exact ⟨D + 1, _, by omega, by omega, rfl⟩
theorem c_skip (k : Int) : fX6_skip (iI k) = some (iI (k + 1)) := by unfold fX6_skip; rw [li_1, iI_add]
/-- what the class does with a factor, j minuses being counted -/
def FcB (a : Nat → Int32) (m d : Int) (t f : Nat) (D : Int) (draft : Nat → Int32) (j k : Int) : Option (Int32 × Int32 × (Nat → Int32) × Int32) :=
  Option.bind (fX4_readFactor_L2 (iI m) a f (iI j) (iI k)) (fun o5 => fX4_readFactor_J23 (frul t) (iI m) a (iI d) o5.1 (iI D) draft o5.2)
theorem pr_fac {Tx : Int → Int} (hT : ∀ i, 0 ≤ Tx i ∧ Tx i ≤ 255) {l d mfc cft : Int} {a : Nat → Int32} (ha : Arr 80 a Tx) (l0 : 0 ≤ l) (l1 : l ≤ 1000) (m0 : 0 ≤ mfc)
    (PT : ∀ k, 0 ≤ k → k ≤ min l 40 → hk Tx (min l 40) k ≠ 45 → PR Tx a l 4 3 cft (mfc + (min l 40 - k)) d k) :
    ∀ (s : Nat) (k j : Int), 0 ≤ j → j ≤ k → k + s = min l 40 →
    (∃ w : Int, 0 ≤ w ∧ w ≤ 100 ∧ (∀ (t f : Nat) (D : Int) (draft : Nat → Int32), cft ≤ t → s < f → 0 ≤ D → D ≤ k - j → So (FcB a (min l 40) d t f D draft j k) (fun o => o.1 = iI 0 ∧ o.2.2.2 = iI w ∧ ∃ D' : Int, 0 ≤ D' ∧ D' ≤ 1000 ∧ o.2.1 = iI D')) ∧ MO Tx l 3 (mfc + s) d k (fun _ p => p.2.2 = iI w)) ∨
    (∃ (k' : Int) (c : List Int) (V : (Int → Int) → Int32), k < k' ∧ k' ≤ min l 40 ∧ (c.length : Int) ≤ k' - k + j ∧ Cd c (fun T => sgn j (V T)) ∧ (∀ (t f : Nat) (D : Int) (draft : Nat → Int32), cft ≤ t → s < f → 0 ≤ D → D ≤ k - j → So (FcB a (min l 40) d t f D draft j k) (fun o => o.1 = iI 1 ∧ o.2.1 = iI (D + c.length) ∧ o.2.2.2 = iI k' ∧ Lay D c draft o.2.2.1)) ∧ MO Tx l 3 (mfc + s) d k (fun T p => p = (V T, iI k', iI (-1)))) := by
  intro s
  induction s with
  | zero =>
    intro k j j0 jk ks
    have ks' : k = min l 40 := by omega
    have n45 : hk Tx (min l 40) k ≠ 45 := fun h => by have := hk_lt (by omega) h; omega
    have hP := PT k (by omega) (by omega) n45
    have hL : ∀ f : Nat, 0 < f → fX4_readFactor_L2 (iI (min l 40)) a f (iI j) (iI k) = some (iI j, iI k) := by
      intro f hf
      obtain ⟨f, rfl⟩ : ∃ g, f = g + 1 := ⟨f - 1, by omega⟩
      have t45 := c_take hT (m := min l 40) (k := k) (c := 45) ha (by omega) (by omega) (by omega) (by omega) (by omega) (by omega)
      rw [if_neg n45] at t45
      rw [fX4_readFactor_L2]
      by_cases q : 40 ≤ j
      · simp (disch := omega) only [gd_t, so_some, so_bind, so_gd, so_none, Option.bind_some, iI_add, iI_sub, iI_mul, iI_neg, iI_clamp, iI_nat, vin_i, iI_le, iI_lt, iI_eq, mn_i, mx_i, if_true, if_false, if_pos, if_neg, li_0, li_1, li_2, li_3, li_4, li_5, li_6, li_7, li_8, li_9, li_10, li_11, li_12, li_14, li_15, li_16, li_20, li_21, li_24, li_28, li_30, li_31, li_40, li_41, li_42, li_43, li_44, li_45, li_47, li_48, li_49, li_57, li_59, li_60, li_61, li_62, li_63, li_70, li_71, li_76, li_80, li_96, li_97, li_98, li_99, li_100, li_101, li_102, li_103, li_104, li_105, li_106, li_107, li_108, li_109, li_110, li_111, li_112, li_113, li_114, li_115, li_116, li_117, li_118, li_119, li_120, li_128, li_142, li_255, li_320, li_781, li_852, li_999, li_1000, li_2000, li_3000, li_9999, li_12345, li_65536, li_1000000, li_252645135, li_858993459, li_1103515245, li_1431655765]
      · simp (disch := omega) only [gd_t, so_some, so_bind, so_gd, so_none, Option.bind_some, iI_add, iI_sub, iI_mul, iI_neg, iI_clamp, iI_nat, vin_i, iI_le, iI_lt, iI_eq, mn_i, mx_i, if_true, if_false, if_pos, if_neg, li_0, li_1, li_2, li_3, li_4, li_5, li_6, li_7, li_8, li_9, li_10, li_11, li_12, li_14, li_15, li_16, li_20, li_21, li_24, li_28, li_30, li_31, li_40, li_41, li_42, li_43, li_44, li_45, li_47, li_48, li_49, li_57, li_59, li_60, li_61, li_62, li_63, li_70, li_71, li_76, li_80, li_96, li_97, li_98, li_99, li_100, li_101, li_102, li_103, li_104, li_105, li_106, li_107, li_108, li_109, li_110, li_111, li_112, li_113, li_114, li_115, li_116, li_117, li_118, li_119, li_120, li_128, li_142, li_255, li_320, li_781, li_852, li_999, li_1000, li_2000, li_3000, li_9999, li_12345, li_65536, li_1000000, li_252645135, li_858993459, li_1103515245, li_1431655765, t45]
    rcases hP with ⟨w, w0, w1, C, M⟩ | ⟨k', c, V, e1, e2, e3, e4, C, M⟩
    · left
      refine ⟨w, w0, w1, fun t f D draft ht hf D0 Dk => ?_, fun t nb b asked many q1 q2 q3 q4 q5 q6 hold weather T ht hn n1 hb LT => M t nb b asked many q1 q2 q3 q4 q5 q6 hold weather T (by omega) hn n1 hb LT⟩
      unfold FcB
      rw [hL f (by omega), Option.bind_some]
      unfold fX4_readFactor_J23
      rw [so_bind]
      refine so_mono (C t D draft ht D0 (by omega)) ?_
      rintro o ⟨o1, o2, D', o3, o4, o5⟩
      rw [o1, if_pos (by rfl), so_some]
      exact ⟨rfl, o2, D', o3, o4, o5⟩
    · right
      by_cases od : j % 2 = 1
      · refine ⟨k', c ++ [3000], V, e1, e2, by rw [List.length_append]; show ((c.length + 1 : Nat) : Int) ≤ _; omega, ?_, fun t f D draft ht hf D0 Dk => ?_, fun t nb b asked many q1 q2 q3 q4 q5 q6 hold weather T ht hn n1 hb LT => M t nb b asked many q1 q2 q3 q4 q5 q6 hold weather T (by omega) hn n1 hb LT⟩
        · rw [show (fun T => sgn j (V T)) = (fun T => -(V T)) from funext fun T => if_pos od]
          exact e4.neg
        · unfold FcB
          rw [hL f (by omega), Option.bind_some]
          unfold fX4_readFactor_J23
          rw [so_bind]
          refine so_mono (C t D draft ht D0 (by omega)) ?_
          rintro o ⟨o1, o2, o3, o4⟩
          have pt := c_put (D := D + c.length) (by omega) (by omega) o.2.2.1 3000
          have rm : rem (iI j) 2 = (1 : Int32) := by rw [li_2, iI_rem (by omega) (by omega) (by omega) (by omega), od]; rfl
          rw [o1, if_neg (by decide), rm, if_pos (by rfl), o2, show (3000 : Int32) = iI 3000 from rfl, pt, Option.bind_some, so_some]
          refine ⟨rfl, ?_, o3, ?_⟩
          · rw [List.length_append]
            show iI (D + c.length + 1) = iI (D + ((c.length + 1 : Nat) : Int))
            rw [show D + c.length + 1 = D + ((c.length + 1 : Nat) : Int) by omega]
          · exact Lay.app D0 o4 (Lay.one (D + c.length) (by omega) 3000 _)
      · refine ⟨k', c, V, e1, e2, by omega, ?_, fun t f D draft ht hf D0 Dk => ?_, fun t nb b asked many q1 q2 q3 q4 q5 q6 hold weather T ht hn n1 hb LT => M t nb b asked many q1 q2 q3 q4 q5 q6 hold weather T (by omega) hn n1 hb LT⟩
        · rw [show (fun T => sgn j (V T)) = V from funext fun T => if_neg od]
          exact e4
        · unfold FcB
          rw [hL f (by omega), Option.bind_some]
          unfold fX4_readFactor_J23
          rw [so_bind]
          refine so_mono (C t D draft ht D0 (by omega)) ?_
          rintro o ⟨o1, o2, o3, o4⟩
          have rm : rem (iI j) 2 = (0 : Int32) := by rw [li_2, iI_rem (by omega) (by omega) (by omega) (by omega), show j % 2 = 0 by omega]; rfl
          rw [o1, if_neg (by decide), rm, if_neg (by decide), so_some]
          exact ⟨rfl, o2, o3, o4⟩
  | succ s ih =>
    intro k j j0 jk ks
    by_cases q45 : hk Tx (min l 40) k = 45
    · have t45 := c_take hT (m := min l 40) (k := k) (c := 45) ha (by omega) (by omega) (by omega) (by omega) (by omega) (by omega)
      rw [if_pos q45] at t45
      have cl : ∀ (t f : Nat) (D : Int) (draft : Nat → Int32), FcB a (min l 40) d t (f + 1) D draft j k = FcB a (min l 40) d t f D draft (j + 1) (k + 1) := by
        intro t f D draft
        unfold FcB
        rw [fX4_readFactor_L2]
        simp (disch := omega) only [gd_t, so_some, so_bind, so_gd, so_none, Option.bind_some, iI_add, iI_sub, iI_mul, iI_neg, iI_clamp, iI_nat, vin_i, iI_le, iI_lt, iI_eq, mn_i, mx_i, if_true, if_false, if_pos, if_neg, li_0, li_1, li_2, li_3, li_4, li_5, li_6, li_7, li_8, li_9, li_10, li_11, li_12, li_14, li_15, li_16, li_20, li_21, li_24, li_28, li_30, li_31, li_40, li_41, li_42, li_43, li_44, li_45, li_47, li_48, li_49, li_57, li_59, li_60, li_61, li_62, li_63, li_70, li_71, li_76, li_80, li_96, li_97, li_98, li_99, li_100, li_101, li_102, li_103, li_104, li_105, li_106, li_107, li_108, li_109, li_110, li_111, li_112, li_113, li_114, li_115, li_116, li_117, li_118, li_119, li_120, li_128, li_142, li_255, li_320, li_781, li_852, li_999, li_1000, li_2000, li_3000, li_9999, li_12345, li_65536, li_1000000, li_252645135, li_858993459, li_1103515245, li_1431655765, t45]
      have md : ∀ (t nb : Nat) (b : Nat → Int32) (asked many q1 q2 q3 q4 q5 q6 : Int32) (hold weather : Nat → Int32), min l 40 ≤ nb → nb ≤ 1000 → Arr (min l 40) b (fun i => sb (Tx i)) →
          fhsp (t + 1) 3 nb many (iI l) (iI 40) (iI k) (iI (-1)) asked q1 q2 q3 q4 q5 q6 b hold weather (iI d) = Option.bind (fhsp t 3 nb many (iI l) (iI 40) (iI (k + 1)) (iI (-1)) asked q1 q2 q3 q4 q5 q6 b hold weather (iI d)) (fun o33 => some (-o33.1, o33.2.1, o33.2.2)) := by
        intro t nb b asked many q1 q2 q3 q4 q5 q6 hold weather hn n1 hb
        have ps := m_passesL hT (l := l) (tp := 40) (k := k) (c := 45) hb (by omega) l0 l1 (by omega) (by omega) (by omega) hn n1 (by omega) (by omega)
        rw [if_pos q45] at ps
        rw [fhsp_3]
        unfold fX12_thing_B
        rw [show (45 : Int32) = iI 45 from rfl, ps, Option.bind_some]
        dsimp only
        rw [if_neg (by decide)]
      rcases ih (k + 1) (j + 1) (by omega) (by omega) (by omega) with ⟨w, w0, w1, C, M⟩ | ⟨k', c, V, e1, e2, e3, e4, C, M⟩
      · left
        refine ⟨w, w0, w1, fun t f D draft ht hf D0 Dk => ?_, fun t nb b asked many q1 q2 q3 q4 q5 q6 hold weather T ht hn n1 hb LT => ?_⟩
        · obtain ⟨f, rfl⟩ : ∃ g, f = g + 1 := ⟨f - 1, by omega⟩
          rw [cl]
          exact C t f D draft ht (by omega) D0 (by omega)
        · obtain ⟨t, rfl⟩ : ∃ u, t = u + 1 := ⟨t - 1, by omega⟩
          rw [md t nb b asked many q1 q2 q3 q4 q5 q6 hold weather hn n1 hb, so_bind]
          refine so_mono (M t nb b asked many q1 q2 q3 q4 q5 q6 hold weather T (by omega) hn n1 hb LT) ?_
          intro p hp
          rw [so_some]
          exact hp
      · right
        refine ⟨k', c, fun T => -(V T), by omega, e2, by omega, ?_, fun t f D draft ht hf D0 Dk => ?_, fun t nb b asked many q1 q2 q3 q4 q5 q6 hold weather T ht hn n1 hb LT => ?_⟩
        · rw [show (fun T => sgn j (-(V T))) = (fun T => sgn (j + 1) (V T)) from funext fun T => (sgn_s (V T)).symm]
          exact e4
        · obtain ⟨f, rfl⟩ : ∃ g, f = g + 1 := ⟨f - 1, by omega⟩
          rw [cl]
          exact C t f D draft ht (by omega) D0 (by omega)
        · obtain ⟨t, rfl⟩ : ∃ u, t = u + 1 := ⟨t - 1, by omega⟩
          rw [md t nb b asked many q1 q2 q3 q4 q5 q6 hold weather hn n1 hb, so_bind]
          refine so_mono (M t nb b asked many q1 q2 q3 q4 q5 q6 hold weather T (by omega) hn n1 hb LT) ?_
          intro p hp
          rw [so_some, hp]
    · have n45 : hk Tx (min l 40) k ≠ 45 := q45
      have hP := PT k (by omega) (by omega) n45
      have hL : ∀ f : Nat, 0 < f → fX4_readFactor_L2 (iI (min l 40)) a f (iI j) (iI k) = some (iI j, iI k) := by
        intro f hf
        obtain ⟨f, rfl⟩ : ∃ g, f = g + 1 := ⟨f - 1, by omega⟩
        have t45 := c_take hT (m := min l 40) (k := k) (c := 45) ha (by omega) (by omega) (by omega) (by omega) (by omega) (by omega)
        rw [if_neg n45] at t45
        rw [fX4_readFactor_L2]
        simp (disch := omega) only [gd_t, so_some, so_bind, so_gd, so_none, Option.bind_some, iI_add, iI_sub, iI_mul, iI_neg, iI_clamp, iI_nat, vin_i, iI_le, iI_lt, iI_eq, mn_i, mx_i, if_true, if_false, if_pos, if_neg, li_0, li_1, li_2, li_3, li_4, li_5, li_6, li_7, li_8, li_9, li_10, li_11, li_12, li_14, li_15, li_16, li_20, li_21, li_24, li_28, li_30, li_31, li_40, li_41, li_42, li_43, li_44, li_45, li_47, li_48, li_49, li_57, li_59, li_60, li_61, li_62, li_63, li_70, li_71, li_76, li_80, li_96, li_97, li_98, li_99, li_100, li_101, li_102, li_103, li_104, li_105, li_106, li_107, li_108, li_109, li_110, li_111, li_112, li_113, li_114, li_115, li_116, li_117, li_118, li_119, li_120, li_128, li_142, li_255, li_320, li_781, li_852, li_999, li_1000, li_2000, li_3000, li_9999, li_12345, li_65536, li_1000000, li_252645135, li_858993459, li_1103515245, li_1431655765, t45]
      rcases hP with ⟨w, w0, w1, C, M⟩ | ⟨k', c, V, e1, e2, e3, e4, C, M⟩
      · left
        refine ⟨w, w0, w1, fun t f D draft ht hf D0 Dk => ?_, fun t nb b asked many q1 q2 q3 q4 q5 q6 hold weather T ht hn n1 hb LT => M t nb b asked many q1 q2 q3 q4 q5 q6 hold weather T (by omega) hn n1 hb LT⟩
        unfold FcB
        rw [hL f (by omega), Option.bind_some]
        unfold fX4_readFactor_J23
        rw [so_bind]
        refine so_mono (C t D draft ht D0 (by omega)) ?_
        rintro o ⟨o1, o2, D', o3, o4, o5⟩
        rw [o1, if_pos (by rfl), so_some]
        exact ⟨rfl, o2, D', o3, o4, o5⟩
      · right
        by_cases od : j % 2 = 1
        · refine ⟨k', c ++ [3000], V, e1, e2, by rw [List.length_append]; show ((c.length + 1 : Nat) : Int) ≤ _; omega, ?_, fun t f D draft ht hf D0 Dk => ?_, fun t nb b asked many q1 q2 q3 q4 q5 q6 hold weather T ht hn n1 hb LT => M t nb b asked many q1 q2 q3 q4 q5 q6 hold weather T (by omega) hn n1 hb LT⟩
          · rw [show (fun T => sgn j (V T)) = (fun T => -(V T)) from funext fun T => if_pos od]
            exact e4.neg
          · unfold FcB
            rw [hL f (by omega), Option.bind_some]
            unfold fX4_readFactor_J23
            rw [so_bind]
            refine so_mono (C t D draft ht D0 (by omega)) ?_
            rintro o ⟨o1, o2, o3, o4⟩
            have pt := c_put (D := D + c.length) (by omega) (by omega) o.2.2.1 3000
            have rm : rem (iI j) 2 = (1 : Int32) := by rw [li_2, iI_rem (by omega) (by omega) (by omega) (by omega), od]; rfl
            rw [o1, if_neg (by decide), rm, if_pos (by rfl), o2, show (3000 : Int32) = iI 3000 from rfl, pt, Option.bind_some, so_some]
            refine ⟨rfl, ?_, o3, ?_⟩
            · rw [List.length_append]
              show iI (D + c.length + 1) = iI (D + ((c.length + 1 : Nat) : Int))
              rw [show D + c.length + 1 = D + ((c.length + 1 : Nat) : Int) by omega]
            · exact Lay.app D0 o4 (Lay.one (D + c.length) (by omega) 3000 _)
        · refine ⟨k', c, V, e1, e2, by omega, ?_, fun t f D draft ht hf D0 Dk => ?_, fun t nb b asked many q1 q2 q3 q4 q5 q6 hold weather T ht hn n1 hb LT => M t nb b asked many q1 q2 q3 q4 q5 q6 hold weather T (by omega) hn n1 hb LT⟩
          · rw [show (fun T => sgn j (V T)) = V from funext fun T => if_neg od]
            exact e4
          · unfold FcB
            rw [hL f (by omega), Option.bind_some]
            unfold fX4_readFactor_J23
            rw [so_bind]
            refine so_mono (C t D draft ht D0 (by omega)) ?_
            rintro o ⟨o1, o2, o3, o4⟩
            have rm : rem (iI j) 2 = (0 : Int32) := by rw [li_2, iI_rem (by omega) (by omega) (by omega) (by omega), show j % 2 = 0 by omega]; rfl
            rw [o1, if_neg (by decide), rm, if_neg (by decide), so_some]
            exact ⟨rfl, o2, o3, o4⟩
theorem pr_factor {Tx : Int → Int} (hT : ∀ i, 0 ≤ Tx i ∧ Tx i ≤ 255) {l d mfc cft : Int} {a : Nat → Int32} (ha : Arr 80 a Tx) (l0 : 0 ≤ l) (l1 : l ≤ 1000) (m0 : 0 ≤ mfc) (c0 : 0 ≤ cft)
    (PT : ∀ k, 0 ≤ k → k ≤ min l 40 → hk Tx (min l 40) k ≠ 45 → PR Tx a l 4 3 cft (mfc + (min l 40 - k)) d k) (k : Int) (k0 : 0 ≤ k) (km : k ≤ min l 40) : PR Tx a l 3 3 (cft + 1) (mfc + (min l 40 - k)) d k := by
  have cb : ∀ (t : Nat) (D : Int) (draft : Nat → Int32), frul (t + 1) 3 (iI D) draft (iI k) (iI (min l 40)) a (iI d) = FcB a (min l 40) d t FU D draft 0 k := by
    intro t D draft
    rfl
  have fu : (min l 40 - k).toNat < FU := by show _ < 4000; omega
  rcases pr_fac hT ha l0 l1 m0 PT (min l 40 - k).toNat k 0 (by omega) (by omega) (by omega) with ⟨w, w0, w1, C, M⟩ | ⟨k', c, V, e1, e2, e3, e4, C, M⟩
  · left
    refine ⟨w, w0, w1, fun t D draft ht D0 Dk => ?_, fun t nb b asked many q1 q2 q3 q4 q5 q6 hold weather T ht hn n1 hb LT => M t nb b asked many q1 q2 q3 q4 q5 q6 hold weather T (by omega) hn n1 hb LT⟩
    obtain ⟨t, rfl⟩ : ∃ u, t = u + 1 := ⟨t - 1, by omega⟩
    rw [cb]
    exact C t FU D draft (by omega) fu D0 (by omega)
  · right
    refine ⟨k', c, V, e1, e2, by omega, ?_, fun t D draft ht D0 Dk => ?_, fun t nb b asked many q1 q2 q3 q4 q5 q6 hold weather T ht hn n1 hb LT => M t nb b asked many q1 q2 q3 q4 q5 q6 hold weather T (by omega) hn n1 hb LT⟩
    · have e : (fun T => sgn 0 (V T)) = V := funext fun T => if_neg (by omega)
      rw [e] at e4
      exact e4
    · obtain ⟨t, rfl⟩ : ∃ u, t = u + 1 := ⟨t - 1, by omega⟩
      rw [cb]
      exact C t FU D draft (by omega) fu D0 (by omega)
