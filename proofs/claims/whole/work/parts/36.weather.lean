/-! weather -/
def gw (x : Int) : Prop := (48 ≤ x ∧ x ≤ 57) ∨ (97 ≤ x ∧ x ≤ 105)
theorem isW_t {x : Int} (h : gw x) : fX10_isWeather (iI x) = some (iI 1) := by
  unfold fX10_isWeather fX10_isWeather_J12
  unfold gw at h
  by_cases q : 57 < x
  · simp (disch := omega) only [gd_t, so_some, so_bind, so_gd, so_none, Option.bind_some, iI_add, iI_sub, iI_mul, iI_neg, iI_clamp, iI_nat, vin_i, iI_le, iI_lt, iI_eq, mn_i, mx_i, if_true, if_false, if_pos, if_neg, li_0, li_1, li_2, li_3, li_4, li_5, li_6, li_7, li_8, li_9, li_10, li_11, li_12, li_14, li_15, li_16, li_20, li_21, li_24, li_28, li_30, li_31, li_40, li_41, li_42, li_43, li_44, li_45, li_47, li_48, li_49, li_57, li_59, li_60, li_61, li_62, li_63, li_70, li_71, li_76, li_80, li_96, li_97, li_98, li_99, li_100, li_101, li_102, li_103, li_104, li_105, li_106, li_107, li_108, li_109, li_110, li_111, li_112, li_113, li_114, li_115, li_116, li_117, li_118, li_119, li_120, li_128, li_142, li_255, li_320, li_781, li_852, li_999, li_1000, li_2000, li_3000, li_9999, li_12345, li_65536, li_1000000, li_252645135, li_858993459, li_1103515245, li_1431655765]
  · simp (disch := omega) only [gd_t, so_some, so_bind, so_gd, so_none, Option.bind_some, iI_add, iI_sub, iI_mul, iI_neg, iI_clamp, iI_nat, vin_i, iI_le, iI_lt, iI_eq, mn_i, mx_i, if_true, if_false, if_pos, if_neg, li_0, li_1, li_2, li_3, li_4, li_5, li_6, li_7, li_8, li_9, li_10, li_11, li_12, li_14, li_15, li_16, li_20, li_21, li_24, li_28, li_30, li_31, li_40, li_41, li_42, li_43, li_44, li_45, li_47, li_48, li_49, li_57, li_59, li_60, li_61, li_62, li_63, li_70, li_71, li_76, li_80, li_96, li_97, li_98, li_99, li_100, li_101, li_102, li_103, li_104, li_105, li_106, li_107, li_108, li_109, li_110, li_111, li_112, li_113, li_114, li_115, li_116, li_117, li_118, li_119, li_120, li_128, li_142, li_255, li_320, li_781, li_852, li_999, li_1000, li_2000, li_3000, li_9999, li_12345, li_65536, li_1000000, li_252645135, li_858993459, li_1103515245, li_1431655765]
theorem isW_f {x : Int} (x0 : 0 ≤ x) (x1 : x ≤ 255) (h : ¬ gw x) : fX10_isWeather (iI x) = some (iI 0) := by
  unfold fX10_isWeather fX10_isWeather_J12
  unfold gw at h
  by_cases q : x < 48
  · simp (disch := omega) only [gd_t, so_some, so_bind, so_gd, so_none, Option.bind_some, iI_add, iI_sub, iI_mul, iI_neg, iI_clamp, iI_nat, vin_i, iI_le, iI_lt, iI_eq, mn_i, mx_i, if_true, if_false, if_pos, if_neg, li_0, li_1, li_2, li_3, li_4, li_5, li_6, li_7, li_8, li_9, li_10, li_11, li_12, li_14, li_15, li_16, li_20, li_21, li_24, li_28, li_30, li_31, li_40, li_41, li_42, li_43, li_44, li_45, li_47, li_48, li_49, li_57, li_59, li_60, li_61, li_62, li_63, li_70, li_71, li_76, li_80, li_96, li_97, li_98, li_99, li_100, li_101, li_102, li_103, li_104, li_105, li_106, li_107, li_108, li_109, li_110, li_111, li_112, li_113, li_114, li_115, li_116, li_117, li_118, li_119, li_120, li_128, li_142, li_255, li_320, li_781, li_852, li_999, li_1000, li_2000, li_3000, li_9999, li_12345, li_65536, li_1000000, li_252645135, li_858993459, li_1103515245, li_1431655765]
  · by_cases q2 : x < 97
    · simp (disch := omega) only [gd_t, so_some, so_bind, so_gd, so_none, Option.bind_some, iI_add, iI_sub, iI_mul, iI_neg, iI_clamp, iI_nat, vin_i, iI_le, iI_lt, iI_eq, mn_i, mx_i, if_true, if_false, if_pos, if_neg, li_0, li_1, li_2, li_3, li_4, li_5, li_6, li_7, li_8, li_9, li_10, li_11, li_12, li_14, li_15, li_16, li_20, li_21, li_24, li_28, li_30, li_31, li_40, li_41, li_42, li_43, li_44, li_45, li_47, li_48, li_49, li_57, li_59, li_60, li_61, li_62, li_63, li_70, li_71, li_76, li_80, li_96, li_97, li_98, li_99, li_100, li_101, li_102, li_103, li_104, li_105, li_106, li_107, li_108, li_109, li_110, li_111, li_112, li_113, li_114, li_115, li_116, li_117, li_118, li_119, li_120, li_128, li_142, li_255, li_320, li_781, li_852, li_999, li_1000, li_2000, li_3000, li_9999, li_12345, li_65536, li_1000000, li_252645135, li_858993459, li_1103515245, li_1431655765]
    · simp (disch := omega) only [gd_t, so_some, so_bind, so_gd, so_none, Option.bind_some, iI_add, iI_sub, iI_mul, iI_neg, iI_clamp, iI_nat, vin_i, iI_le, iI_lt, iI_eq, mn_i, mx_i, if_true, if_false, if_pos, if_neg, li_0, li_1, li_2, li_3, li_4, li_5, li_6, li_7, li_8, li_9, li_10, li_11, li_12, li_14, li_15, li_16, li_20, li_21, li_24, li_28, li_30, li_31, li_40, li_41, li_42, li_43, li_44, li_45, li_47, li_48, li_49, li_57, li_59, li_60, li_61, li_62, li_63, li_70, li_71, li_76, li_80, li_96, li_97, li_98, li_99, li_100, li_101, li_102, li_103, li_104, li_105, li_106, li_107, li_108, li_109, li_110, li_111, li_112, li_113, li_114, li_115, li_116, li_117, li_118, li_119, li_120, li_128, li_142, li_255, li_320, li_781, li_852, li_999, li_1000, li_2000, li_3000, li_9999, li_12345, li_65536, li_1000000, li_252645135, li_858993459, li_1103515245, li_1431655765]
theorem pk_i {l k : Int} {a : Nat → Int32} {T : Int → Int} (ha : Arr 80 a T) (k0 : 0 ≤ k) (kl : k < l) (l1 : l ≤ 80) : fX6_peek (iI k) (iI l) a = some (iI (T k)) := by
  unfold fX6_peek
  simp (disch := omega) only [gd_t, so_some, so_bind, so_gd, so_none, Option.bind_some, iI_add, iI_sub, iI_mul, iI_neg, iI_clamp, iI_nat, vin_i, iI_le, iI_lt, iI_eq, mn_i, mx_i, if_true, if_false, if_pos, if_neg, li_0, li_1, li_2, li_3, li_4, li_5, li_6, li_7, li_8, li_9, li_10, li_11, li_12, li_14, li_15, li_16, li_20, li_21, li_24, li_28, li_30, li_31, li_40, li_41, li_42, li_43, li_44, li_45, li_47, li_48, li_49, li_57, li_59, li_60, li_61, li_62, li_63, li_70, li_71, li_76, li_80, li_96, li_97, li_98, li_99, li_100, li_101, li_102, li_103, li_104, li_105, li_106, li_107, li_108, li_109, li_110, li_111, li_112, li_113, li_114, li_115, li_116, li_117, li_118, li_119, li_120, li_128, li_142, li_255, li_320, li_781, li_852, li_999, li_1000, li_2000, li_3000, li_9999, li_12345, li_65536, li_1000000, li_252645135, li_858993459, li_1103515245, li_1431655765, ha.at]
theorem pk_e {l k : Int} {a : Nat → Int32} (k0 : 0 ≤ k) (kl : l ≤ k) (l0 : 0 ≤ l) (k1 : k < 2147483648) : fX6_peek (iI k) (iI l) a = some (iI (-1)) := by
  unfold fX6_peek
  simp (disch := omega) only [gd_t, so_some, so_bind, so_gd, so_none, Option.bind_some, iI_add, iI_sub, iI_mul, iI_neg, iI_clamp, iI_nat, vin_i, iI_le, iI_lt, iI_eq, mn_i, mx_i, if_true, if_false, if_pos, if_neg, li_0, li_1, li_2, li_3, li_4, li_5, li_6, li_7, li_8, li_9, li_10, li_11, li_12, li_14, li_15, li_16, li_20, li_21, li_24, li_28, li_30, li_31, li_40, li_41, li_42, li_43, li_44, li_45, li_47, li_48, li_49, li_57, li_59, li_60, li_61, li_62, li_63, li_70, li_71, li_76, li_80, li_96, li_97, li_98, li_99, li_100, li_101, li_102, li_103, li_104, li_105, li_106, li_107, li_108, li_109, li_110, li_111, li_112, li_113, li_114, li_115, li_116, li_117, li_118, li_119, li_120, li_128, li_142, li_255, li_320, li_781, li_852, li_999, li_1000, li_2000, li_3000, li_9999, li_12345, li_65536, li_1000000, li_252645135, li_858993459, li_1103515245, li_1431655765]
theorem sb_lo {x : Int} (h : x < 128) : sb x = x := if_pos h
theorem sb_hi {x : Int} (h : ¬ x < 128) : sb x = x - 256 := if_neg h
theorem w_1 {t : Int} (t0 : 0 ≤ t) (t1 : t ≤ 80) {a b : Nat → Int32} {T : Int → Int} (ha : Arr 80 a T) (hb : Arr 80 b (fun i => sb (T i))) (hT : ∀ i, 0 ≤ T i ∧ T i ≤ 255) (len cyc : Int32) (inches : Nat → Int32) (many typed thrown : Int32) (weather : Nat → Int32) :
    ∀ (m : Nat) (k : Int) (f : Nat), 0 ≤ k → k + m = min t 40 → m + 1 < f → (∀ j, 0 ≤ j → j < k → gw (T j)) →
    ((∀ j, 0 ≤ j → j < min t 40 → gw (T j)) ∧ fX10_read_L8 a len cyc inches (iI (min t 40)) f (iI k) (iI k) = some (Sum.inl (iI (min t 40))) ∧ (t ≤ 40 → fX12_weather_L17 b (iI t) many typed thrown weather f (iI k) = some (Sum.inl ())) ∧ (40 < t → fX12_weather_L17 b (iI t) many typed thrown weather f (iI k) = some (Sum.inr (iI (-1 - 40), many, typed, thrown, weather)))) ∨
    (∃ j, fX10_read_L8 a len cyc inches (iI (min t 40)) f (iI k) (iI k) = some (Sum.inr (iI (-1 - j), len, cyc, inches, iI j, iI (min t 40))) ∧ fX12_weather_L17 b (iI t) many typed thrown weather f (iI k) = some (Sum.inr (iI (-1 - j), many, typed, thrown, weather)))
  | 0, k, f + 1, k0, hk, hf, hg => by
    left
    refine ⟨fun j j0 j1 => hg j j0 (by omega), ?_, fun q => ?_, fun q => ?_⟩
    · rw [fX10_read_L8]
      by_cases q : 40 ≤ k
      · simp (disch := omega) only [gd_t, so_some, so_bind, so_gd, so_none, Option.bind_some, iI_add, iI_sub, iI_mul, iI_neg, iI_clamp, iI_nat, vin_i, iI_le, iI_lt, iI_eq, mn_i, mx_i, if_true, if_false, if_pos, if_neg, li_0, li_1, li_2, li_3, li_4, li_5, li_6, li_7, li_8, li_9, li_10, li_11, li_12, li_14, li_15, li_16, li_20, li_21, li_24, li_28, li_30, li_31, li_40, li_41, li_42, li_43, li_44, li_45, li_47, li_48, li_49, li_57, li_59, li_60, li_61, li_62, li_63, li_70, li_71, li_76, li_80, li_96, li_97, li_98, li_99, li_100, li_101, li_102, li_103, li_104, li_105, li_106, li_107, li_108, li_109, li_110, li_111, li_112, li_113, li_114, li_115, li_116, li_117, li_118, li_119, li_120, li_128, li_142, li_255, li_320, li_781, li_852, li_999, li_1000, li_2000, li_3000, li_9999, li_12345, li_65536, li_1000000, li_252645135, li_858993459, li_1103515245, li_1431655765]
        rw [show k = min t 40 by omega]
      · have p := pk_e (l := min t 40) (k := k) (a := a) k0 (by omega) (by omega) (by omega)
        simp (disch := omega) only [gd_t, so_some, so_bind, so_gd, so_none, Option.bind_some, iI_add, iI_sub, iI_mul, iI_neg, iI_clamp, iI_nat, vin_i, iI_le, iI_lt, iI_eq, mn_i, mx_i, if_true, if_false, if_pos, if_neg, li_0, li_1, li_2, li_3, li_4, li_5, li_6, li_7, li_8, li_9, li_10, li_11, li_12, li_14, li_15, li_16, li_20, li_21, li_24, li_28, li_30, li_31, li_40, li_41, li_42, li_43, li_44, li_45, li_47, li_48, li_49, li_57, li_59, li_60, li_61, li_62, li_63, li_70, li_71, li_76, li_80, li_96, li_97, li_98, li_99, li_100, li_101, li_102, li_103, li_104, li_105, li_106, li_107, li_108, li_109, li_110, li_111, li_112, li_113, li_114, li_115, li_116, li_117, li_118, li_119, li_120, li_128, li_142, li_255, li_320, li_781, li_852, li_999, li_1000, li_2000, li_3000, li_9999, li_12345, li_65536, li_1000000, li_252645135, li_858993459, li_1103515245, li_1431655765, p]
        rw [show k = min t 40 by omega]
    · rw [fX12_weather_L17]
      simp (disch := omega) only [gd_t, so_some, so_bind, so_gd, so_none, Option.bind_some, iI_add, iI_sub, iI_mul, iI_neg, iI_clamp, iI_nat, vin_i, iI_le, iI_lt, iI_eq, mn_i, mx_i, if_true, if_false, if_pos, if_neg, li_0, li_1, li_2, li_3, li_4, li_5, li_6, li_7, li_8, li_9, li_10, li_11, li_12, li_14, li_15, li_16, li_20, li_21, li_24, li_28, li_30, li_31, li_40, li_41, li_42, li_43, li_44, li_45, li_47, li_48, li_49, li_57, li_59, li_60, li_61, li_62, li_63, li_70, li_71, li_76, li_80, li_96, li_97, li_98, li_99, li_100, li_101, li_102, li_103, li_104, li_105, li_106, li_107, li_108, li_109, li_110, li_111, li_112, li_113, li_114, li_115, li_116, li_117, li_118, li_119, li_120, li_128, li_142, li_255, li_320, li_781, li_852, li_999, li_1000, li_2000, li_3000, li_9999, li_12345, li_65536, li_1000000, li_252645135, li_858993459, li_1103515245, li_1431655765]
    · rw [fX12_weather_L17]
      simp (disch := omega) only [gd_t, so_some, so_bind, so_gd, so_none, Option.bind_some, iI_add, iI_sub, iI_mul, iI_neg, iI_clamp, iI_nat, vin_i, iI_le, iI_lt, iI_eq, mn_i, mx_i, if_true, if_false, if_pos, if_neg, li_0, li_1, li_2, li_3, li_4, li_5, li_6, li_7, li_8, li_9, li_10, li_11, li_12, li_14, li_15, li_16, li_20, li_21, li_24, li_28, li_30, li_31, li_40, li_41, li_42, li_43, li_44, li_45, li_47, li_48, li_49, li_57, li_59, li_60, li_61, li_62, li_63, li_70, li_71, li_76, li_80, li_96, li_97, li_98, li_99, li_100, li_101, li_102, li_103, li_104, li_105, li_106, li_107, li_108, li_109, li_110, li_111, li_112, li_113, li_114, li_115, li_116, li_117, li_118, li_119, li_120, li_128, li_142, li_255, li_320, li_781, li_852, li_999, li_1000, li_2000, li_3000, li_9999, li_12345, li_65536, li_1000000, li_252645135, li_858993459, li_1103515245, li_1431655765]
      rw [show k = 40 by omega]
  | m + 1, k, f + 1, k0, hk, hf, hg => by
    have hTk := hT k
    have p := pk_i (l := min t 40) (k := k) ha k0 (by omega) (by omega)
    by_cases q : gw (T k)
    · have q' := q
      unfold gw at q'
      have w := isW_t q
      have hB : sb (T k) = T k := sb_lo (by omega)
      have ih := w_1 t0 t1 ha hb hT len cyc inches many typed thrown weather m (k + 1) f (by omega) (by omega) (by omega) (fun j j0 j1 => by
        by_cases w : j = k
        · rw [w]; exact q
        · exact hg j j0 (by omega))
      have e1 : fX10_read_L8 a len cyc inches (iI (min t 40)) (f + 1) (iI k) (iI k) = fX10_read_L8 a len cyc inches (iI (min t 40)) f (iI (k + 1)) (iI (k + 1)) := by
        rw [fX10_read_L8]
        unfold fX6_skip
        simp (disch := omega) only [gd_t, so_some, so_bind, so_gd, so_none, Option.bind_some, iI_add, iI_sub, iI_mul, iI_neg, iI_clamp, iI_nat, vin_i, iI_le, iI_lt, iI_eq, mn_i, mx_i, if_true, if_false, if_pos, if_neg, li_0, li_1, li_2, li_3, li_4, li_5, li_6, li_7, li_8, li_9, li_10, li_11, li_12, li_14, li_15, li_16, li_20, li_21, li_24, li_28, li_30, li_31, li_40, li_41, li_42, li_43, li_44, li_45, li_47, li_48, li_49, li_57, li_59, li_60, li_61, li_62, li_63, li_70, li_71, li_76, li_80, li_96, li_97, li_98, li_99, li_100, li_101, li_102, li_103, li_104, li_105, li_106, li_107, li_108, li_109, li_110, li_111, li_112, li_113, li_114, li_115, li_116, li_117, li_118, li_119, li_120, li_128, li_142, li_255, li_320, li_781, li_852, li_999, li_1000, li_2000, li_3000, li_9999, li_12345, li_65536, li_1000000, li_252645135, li_858993459, li_1103515245, li_1431655765, p, w]
      have e2 : fX12_weather_L17 b (iI t) many typed thrown weather (f + 1) (iI k) = fX12_weather_L17 b (iI t) many typed thrown weather f (iI (k + 1)) := by
        rw [fX12_weather_L17]
        by_cases q2 : T k ≤ 57
        · have z := in_t (a := T k) (b := 48) (c := 57) (by omega) (by omega) (by omega)
          simp (disch := omega) only [gd_t, so_some, so_bind, so_gd, so_none, Option.bind_some, iI_add, iI_sub, iI_mul, iI_neg, iI_clamp, iI_nat, vin_i, iI_le, iI_lt, iI_eq, mn_i, mx_i, if_true, if_false, if_pos, if_neg, li_0, li_1, li_2, li_3, li_4, li_5, li_6, li_7, li_8, li_9, li_10, li_11, li_12, li_14, li_15, li_16, li_20, li_21, li_24, li_28, li_30, li_31, li_40, li_41, li_42, li_43, li_44, li_45, li_47, li_48, li_49, li_57, li_59, li_60, li_61, li_62, li_63, li_70, li_71, li_76, li_80, li_96, li_97, li_98, li_99, li_100, li_101, li_102, li_103, li_104, li_105, li_106, li_107, li_108, li_109, li_110, li_111, li_112, li_113, li_114, li_115, li_116, li_117, li_118, li_119, li_120, li_128, li_142, li_255, li_320, li_781, li_852, li_999, li_1000, li_2000, li_3000, li_9999, li_12345, li_65536, li_1000000, li_252645135, li_858993459, li_1103515245, li_1431655765, hb.at, hB, z]
        · have z := in_f (a := T k) (b := 48) (c := 57) (by omega) (by omega) (by omega) (by omega) (by omega) (by omega) (by omega)
          have z2 := in_t (a := T k) (b := 97) (c := 105) (by omega) (by omega) (by omega)
          simp (disch := omega) only [gd_t, so_some, so_bind, so_gd, so_none, Option.bind_some, iI_add, iI_sub, iI_mul, iI_neg, iI_clamp, iI_nat, vin_i, iI_le, iI_lt, iI_eq, mn_i, mx_i, if_true, if_false, if_pos, if_neg, li_0, li_1, li_2, li_3, li_4, li_5, li_6, li_7, li_8, li_9, li_10, li_11, li_12, li_14, li_15, li_16, li_20, li_21, li_24, li_28, li_30, li_31, li_40, li_41, li_42, li_43, li_44, li_45, li_47, li_48, li_49, li_57, li_59, li_60, li_61, li_62, li_63, li_70, li_71, li_76, li_80, li_96, li_97, li_98, li_99, li_100, li_101, li_102, li_103, li_104, li_105, li_106, li_107, li_108, li_109, li_110, li_111, li_112, li_113, li_114, li_115, li_116, li_117, li_118, li_119, li_120, li_128, li_142, li_255, li_320, li_781, li_852, li_999, li_1000, li_2000, li_3000, li_9999, li_12345, li_65536, li_1000000, li_252645135, li_858993459, li_1103515245, li_1431655765, hb.at, hB, z, z2]
      rw [e1, e2]
      exact ih
    · have q' := q
      unfold gw at q'
      have w := isW_f hTk.1 hTk.2 q
      right
      refine ⟨k, ?_, ?_⟩
      · rw [fX10_read_L8]
        unfold fX6_fault
        simp (disch := omega) only [gd_t, so_some, so_bind, so_gd, so_none, Option.bind_some, iI_add, iI_sub, iI_mul, iI_neg, iI_clamp, iI_nat, vin_i, iI_le, iI_lt, iI_eq, mn_i, mx_i, if_true, if_false, if_pos, if_neg, li_0, li_1, li_2, li_3, li_4, li_5, li_6, li_7, li_8, li_9, li_10, li_11, li_12, li_14, li_15, li_16, li_20, li_21, li_24, li_28, li_30, li_31, li_40, li_41, li_42, li_43, li_44, li_45, li_47, li_48, li_49, li_57, li_59, li_60, li_61, li_62, li_63, li_70, li_71, li_76, li_80, li_96, li_97, li_98, li_99, li_100, li_101, li_102, li_103, li_104, li_105, li_106, li_107, li_108, li_109, li_110, li_111, li_112, li_113, li_114, li_115, li_116, li_117, li_118, li_119, li_120, li_128, li_142, li_255, li_320, li_781, li_852, li_999, li_1000, li_2000, li_3000, li_9999, li_12345, li_65536, li_1000000, li_252645135, li_858993459, li_1103515245, li_1431655765, p, w]
      · rw [fX12_weather_L17]
        have hB : sb (T k) = T k ∧ T k < 128 ∨ sb (T k) = T k - 256 ∧ 128 ≤ T k := by
          by_cases w : T k < 128
          · exact Or.inl ⟨sb_lo w, w⟩
          · exact Or.inr ⟨sb_hi w, by omega⟩
        have z := in_f (a := sb (T k)) (b := 48) (c := 57) (by omega) (by omega) (by omega) (by omega) (by omega) (by omega) (by omega)
        have z2 := in_f (a := sb (T k)) (b := 97) (c := 105) (by omega) (by omega) (by omega) (by omega) (by omega) (by omega) (by omega)
        simp (disch := omega) only [gd_t, so_some, so_bind, so_gd, so_none, Option.bind_some, iI_add, iI_sub, iI_mul, iI_neg, iI_clamp, iI_nat, vin_i, iI_le, iI_lt, iI_eq, mn_i, mx_i, if_true, if_false, if_pos, if_neg, li_0, li_1, li_2, li_3, li_4, li_5, li_6, li_7, li_8, li_9, li_10, li_11, li_12, li_14, li_15, li_16, li_20, li_21, li_24, li_28, li_30, li_31, li_40, li_41, li_42, li_43, li_44, li_45, li_47, li_48, li_49, li_57, li_59, li_60, li_61, li_62, li_63, li_70, li_71, li_76, li_80, li_96, li_97, li_98, li_99, li_100, li_101, li_102, li_103, li_104, li_105, li_106, li_107, li_108, li_109, li_110, li_111, li_112, li_113, li_114, li_115, li_116, li_117, li_118, li_119, li_120, li_128, li_142, li_255, li_320, li_781, li_852, li_999, li_1000, li_2000, li_3000, li_9999, li_12345, li_65536, li_1000000, li_252645135, li_858993459, li_1103515245, li_1431655765, hb.at, z, z2]
def ww (T : Int → Int) : Int → Int := fun i => if 57 < T i then 96 - T i else T i - 48
theorem c_w2 {t : Int} (t0 : 0 ≤ t) (t1 : t ≤ 40) {a : Nat → Int32} {T : Int → Int} (ha : Arr 80 a T) (hg : ∀ j, 0 ≤ j → j < t → gw (T j)) :
    ∀ (m : Nat) (k : Int) (f : Nat) (d : Nat → Int32), 0 ≤ k → k + m = t → m < f → Arr k d (ww T) → (t = 0 → d 0 = iI 0) →
    So (fX10_read_L78 a (iI t) f (iI k) (iI k) d (iI k)) (fun o => o.1 = iI t ∧ Arr t o.2.1 (ww T) ∧ (t = 0 → o.2.1 0 = iI 0))
  | 0, k, f + 1, d, k0, hk, hf, hd, h0 => by
    have : k = t := by omega
    subst this
    rw [fX10_read_L78]
    by_cases q : 40 ≤ k
    · simp (disch := omega) only [gd_t, so_some, so_bind, so_gd, so_none, Option.bind_some, iI_add, iI_sub, iI_mul, iI_neg, iI_clamp, iI_nat, vin_i, iI_le, iI_lt, iI_eq, mn_i, mx_i, if_true, if_false, if_pos, if_neg, li_0, li_1, li_2, li_3, li_4, li_5, li_6, li_7, li_8, li_9, li_10, li_11, li_12, li_14, li_15, li_16, li_20, li_21, li_24, li_28, li_30, li_31, li_40, li_41, li_42, li_43, li_44, li_45, li_47, li_48, li_49, li_57, li_59, li_60, li_61, li_62, li_63, li_70, li_71, li_76, li_80, li_96, li_97, li_98, li_99, li_100, li_101, li_102, li_103, li_104, li_105, li_106, li_107, li_108, li_109, li_110, li_111, li_112, li_113, li_114, li_115, li_116, li_117, li_118, li_119, li_120, li_128, li_142, li_255, li_320, li_781, li_852, li_999, li_1000, li_2000, li_3000, li_9999, li_12345, li_65536, li_1000000, li_252645135, li_858993459, li_1103515245, li_1431655765]
      exact ⟨trivial, hd, h0⟩
    · have p := pk_e (l := k) (k := k) (a := a) k0 (by omega) (by omega) (by omega)
      simp (disch := omega) only [gd_t, so_some, so_bind, so_gd, so_none, Option.bind_some, iI_add, iI_sub, iI_mul, iI_neg, iI_clamp, iI_nat, vin_i, iI_le, iI_lt, iI_eq, mn_i, mx_i, if_true, if_false, if_pos, if_neg, li_0, li_1, li_2, li_3, li_4, li_5, li_6, li_7, li_8, li_9, li_10, li_11, li_12, li_14, li_15, li_16, li_20, li_21, li_24, li_28, li_30, li_31, li_40, li_41, li_42, li_43, li_44, li_45, li_47, li_48, li_49, li_57, li_59, li_60, li_61, li_62, li_63, li_70, li_71, li_76, li_80, li_96, li_97, li_98, li_99, li_100, li_101, li_102, li_103, li_104, li_105, li_106, li_107, li_108, li_109, li_110, li_111, li_112, li_113, li_114, li_115, li_116, li_117, li_118, li_119, li_120, li_128, li_142, li_255, li_320, li_781, li_852, li_999, li_1000, li_2000, li_3000, li_9999, li_12345, li_65536, li_1000000, li_252645135, li_858993459, li_1103515245, li_1431655765, p]
      exact ⟨trivial, hd, h0⟩
  | m + 1, k, f + 1, d, k0, hk, hf, hd, h0 => by
    have q := hg k k0 (by omega)
    unfold gw at q
    have p := pk_i (l := t) (k := k) ha k0 (by omega) (by omega)
    have ih := c_w2 t0 t1 ha hg m (k + 1) f _ (by omega) (by omega) (by omega) (arr_ext hd k0) (fun w => by omega)
    rw [fX10_read_L78]
    unfold fX10_read_J118 fX6_skip
    by_cases q2 : 57 < T k
    · rw [show ww T k = 96 - T k from if_pos q2] at ih
      simp (disch := omega) only [gd_t, so_some, so_bind, so_gd, so_none, Option.bind_some, iI_add, iI_sub, iI_mul, iI_neg, iI_clamp, iI_nat, vin_i, iI_le, iI_lt, iI_eq, mn_i, mx_i, if_true, if_false, if_pos, if_neg, li_0, li_1, li_2, li_3, li_4, li_5, li_6, li_7, li_8, li_9, li_10, li_11, li_12, li_14, li_15, li_16, li_20, li_21, li_24, li_28, li_30, li_31, li_40, li_41, li_42, li_43, li_44, li_45, li_47, li_48, li_49, li_57, li_59, li_60, li_61, li_62, li_63, li_70, li_71, li_76, li_80, li_96, li_97, li_98, li_99, li_100, li_101, li_102, li_103, li_104, li_105, li_106, li_107, li_108, li_109, li_110, li_111, li_112, li_113, li_114, li_115, li_116, li_117, li_118, li_119, li_120, li_128, li_142, li_255, li_320, li_781, li_852, li_999, li_1000, li_2000, li_3000, li_9999, li_12345, li_65536, li_1000000, li_252645135, li_858993459, li_1103515245, li_1431655765, p]
      exact ih
    · rw [show ww T k = T k - 48 from if_neg q2] at ih
      simp (disch := omega) only [gd_t, so_some, so_bind, so_gd, so_none, Option.bind_some, iI_add, iI_sub, iI_mul, iI_neg, iI_clamp, iI_nat, vin_i, iI_le, iI_lt, iI_eq, mn_i, mx_i, if_true, if_false, if_pos, if_neg, li_0, li_1, li_2, li_3, li_4, li_5, li_6, li_7, li_8, li_9, li_10, li_11, li_12, li_14, li_15, li_16, li_20, li_21, li_24, li_28, li_30, li_31, li_40, li_41, li_42, li_43, li_44, li_45, li_47, li_48, li_49, li_57, li_59, li_60, li_61, li_62, li_63, li_70, li_71, li_76, li_80, li_96, li_97, li_98, li_99, li_100, li_101, li_102, li_103, li_104, li_105, li_106, li_107, li_108, li_109, li_110, li_111, li_112, li_113, li_114, li_115, li_116, li_117, li_118, li_119, li_120, li_128, li_142, li_255, li_320, li_781, li_852, li_999, li_1000, li_2000, li_3000, li_9999, li_12345, li_65536, li_1000000, li_252645135, li_858993459, li_1103515245, li_1431655765, p]
      exact ih
theorem m_w2 {t : Int} (t0 : 0 ≤ t) (t1 : t ≤ 40) {a : Nat → Int32} {T : Int → Int} (ha : Arr 80 a (fun i => sb (T i))) (hg : ∀ j, 0 ≤ j → j < t → gw (T j)) :
    ∀ (m : Nat) (k : Int) (f : Nat) (d : Nat → Int32), 0 ≤ k → k + m = t → m < f → Arr k d (ww T) →
    So (fX12_weather_L72 a (iI t) f (iI k) d) (fun o => Arr t o (ww T))
  | 0, k, f + 1, d, k0, hk, hf, hd => by
    have : k = t := by omega
    subst this
    rw [fX12_weather_L72]
    simp (disch := omega) only [gd_t, so_some, so_bind, so_gd, so_none, Option.bind_some, iI_add, iI_sub, iI_mul, iI_neg, iI_clamp, iI_nat, vin_i, iI_le, iI_lt, iI_eq, mn_i, mx_i, if_true, if_false, if_pos, if_neg, li_0, li_1, li_2, li_3, li_4, li_5, li_6, li_7, li_8, li_9, li_10, li_11, li_12, li_14, li_15, li_16, li_20, li_21, li_24, li_28, li_30, li_31, li_40, li_41, li_42, li_43, li_44, li_45, li_47, li_48, li_49, li_57, li_59, li_60, li_61, li_62, li_63, li_70, li_71, li_76, li_80, li_96, li_97, li_98, li_99, li_100, li_101, li_102, li_103, li_104, li_105, li_106, li_107, li_108, li_109, li_110, li_111, li_112, li_113, li_114, li_115, li_116, li_117, li_118, li_119, li_120, li_128, li_142, li_255, li_320, li_781, li_852, li_999, li_1000, li_2000, li_3000, li_9999, li_12345, li_65536, li_1000000, li_252645135, li_858993459, li_1103515245, li_1431655765]
    exact hd
  | m + 1, k, f + 1, d, k0, hk, hf, hd => by
    have q := hg k k0 (by omega)
    unfold gw at q
    have hB : sb (T k) = T k := sb_lo (by omega)
    have ih := m_w2 t0 t1 ha hg m (k + 1) f _ (by omega) (by omega) (by omega) (arr_ext hd k0)
    rw [fX12_weather_L72]
    by_cases q2 : 57 < T k
    · have z := in_f (a := T k) (b := 48) (c := 57) (by omega) (by omega) (by omega) (by omega) (by omega) (by omega) (by omega)
      rw [show ww T k = -(T k - 97 + 1) by unfold ww; rw [if_pos q2]; omega] at ih
      simp (disch := omega) only [gd_t, so_some, so_bind, so_gd, so_none, Option.bind_some, iI_add, iI_sub, iI_mul, iI_neg, iI_clamp, iI_nat, vin_i, iI_le, iI_lt, iI_eq, mn_i, mx_i, if_true, if_false, if_pos, if_neg, li_0, li_1, li_2, li_3, li_4, li_5, li_6, li_7, li_8, li_9, li_10, li_11, li_12, li_14, li_15, li_16, li_20, li_21, li_24, li_28, li_30, li_31, li_40, li_41, li_42, li_43, li_44, li_45, li_47, li_48, li_49, li_57, li_59, li_60, li_61, li_62, li_63, li_70, li_71, li_76, li_80, li_96, li_97, li_98, li_99, li_100, li_101, li_102, li_103, li_104, li_105, li_106, li_107, li_108, li_109, li_110, li_111, li_112, li_113, li_114, li_115, li_116, li_117, li_118, li_119, li_120, li_128, li_142, li_255, li_320, li_781, li_852, li_999, li_1000, li_2000, li_3000, li_9999, li_12345, li_65536, li_1000000, li_252645135, li_858993459, li_1103515245, li_1431655765, ha.at, hB, z]
      exact ih
    · have z := in_t (a := T k) (b := 48) (c := 57) (by omega) (by omega) (by omega)
      rw [show ww T k = T k - 48 from if_neg q2] at ih
      simp (disch := omega) only [gd_t, so_some, so_bind, so_gd, so_none, Option.bind_some, iI_add, iI_sub, iI_mul, iI_neg, iI_clamp, iI_nat, vin_i, iI_le, iI_lt, iI_eq, mn_i, mx_i, if_true, if_false, if_pos, if_neg, li_0, li_1, li_2, li_3, li_4, li_5, li_6, li_7, li_8, li_9, li_10, li_11, li_12, li_14, li_15, li_16, li_20, li_21, li_24, li_28, li_30, li_31, li_40, li_41, li_42, li_43, li_44, li_45, li_47, li_48, li_49, li_57, li_59, li_60, li_61, li_62, li_63, li_70, li_71, li_76, li_80, li_96, li_97, li_98, li_99, li_100, li_101, li_102, li_103, li_104, li_105, li_106, li_107, li_108, li_109, li_110, li_111, li_112, li_113, li_114, li_115, li_116, li_117, li_118, li_119, li_120, li_128, li_142, li_255, li_320, li_781, li_852, li_999, li_1000, li_2000, li_3000, li_9999, li_12345, li_65536, li_1000000, li_252645135, li_858993459, li_1103515245, li_1431655765, ha.at, hB, z]
      exact ih
theorem c_inch0 {W : Int → Int} {a : Nat → Int32} (ha : a 0 = iI 0) {d : Int} (d0 : 0 ≤ d) (d1 : d < 2147483648) : fX10_inchesIn (iI 1) a (iI d) = some (iI (wfn W 0 d)) := by
  have h := c_inch (c := 1) (W := fun _ => 0) (by omega) (by omega) (a := a) (fun x x0 x1 => by rw [show x = 0 by omega]; exact ha) d0 d1
  rw [h]
  rfl
theorem m_wea0 {W : Int → Int} (a : Nat → Int32) (x : Int32) {d : Int} : fX12_weatherOf (iI 0) a x = some (iI (wfn W 0 d)) := by
  unfold fX12_weatherOf
  rw [if_pos (by decide)]
  rfl
theorem s_weather {n : Int} {σ : CS} {τ : MS} (h : R n σ τ) (hn : n < 1000) : Ok n (x_weather σ) (y_weather τ) := by
  obtain ⟨n0, g, c, m, G⟩ := h
  obtain ⟨c1, c2, c3, c4, c5, c6, c7, c8, c9⟩ := c
  obtain ⟨m1, m2, m3, m4, m5, m6, m7, m8, m9⟩ := m
  have e := G.1.1
  have hS := G.2.2.1
  have a7 := hS.2.2
  have g6 := G.2.2.2.2.2.1
  have hmn : mn (iI g.2.2.2.2.2.2.2.1) (iI 40) = iI (min g.2.2.2.2.2.2.2.1 40) := mn_i (by omega) (by omega) (by omega) (by omega)
  have em : ∀ {σ' : CS} {τ' : MS}, RC ((g.1, g.2.1, g.2.2.1, g.2.2.2.1, g.2.2.2.2.1, g.2.2.2.2.2.1, g.2.2.2.2.2.2.1, 0, g.2.2.2.2.2.2.2.2.1, g.2.2.2.2.2.2.2.2.2.1, g.2.2.2.2.2.2.2.2.2.2.1, g.2.2.2.2.2.2.2.2.2.2.2.1, g.2.2.2.2.2.2.2.2.2.2.2.2.1, g.2.2.2.2.2.2.2.2.2.2.2.2.2.1, g.2.2.2.2.2.2.2.2.2.2.2.2.2.2.1, g.2.2.2.2.2.2.2.2.2.2.2.2.2.2.2) : GH) σ' → RM ((g.1, g.2.1, g.2.2.1, g.2.2.2.1, g.2.2.2.2.1, g.2.2.2.2.2.1, g.2.2.2.2.2.2.1, 0, g.2.2.2.2.2.2.2.2.1, g.2.2.2.2.2.2.2.2.2.1, g.2.2.2.2.2.2.2.2.2.2.1, g.2.2.2.2.2.2.2.2.2.2.2.1, g.2.2.2.2.2.2.2.2.2.2.2.2.1, g.2.2.2.2.2.2.2.2.2.2.2.2.2.1, g.2.2.2.2.2.2.2.2.2.2.2.2.2.2.1, g.2.2.2.2.2.2.2.2.2.2.2.2.2.2.2) : GH) τ' → R (n + 1) σ' τ' := by
    intro σ' τ' c m
    obtain ⟨h1, h2, h3, h4, h5, h6, h7, h8, h9⟩ := G.mono (show n ≤ n + 1 by omega)
    exact ⟨by omega, _, c, m, h1, h2, h3, h4, h5, ⟨Int.le_refl 0, by show (0 : Int) ≤ 80; omega, h6.2.2⟩, h7, h8, h9⟩
  unfold Ok x_weather y_weather fX11_weather fX12_weather fX10_read fX6_open fX6_empty
  rw [c6.2, m6.2]
  simp only [li_0, li_40, hmn, Option.bind_some]
  rcases w_1 g6.1 g6.2.1 c6.1 m6.1 g6.2.2 (σ.1 34) (σ.1 33) (σ.2.1 36) (τ.1 24) (iI 0) (iI 0) (τ.2.1 23) (min g.2.2.2.2.2.2.2.1 40).toNat 0 FU (by omega) (by omega) (show _ < 4000 by omega) (fun j _ _ => by omega) with ⟨k1, k2, k3, k4⟩ | ⟨j, k1, k2⟩
  · simp only [k2, Option.bind_some, Sum.elim_inl]
    unfold fX10_read_J46 fX6_isThrough
    by_cases q : g.2.2.2.2.2.2.2.1 ≤ 40
    · have el : min g.2.2.2.2.2.2.2.1 40 = g.2.2.2.2.2.2.2.1 := by omega
      rw [el] at k1
      simp only [k3 q, Option.bind_some, Sum.elim_inl, li_40, li_0, el]
      unfold fX6_open fX10_read_J139
      simp (disch := omega) only [gd_t, so_some, so_bind, so_gd, so_none, Option.bind_some, iI_add, iI_sub, iI_mul, iI_neg, iI_clamp, iI_nat, vin_i, iI_le, iI_lt, iI_eq, mn_i, mx_i, if_true, if_false, if_pos, if_neg, li_0, li_1, li_2, li_3, li_4, li_5, li_6, li_7, li_8, li_9, li_10, li_11, li_12, li_14, li_15, li_16, li_20, li_21, li_24, li_28, li_30, li_31, li_40, li_41, li_42, li_43, li_44, li_45, li_47, li_48, li_49, li_57, li_59, li_60, li_61, li_62, li_63, li_70, li_71, li_76, li_80, li_96, li_97, li_98, li_99, li_100, li_101, li_102, li_103, li_104, li_105, li_106, li_107, li_108, li_109, li_110, li_111, li_112, li_113, li_114, li_115, li_116, li_117, li_118, li_119, li_120, li_128, li_142, li_255, li_320, li_781, li_852, li_999, li_1000, li_2000, li_3000, li_9999, li_12345, li_65536, li_1000000, li_252645135, li_858993459, li_1103515245, li_1431655765, hmn, el]
      refine so_mono (c_w2 g6.1 q c6.1 k1 g.2.2.2.2.2.2.2.1.toNat 0 FU _ (by omega) (by omega) (show _ < 4000 by omega) (fun x _ _ => by omega) (fun _ => if_pos rfl)) ?_
      rintro o ⟨o1, o2, o3⟩
      refine so_mono (m_w2 g6.1 q m6.1 k1 g.2.2.2.2.2.2.2.1.toNat 0 FU _ (by omega) (by omega) (show _ < 4000 by omega) (fun x _ _ => by omega)) ?_
      intro p hp
      have hw : ∀ d, -9 ≤ wfn (ww g.2.2.2.2.2.2.1) g.2.2.2.2.2.2.2.1 d ∧ wfn (ww g.2.2.2.2.2.2.1) g.2.2.2.2.2.2.2.1 d ≤ 9 := by
        intro d
        unfold wfn
        split
        · omega
        · have r0 := Int.emod_nonneg d (show g.2.2.2.2.2.2.2.1 ≠ 0 by omega)
          have r1 := Int.emod_lt_of_pos d (show 0 < g.2.2.2.2.2.2.2.1 by omega)
          have := k1 _ r0 r1
          unfold gw at this
          unfold ww
          split <;> omega
      obtain ⟨h1, h2, h3, h4, h5, h6, h7, h8, h9⟩ := G.mono (show n ≤ n + 1 by omega)
      have e1 : mx (iI 1) o.1 = iI (max 1 g.2.2.2.2.2.2.2.1) := by
        rw [o1]
        simp (disch := omega) only [gd_t, so_some, so_bind, so_gd, so_none, Option.bind_some, iI_add, iI_sub, iI_mul, iI_neg, iI_clamp, iI_nat, vin_i, iI_le, iI_lt, iI_eq, mn_i, mx_i, if_true, if_false, if_pos, if_neg, li_0, li_1, li_2, li_3, li_4, li_5, li_6, li_7, li_8, li_9, li_10, li_11, li_12, li_14, li_15, li_16, li_20, li_21, li_24, li_28, li_30, li_31, li_40, li_41, li_42, li_43, li_44, li_45, li_47, li_48, li_49, li_57, li_59, li_60, li_61, li_62, li_63, li_70, li_71, li_76, li_80, li_96, li_97, li_98, li_99, li_100, li_101, li_102, li_103, li_104, li_105, li_106, li_107, li_108, li_109, li_110, li_111, li_112, li_113, li_114, li_115, li_116, li_117, li_118, li_119, li_120, li_128, li_142, li_255, li_320, li_781, li_852, li_999, li_1000, li_2000, li_3000, li_9999, li_12345, li_65536, li_1000000, li_252645135, li_858993459, li_1103515245, li_1431655765]
      have ci : ∀ d, 0 ≤ d → d < 2147483648 → fX10_inchesIn (mx (iI 1) o.1) o.2.1 (iI d) = some (iI (wfn (ww g.2.2.2.2.2.2.1) g.2.2.2.2.2.2.2.1 d)) := by
        intro d d0 d1
        rw [e1]
        by_cases z : g.2.2.2.2.2.2.2.1 = 0
        · rw [z]
          exact c_inch0 (o3 z) d0 d1
        · rw [show max 1 g.2.2.2.2.2.2.2.1 = g.2.2.2.2.2.2.2.1 by omega]
          exact c_inch (by omega) q o2 d0 d1
      have mi : ∀ d, 0 ≤ d → d < 2147483648 → fX12_weatherOf (iI g.2.2.2.2.2.2.2.1) p (iI d) = some (iI (wfn (ww g.2.2.2.2.2.2.1) g.2.2.2.2.2.2.2.1 d)) := by
        intro d d0 d1
        by_cases z : g.2.2.2.2.2.2.2.1 = 0
        · rw [z]
          exact m_wea0 _ _
        · exact m_wea (by omega) q hp d0 d1
      exact ⟨o1, by omega, ((Ew g.1 (wfn (ww g.2.2.2.2.2.2.1) g.2.2.2.2.2.2.2.1), g.2.1, g.2.2.1, g.2.2.2.2.2.2.2.1, g.2.2.2.2.1, g.2.2.2.2.2.1, g.2.2.2.2.2.2.1, 0, g.2.2.2.2.2.2.2.2.1, g.2.2.2.2.2.2.2.2.2.1, g.2.2.2.2.2.2.2.2.2.2.1, g.2.2.2.2.2.2.2.2.2.2.2.1, g.2.2.2.2.2.2.2.2.2.2.2.2.1, g.2.2.2.2.2.2.2.2.2.2.2.2.2.1, g.2.2.2.2.2.2.2.2.2.2.2.2.2.2.1, g.2.2.2.2.2.2.2.2.2.2.2.2.2.2.2) : GH), ⟨⟨c1.1, c1.2.1, c1.2.2.1, ci, c1.2.2.2.2⟩, c2, c3, o1, c5, ⟨c6.1, rfl⟩, c7, c8, c9⟩, ⟨⟨m1.1, m1.2.1, m1.2.2.1, mi, m1.2.2.2.2⟩, m2, m3, rfl, m5, ⟨m6.1, rfl⟩, m7, m8, m9⟩, h1.w hw, h2, h3, ⟨g6.1, q⟩, h5, ⟨Int.le_refl 0, by show (0 : Int) ≤ 80; omega, h6.2.2⟩, h7, h8, h9⟩
    · have el : min g.2.2.2.2.2.2.2.1 40 = 40 := by omega
      simp only [k4 (by omega), Option.bind_some, Sum.elim_inr, li_40, li_0, el]
      unfold fX6_fault
      simp (disch := omega) only [gd_t, so_some, so_bind, so_gd, so_none, Option.bind_some, iI_add, iI_sub, iI_mul, iI_neg, iI_clamp, iI_nat, vin_i, iI_le, iI_lt, iI_eq, mn_i, mx_i, if_true, if_false, if_pos, if_neg, li_0, li_1, li_2, li_3, li_4, li_5, li_6, li_7, li_8, li_9, li_10, li_11, li_12, li_14, li_15, li_16, li_20, li_21, li_24, li_28, li_30, li_31, li_40, li_41, li_42, li_43, li_44, li_45, li_47, li_48, li_49, li_57, li_59, li_60, li_61, li_62, li_63, li_70, li_71, li_76, li_80, li_96, li_97, li_98, li_99, li_100, li_101, li_102, li_103, li_104, li_105, li_106, li_107, li_108, li_109, li_110, li_111, li_112, li_113, li_114, li_115, li_116, li_117, li_118, li_119, li_120, li_128, li_142, li_255, li_320, li_781, li_852, li_999, li_1000, li_2000, li_3000, li_9999, li_12345, li_65536, li_1000000, li_252645135, li_858993459, li_1103515245, li_1431655765]
      exact ⟨(by first | rfl | trivial), em ⟨c1, c2, c3, c4, c5, ⟨c6.1, rfl⟩, c7, c8, c9⟩ ⟨m1, m2, m3, m4, m5, ⟨m6.1, rfl⟩, m7, m8, m9⟩⟩
  · simp only [k1, k2, Option.bind_some, Sum.elim_inr, so_some]
    exact ⟨(by first | rfl | trivial), em ⟨c1, c2, c3, c4, c5, ⟨c6.1, rfl⟩, c7, c8, c9⟩ ⟨m1, m2, m3, m4, m5, ⟨m6.1, rfl⟩, m7, m8, m9⟩⟩
