/-! town -/
def hk (T : Int → Int) (m k : Int) : Int := if k < m then T k else -1
theorem hk_b {T : Int → Int} (hT : ∀ i, 0 ≤ T i ∧ T i ≤ 255) (m k : Int) : -1 ≤ hk T m k ∧ hk T m k ≤ 255 := by
  unfold hk
  have := hT k
  split <;> omega
theorem c_peek {T : Int → Int} {m k : Int} {a : Nat → Int32} (ha : Arr 80 a T) (k0 : 0 ≤ k) (m0 : 0 ≤ m) (m1 : m ≤ 80) (k1 : k < 1000) : fX6_peek (iI k) (iI m) a = some (iI (hk T m k)) := by
  unfold hk
  by_cases q : k < m
  · rw [if_pos q]; exact pk_i ha k0 q m1
  · rw [if_neg q]; exact pk_e k0 (by omega) m0 (by omega)
theorem m_here {n : Nat} {T : Int → Int} {l tp k : Int} {a : Nat → Int32} (ha : Arr n a (fun i => sb (T i))) (k0 : 0 ≤ k) (l0 : 0 ≤ l) (l1 : l ≤ 1000) (t0 : 0 ≤ tp) (t1 : tp ≤ 1000) (k1 : k < 1000) (hn : min l tp ≤ n) (n1 : n ≤ 1000) : fX12_here n (iI l) (iI tp) (iI k) a = some (iI (sb (hk T (min l tp) k))) := by
  unfold fX12_here hk
  by_cases q : l ≤ k
  · rw [if_neg (show ¬ k < min l tp by omega)]
    simp (disch := omega) only [gd_t, so_some, so_bind, so_gd, so_none, Option.bind_some, iI_add, iI_sub, iI_mul, iI_neg, iI_clamp, iI_nat, vin_i, iI_le, iI_lt, iI_eq, mn_i, mx_i, if_true, if_false, if_pos, if_neg, li_0, li_1, li_2, li_3, li_4, li_5, li_6, li_7, li_8, li_9, li_10, li_11, li_12, li_14, li_15, li_16, li_20, li_21, li_24, li_28, li_30, li_31, li_40, li_41, li_42, li_43, li_44, li_45, li_47, li_48, li_49, li_57, li_59, li_60, li_61, li_62, li_63, li_70, li_71, li_76, li_80, li_96, li_97, li_98, li_99, li_100, li_101, li_102, li_103, li_104, li_105, li_106, li_107, li_108, li_109, li_110, li_111, li_112, li_113, li_114, li_115, li_116, li_117, li_118, li_119, li_120, li_128, li_142, li_255, li_320, li_781, li_852, li_999, li_1000, li_2000, li_3000, li_9999, li_12345, li_65536, li_1000000, li_252645135, li_858993459, li_1103515245, li_1431655765]
    rfl
  · by_cases q2 : tp ≤ k
    · rw [if_neg (show ¬ k < min l tp by omega)]
      simp (disch := omega) only [gd_t, so_some, so_bind, so_gd, so_none, Option.bind_some, iI_add, iI_sub, iI_mul, iI_neg, iI_clamp, iI_nat, vin_i, iI_le, iI_lt, iI_eq, mn_i, mx_i, if_true, if_false, if_pos, if_neg, li_0, li_1, li_2, li_3, li_4, li_5, li_6, li_7, li_8, li_9, li_10, li_11, li_12, li_14, li_15, li_16, li_20, li_21, li_24, li_28, li_30, li_31, li_40, li_41, li_42, li_43, li_44, li_45, li_47, li_48, li_49, li_57, li_59, li_60, li_61, li_62, li_63, li_70, li_71, li_76, li_80, li_96, li_97, li_98, li_99, li_100, li_101, li_102, li_103, li_104, li_105, li_106, li_107, li_108, li_109, li_110, li_111, li_112, li_113, li_114, li_115, li_116, li_117, li_118, li_119, li_120, li_128, li_142, li_255, li_320, li_781, li_852, li_999, li_1000, li_2000, li_3000, li_9999, li_12345, li_65536, li_1000000, li_252645135, li_858993459, li_1103515245, li_1431655765]
      rfl
    · rw [if_pos (show k < min l tp by omega)]
      simp (disch := omega) only [gd_t, so_some, so_bind, so_gd, so_none, Option.bind_some, iI_add, iI_sub, iI_mul, iI_neg, iI_clamp, iI_nat, vin_i, iI_le, iI_lt, iI_eq, mn_i, mx_i, if_true, if_false, if_pos, if_neg, li_0, li_1, li_2, li_3, li_4, li_5, li_6, li_7, li_8, li_9, li_10, li_11, li_12, li_14, li_15, li_16, li_20, li_21, li_24, li_28, li_30, li_31, li_40, li_41, li_42, li_43, li_44, li_45, li_47, li_48, li_49, li_57, li_59, li_60, li_61, li_62, li_63, li_70, li_71, li_76, li_80, li_96, li_97, li_98, li_99, li_100, li_101, li_102, li_103, li_104, li_105, li_106, li_107, li_108, li_109, li_110, li_111, li_112, li_113, li_114, li_115, li_116, li_117, li_118, li_119, li_120, li_128, li_142, li_255, li_320, li_781, li_852, li_999, li_1000, li_2000, li_3000, li_9999, li_12345, li_65536, li_1000000, li_252645135, li_858993459, li_1103515245, li_1431655765, ha.at]
theorem sb_c {x c : Int} (x0 : -1 ≤ x) (x1 : x ≤ 255) (c0 : 0 ≤ c) (c1 : c < 128) : (iI (sb x) = iI c) ↔ x = c := by
  unfold sb
  by_cases q : x < 128
  · rw [if_pos q, iI_eq (by omega) (by omega) (by omega) (by omega)]
  · rw [if_neg q, iI_eq (by omega) (by omega) (by omega) (by omega)]
    omega
theorem m_passes {n : Nat} {T : Int → Int} (hT : ∀ i, 0 ≤ T i ∧ T i ≤ 255) {l tp k c : Int} {a : Nat → Int32} (ha : Arr n a (fun i => sb (T i))) (k0 : 0 ≤ k) (l0 : 0 ≤ l) (l1 : l ≤ 1000) (t0 : 0 ≤ tp) (t1 : tp ≤ 1000) (k1 : k < 1000) (hn : min l tp ≤ n) (n1 : n ≤ 1000) (c0 : 0 ≤ c) (c1 : c < 128) :
    fX12_passes n (iI l) (iI tp) (iI k) (iI (-1)) a (iI c) = if hk T (min l tp) k = c then some (iI 1, iI (k + 1)) else some (iI 0, iI k) := by
  have b := hk_b hT (min l tp) k
  have e := sb_c b.1 b.2 c0 c1
  unfold fX12_passes fX12_fine
  rw [m_here ha k0 l0 l1 t0 t1 k1 hn n1]
  by_cases q : hk T (min l tp) k = c
  · rw [if_pos q]
    simp (disch := omega) only [gd_t, so_some, so_bind, so_gd, so_none, Option.bind_some, iI_add, iI_sub, iI_mul, iI_neg, iI_clamp, iI_nat, vin_i, iI_le, iI_lt, iI_eq, mn_i, mx_i, if_true, if_false, if_pos, if_neg, li_0, li_1, li_2, li_3, li_4, li_5, li_6, li_7, li_8, li_9, li_10, li_11, li_12, li_14, li_15, li_16, li_20, li_21, li_24, li_28, li_30, li_31, li_40, li_41, li_42, li_43, li_44, li_45, li_47, li_48, li_49, li_57, li_59, li_60, li_61, li_62, li_63, li_70, li_71, li_76, li_80, li_96, li_97, li_98, li_99, li_100, li_101, li_102, li_103, li_104, li_105, li_106, li_107, li_108, li_109, li_110, li_111, li_112, li_113, li_114, li_115, li_116, li_117, li_118, li_119, li_120, li_128, li_142, li_255, li_320, li_781, li_852, li_999, li_1000, li_2000, li_3000, li_9999, li_12345, li_65536, li_1000000, li_252645135, li_858993459, li_1103515245, li_1431655765, e.2 q]
  · rw [if_neg q]
    have e2 : ¬ iI (sb (hk T (min l tp) k)) = iI c := fun z => q (e.1 z)
    simp (disch := omega) only [gd_t, so_some, so_bind, so_gd, so_none, Option.bind_some, iI_add, iI_sub, iI_mul, iI_neg, iI_clamp, iI_nat, vin_i, iI_le, iI_lt, iI_eq, mn_i, mx_i, if_true, if_false, if_pos, if_neg, li_0, li_1, li_2, li_3, li_4, li_5, li_6, li_7, li_8, li_9, li_10, li_11, li_12, li_14, li_15, li_16, li_20, li_21, li_24, li_28, li_30, li_31, li_40, li_41, li_42, li_43, li_44, li_45, li_47, li_48, li_49, li_57, li_59, li_60, li_61, li_62, li_63, li_70, li_71, li_76, li_80, li_96, li_97, li_98, li_99, li_100, li_101, li_102, li_103, li_104, li_105, li_106, li_107, li_108, li_109, li_110, li_111, li_112, li_113, li_114, li_115, li_116, li_117, li_118, li_119, li_120, li_128, li_142, li_255, li_320, li_781, li_852, li_999, li_1000, li_2000, li_3000, li_9999, li_12345, li_65536, li_1000000, li_252645135, li_858993459, li_1103515245, li_1431655765, e2]
theorem m_passes_f {n : Nat} {l tp k c : Int32} {w : Int} {a : Nat → Int32} (w0 : 0 ≤ w) (w1 : w < 1000) : fX12_passes n l tp k (iI w) a c = some (iI 0, k) := by
  unfold fX12_passes fX12_fine
  simp (disch := omega) only [gd_t, so_some, so_bind, so_gd, so_none, Option.bind_some, iI_add, iI_sub, iI_mul, iI_neg, iI_clamp, iI_nat, vin_i, iI_le, iI_lt, iI_eq, mn_i, mx_i, if_true, if_false, if_pos, if_neg, li_0, li_1, li_2, li_3, li_4, li_5, li_6, li_7, li_8, li_9, li_10, li_11, li_12, li_14, li_15, li_16, li_20, li_21, li_24, li_28, li_30, li_31, li_40, li_41, li_42, li_43, li_44, li_45, li_47, li_48, li_49, li_57, li_59, li_60, li_61, li_62, li_63, li_70, li_71, li_76, li_80, li_96, li_97, li_98, li_99, li_100, li_101, li_102, li_103, li_104, li_105, li_106, li_107, li_108, li_109, li_110, li_111, li_112, li_113, li_114, li_115, li_116, li_117, li_118, li_119, li_120, li_128, li_142, li_255, li_320, li_781, li_852, li_999, li_1000, li_2000, li_3000, li_9999, li_12345, li_65536, li_1000000, li_252645135, li_858993459, li_1103515245, li_1431655765]
theorem m_fault_f {w : Int} (w0 : 0 ≤ w) (w1 : w < 1000) (p : Int32) : fX12_fault (iI w) p = some (iI w) := by
  unfold fX12_fault fX12_fine
  simp (disch := omega) only [gd_t, so_some, so_bind, so_gd, so_none, Option.bind_some, iI_add, iI_sub, iI_mul, iI_neg, iI_clamp, iI_nat, vin_i, iI_le, iI_lt, iI_eq, mn_i, mx_i, if_true, if_false, if_pos, if_neg, li_0, li_1, li_2, li_3, li_4, li_5, li_6, li_7, li_8, li_9, li_10, li_11, li_12, li_14, li_15, li_16, li_20, li_21, li_24, li_28, li_30, li_31, li_40, li_41, li_42, li_43, li_44, li_45, li_47, li_48, li_49, li_57, li_59, li_60, li_61, li_62, li_63, li_70, li_71, li_76, li_80, li_96, li_97, li_98, li_99, li_100, li_101, li_102, li_103, li_104, li_105, li_106, li_107, li_108, li_109, li_110, li_111, li_112, li_113, li_114, li_115, li_116, li_117, li_118, li_119, li_120, li_128, li_142, li_255, li_320, li_781, li_852, li_999, li_1000, li_2000, li_3000, li_9999, li_12345, li_65536, li_1000000, li_252645135, li_858993459, li_1103515245, li_1431655765]
theorem m_fault_t (p : Int32) : fX12_fault (iI (-1)) p = some p := by
  unfold fX12_fault fX12_fine
  simp (disch := omega) only [gd_t, so_some, so_bind, so_gd, so_none, Option.bind_some, iI_add, iI_sub, iI_mul, iI_neg, iI_clamp, iI_nat, vin_i, iI_le, iI_lt, iI_eq, mn_i, mx_i, if_true, if_false, if_pos, if_neg, li_0, li_1, li_2, li_3, li_4, li_5, li_6, li_7, li_8, li_9, li_10, li_11, li_12, li_14, li_15, li_16, li_20, li_21, li_24, li_28, li_30, li_31, li_40, li_41, li_42, li_43, li_44, li_45, li_47, li_48, li_49, li_57, li_59, li_60, li_61, li_62, li_63, li_70, li_71, li_76, li_80, li_96, li_97, li_98, li_99, li_100, li_101, li_102, li_103, li_104, li_105, li_106, li_107, li_108, li_109, li_110, li_111, li_112, li_113, li_114, li_115, li_116, li_117, li_118, li_119, li_120, li_128, li_142, li_255, li_320, li_781, li_852, li_999, li_1000, li_2000, li_3000, li_9999, li_12345, li_65536, li_1000000, li_252645135, li_858993459, li_1103515245, li_1431655765]
theorem m_need_f {n : Nat} {l tp k c : Int32} {w : Int} {a : Nat → Int32} (w0 : 0 ≤ w) (w1 : w < 1000) : fX12_need n l tp k (iI w) a c = some (k, iI w) := by
  unfold fX12_need
  simp (disch := omega) only [gd_t, so_some, so_bind, so_gd, so_none, Option.bind_some, iI_add, iI_sub, iI_mul, iI_neg, iI_clamp, iI_nat, vin_i, iI_le, iI_lt, iI_eq, mn_i, mx_i, if_true, if_false, if_pos, if_neg, li_0, li_1, li_2, li_3, li_4, li_5, li_6, li_7, li_8, li_9, li_10, li_11, li_12, li_14, li_15, li_16, li_20, li_21, li_24, li_28, li_30, li_31, li_40, li_41, li_42, li_43, li_44, li_45, li_47, li_48, li_49, li_57, li_59, li_60, li_61, li_62, li_63, li_70, li_71, li_76, li_80, li_96, li_97, li_98, li_99, li_100, li_101, li_102, li_103, li_104, li_105, li_106, li_107, li_108, li_109, li_110, li_111, li_112, li_113, li_114, li_115, li_116, li_117, li_118, li_119, li_120, li_128, li_142, li_255, li_320, li_781, li_852, li_999, li_1000, li_2000, li_3000, li_9999, li_12345, li_65536, li_1000000, li_252645135, li_858993459, li_1103515245, li_1431655765, m_passes_f w0 w1, m_fault_f w0 w1]
theorem m_number_f {n : Nat} {l tp k d lo hi : Int32} {w : Int} {a : Nat → Int32} (w0 : 0 ≤ w) (w1 : w < 1000) : fX12_number n l tp k (iI w) a d lo hi = some (iI 0, k, iI w) := by
  unfold fX12_number fX12_fine
  simp (disch := omega) only [gd_t, so_some, so_bind, so_gd, so_none, Option.bind_some, iI_add, iI_sub, iI_mul, iI_neg, iI_clamp, iI_nat, vin_i, iI_le, iI_lt, iI_eq, mn_i, mx_i, if_true, if_false, if_pos, if_neg, li_0, li_1, li_2, li_3, li_4, li_5, li_6, li_7, li_8, li_9, li_10, li_11, li_12, li_14, li_15, li_16, li_20, li_21, li_24, li_28, li_30, li_31, li_40, li_41, li_42, li_43, li_44, li_45, li_47, li_48, li_49, li_57, li_59, li_60, li_61, li_62, li_63, li_70, li_71, li_76, li_80, li_96, li_97, li_98, li_99, li_100, li_101, li_102, li_103, li_104, li_105, li_106, li_107, li_108, li_109, li_110, li_111, li_112, li_113, li_114, li_115, li_116, li_117, li_118, li_119, li_120, li_128, li_142, li_255, li_320, li_781, li_852, li_999, li_1000, li_2000, li_3000, li_9999, li_12345, li_65536, li_1000000, li_252645135, li_858993459, li_1103515245, li_1431655765]
def dg (x : Int) : Prop := 48 ≤ x ∧ x ≤ 57
theorem m_dig {x : Int} (x0 : -1 ≤ x) (x1 : x ≤ 255) : (dg x → fX12_in (iI (sb x)) (iI 48) (iI 57) = some (iI 1)) ∧ (¬ dg x → fX12_in (iI (sb x)) (iI 48) (iI 57) = some (iI 0)) := by
  unfold dg sb
  constructor
  · intro q
    rw [if_pos (by omega)]
    exact in_t (by omega) (by omega) q
  · intro q
    by_cases w : x < 128
    · rw [if_pos w]
      exact in_f (by omega) (by omega) (by omega) (by omega) (by omega) (by omega) q
    · rw [if_neg w]
      exact in_f (by omega) (by omega) (by omega) (by omega) (by omega) (by omega) (by omega)
/-- the end of number(): what is out of bounds is wrong at its last digit -/
theorem m_num_end {k k' v lo hi : Int} (h1 : k ≠ k') (k0 : 0 ≤ k) (k1 : k' < 1000) (kk : k < k') (v0 : 0 ≤ v) (v1 : v ≤ 999) (lo0 : 0 ≤ lo) (hi1 : hi ≤ 999) (lh : lo ≤ hi) : fX12_number_J71 (iI lo) (iI hi) (iI k) (iI v) (iI k') (iI (-1)) = if lo ≤ v ∧ v ≤ hi then some (iI v, iI k', iI (-1)) else some (iI 0, iI k', iI (k' - 1)) := by
  unfold fX12_number_J71 fX12_number_J111 fX12_fine
  by_cases q : lo ≤ v ∧ v ≤ hi
  · have z := in_t (a := v) (b := lo) (c := hi) (by omega) (by omega) q
    rw [if_pos q]
    simp (disch := omega) only [gd_t, so_some, so_bind, so_gd, so_none, Option.bind_some, iI_add, iI_sub, iI_mul, iI_neg, iI_clamp, iI_nat, vin_i, iI_le, iI_lt, iI_eq, mn_i, mx_i, if_true, if_false, if_pos, if_neg, li_0, li_1, li_2, li_3, li_4, li_5, li_6, li_7, li_8, li_9, li_10, li_11, li_12, li_14, li_15, li_16, li_20, li_21, li_24, li_28, li_30, li_31, li_40, li_41, li_42, li_43, li_44, li_45, li_47, li_48, li_49, li_57, li_59, li_60, li_61, li_62, li_63, li_70, li_71, li_76, li_80, li_96, li_97, li_98, li_99, li_100, li_101, li_102, li_103, li_104, li_105, li_106, li_107, li_108, li_109, li_110, li_111, li_112, li_113, li_114, li_115, li_116, li_117, li_118, li_119, li_120, li_128, li_142, li_255, li_320, li_781, li_852, li_999, li_1000, li_2000, li_3000, li_9999, li_12345, li_65536, li_1000000, li_252645135, li_858993459, li_1103515245, li_1431655765, z]
  · have z := in_f (a := v) (b := lo) (c := hi) (by omega) (by omega) (by omega) (by omega) (by omega) (by omega) q
    rw [if_neg q]
    simp (disch := omega) only [gd_t, so_some, so_bind, so_gd, so_none, Option.bind_some, iI_add, iI_sub, iI_mul, iI_neg, iI_clamp, iI_nat, vin_i, iI_le, iI_lt, iI_eq, mn_i, mx_i, if_true, if_false, if_pos, if_neg, li_0, li_1, li_2, li_3, li_4, li_5, li_6, li_7, li_8, li_9, li_10, li_11, li_12, li_14, li_15, li_16, li_20, li_21, li_24, li_28, li_30, li_31, li_40, li_41, li_42, li_43, li_44, li_45, li_47, li_48, li_49, li_57, li_59, li_60, li_61, li_62, li_63, li_70, li_71, li_76, li_80, li_96, li_97, li_98, li_99, li_100, li_101, li_102, li_103, li_104, li_105, li_106, li_107, li_108, li_109, li_110, li_111, li_112, li_113, li_114, li_115, li_116, li_117, li_118, li_119, li_120, li_128, li_142, li_255, li_320, li_781, li_852, li_999, li_1000, li_2000, li_3000, li_9999, li_12345, li_65536, li_1000000, li_252645135, li_858993459, li_1103515245, li_1431655765, z, m_fault_t]
theorem m_num_0 {k lo hi v : Int} (k0 : 0 ≤ k) (k1 : k < 1000) : fX12_number_J71 (iI lo) (iI hi) (iI k) (iI v) (iI k) (iI (-1)) = some (iI 0, iI k, iI k) := by
  unfold fX12_number_J71 fX12_number_J111 fX12_fine
  simp (disch := omega) only [gd_t, so_some, so_bind, so_gd, so_none, Option.bind_some, iI_add, iI_sub, iI_mul, iI_neg, iI_clamp, iI_nat, vin_i, iI_le, iI_lt, iI_eq, mn_i, mx_i, if_true, if_false, if_pos, if_neg, li_0, li_1, li_2, li_3, li_4, li_5, li_6, li_7, li_8, li_9, li_10, li_11, li_12, li_14, li_15, li_16, li_20, li_21, li_24, li_28, li_30, li_31, li_40, li_41, li_42, li_43, li_44, li_45, li_47, li_48, li_49, li_57, li_59, li_60, li_61, li_62, li_63, li_70, li_71, li_76, li_80, li_96, li_97, li_98, li_99, li_100, li_101, li_102, li_103, li_104, li_105, li_106, li_107, li_108, li_109, li_110, li_111, li_112, li_113, li_114, li_115, li_116, li_117, li_118, li_119, li_120, li_128, li_142, li_255, li_320, li_781, li_852, li_999, li_1000, li_2000, li_3000, li_9999, li_12345, li_65536, li_1000000, li_252645135, li_858993459, li_1103515245, li_1431655765, m_fault_t]
/-- one digit, or two -/
theorem nm_2 {n : Nat} {T : Int → Int} (hT : ∀ i, 0 ≤ T i ∧ T i ≤ 255) {l tp k : Int} {a b : Nat → Int32} (ha : Arr 80 a T) (hb : Arr n b (fun i => sb (T i))) (k0 : 0 ≤ k) (l0 : 0 ≤ l) (l1 : l ≤ 1000) (t0 : 0 ≤ tp) (t1 : tp ≤ 1000) (k1 : k < 900) (hn : min l tp ≤ n) (n1 : n ≤ 1000) (m8 : min l tp ≤ 80) :
    ∃ v k' : Int, fX6_takeNumber (iI k) (iI (min l tp)) a (iI 2) = some (iI v, iI k') ∧
      ((v = -1 ∧ k' = k ∧ ∀ lo hi : Int, fX12_number n (iI l) (iI tp) (iI k) (iI (-1)) b (iI 2) (iI lo) (iI hi) = some (iI 0, iI k, iI k)) ∨
       (0 ≤ v ∧ v ≤ 99 ∧ k < k' ∧ k' ≤ k + 2 ∧ k' ≤ min l tp ∧ ∀ lo hi : Int, 0 ≤ lo → lo ≤ hi → hi ≤ 999 → fX12_number n (iI l) (iI tp) (iI k) (iI (-1)) b (iI 2) (iI lo) (iI hi) = if lo ≤ v ∧ v ≤ hi then some (iI v, iI k', iI (-1)) else some (iI 0, iI k', iI (k' - 1)))) := by
  have x := hk_b hT (min l tp) k
  have y := hk_b hT (min l tp) (k + 1)
  have p1 := c_peek (m := min l tp) (k := k) ha k0 (by omega) m8 (by omega)
  have p2 := c_peek (m := min l tp) (k := k + 1) ha (by omega) (by omega) m8 (by omega)
  have h1 := m_here (l := l) (tp := tp) (k := k) hb k0 l0 l1 t0 t1 (by omega) hn n1
  have h2 := m_here (l := l) (tp := tp) (k := k + 1) hb (by omega) l0 l1 t0 t1 (by omega) hn n1
  have d1 := m_dig x.1 x.2
  have d2 := m_dig y.1 y.2
  have i1 : hk T (min l tp) k ≠ -1 → k < min l tp := fun z => by
    by_cases w : k < min l tp
    · exact w
    · exact absurd (if_neg w) z
  have i2 : hk T (min l tp) (k + 1) ≠ -1 → k + 1 < min l tp := fun z => by
    by_cases w : k + 1 < min l tp
    · exact w
    · exact absurd (if_neg w) z
  obtain ⟨X, hX⟩ : ∃ X, hk T (min l tp) k = X := ⟨_, rfl⟩
  obtain ⟨Y, hY⟩ : ∃ Y, hk T (min l tp) (k + 1) = Y := ⟨_, rfl⟩
  rw [hX] at x p1 h1 d1 i1
  rw [hY] at y p2 h2 d2 i2
  unfold fX6_takeNumber fX6_takeDigit
  rw [show FU = 3998 + 1 + 1 from rfl]
  by_cases q1 : dg X
  · have q1' := q1
    unfold dg at q1'
    have s1 : sb X = X := sb_lo (by omega)
    have z1 := d1.1 q1
    rw [s1] at z1
    by_cases q2 : dg Y
    · have q2' := q2
      unfold dg at q2'
      have s2 : sb Y = Y := sb_lo (by omega)
      have z2 := d2.1 q2
      rw [s2] at z2
      refine ⟨10 * (X - 48) + (Y - 48), k + 2, ?_, Or.inr ⟨by omega, by omega, by omega, by omega, by have := i2 (by omega); omega, fun lo hi lo0 lh hi1 => ?_⟩⟩
      · simp (disch := omega) only [gd_t, so_some, so_bind, so_gd, so_none, Option.bind_some, iI_add, iI_sub, iI_mul, iI_neg, iI_clamp, iI_nat, vin_i, iI_le, iI_lt, iI_eq, mn_i, mx_i, if_true, if_false, if_pos, if_neg, li_0, li_1, li_2, li_3, li_4, li_5, li_6, li_7, li_8, li_9, li_10, li_11, li_12, li_14, li_15, li_16, li_20, li_21, li_24, li_28, li_30, li_31, li_40, li_41, li_42, li_43, li_44, li_45, li_47, li_48, li_49, li_57, li_59, li_60, li_61, li_62, li_63, li_70, li_71, li_76, li_80, li_96, li_97, li_98, li_99, li_100, li_101, li_102, li_103, li_104, li_105, li_106, li_107, li_108, li_109, li_110, li_111, li_112, li_113, li_114, li_115, li_116, li_117, li_118, li_119, li_120, li_128, li_142, li_255, li_320, li_781, li_852, li_999, li_1000, li_2000, li_3000, li_9999, li_12345, li_65536, li_1000000, li_252645135, li_858993459, li_1103515245, li_1431655765, p1]
        rw [fX6_takeNumber_L10]
        unfold fX6_takeDigit
        simp (disch := omega) only [gd_t, so_some, so_bind, so_gd, so_none, Option.bind_some, iI_add, iI_sub, iI_mul, iI_neg, iI_clamp, iI_nat, vin_i, iI_le, iI_lt, iI_eq, mn_i, mx_i, if_true, if_false, if_pos, if_neg, li_0, li_1, li_2, li_3, li_4, li_5, li_6, li_7, li_8, li_9, li_10, li_11, li_12, li_14, li_15, li_16, li_20, li_21, li_24, li_28, li_30, li_31, li_40, li_41, li_42, li_43, li_44, li_45, li_47, li_48, li_49, li_57, li_59, li_60, li_61, li_62, li_63, li_70, li_71, li_76, li_80, li_96, li_97, li_98, li_99, li_100, li_101, li_102, li_103, li_104, li_105, li_106, li_107, li_108, li_109, li_110, li_111, li_112, li_113, li_114, li_115, li_116, li_117, li_118, li_119, li_120, li_128, li_142, li_255, li_320, li_781, li_852, li_999, li_1000, li_2000, li_3000, li_9999, li_12345, li_65536, li_1000000, li_252645135, li_858993459, li_1103515245, li_1431655765, p2]
        rw [fX6_takeNumber_L10]
        simp (disch := omega) only [gd_t, so_some, so_bind, so_gd, so_none, Option.bind_some, iI_add, iI_sub, iI_mul, iI_neg, iI_clamp, iI_nat, vin_i, iI_le, iI_lt, iI_eq, mn_i, mx_i, if_true, if_false, if_pos, if_neg, li_0, li_1, li_2, li_3, li_4, li_5, li_6, li_7, li_8, li_9, li_10, li_11, li_12, li_14, li_15, li_16, li_20, li_21, li_24, li_28, li_30, li_31, li_40, li_41, li_42, li_43, li_44, li_45, li_47, li_48, li_49, li_57, li_59, li_60, li_61, li_62, li_63, li_70, li_71, li_76, li_80, li_96, li_97, li_98, li_99, li_100, li_101, li_102, li_103, li_104, li_105, li_106, li_107, li_108, li_109, li_110, li_111, li_112, li_113, li_114, li_115, li_116, li_117, li_118, li_119, li_120, li_128, li_142, li_255, li_320, li_781, li_852, li_999, li_1000, li_2000, li_3000, li_9999, li_12345, li_65536, li_1000000, li_252645135, li_858993459, li_1103515245, li_1431655765, Sum.elim_inl]
        rw [show k + 1 + 1 = k + 2 by omega]
      · unfold fX12_number fX12_fine
        rw [show FU = 3997 + 1 + 1 + 1 from rfl, fX12_number_L18]
        simp (disch := omega) only [gd_t, so_some, so_bind, so_gd, so_none, Option.bind_some, iI_add, iI_sub, iI_mul, iI_neg, iI_clamp, iI_nat, vin_i, iI_le, iI_lt, iI_eq, mn_i, mx_i, if_true, if_false, if_pos, if_neg, li_0, li_1, li_2, li_3, li_4, li_5, li_6, li_7, li_8, li_9, li_10, li_11, li_12, li_14, li_15, li_16, li_20, li_21, li_24, li_28, li_30, li_31, li_40, li_41, li_42, li_43, li_44, li_45, li_47, li_48, li_49, li_57, li_59, li_60, li_61, li_62, li_63, li_70, li_71, li_76, li_80, li_96, li_97, li_98, li_99, li_100, li_101, li_102, li_103, li_104, li_105, li_106, li_107, li_108, li_109, li_110, li_111, li_112, li_113, li_114, li_115, li_116, li_117, li_118, li_119, li_120, li_128, li_142, li_255, li_320, li_781, li_852, li_999, li_1000, li_2000, li_3000, li_9999, li_12345, li_65536, li_1000000, li_252645135, li_858993459, li_1103515245, li_1431655765, h1, s1, z1]
        rw [fX12_number_L18]
        simp (disch := omega) only [gd_t, so_some, so_bind, so_gd, so_none, Option.bind_some, iI_add, iI_sub, iI_mul, iI_neg, iI_clamp, iI_nat, vin_i, iI_le, iI_lt, iI_eq, mn_i, mx_i, if_true, if_false, if_pos, if_neg, li_0, li_1, li_2, li_3, li_4, li_5, li_6, li_7, li_8, li_9, li_10, li_11, li_12, li_14, li_15, li_16, li_20, li_21, li_24, li_28, li_30, li_31, li_40, li_41, li_42, li_43, li_44, li_45, li_47, li_48, li_49, li_57, li_59, li_60, li_61, li_62, li_63, li_70, li_71, li_76, li_80, li_96, li_97, li_98, li_99, li_100, li_101, li_102, li_103, li_104, li_105, li_106, li_107, li_108, li_109, li_110, li_111, li_112, li_113, li_114, li_115, li_116, li_117, li_118, li_119, li_120, li_128, li_142, li_255, li_320, li_781, li_852, li_999, li_1000, li_2000, li_3000, li_9999, li_12345, li_65536, li_1000000, li_252645135, li_858993459, li_1103515245, li_1431655765, h2, s2, z2]
        rw [fX12_number_L18]
        simp (disch := omega) only [gd_t, so_some, so_bind, so_gd, so_none, Option.bind_some, iI_add, iI_sub, iI_mul, iI_neg, iI_clamp, iI_nat, vin_i, iI_le, iI_lt, iI_eq, mn_i, mx_i, if_true, if_false, if_pos, if_neg, li_0, li_1, li_2, li_3, li_4, li_5, li_6, li_7, li_8, li_9, li_10, li_11, li_12, li_14, li_15, li_16, li_20, li_21, li_24, li_28, li_30, li_31, li_40, li_41, li_42, li_43, li_44, li_45, li_47, li_48, li_49, li_57, li_59, li_60, li_61, li_62, li_63, li_70, li_71, li_76, li_80, li_96, li_97, li_98, li_99, li_100, li_101, li_102, li_103, li_104, li_105, li_106, li_107, li_108, li_109, li_110, li_111, li_112, li_113, li_114, li_115, li_116, li_117, li_118, li_119, li_120, li_128, li_142, li_255, li_320, li_781, li_852, li_999, li_1000, li_2000, li_3000, li_9999, li_12345, li_65536, li_1000000, li_252645135, li_858993459, li_1103515245, li_1431655765]
        rw [show 10 * (10 * 0 + X - 48) + Y - 48 = 10 * (X - 48) + (Y - 48) by omega, show k + 1 + 1 = k + 2 by omega]
        exact m_num_end (k' := k + 2) (v := 10 * (X - 48) + (Y - 48)) (by omega) k0 (by omega) (by omega) (by omega) (by omega) lo0 hi1 lh
    · refine ⟨X - 48, k + 1, ?_, Or.inr ⟨by omega, by omega, by omega, by omega, by have := i1 (by omega); omega, fun lo hi lo0 lh hi1 => ?_⟩⟩
      · simp (disch := omega) only [gd_t, so_some, so_bind, so_gd, so_none, Option.bind_some, iI_add, iI_sub, iI_mul, iI_neg, iI_clamp, iI_nat, vin_i, iI_le, iI_lt, iI_eq, mn_i, mx_i, if_true, if_false, if_pos, if_neg, li_0, li_1, li_2, li_3, li_4, li_5, li_6, li_7, li_8, li_9, li_10, li_11, li_12, li_14, li_15, li_16, li_20, li_21, li_24, li_28, li_30, li_31, li_40, li_41, li_42, li_43, li_44, li_45, li_47, li_48, li_49, li_57, li_59, li_60, li_61, li_62, li_63, li_70, li_71, li_76, li_80, li_96, li_97, li_98, li_99, li_100, li_101, li_102, li_103, li_104, li_105, li_106, li_107, li_108, li_109, li_110, li_111, li_112, li_113, li_114, li_115, li_116, li_117, li_118, li_119, li_120, li_128, li_142, li_255, li_320, li_781, li_852, li_999, li_1000, li_2000, li_3000, li_9999, li_12345, li_65536, li_1000000, li_252645135, li_858993459, li_1103515245, li_1431655765, p1]
        rw [fX6_takeNumber_L10]
        unfold fX6_takeDigit
        unfold dg at q2
        by_cases q3 : Y - 48 < 0
        · simp (disch := omega) only [gd_t, so_some, so_bind, so_gd, so_none, Option.bind_some, iI_add, iI_sub, iI_mul, iI_neg, iI_clamp, iI_nat, vin_i, iI_le, iI_lt, iI_eq, mn_i, mx_i, if_true, if_false, if_pos, if_neg, li_0, li_1, li_2, li_3, li_4, li_5, li_6, li_7, li_8, li_9, li_10, li_11, li_12, li_14, li_15, li_16, li_20, li_21, li_24, li_28, li_30, li_31, li_40, li_41, li_42, li_43, li_44, li_45, li_47, li_48, li_49, li_57, li_59, li_60, li_61, li_62, li_63, li_70, li_71, li_76, li_80, li_96, li_97, li_98, li_99, li_100, li_101, li_102, li_103, li_104, li_105, li_106, li_107, li_108, li_109, li_110, li_111, li_112, li_113, li_114, li_115, li_116, li_117, li_118, li_119, li_120, li_128, li_142, li_255, li_320, li_781, li_852, li_999, li_1000, li_2000, li_3000, li_9999, li_12345, li_65536, li_1000000, li_252645135, li_858993459, li_1103515245, li_1431655765, p2, Sum.elim_inr]
        · simp (disch := omega) only [gd_t, so_some, so_bind, so_gd, so_none, Option.bind_some, iI_add, iI_sub, iI_mul, iI_neg, iI_clamp, iI_nat, vin_i, iI_le, iI_lt, iI_eq, mn_i, mx_i, if_true, if_false, if_pos, if_neg, li_0, li_1, li_2, li_3, li_4, li_5, li_6, li_7, li_8, li_9, li_10, li_11, li_12, li_14, li_15, li_16, li_20, li_21, li_24, li_28, li_30, li_31, li_40, li_41, li_42, li_43, li_44, li_45, li_47, li_48, li_49, li_57, li_59, li_60, li_61, li_62, li_63, li_70, li_71, li_76, li_80, li_96, li_97, li_98, li_99, li_100, li_101, li_102, li_103, li_104, li_105, li_106, li_107, li_108, li_109, li_110, li_111, li_112, li_113, li_114, li_115, li_116, li_117, li_118, li_119, li_120, li_128, li_142, li_255, li_320, li_781, li_852, li_999, li_1000, li_2000, li_3000, li_9999, li_12345, li_65536, li_1000000, li_252645135, li_858993459, li_1103515245, li_1431655765, p2, Sum.elim_inr]
      · unfold fX12_number fX12_fine
        rw [show FU = 3998 + 1 + 1 from rfl, fX12_number_L18]
        simp (disch := omega) only [gd_t, so_some, so_bind, so_gd, so_none, Option.bind_some, iI_add, iI_sub, iI_mul, iI_neg, iI_clamp, iI_nat, vin_i, iI_le, iI_lt, iI_eq, mn_i, mx_i, if_true, if_false, if_pos, if_neg, li_0, li_1, li_2, li_3, li_4, li_5, li_6, li_7, li_8, li_9, li_10, li_11, li_12, li_14, li_15, li_16, li_20, li_21, li_24, li_28, li_30, li_31, li_40, li_41, li_42, li_43, li_44, li_45, li_47, li_48, li_49, li_57, li_59, li_60, li_61, li_62, li_63, li_70, li_71, li_76, li_80, li_96, li_97, li_98, li_99, li_100, li_101, li_102, li_103, li_104, li_105, li_106, li_107, li_108, li_109, li_110, li_111, li_112, li_113, li_114, li_115, li_116, li_117, li_118, li_119, li_120, li_128, li_142, li_255, li_320, li_781, li_852, li_999, li_1000, li_2000, li_3000, li_9999, li_12345, li_65536, li_1000000, li_252645135, li_858993459, li_1103515245, li_1431655765, h1, s1, z1]
        rw [fX12_number_L18]
        simp (disch := omega) only [gd_t, so_some, so_bind, so_gd, so_none, Option.bind_some, iI_add, iI_sub, iI_mul, iI_neg, iI_clamp, iI_nat, vin_i, iI_le, iI_lt, iI_eq, mn_i, mx_i, if_true, if_false, if_pos, if_neg, li_0, li_1, li_2, li_3, li_4, li_5, li_6, li_7, li_8, li_9, li_10, li_11, li_12, li_14, li_15, li_16, li_20, li_21, li_24, li_28, li_30, li_31, li_40, li_41, li_42, li_43, li_44, li_45, li_47, li_48, li_49, li_57, li_59, li_60, li_61, li_62, li_63, li_70, li_71, li_76, li_80, li_96, li_97, li_98, li_99, li_100, li_101, li_102, li_103, li_104, li_105, li_106, li_107, li_108, li_109, li_110, li_111, li_112, li_113, li_114, li_115, li_116, li_117, li_118, li_119, li_120, li_128, li_142, li_255, li_320, li_781, li_852, li_999, li_1000, li_2000, li_3000, li_9999, li_12345, li_65536, li_1000000, li_252645135, li_858993459, li_1103515245, li_1431655765, h2, d2.2 q2]
        rw [show 10 * 0 + X - 48 = X - 48 by omega]
        exact m_num_end (k' := k + 1) (v := X - 48) (by omega) k0 (by omega) (by omega) (by omega) (by omega) lo0 hi1 lh
  · refine ⟨-1, k, ?_, Or.inl ⟨rfl, rfl, fun lo hi => ?_⟩⟩
    · have q1' := q1
      unfold dg at q1'
      by_cases q3 : X - 48 < 0
      · simp (disch := omega) only [gd_t, so_some, so_bind, so_gd, so_none, Option.bind_some, iI_add, iI_sub, iI_mul, iI_neg, iI_clamp, iI_nat, vin_i, iI_le, iI_lt, iI_eq, mn_i, mx_i, if_true, if_false, if_pos, if_neg, li_0, li_1, li_2, li_3, li_4, li_5, li_6, li_7, li_8, li_9, li_10, li_11, li_12, li_14, li_15, li_16, li_20, li_21, li_24, li_28, li_30, li_31, li_40, li_41, li_42, li_43, li_44, li_45, li_47, li_48, li_49, li_57, li_59, li_60, li_61, li_62, li_63, li_70, li_71, li_76, li_80, li_96, li_97, li_98, li_99, li_100, li_101, li_102, li_103, li_104, li_105, li_106, li_107, li_108, li_109, li_110, li_111, li_112, li_113, li_114, li_115, li_116, li_117, li_118, li_119, li_120, li_128, li_142, li_255, li_320, li_781, li_852, li_999, li_1000, li_2000, li_3000, li_9999, li_12345, li_65536, li_1000000, li_252645135, li_858993459, li_1103515245, li_1431655765, p1]
        rw [fX6_takeNumber_L10]
        simp (disch := omega) only [gd_t, so_some, so_bind, so_gd, so_none, Option.bind_some, iI_add, iI_sub, iI_mul, iI_neg, iI_clamp, iI_nat, vin_i, iI_le, iI_lt, iI_eq, mn_i, mx_i, if_true, if_false, if_pos, if_neg, li_0, li_1, li_2, li_3, li_4, li_5, li_6, li_7, li_8, li_9, li_10, li_11, li_12, li_14, li_15, li_16, li_20, li_21, li_24, li_28, li_30, li_31, li_40, li_41, li_42, li_43, li_44, li_45, li_47, li_48, li_49, li_57, li_59, li_60, li_61, li_62, li_63, li_70, li_71, li_76, li_80, li_96, li_97, li_98, li_99, li_100, li_101, li_102, li_103, li_104, li_105, li_106, li_107, li_108, li_109, li_110, li_111, li_112, li_113, li_114, li_115, li_116, li_117, li_118, li_119, li_120, li_128, li_142, li_255, li_320, li_781, li_852, li_999, li_1000, li_2000, li_3000, li_9999, li_12345, li_65536, li_1000000, li_252645135, li_858993459, li_1103515245, li_1431655765, Sum.elim_inl]
      · simp (disch := omega) only [gd_t, so_some, so_bind, so_gd, so_none, Option.bind_some, iI_add, iI_sub, iI_mul, iI_neg, iI_clamp, iI_nat, vin_i, iI_le, iI_lt, iI_eq, mn_i, mx_i, if_true, if_false, if_pos, if_neg, li_0, li_1, li_2, li_3, li_4, li_5, li_6, li_7, li_8, li_9, li_10, li_11, li_12, li_14, li_15, li_16, li_20, li_21, li_24, li_28, li_30, li_31, li_40, li_41, li_42, li_43, li_44, li_45, li_47, li_48, li_49, li_57, li_59, li_60, li_61, li_62, li_63, li_70, li_71, li_76, li_80, li_96, li_97, li_98, li_99, li_100, li_101, li_102, li_103, li_104, li_105, li_106, li_107, li_108, li_109, li_110, li_111, li_112, li_113, li_114, li_115, li_116, li_117, li_118, li_119, li_120, li_128, li_142, li_255, li_320, li_781, li_852, li_999, li_1000, li_2000, li_3000, li_9999, li_12345, li_65536, li_1000000, li_252645135, li_858993459, li_1103515245, li_1431655765, p1]
        rw [fX6_takeNumber_L10]
        simp (disch := omega) only [gd_t, so_some, so_bind, so_gd, so_none, Option.bind_some, iI_add, iI_sub, iI_mul, iI_neg, iI_clamp, iI_nat, vin_i, iI_le, iI_lt, iI_eq, mn_i, mx_i, if_true, if_false, if_pos, if_neg, li_0, li_1, li_2, li_3, li_4, li_5, li_6, li_7, li_8, li_9, li_10, li_11, li_12, li_14, li_15, li_16, li_20, li_21, li_24, li_28, li_30, li_31, li_40, li_41, li_42, li_43, li_44, li_45, li_47, li_48, li_49, li_57, li_59, li_60, li_61, li_62, li_63, li_70, li_71, li_76, li_80, li_96, li_97, li_98, li_99, li_100, li_101, li_102, li_103, li_104, li_105, li_106, li_107, li_108, li_109, li_110, li_111, li_112, li_113, li_114, li_115, li_116, li_117, li_118, li_119, li_120, li_128, li_142, li_255, li_320, li_781, li_852, li_999, li_1000, li_2000, li_3000, li_9999, li_12345, li_65536, li_1000000, li_252645135, li_858993459, li_1103515245, li_1431655765, Sum.elim_inl]
    · unfold fX12_number fX12_fine
      rw [show FU = 3999 + 1 from rfl, fX12_number_L18]
      simp (disch := omega) only [gd_t, so_some, so_bind, so_gd, so_none, Option.bind_some, iI_add, iI_sub, iI_mul, iI_neg, iI_clamp, iI_nat, vin_i, iI_le, iI_lt, iI_eq, mn_i, mx_i, if_true, if_false, if_pos, if_neg, li_0, li_1, li_2, li_3, li_4, li_5, li_6, li_7, li_8, li_9, li_10, li_11, li_12, li_14, li_15, li_16, li_20, li_21, li_24, li_28, li_30, li_31, li_40, li_41, li_42, li_43, li_44, li_45, li_47, li_48, li_49, li_57, li_59, li_60, li_61, li_62, li_63, li_70, li_71, li_76, li_80, li_96, li_97, li_98, li_99, li_100, li_101, li_102, li_103, li_104, li_105, li_106, li_107, li_108, li_109, li_110, li_111, li_112, li_113, li_114, li_115, li_116, li_117, li_118, li_119, li_120, li_128, li_142, li_255, li_320, li_781, li_852, li_999, li_1000, li_2000, li_3000, li_9999, li_12345, li_65536, li_1000000, li_252645135, li_858993459, li_1103515245, li_1431655765, h1, d1.2 q1]
      exact m_num_0 k0 (by omega)
theorem nm_g {n : Nat} {T : Int → Int} (hT : ∀ i, 0 ≤ T i ∧ T i ≤ 255) {l tp k lo hi : Int} {a b : Nat → Int32} (ha : Arr 80 a T) (hb : Arr n b (fun i => sb (T i))) (k0 : 0 ≤ k) (l0 : 0 ≤ l) (l1 : l ≤ 1000) (t0 : 0 ≤ tp) (t1 : tp ≤ 1000) (k1 : k < 900) (hn : min l tp ≤ n) (n1 : n ≤ 1000) (m8 : min l tp ≤ 80) (lo0 : 0 ≤ lo) (lh : lo ≤ hi) (hi9 : hi ≤ 9) :
    ∃ v k' : Int, fX6_takeDigit (iI k) (iI (min l tp)) a (iI lo) (iI hi) = some (iI v, iI k') ∧
      ((v = -1 ∧ k' = k ∧ ¬ (lo ≤ hk T (min l tp) k - 48 ∧ hk T (min l tp) k - 48 ≤ hi) ∧ ∃ at' : Int, 0 ≤ at' ∧ at' < 1000 ∧ fX12_number n (iI l) (iI tp) (iI k) (iI (-1)) b (iI 1) (iI lo) (iI hi) = some (iI 0, iI at', iI k)) ∨
       (lo ≤ v ∧ v ≤ hi ∧ k' = k + 1 ∧ k' ≤ min l tp ∧ (lo ≤ hk T (min l tp) k - 48 ∧ hk T (min l tp) k - 48 ≤ hi) ∧ fX12_number n (iI l) (iI tp) (iI k) (iI (-1)) b (iI 1) (iI lo) (iI hi) = some (iI v, iI k', iI (-1)))) := by
  have x := hk_b hT (min l tp) k
  have p1 := c_peek (m := min l tp) (k := k) ha k0 (by omega) m8 (by omega)
  have h1 := m_here (l := l) (tp := tp) (k := k) hb k0 l0 l1 t0 t1 (by omega) hn n1
  have d1 := m_dig x.1 x.2
  have i1 : hk T (min l tp) k ≠ -1 → k < min l tp := fun z => by
    by_cases w : k < min l tp
    · exact w
    · exact absurd (if_neg w) z
  obtain ⟨X, hX⟩ : ∃ X, hk T (min l tp) k = X := ⟨_, rfl⟩
  rw [hX] at x p1 h1 d1 i1
  rw [hX]
  have md : dg X → fX12_number n (iI l) (iI tp) (iI k) (iI (-1)) b (iI 1) (iI lo) (iI hi) = if lo ≤ X - 48 ∧ X - 48 ≤ hi then some (iI (X - 48), iI (k + 1), iI (-1)) else some (iI 0, iI (k + 1), iI (k + 1 - 1)) := fun q1 => by
    have q1' := q1
    unfold dg at q1'
    have s1 : sb X = X := sb_lo (by omega)
    have z1 := d1.1 q1
    rw [s1] at z1
    unfold fX12_number fX12_fine
    rw [show FU = 3998 + 1 + 1 from rfl, fX12_number_L18]
    simp (disch := omega) only [gd_t, so_some, so_bind, so_gd, so_none, Option.bind_some, iI_add, iI_sub, iI_mul, iI_neg, iI_clamp, iI_nat, vin_i, iI_le, iI_lt, iI_eq, mn_i, mx_i, if_true, if_false, if_pos, if_neg, li_0, li_1, li_2, li_3, li_4, li_5, li_6, li_7, li_8, li_9, li_10, li_11, li_12, li_14, li_15, li_16, li_20, li_21, li_24, li_28, li_30, li_31, li_40, li_41, li_42, li_43, li_44, li_45, li_47, li_48, li_49, li_57, li_59, li_60, li_61, li_62, li_63, li_70, li_71, li_76, li_80, li_96, li_97, li_98, li_99, li_100, li_101, li_102, li_103, li_104, li_105, li_106, li_107, li_108, li_109, li_110, li_111, li_112, li_113, li_114, li_115, li_116, li_117, li_118, li_119, li_120, li_128, li_142, li_255, li_320, li_781, li_852, li_999, li_1000, li_2000, li_3000, li_9999, li_12345, li_65536, li_1000000, li_252645135, li_858993459, li_1103515245, li_1431655765, h1, s1, z1]
    rw [fX12_number_L18]
    simp (disch := omega) only [gd_t, so_some, so_bind, so_gd, so_none, Option.bind_some, iI_add, iI_sub, iI_mul, iI_neg, iI_clamp, iI_nat, vin_i, iI_le, iI_lt, iI_eq, mn_i, mx_i, if_true, if_false, if_pos, if_neg, li_0, li_1, li_2, li_3, li_4, li_5, li_6, li_7, li_8, li_9, li_10, li_11, li_12, li_14, li_15, li_16, li_20, li_21, li_24, li_28, li_30, li_31, li_40, li_41, li_42, li_43, li_44, li_45, li_47, li_48, li_49, li_57, li_59, li_60, li_61, li_62, li_63, li_70, li_71, li_76, li_80, li_96, li_97, li_98, li_99, li_100, li_101, li_102, li_103, li_104, li_105, li_106, li_107, li_108, li_109, li_110, li_111, li_112, li_113, li_114, li_115, li_116, li_117, li_118, li_119, li_120, li_128, li_142, li_255, li_320, li_781, li_852, li_999, li_1000, li_2000, li_3000, li_9999, li_12345, li_65536, li_1000000, li_252645135, li_858993459, li_1103515245, li_1431655765]
    rw [show 10 * 0 + X - 48 = X - 48 by omega]
    exact m_num_end (k' := k + 1) (v := X - 48) (by omega) k0 (by omega) (by omega) (by omega) (by omega) (by omega) (by omega) (by omega)
  unfold fX6_takeDigit
  by_cases q1 : dg X
  · have q1' := q1
    unfold dg at q1'
    by_cases q6 : lo ≤ X - 48 ∧ X - 48 ≤ hi
    · refine ⟨X - 48, k + 1, ?_, Or.inr ⟨q6.1, q6.2, rfl, by have := i1 (by omega); omega, q6, ?_⟩⟩
      · simp (disch := omega) only [gd_t, so_some, so_bind, so_gd, so_none, Option.bind_some, iI_add, iI_sub, iI_mul, iI_neg, iI_clamp, iI_nat, vin_i, iI_le, iI_lt, iI_eq, mn_i, mx_i, if_true, if_false, if_pos, if_neg, li_0, li_1, li_2, li_3, li_4, li_5, li_6, li_7, li_8, li_9, li_10, li_11, li_12, li_14, li_15, li_16, li_20, li_21, li_24, li_28, li_30, li_31, li_40, li_41, li_42, li_43, li_44, li_45, li_47, li_48, li_49, li_57, li_59, li_60, li_61, li_62, li_63, li_70, li_71, li_76, li_80, li_96, li_97, li_98, li_99, li_100, li_101, li_102, li_103, li_104, li_105, li_106, li_107, li_108, li_109, li_110, li_111, li_112, li_113, li_114, li_115, li_116, li_117, li_118, li_119, li_120, li_128, li_142, li_255, li_320, li_781, li_852, li_999, li_1000, li_2000, li_3000, li_9999, li_12345, li_65536, li_1000000, li_252645135, li_858993459, li_1103515245, li_1431655765, p1]
      · rw [md q1, if_pos q6]
    · refine ⟨-1, k, ?_, Or.inl ⟨rfl, rfl, q6, k + 1, by omega, by omega, ?_⟩⟩
      · by_cases q3 : X - 48 < lo
        · simp (disch := omega) only [gd_t, so_some, so_bind, so_gd, so_none, Option.bind_some, iI_add, iI_sub, iI_mul, iI_neg, iI_clamp, iI_nat, vin_i, iI_le, iI_lt, iI_eq, mn_i, mx_i, if_true, if_false, if_pos, if_neg, li_0, li_1, li_2, li_3, li_4, li_5, li_6, li_7, li_8, li_9, li_10, li_11, li_12, li_14, li_15, li_16, li_20, li_21, li_24, li_28, li_30, li_31, li_40, li_41, li_42, li_43, li_44, li_45, li_47, li_48, li_49, li_57, li_59, li_60, li_61, li_62, li_63, li_70, li_71, li_76, li_80, li_96, li_97, li_98, li_99, li_100, li_101, li_102, li_103, li_104, li_105, li_106, li_107, li_108, li_109, li_110, li_111, li_112, li_113, li_114, li_115, li_116, li_117, li_118, li_119, li_120, li_128, li_142, li_255, li_320, li_781, li_852, li_999, li_1000, li_2000, li_3000, li_9999, li_12345, li_65536, li_1000000, li_252645135, li_858993459, li_1103515245, li_1431655765, p1]
        · simp (disch := omega) only [gd_t, so_some, so_bind, so_gd, so_none, Option.bind_some, iI_add, iI_sub, iI_mul, iI_neg, iI_clamp, iI_nat, vin_i, iI_le, iI_lt, iI_eq, mn_i, mx_i, if_true, if_false, if_pos, if_neg, li_0, li_1, li_2, li_3, li_4, li_5, li_6, li_7, li_8, li_9, li_10, li_11, li_12, li_14, li_15, li_16, li_20, li_21, li_24, li_28, li_30, li_31, li_40, li_41, li_42, li_43, li_44, li_45, li_47, li_48, li_49, li_57, li_59, li_60, li_61, li_62, li_63, li_70, li_71, li_76, li_80, li_96, li_97, li_98, li_99, li_100, li_101, li_102, li_103, li_104, li_105, li_106, li_107, li_108, li_109, li_110, li_111, li_112, li_113, li_114, li_115, li_116, li_117, li_118, li_119, li_120, li_128, li_142, li_255, li_320, li_781, li_852, li_999, li_1000, li_2000, li_3000, li_9999, li_12345, li_65536, li_1000000, li_252645135, li_858993459, li_1103515245, li_1431655765, p1]
      · rw [md q1, if_neg q6, show k + 1 - 1 = k by omega]
  · have q1' := q1
    unfold dg at q1'
    refine ⟨-1, k, ?_, Or.inl ⟨rfl, rfl, by omega, k, k0, by omega, ?_⟩⟩
    · by_cases q3 : X - 48 < lo
      · simp (disch := omega) only [gd_t, so_some, so_bind, so_gd, so_none, Option.bind_some, iI_add, iI_sub, iI_mul, iI_neg, iI_clamp, iI_nat, vin_i, iI_le, iI_lt, iI_eq, mn_i, mx_i, if_true, if_false, if_pos, if_neg, li_0, li_1, li_2, li_3, li_4, li_5, li_6, li_7, li_8, li_9, li_10, li_11, li_12, li_14, li_15, li_16, li_20, li_21, li_24, li_28, li_30, li_31, li_40, li_41, li_42, li_43, li_44, li_45, li_47, li_48, li_49, li_57, li_59, li_60, li_61, li_62, li_63, li_70, li_71, li_76, li_80, li_96, li_97, li_98, li_99, li_100, li_101, li_102, li_103, li_104, li_105, li_106, li_107, li_108, li_109, li_110, li_111, li_112, li_113, li_114, li_115, li_116, li_117, li_118, li_119, li_120, li_128, li_142, li_255, li_320, li_781, li_852, li_999, li_1000, li_2000, li_3000, li_9999, li_12345, li_65536, li_1000000, li_252645135, li_858993459, li_1103515245, li_1431655765, p1]
      · simp (disch := omega) only [gd_t, so_some, so_bind, so_gd, so_none, Option.bind_some, iI_add, iI_sub, iI_mul, iI_neg, iI_clamp, iI_nat, vin_i, iI_le, iI_lt, iI_eq, mn_i, mx_i, if_true, if_false, if_pos, if_neg, li_0, li_1, li_2, li_3, li_4, li_5, li_6, li_7, li_8, li_9, li_10, li_11, li_12, li_14, li_15, li_16, li_20, li_21, li_24, li_28, li_30, li_31, li_40, li_41, li_42, li_43, li_44, li_45, li_47, li_48, li_49, li_57, li_59, li_60, li_61, li_62, li_63, li_70, li_71, li_76, li_80, li_96, li_97, li_98, li_99, li_100, li_101, li_102, li_103, li_104, li_105, li_106, li_107, li_108, li_109, li_110, li_111, li_112, li_113, li_114, li_115, li_116, li_117, li_118, li_119, li_120, li_128, li_142, li_255, li_320, li_781, li_852, li_999, li_1000, li_2000, li_3000, li_9999, li_12345, li_65536, li_1000000, li_252645135, li_858993459, li_1103515245, li_1431655765, p1]
    · unfold fX12_number fX12_fine
      rw [show FU = 3999 + 1 from rfl, fX12_number_L18]
      simp (disch := omega) only [gd_t, so_some, so_bind, so_gd, so_none, Option.bind_some, iI_add, iI_sub, iI_mul, iI_neg, iI_clamp, iI_nat, vin_i, iI_le, iI_lt, iI_eq, mn_i, mx_i, if_true, if_false, if_pos, if_neg, li_0, li_1, li_2, li_3, li_4, li_5, li_6, li_7, li_8, li_9, li_10, li_11, li_12, li_14, li_15, li_16, li_20, li_21, li_24, li_28, li_30, li_31, li_40, li_41, li_42, li_43, li_44, li_45, li_47, li_48, li_49, li_57, li_59, li_60, li_61, li_62, li_63, li_70, li_71, li_76, li_80, li_96, li_97, li_98, li_99, li_100, li_101, li_102, li_103, li_104, li_105, li_106, li_107, li_108, li_109, li_110, li_111, li_112, li_113, li_114, li_115, li_116, li_117, li_118, li_119, li_120, li_128, li_142, li_255, li_320, li_781, li_852, li_999, li_1000, li_2000, li_3000, li_9999, li_12345, li_65536, li_1000000, li_252645135, li_858993459, li_1103515245, li_1431655765, h1, d1.2 q1]
      exact m_num_0 k0 (by omega)
theorem nm_1 {n : Nat} {T : Int → Int} (hT : ∀ i, 0 ≤ T i ∧ T i ≤ 255) {l tp k : Int} {a b : Nat → Int32} (ha : Arr 80 a T) (hb : Arr n b (fun i => sb (T i))) (k0 : 0 ≤ k) (l0 : 0 ≤ l) (l1 : l ≤ 1000) (t0 : 0 ≤ tp) (t1 : tp ≤ 1000) (k1 : k < 900) (hn : min l tp ≤ n) (n1 : n ≤ 1000) (m8 : min l tp ≤ 80) :
    ∃ v k' : Int, fX6_takeDigit (iI k) (iI (min l tp)) a (iI 0) (iI 6) = some (iI v, iI k') ∧
      ((v = -1 ∧ k' = k ∧ ∃ at' : Int, 0 ≤ at' ∧ at' < 1000 ∧ fX12_number n (iI l) (iI tp) (iI k) (iI (-1)) b (iI 1) (iI 0) (iI 6) = some (iI 0, iI at', iI k)) ∨
       (0 ≤ v ∧ v ≤ 6 ∧ k' = k + 1 ∧ k' ≤ min l tp ∧ fX12_number n (iI l) (iI tp) (iI k) (iI (-1)) b (iI 1) (iI 0) (iI 6) = some (iI v, iI k', iI (-1)))) := by
  obtain ⟨v, k', e1, e2⟩ := nm_g hT ha hb k0 l0 l1 t0 t1 k1 hn n1 m8 (lo := 0) (hi := 6) (by omega) (by omega) (by omega)
  refine ⟨v, k', e1, ?_⟩
  rcases e2 with ⟨h1, h2, -, h3⟩ | ⟨h1, h2, h3, h4, -, h5⟩
  · exact Or.inl ⟨h1, h2, h3⟩
  · exact Or.inr ⟨h1, h2, h3, h4, h5⟩
theorem c_take {T : Int → Int} (hT : ∀ i, 0 ≤ T i ∧ T i ≤ 255) {m k c : Int} {a : Nat → Int32} (ha : Arr 80 a T) (k0 : 0 ≤ k) (m0 : 0 ≤ m) (m1 : m ≤ 80) (k1 : k < 1000) (c0 : 0 ≤ c) (c1 : c < 128) : fX6_take (iI k) (iI m) a (iI c) = if hk T m k = c then some (iI 1, iI (k + 1)) else some (iI 0, iI k) := by
  have b := hk_b hT m k
  unfold fX6_take
  rw [c_peek ha k0 m0 m1 k1]
  by_cases q : hk T m k = c
  · rw [if_pos q]
    simp (disch := omega) only [gd_t, so_some, so_bind, so_gd, so_none, Option.bind_some, iI_add, iI_sub, iI_mul, iI_neg, iI_clamp, iI_nat, vin_i, iI_le, iI_lt, iI_eq, mn_i, mx_i, if_true, if_false, if_pos, if_neg, li_0, li_1, li_2, li_3, li_4, li_5, li_6, li_7, li_8, li_9, li_10, li_11, li_12, li_14, li_15, li_16, li_20, li_21, li_24, li_28, li_30, li_31, li_40, li_41, li_42, li_43, li_44, li_45, li_47, li_48, li_49, li_57, li_59, li_60, li_61, li_62, li_63, li_70, li_71, li_76, li_80, li_96, li_97, li_98, li_99, li_100, li_101, li_102, li_103, li_104, li_105, li_106, li_107, li_108, li_109, li_110, li_111, li_112, li_113, li_114, li_115, li_116, li_117, li_118, li_119, li_120, li_128, li_142, li_255, li_320, li_781, li_852, li_999, li_1000, li_2000, li_3000, li_9999, li_12345, li_65536, li_1000000, li_252645135, li_858993459, li_1103515245, li_1431655765]
  · rw [if_neg q]
    simp (disch := omega) only [gd_t, so_some, so_bind, so_gd, so_none, Option.bind_some, iI_add, iI_sub, iI_mul, iI_neg, iI_clamp, iI_nat, vin_i, iI_le, iI_lt, iI_eq, mn_i, mx_i, if_true, if_false, if_pos, if_neg, li_0, li_1, li_2, li_3, li_4, li_5, li_6, li_7, li_8, li_9, li_10, li_11, li_12, li_14, li_15, li_16, li_20, li_21, li_24, li_28, li_30, li_31, li_40, li_41, li_42, li_43, li_44, li_45, li_47, li_48, li_49, li_57, li_59, li_60, li_61, li_62, li_63, li_70, li_71, li_76, li_80, li_96, li_97, li_98, li_99, li_100, li_101, li_102, li_103, li_104, li_105, li_106, li_107, li_108, li_109, li_110, li_111, li_112, li_113, li_114, li_115, li_116, li_117, li_118, li_119, li_120, li_128, li_142, li_255, li_320, li_781, li_852, li_999, li_1000, li_2000, li_3000, li_9999, li_12345, li_65536, li_1000000, li_252645135, li_858993459, li_1103515245, li_1431655765]
theorem hk_lt {T : Int → Int} {m k c : Int} (c0 : 0 ≤ c) (h : hk T m k = c) : k < m := by
  by_cases w : k < m
  · exact w
  · rw [hk, if_neg w] at h; omega
