theorem arr_e {k : Int} {p : Nat → Int32} {F : Int → Int} (hp : Arr k p F) (k0 : 0 ≤ k) (v : Int) : Arr (k + 1) (upd p k.toNat (iI v)) (upI F k v) := fun x x0 x1 => by
  by_cases q : x = k
  · rw [q, upI_s, upd, if_pos rfl]
  · rw [upI_o _ q, upd, if_neg (by omega)]
    exact hp.at x0 (by omega)
/-- houses that come -/
def Cm (h n : Int) (comes : Nat → Int32) (Ho Be Hy : Int → Int) : Prop := ∀ j, 0 ≤ j → j < n → comes (4 * j).toNat = iI (Ho (h + j)) ∧ comes (4 * j + 1).toNat = iI (Be (2 * (h + j))) ∧ comes (4 * j + 2).toNat = iI (Be (2 * (h + j) + 1)) ∧ comes (4 * j + 3).toNat = iI (Hy (h + j))
def Gd (h' h : Int) (Ho Be Hy Ho0 Be0 Hy0 : Int → Int) : Prop := (∀ i, 0 ≤ i → i < h' → (1 ≤ Ho i ∧ Ho i ≤ 99) ∧ 0 ≤ Hy i ∧ Hy i ≤ 30) ∧ (∀ s, 0 ≤ s → s < 2 * h' → 0 ≤ Be s ∧ Be s ≤ 6) ∧ (∀ i, 0 ≤ i → i < h → Ho i = Ho0 i ∧ Hy i = Hy0 i) ∧ ∀ s, 0 ≤ s → s < 2 * h → Be s = Be0 s
theorem s_town_L {T : Int → Int} (hT : ∀ i, 0 ≤ T i ∧ T i ≤ 255) {l h : Int} {a b : Nat → Int32} (ha : Arr 80 a T) (hb : Arr 80 b (fun i => sb (T i))) (l0 : 0 ≤ l) (l1 : l ≤ 80) (h0 : 0 ≤ h) {Ho0 Be0 Hy0 : Int → Int} :
    ∀ (m : Nat) (n k : Int) (f : Nat) (hold below hay comes : Nat → Int32) (Ho Be Hy : Int → Int), 0 ≤ n → h + n + m = 7 → m + 2 < f → 0 ≤ k → k ≤ 100 → Arr (h + n) hold Ho → Arr (2 * (h + n)) below Be → Arr (h + n) hay Hy → Cm h n comes Ho Be Hy → Gd (h + n) h Ho Be Hy Ho0 Be0 Hy0 →
    So (fX7_read_L20 (iI l) a (iI h) (iI (min l 76)) f (iI (h + n)) hold below hay (iI k)) (fun o => So (fX12_town_L37 b (iI h) (iI l) (iI 76) f (iI n) (iI 1) (iI k) (iI (-1)) comes) (fun p =>
      (∃ w : Int, 0 ≤ w ∧ w < 1000 ∧ ((∃ x, o = Sum.inl x ∧ x.2.2.2 = iI w ∧ Arr h x.1 Ho0 ∧ Arr (2 * h) x.2.1 Be0 ∧ Arr h x.2.2.1 Hy0) ∨ (∃ y, o = Sum.inr y ∧ y.1 = iI (-1 - w) ∧ y.2.1 = iI h ∧ Arr h y.2.2.1 Ho0 ∧ Arr (2 * h) y.2.2.2.1 Be0 ∧ Arr h y.2.2.2.2.1 Hy0)) ∧ (p.2.2.1 = iI w ∨ (p.2.2.1 = iI (-1) ∧ p.2.1 = iI w ∧ w < l))) ∨
      (∃ (n' : Int) (Ho' Be' Hy' : Int → Int) (y : Int32 × Int32 × (Nat → Int32) × (Nat → Int32) × (Nat → Int32) × Int32 × Int32), 1 ≤ n' ∧ h + n' ≤ 7 ∧ o = Sum.inr y ∧ y.1 = iI n' ∧ y.2.1 = iI (h + n') ∧ Arr (h + n') y.2.2.1 Ho' ∧ Arr (2 * (h + n')) y.2.2.2.1 Be' ∧ Arr (h + n') y.2.2.2.2.1 Hy' ∧ Gd (h + n') h Ho' Be' Hy' Ho0 Be0 Hy0 ∧ p.1 = iI n' ∧ p.2.1 = iI l ∧ p.2.2.1 = iI (-1) ∧ Cm h n' p.2.2.2 Ho' Be' Hy')))
  | 0, n, k, f + 2, hold, below, hay, comes, Ho, Be, Hy, n0, hn, hf, k0, k1, hd1, hd2, hd3, C, Gn => by
    have fi : fX12_fine (iI (-1)) = some (iI 1) := rfl
    have fin0 : ∀ (h n : Int) (f : Nat) (p w : Int32) (c : Nat → Int32), fX12_town_L37 b (iI h) (iI l) (iI 76) (f + 1) (iI n) (iI 0) p w c = some (iI n, p, w, c) := by
      intro h n f p w c
      rw [fX12_town_L37, if_pos (by decide)]
    rw [fX7_read_L20, fX12_town_L37]
    simp (disch := omega) only [gd_t, so_some, so_bind, so_gd, so_none, Option.bind_some, iI_add, iI_sub, iI_mul, iI_neg, iI_clamp, iI_nat, vin_i, iI_le, iI_lt, iI_eq, mn_i, mx_i, if_true, if_false, if_pos, if_neg, li_0, li_1, li_2, li_3, li_4, li_5, li_6, li_7, li_8, li_9, li_10, li_11, li_12, li_14, li_15, li_16, li_20, li_21, li_24, li_28, li_30, li_31, li_40, li_41, li_42, li_43, li_44, li_45, li_47, li_48, li_49, li_57, li_59, li_60, li_61, li_62, li_63, li_70, li_71, li_76, li_80, li_96, li_97, li_98, li_99, li_100, li_101, li_102, li_103, li_104, li_105, li_106, li_107, li_108, li_109, li_110, li_111, li_112, li_113, li_114, li_115, li_116, li_117, li_118, li_119, li_120, li_128, li_142, li_255, li_320, li_781, li_852, li_999, li_1000, li_2000, li_3000, li_9999, li_12345, li_65536, li_1000000, li_252645135, li_858993459, li_1103515245, li_1431655765, fi, m_fault_t, m_passes_f k0 (show k < 1000 by omega), fin0]
    refine Or.inl ⟨k, k0, by omega, Or.inl ⟨_, rfl, rfl, ?_, ?_, ?_⟩, Or.inl (by first | rfl | trivial)⟩
    · exact (hd1.le (by omega)).congr (fun x x0 x1 => (Gn.2.2.1 x x0 x1).1)
    · exact (hd2.le (by omega)).congr (fun x x0 x1 => Gn.2.2.2 x x0 x1)
    · exact (hd3.le (by omega)).congr (fun x x0 x1 => (Gn.2.2.1 x x0 x1).2)
  | m + 1, n, k, f + 2, hold, below, hay, comes, Ho, Be, Hy, n0, hn, hf, k0, k1, hd1, hd2, hd3, C, Gn => by
    have fin0 : ∀ (h n : Int) (f : Nat) (p w : Int32) (c : Nat → Int32), fX12_town_L37 b (iI h) (iI l) (iI 76) (f + 1) (iI n) (iI 0) p w c = some (iI n, p, w, c) := by
      intro h n f p w c
      rw [fX12_town_L37, if_pos (by decide)]
    rcases tw_line hT ha hb k0 k1 l0 l1 with ⟨w, w0, w1, e1, e2⟩ | ⟨v, x, y, s, k', v0, x0, y0, s0, kk, km, e1, e2⟩
    · obtain ⟨at', comes', e2⟩ := e2 h n f comes n0 h0 (by omega)
      rw [fX7_read_L20, e2]
      unfold fX6_fault
      simp (disch := omega) only [gd_t, so_some, so_bind, so_gd, so_none, Option.bind_some, iI_add, iI_sub, iI_mul, iI_neg, iI_clamp, iI_nat, vin_i, iI_le, iI_lt, iI_eq, mn_i, mx_i, if_true, if_false, if_pos, if_neg, li_0, li_1, li_2, li_3, li_4, li_5, li_6, li_7, li_8, li_9, li_10, li_11, li_12, li_14, li_15, li_16, li_20, li_21, li_24, li_28, li_30, li_31, li_40, li_41, li_42, li_43, li_44, li_45, li_47, li_48, li_49, li_57, li_59, li_60, li_61, li_62, li_63, li_70, li_71, li_76, li_80, li_96, li_97, li_98, li_99, li_100, li_101, li_102, li_103, li_104, li_105, li_106, li_107, li_108, li_109, li_110, li_111, li_112, li_113, li_114, li_115, li_116, li_117, li_118, li_119, li_120, li_128, li_142, li_255, li_320, li_781, li_852, li_999, li_1000, li_2000, li_3000, li_9999, li_12345, li_65536, li_1000000, li_252645135, li_858993459, li_1103515245, li_1431655765, e1]
      refine Or.inl ⟨w, w0, w1, Or.inr ⟨_, rfl, rfl, rfl, ?_, ?_, ?_⟩, Or.inl (by first | rfl | trivial)⟩
      · exact (hd1.le (by omega)).congr (fun x x0 x1 => (Gn.2.2.1 x x0 x1).1)
      · exact (hd2.le (by omega)).congr (fun x x0 x1 => Gn.2.2.2 x x0 x1)
      · exact (hd3.le (by omega)).congr (fun x x0 x1 => (Gn.2.2.1 x x0 x1).2)
    · have E1 := e1 hold below hay (h + n) (by omega) (by omega)
      have E2 := e2 h n (f + 1) comes n0 h0 (by omega)
      have t59 := c_take hT (m := min l 76) (k := k') (c := 59) ha (by omega) (by omega) (by omega) (by omega) (by omega) (by omega)
      have p59 := m_passes (n := 80) hT (l := l) (tp := 76) (k := k') (c := 59) hb (by omega) (by omega) (by omega) (by omega) (by omega) (by omega) (by omega) (by omega) (by omega) (by omega)
      have d1 := arr_e hd1 (by omega) v
      have d3 := arr_e hd3 (by omega) s
      have d2a := arr_e hd2 (by omega) x
      have d2 := arr_e d2a (by omega) y
      rw [show 2 * (h + n) + 1 + 1 = 2 * (h + (n + 1)) by omega] at d2
      rw [show h + n + 1 = h + (n + 1) by omega] at d1 d3
      have C2 : Cm h (n + 1) (upd (upd (upd (upd comes (4 * n).toNat (iI v)) (4 * n + 1).toNat (iI x)) (4 * n + 2).toNat (iI y)) (4 * n + 3).toNat (iI s)) (upI Ho (h + n) v) (upI (upI Be (2 * (h + n)) x) (2 * (h + n) + 1) y) (upI Hy (h + n) s) := fun j j0 j1 => by
        by_cases w : j = n
        · subst w
          refine ⟨?_, ?_, ?_, ?_⟩
          · rw [upd, if_neg (by omega), upd, if_neg (by omega), upd, if_neg (by omega), upd, if_pos rfl, upI_s]
          · rw [upd, if_neg (by omega), upd, if_neg (by omega), upd, if_pos rfl, upI_o _ (by omega), upI_s]
          · rw [upd, if_neg (by omega), upd, if_pos rfl, upI_s]
          · rw [upd, if_pos rfl, upI_s]
        · obtain ⟨c1, c2, c3, c4⟩ := C j j0 (by omega)
          refine ⟨?_, ?_, ?_, ?_⟩
          · rw [upd, if_neg (by omega), upd, if_neg (by omega), upd, if_neg (by omega), upd, if_neg (by omega), upI_o _ (by omega)]; exact c1
          · rw [upd, if_neg (by omega), upd, if_neg (by omega), upd, if_neg (by omega), upd, if_neg (by omega), upI_o _ (by omega), upI_o _ (by omega)]; exact c2
          · rw [upd, if_neg (by omega), upd, if_neg (by omega), upd, if_neg (by omega), upd, if_neg (by omega), upI_o _ (by omega), upI_o _ (by omega)]; exact c3
          · rw [upd, if_neg (by omega), upd, if_neg (by omega), upd, if_neg (by omega), upd, if_neg (by omega), upI_o _ (by omega)]; exact c4
      have G2 : Gd (h + (n + 1)) h (upI Ho (h + n) v) (upI (upI Be (2 * (h + n)) x) (2 * (h + n) + 1) y) (upI Hy (h + n) s) Ho0 Be0 Hy0 := by
        refine ⟨fun i i0 i1 => ?_, fun t t0 t1 => ?_, fun i i0 i1 => ?_, fun t t0 t1 => ?_⟩
        · by_cases w : i = h + n
          · rw [w, upI_s, upI_s]; omega
          · rw [upI_o _ w, upI_o _ w]; exact Gn.1 i i0 (by omega)
        · by_cases w : t = 2 * (h + n) + 1
          · rw [w, upI_s]; omega
          · rw [upI_o _ w]
            by_cases w2 : t = 2 * (h + n)
            · rw [w2, upI_s]; omega
            · rw [upI_o _ w2]; exact Gn.2.1 t t0 (by omega)
        · rw [upI_o _ (by omega), upI_o _ (by omega)]; exact Gn.2.2.1 i i0 i1
        · rw [upI_o _ (by omega), upI_o _ (by omega)]; exact Gn.2.2.2 t t0 t1
      rw [fX7_read_L20, E2]
      unfold fX6_isThrough fX6_fault fX7_growTo
      by_cases q : hk T (min l 76) k' = 59
      · have b1 := hk_lt (by omega) q
        rw [if_pos q] at t59 p59
        simp (disch := omega) only [gd_t, so_some, so_bind, so_gd, so_none, Option.bind_some, iI_add, iI_sub, iI_mul, iI_neg, iI_clamp, iI_nat, vin_i, iI_le, iI_lt, iI_eq, mn_i, mx_i, if_true, if_false, if_pos, if_neg, li_0, li_1, li_2, li_3, li_4, li_5, li_6, li_7, li_8, li_9, li_10, li_11, li_12, li_14, li_15, li_16, li_20, li_21, li_24, li_28, li_30, li_31, li_40, li_41, li_42, li_43, li_44, li_45, li_47, li_48, li_49, li_57, li_59, li_60, li_61, li_62, li_63, li_70, li_71, li_76, li_80, li_96, li_97, li_98, li_99, li_100, li_101, li_102, li_103, li_104, li_105, li_106, li_107, li_108, li_109, li_110, li_111, li_112, li_113, li_114, li_115, li_116, li_117, li_118, li_119, li_120, li_128, li_142, li_255, li_320, li_781, li_852, li_999, li_1000, li_2000, li_3000, li_9999, li_12345, li_65536, li_1000000, li_252645135, li_858993459, li_1103515245, li_1431655765, E1, t59, p59]
        rw [show h + n + 1 = h + (n + 1) by omega]
        exact s_town_L hT ha hb l0 l1 h0 m (n + 1) (k' + 1) (f + 1) _ _ _ _ _ _ _ (by omega) (by omega) (by omega) (by omega) (by omega) d1 d2 d3 C2 G2
      · rw [if_neg q] at t59 p59
        by_cases q2 : k' = l
        · simp (disch := omega) only [gd_t, so_some, so_bind, so_gd, so_none, Option.bind_some, iI_add, iI_sub, iI_mul, iI_neg, iI_clamp, iI_nat, vin_i, iI_le, iI_lt, iI_eq, mn_i, mx_i, if_true, if_false, if_pos, if_neg, li_0, li_1, li_2, li_3, li_4, li_5, li_6, li_7, li_8, li_9, li_10, li_11, li_12, li_14, li_15, li_16, li_20, li_21, li_24, li_28, li_30, li_31, li_40, li_41, li_42, li_43, li_44, li_45, li_47, li_48, li_49, li_57, li_59, li_60, li_61, li_62, li_63, li_70, li_71, li_76, li_80, li_96, li_97, li_98, li_99, li_100, li_101, li_102, li_103, li_104, li_105, li_106, li_107, li_108, li_109, li_110, li_111, li_112, li_113, li_114, li_115, li_116, li_117, li_118, li_119, li_120, li_128, li_142, li_255, li_320, li_781, li_852, li_999, li_1000, li_2000, li_3000, li_9999, li_12345, li_65536, li_1000000, li_252645135, li_858993459, li_1103515245, li_1431655765, E1, t59, p59, fin0]
          refine Or.inr ⟨n + 1, _, _, _, _, by omega, by omega, rfl, by rw [show h + n + 1 - h = n + 1 by omega], by rw [show h + n + 1 = h + (n + 1) by omega], d1, d2, d3, G2, (by first | rfl | trivial), by rw [q2], (by first | rfl | trivial), C2⟩
        · simp (disch := omega) only [gd_t, so_some, so_bind, so_gd, so_none, Option.bind_some, iI_add, iI_sub, iI_mul, iI_neg, iI_clamp, iI_nat, vin_i, iI_le, iI_lt, iI_eq, mn_i, mx_i, if_true, if_false, if_pos, if_neg, li_0, li_1, li_2, li_3, li_4, li_5, li_6, li_7, li_8, li_9, li_10, li_11, li_12, li_14, li_15, li_16, li_20, li_21, li_24, li_28, li_30, li_31, li_40, li_41, li_42, li_43, li_44, li_45, li_47, li_48, li_49, li_57, li_59, li_60, li_61, li_62, li_63, li_70, li_71, li_76, li_80, li_96, li_97, li_98, li_99, li_100, li_101, li_102, li_103, li_104, li_105, li_106, li_107, li_108, li_109, li_110, li_111, li_112, li_113, li_114, li_115, li_116, li_117, li_118, li_119, li_120, li_128, li_142, li_255, li_320, li_781, li_852, li_999, li_1000, li_2000, li_3000, li_9999, li_12345, li_65536, li_1000000, li_252645135, li_858993459, li_1103515245, li_1431655765, E1, t59, p59, fin0]
          refine Or.inl ⟨k', by omega, by omega, Or.inr ⟨_, rfl, rfl, rfl, ?_, ?_, ?_⟩, Or.inr ⟨(by first | rfl | trivial), (by first | rfl | trivial), by omega⟩⟩
          · exact (d1.le (by omega)).congr (fun x x0 x1 => (G2.2.2.1 x x0 x1).1)
          · exact (d2.le (by omega)).congr (fun x x0 x1 => G2.2.2.2 x x0 x1)
          · exact (d3.le (by omega)).congr (fun x x0 x1 => (G2.2.2.1 x x0 x1).2)
theorem m_town_c {h n : Int} (h0 : 0 ≤ h) (h7 : h + n ≤ 7) {comes : Nat → Int32} {Ho Be Hy : Int → Int} (C : Cm h n comes Ho Be Hy) : ∀ (m : Nat) (j : Int) (f : Nat) (hold below hay : Nat → Int32), 0 ≤ j → j + m = n → m < f → Arr (h + j) hold Ho → Arr (2 * (h + j)) below Be → Arr (h + j) hay Hy →
    So (fX12_town_L207 (iI n) comes f (iI j) (iI (h + j)) hold below hay) (fun o => o.1 = iI (h + n) ∧ Arr (h + n) o.2.1 Ho ∧ Arr (2 * (h + n)) o.2.2.1 Be ∧ Arr (h + n) o.2.2.2 Hy)
  | 0, j, f + 1, hold, below, hay, j0, hj, hf, d1, d2, d3 => by
    rw [fX12_town_L207]
    simp (disch := omega) only [gd_t, so_some, so_bind, so_gd, so_none, Option.bind_some, iI_add, iI_sub, iI_mul, iI_neg, iI_clamp, iI_nat, vin_i, iI_le, iI_lt, iI_eq, mn_i, mx_i, if_true, if_false, if_pos, if_neg, li_0, li_1, li_2, li_3, li_4, li_5, li_6, li_7, li_8, li_9, li_10, li_11, li_12, li_14, li_15, li_16, li_20, li_21, li_24, li_28, li_30, li_31, li_40, li_41, li_42, li_43, li_44, li_45, li_47, li_48, li_49, li_57, li_59, li_60, li_61, li_62, li_63, li_70, li_71, li_76, li_80, li_96, li_97, li_98, li_99, li_100, li_101, li_102, li_103, li_104, li_105, li_106, li_107, li_108, li_109, li_110, li_111, li_112, li_113, li_114, li_115, li_116, li_117, li_118, li_119, li_120, li_128, li_142, li_255, li_320, li_781, li_852, li_999, li_1000, li_2000, li_3000, li_9999, li_12345, li_65536, li_1000000, li_252645135, li_858993459, li_1103515245, li_1431655765]
    have : j = n := by omega
    subst this
    exact ⟨(by first | rfl | trivial), d1, d2, d3⟩
  | m + 1, j, f + 1, hold, below, hay, j0, hj, hf, d1, d2, d3 => by
    obtain ⟨c1, c2, c3, c4⟩ := C j j0 (by omega)
    rw [fX12_town_L207]
    simp (disch := omega) only [gd_t, so_some, so_bind, so_gd, so_none, Option.bind_some, iI_add, iI_sub, iI_mul, iI_neg, iI_clamp, iI_nat, vin_i, iI_le, iI_lt, iI_eq, mn_i, mx_i, if_true, if_false, if_pos, if_neg, li_0, li_1, li_2, li_3, li_4, li_5, li_6, li_7, li_8, li_9, li_10, li_11, li_12, li_14, li_15, li_16, li_20, li_21, li_24, li_28, li_30, li_31, li_40, li_41, li_42, li_43, li_44, li_45, li_47, li_48, li_49, li_57, li_59, li_60, li_61, li_62, li_63, li_70, li_71, li_76, li_80, li_96, li_97, li_98, li_99, li_100, li_101, li_102, li_103, li_104, li_105, li_106, li_107, li_108, li_109, li_110, li_111, li_112, li_113, li_114, li_115, li_116, li_117, li_118, li_119, li_120, li_128, li_142, li_255, li_320, li_781, li_852, li_999, li_1000, li_2000, li_3000, li_9999, li_12345, li_65536, li_1000000, li_252645135, li_858993459, li_1103515245, li_1431655765, c1, c2, c3, c4]
    have e1 := arr_ext d1 (by omega)
    have e3 := arr_ext d3 (by omega)
    have e2 := arr_ext (arr_ext d2 (by omega)) (by omega)
    rw [show 2 * (h + j) + 1 + 1 = 2 * (h + (j + 1)) by omega] at e2
    rw [show h + j + 1 = h + (j + 1) by omega] at e1 e3
    rw [show h + j + 1 = h + (j + 1) by omega]
    exact m_town_c h0 h7 C m (j + 1) f _ _ _ (by omega) (by omega) (by omega) e1 e2 e3
theorem s_town {n : Int} {σ : CS} {τ : MS} (h : R n σ τ) (hn : n < 1000) : Ok n (x_town σ) (y_town τ) := by
  obtain ⟨n0, g, c, m, G⟩ := h
  obtain ⟨c1, c2, c3, c4, c5, c6, c7, c8, c9⟩ := c
  obtain ⟨m1, m2, m3, m4, m5, m6, m7, m8, m9⟩ := m
  have e := G.1.1
  have hS := G.2.2.1
  have a7 := hS.2.2
  have g6 := G.2.2.2.2.2.1
  have hmn : mn (iI g.2.2.2.2.2.2.2.1) (iI 76) = iI (min g.2.2.2.2.2.2.2.1 76) := mn_i (by omega) (by omega) (by omega) (by omega)
  have em : ∀ {σ' : CS} {τ' : MS}, RC ((g.1, g.2.1, g.2.2.1, g.2.2.2.1, g.2.2.2.2.1, g.2.2.2.2.2.1, g.2.2.2.2.2.2.1, 0, g.2.2.2.2.2.2.2.2.1, g.2.2.2.2.2.2.2.2.2.1, g.2.2.2.2.2.2.2.2.2.2.1, g.2.2.2.2.2.2.2.2.2.2.2.1, g.2.2.2.2.2.2.2.2.2.2.2.2.1, g.2.2.2.2.2.2.2.2.2.2.2.2.2.1, g.2.2.2.2.2.2.2.2.2.2.2.2.2.2.1, g.2.2.2.2.2.2.2.2.2.2.2.2.2.2.2) : GH) σ' → RM ((g.1, g.2.1, g.2.2.1, g.2.2.2.1, g.2.2.2.2.1, g.2.2.2.2.2.1, g.2.2.2.2.2.2.1, 0, g.2.2.2.2.2.2.2.2.1, g.2.2.2.2.2.2.2.2.2.1, g.2.2.2.2.2.2.2.2.2.2.1, g.2.2.2.2.2.2.2.2.2.2.2.1, g.2.2.2.2.2.2.2.2.2.2.2.2.1, g.2.2.2.2.2.2.2.2.2.2.2.2.2.1, g.2.2.2.2.2.2.2.2.2.2.2.2.2.2.1, g.2.2.2.2.2.2.2.2.2.2.2.2.2.2.2) : GH) τ' → R (n + 1) σ' τ' := by
    intro σ' τ' c m
    obtain ⟨h1, h2, h3, h4, h5, h6, h7, h8, h9⟩ := G.mono (show n ≤ n + 1 by omega)
    exact ⟨by omega, _, c, m, h1, h2, h3, h4, h5, ⟨Int.le_refl 0, by show (0 : Int) ≤ 80; omega, h6.2.2⟩, h7, h8, h9⟩
  unfold Ok x_town y_town fX11_town fX12_town fX7_read fX6_open fX6_empty fX6_isThrough fX12_begin
  rw [c1.1, c6.2, m1.1, m6.2]
  simp only [li_0, li_76, hmn, Option.bind_some]
  by_cases q0 : g.2.2.2.2.2.2.2.1 = 0
  · rw [q0]
    simp (disch := omega) only [gd_t, so_some, so_bind, so_gd, so_none, Option.bind_some, iI_add, iI_sub, iI_mul, iI_neg, iI_clamp, iI_nat, vin_i, iI_le, iI_lt, iI_eq, mn_i, mx_i, if_true, if_false, if_pos, if_neg, li_0, li_1, li_2, li_3, li_4, li_5, li_6, li_7, li_8, li_9, li_10, li_11, li_12, li_14, li_15, li_16, li_20, li_21, li_24, li_28, li_30, li_31, li_40, li_41, li_42, li_43, li_44, li_45, li_47, li_48, li_49, li_57, li_59, li_60, li_61, li_62, li_63, li_70, li_71, li_76, li_80, li_96, li_97, li_98, li_99, li_100, li_101, li_102, li_103, li_104, li_105, li_106, li_107, li_108, li_109, li_110, li_111, li_112, li_113, li_114, li_115, li_116, li_117, li_118, li_119, li_120, li_128, li_142, li_255, li_320, li_781, li_852, li_999, li_1000, li_2000, li_3000, li_9999, li_12345, li_65536, li_1000000, li_252645135, li_858993459, li_1103515245, li_1431655765]
    exact ⟨(by first | rfl | trivial), em ⟨⟨rfl, c1.2⟩, c2, c3, c4, c5, ⟨c6.1, rfl⟩, c7, c8, c9⟩ ⟨⟨rfl, m1.2⟩, m2, m3, m4, m5, ⟨m6.1, rfl⟩, m7, m8, m9⟩⟩
  · simp (disch := omega) only [gd_t, so_some, so_bind, so_gd, so_none, Option.bind_some, iI_add, iI_sub, iI_mul, iI_neg, iI_clamp, iI_nat, vin_i, iI_le, iI_lt, iI_eq, mn_i, mx_i, if_true, if_false, if_pos, if_neg, li_0, li_1, li_2, li_3, li_4, li_5, li_6, li_7, li_8, li_9, li_10, li_11, li_12, li_14, li_15, li_16, li_20, li_21, li_24, li_28, li_30, li_31, li_40, li_41, li_42, li_43, li_44, li_45, li_47, li_48, li_49, li_57, li_59, li_60, li_61, li_62, li_63, li_70, li_71, li_76, li_80, li_96, li_97, li_98, li_99, li_100, li_101, li_102, li_103, li_104, li_105, li_106, li_107, li_108, li_109, li_110, li_111, li_112, li_113, li_114, li_115, li_116, li_117, li_118, li_119, li_120, li_128, li_142, li_255, li_320, li_781, li_852, li_999, li_1000, li_2000, li_3000, li_9999, li_12345, li_65536, li_1000000, li_252645135, li_858993459, li_1103515245, li_1431655765]
    have gE := G.1
    have K := s_town_L g6.2.2 c6.1 m6.1 g6.1 g6.2.1 e.1 (Ho0 := g.1.2.1) (Be0 := g.1.2.2.1) (Hy0 := g.2.1) (7 - g.1.1).toNat 0 0 FU (σ.2.1 28) (σ.2.1 26) (σ.2.1 27) (τ.2.1 5) _ _ _ (by omega) (by omega) (show _ < 4000 by omega) (by omega) (by omega) (by rw [Int.add_zero]; exact c1.2.1) (by rw [Int.add_zero]; exact c1.2.2.1) (by rw [Int.add_zero]; exact c2) (fun j j0 j1 => by omega) (by
      rw [Int.add_zero]
      exact ⟨fun i i0 i1 => ⟨gE.2.1 i i0 i1, G.2.1 i i0 i1⟩, fun s s0 s1 => gE.2.2.1 s s0 s1, fun _ _ _ => ⟨rfl, rfl⟩, fun _ _ _ => rfl⟩)
    rw [Int.add_zero] at K
    refine so_mono K ?_
    rintro o ⟨p, hp, ho⟩
    simp only [hp, so_some, so_bind]
    rcases ho with ⟨w, w0, w1, ho, hw⟩ | ⟨n', Ho', Be', Hy', y, n1, n7, rfl, y1, y2, y3, y4, y5, Gn, p1, p2, p3, Cn⟩
    · have mJ : So (fX12_town_J172 p.1 (iI g.1.1) (iI 0) (iI 0) (iI g.2.2.2.2.2.2.2.1) (iI 76) p.2.1 p.2.2.1 (τ.1 23) (τ.1 8) p.2.2.2 (τ.2.1 7) (τ.2.1 2) (τ.2.1 6)) (fun r => r.1 = iI (-1 - w) ∧ ∃ z1 z2 z3 z4, r = (iI (-1 - w), iI g.1.1, iI 0, iI 0, 1, iI g.2.2.2.2.2.2.2.1, iI 76, z1, z2, (τ.1 23), (τ.1 8), z3, (τ.2.1 7), (τ.2.1 2), (τ.2.1 6)) ∧ z4 = z1) := by
        unfold fX12_town_J172 fX12_town_J191 fX12_fine
        rcases hw with hw | ⟨hw, hw2, hw3⟩
        · rw [hw, m_fault_f w0 w1]
          by_cases z : iI g.2.2.2.2.2.2.2.1 ≤ p.2.1
          · rw [if_pos z]
            simp (disch := omega) only [gd_t, so_some, so_bind, so_gd, so_none, Option.bind_some, iI_add, iI_sub, iI_mul, iI_neg, iI_clamp, iI_nat, vin_i, iI_le, iI_lt, iI_eq, mn_i, mx_i, if_true, if_false, if_pos, if_neg, li_0, li_1, li_2, li_3, li_4, li_5, li_6, li_7, li_8, li_9, li_10, li_11, li_12, li_14, li_15, li_16, li_20, li_21, li_24, li_28, li_30, li_31, li_40, li_41, li_42, li_43, li_44, li_45, li_47, li_48, li_49, li_57, li_59, li_60, li_61, li_62, li_63, li_70, li_71, li_76, li_80, li_96, li_97, li_98, li_99, li_100, li_101, li_102, li_103, li_104, li_105, li_106, li_107, li_108, li_109, li_110, li_111, li_112, li_113, li_114, li_115, li_116, li_117, li_118, li_119, li_120, li_128, li_142, li_255, li_320, li_781, li_852, li_999, li_1000, li_2000, li_3000, li_9999, li_12345, li_65536, li_1000000, li_252645135, li_858993459, li_1103515245, li_1431655765]
            exact ⟨(by first | rfl | trivial), _, _, _, _, rfl, rfl⟩
          · rw [if_neg z]
            simp (disch := omega) only [gd_t, so_some, so_bind, so_gd, so_none, Option.bind_some, iI_add, iI_sub, iI_mul, iI_neg, iI_clamp, iI_nat, vin_i, iI_le, iI_lt, iI_eq, mn_i, mx_i, if_true, if_false, if_pos, if_neg, li_0, li_1, li_2, li_3, li_4, li_5, li_6, li_7, li_8, li_9, li_10, li_11, li_12, li_14, li_15, li_16, li_20, li_21, li_24, li_28, li_30, li_31, li_40, li_41, li_42, li_43, li_44, li_45, li_47, li_48, li_49, li_57, li_59, li_60, li_61, li_62, li_63, li_70, li_71, li_76, li_80, li_96, li_97, li_98, li_99, li_100, li_101, li_102, li_103, li_104, li_105, li_106, li_107, li_108, li_109, li_110, li_111, li_112, li_113, li_114, li_115, li_116, li_117, li_118, li_119, li_120, li_128, li_142, li_255, li_320, li_781, li_852, li_999, li_1000, li_2000, li_3000, li_9999, li_12345, li_65536, li_1000000, li_252645135, li_858993459, li_1103515245, li_1431655765]
            exact ⟨(by first | rfl | trivial), _, _, _, _, rfl, rfl⟩
        · rw [hw, hw2, m_fault_t]
          simp (disch := omega) only [gd_t, so_some, so_bind, so_gd, so_none, Option.bind_some, iI_add, iI_sub, iI_mul, iI_neg, iI_clamp, iI_nat, vin_i, iI_le, iI_lt, iI_eq, mn_i, mx_i, if_true, if_false, if_pos, if_neg, li_0, li_1, li_2, li_3, li_4, li_5, li_6, li_7, li_8, li_9, li_10, li_11, li_12, li_14, li_15, li_16, li_20, li_21, li_24, li_28, li_30, li_31, li_40, li_41, li_42, li_43, li_44, li_45, li_47, li_48, li_49, li_57, li_59, li_60, li_61, li_62, li_63, li_70, li_71, li_76, li_80, li_96, li_97, li_98, li_99, li_100, li_101, li_102, li_103, li_104, li_105, li_106, li_107, li_108, li_109, li_110, li_111, li_112, li_113, li_114, li_115, li_116, li_117, li_118, li_119, li_120, li_128, li_142, li_255, li_320, li_781, li_852, li_999, li_1000, li_2000, li_3000, li_9999, li_12345, li_65536, li_1000000, li_252645135, li_858993459, li_1103515245, li_1431655765]
          exact ⟨(by first | rfl | trivial), _, _, _, _, rfl, rfl⟩
      obtain ⟨r, hr, r1, z1, z2, z3, z4, r2, -⟩ := mJ
      simp only [hr, so_some]
      rcases ho with ⟨x, rfl, x1, x2, x3, x4⟩ | ⟨x, rfl, x1, x5, x2, x3, x4⟩
      · unfold fX6_fault
        rw [Sum.elim_inl, x1]
        simp (disch := omega) only [gd_t, so_some, so_bind, so_gd, so_none, Option.bind_some, iI_add, iI_sub, iI_mul, iI_neg, iI_clamp, iI_nat, vin_i, iI_le, iI_lt, iI_eq, mn_i, mx_i, if_true, if_false, if_pos, if_neg, li_0, li_1, li_2, li_3, li_4, li_5, li_6, li_7, li_8, li_9, li_10, li_11, li_12, li_14, li_15, li_16, li_20, li_21, li_24, li_28, li_30, li_31, li_40, li_41, li_42, li_43, li_44, li_45, li_47, li_48, li_49, li_57, li_59, li_60, li_61, li_62, li_63, li_70, li_71, li_76, li_80, li_96, li_97, li_98, li_99, li_100, li_101, li_102, li_103, li_104, li_105, li_106, li_107, li_108, li_109, li_110, li_111, li_112, li_113, li_114, li_115, li_116, li_117, li_118, li_119, li_120, li_128, li_142, li_255, li_320, li_781, li_852, li_999, li_1000, li_2000, li_3000, li_9999, li_12345, li_65536, li_1000000, li_252645135, li_858993459, li_1103515245, li_1431655765]
        rw [r2]
        exact ⟨(by first | rfl | trivial), em ⟨⟨rfl, x2, x3, c1.2.2.2⟩, x4, c3, c4, c5, ⟨c6.1, rfl⟩, c7, c8, c9⟩ ⟨⟨rfl, m1.2⟩, m2, m3, m4, m5, ⟨m6.1, rfl⟩, m7, m8, m9⟩⟩
      · rw [Sum.elim_inr]
        simp only [so_some, x1]
        simp (disch := omega) only [gd_t, so_some, so_bind, so_gd, so_none, Option.bind_some, iI_add, iI_sub, iI_mul, iI_neg, iI_clamp, iI_nat, vin_i, iI_le, iI_lt, iI_eq, mn_i, mx_i, if_true, if_false, if_pos, if_neg, li_0, li_1, li_2, li_3, li_4, li_5, li_6, li_7, li_8, li_9, li_10, li_11, li_12, li_14, li_15, li_16, li_20, li_21, li_24, li_28, li_30, li_31, li_40, li_41, li_42, li_43, li_44, li_45, li_47, li_48, li_49, li_57, li_59, li_60, li_61, li_62, li_63, li_70, li_71, li_76, li_80, li_96, li_97, li_98, li_99, li_100, li_101, li_102, li_103, li_104, li_105, li_106, li_107, li_108, li_109, li_110, li_111, li_112, li_113, li_114, li_115, li_116, li_117, li_118, li_119, li_120, li_128, li_142, li_255, li_320, li_781, li_852, li_999, li_1000, li_2000, li_3000, li_9999, li_12345, li_65536, li_1000000, li_252645135, li_858993459, li_1103515245, li_1431655765]
        rw [r2]
        exact ⟨(by first | rfl | trivial), em ⟨⟨x5, x2, x3, c1.2.2.2⟩, x4, c3, c4, c5, ⟨c6.1, rfl⟩, c7, c8, c9⟩ ⟨⟨rfl, m1.2⟩, m2, m3, m4, m5, ⟨m6.1, rfl⟩, m7, m8, m9⟩⟩
    · unfold fX12_town_J172 fX12_town_J191 fX12_fine fX2_forget
      rw [Sum.elim_inr, p1, p2, p3]
      simp only [so_some, y1]
      simp (disch := omega) only [gd_t, so_some, so_bind, so_gd, so_none, Option.bind_some, iI_add, iI_sub, iI_mul, iI_neg, iI_clamp, iI_nat, vin_i, iI_le, iI_lt, iI_eq, mn_i, mx_i, if_true, if_false, if_pos, if_neg, li_0, li_1, li_2, li_3, li_4, li_5, li_6, li_7, li_8, li_9, li_10, li_11, li_12, li_14, li_15, li_16, li_20, li_21, li_24, li_28, li_30, li_31, li_40, li_41, li_42, li_43, li_44, li_45, li_47, li_48, li_49, li_57, li_59, li_60, li_61, li_62, li_63, li_70, li_71, li_76, li_80, li_96, li_97, li_98, li_99, li_100, li_101, li_102, li_103, li_104, li_105, li_106, li_107, li_108, li_109, li_110, li_111, li_112, li_113, li_114, li_115, li_116, li_117, li_118, li_119, li_120, li_128, li_142, li_255, li_320, li_781, li_852, li_999, li_1000, li_2000, li_3000, li_9999, li_12345, li_65536, li_1000000, li_252645135, li_858993459, li_1103515245, li_1431655765]
      have K2 := m_town_c e.1 n7 Cn n'.toNat 0 FU (τ.2.1 7) (τ.2.1 2) (τ.2.1 6) (by omega) (by omega) (show _ < 4000 by omega) (by rw [Int.add_zero]; exact m1.2.1.congr (fun i i0 i1 => (Gn.2.2.1 i i0 i1).1.symm)) (by rw [Int.add_zero]; exact m1.2.2.1.congr (fun i i0 i1 => (Gn.2.2.2 i i0 i1).symm)) (by rw [Int.add_zero]; exact m2.congr (fun i i0 i1 => (Gn.2.2.1 i i0 i1).2.symm))
      rw [Int.add_zero] at K2
      refine so_mono K2 ?_
      rintro t ⟨t1, t2, t3, t4⟩
      obtain ⟨h1, h2, h3, h4, h5, h6, h7, h8, h9⟩ := G.mono (show n ≤ n + 1 by omega)
      obtain ⟨nx, w3, w4, w5, -⟩ := c5.2.2.2
      have hc : HsC g.2.2.2.2.1 0 (iI 0) (σ.1 2) (σ.2.2.1 0) (σ.2.2.2 2) (σ.2.2.2 1) (σ.2.2.2 0) := ⟨by omega, by omega, rfl, nx, w3, w4, w5, fun j j0 j1 => by omega⟩
      have hm : HsM g.2.2.2.2.1 0 (iI 0) (τ.2.1 22) := ⟨by omega, by omega, rfl, fun j i j0 j1 => by omega⟩
      have zb : ∀ {A : Int → Int} {h h' : Int}, h ≤ h' → ZB h A → ZB h' A := fun hh Z => ⟨fun i i0 i1 => Z.1 i (by omega) i1, fun i i0 i1 => Z.2.1 i (by omega) i1, fun i j i0 i1 j0 j1 w => Z.2.2 i j i0 i1 j0 j1 (by omega)⟩
      have cme : (τ.1 8) + iI 1 = iI (g.2.2.2.2.2.2.2.2.2.2.2.2.1 + 1) := by rw [m8.2.2.1, iI_add]
      refine ⟨(by first | rfl | trivial), by omega, (((g.1.1 + n', Ho', Be', g.1.2.2.2), Hy', g.2.2.1, g.2.2.2.1, g.2.2.2.2.1, 0, g.2.2.2.2.2.2.1, 0, g.2.2.2.2.2.2.2.2.1, g.2.2.2.2.2.2.2.2.2.1, g.2.2.2.2.2.2.2.2.2.2.1, g.2.2.2.2.2.2.2.2.2.2.2.1, g.2.2.2.2.2.2.2.2.2.2.2.2.1 + 1, g.2.2.2.2.2.2.2.2.2.2.2.2.2.1, g.2.2.2.2.2.2.2.2.2.2.2.2.2.2.1, g.2.2.2.2.2.2.2.2.2.2.2.2.2.2.2) : GH), ⟨⟨y2, y3, y4, c1.2.2.2⟩, y5, c3, c4, hc, ⟨c6.1, rfl⟩, c7, c8, c9⟩, ⟨⟨t1, t2, t3, m1.2.2.2⟩, t4, m3, m4, hm, ⟨m6.1, rfl⟩, m7, ⟨m8.1, m8.2.1, cme, m8.2.2.2⟩, m9⟩, ⟨⟨by show 0 ≤ g.1.1 + n'; omega, n7⟩, fun i i0 i1 => (Gn.1 i i0 i1).1, fun s s0 s1 => Gn.2.1 s s0 s1, h1.2.2.2⟩, fun i i0 i1 => (Gn.1 i i0 i1).2, ⟨h3.1, zb (show g.1.1 ≤ g.1.1 + n' by omega) h3.2.1, h3.2.2⟩, h4, fun j j0 j1 => by have j1 : j < 0 := j1; omega, ⟨Int.le_refl 0, by show (0 : Int) ≤ 80; omega, h6.2.2⟩, h7, ⟨fun i i0 i1 => ?_, ?_, ?_⟩, ⟨h9.1, h9.2.1, fun k k0 k1 => ?_⟩⟩
      · rcases h8.1 i i0 i1 with z | ⟨z1, z2, z3, z4, z5, z6⟩
        · exact Or.inl z
        · refine Or.inr ⟨z1, ?_, z3, ?_, ⟨fun z => ?_, fun z => ?_⟩, z6⟩
          · show g.2.2.2.2.2.2.2.2.2.1 i ≤ g.1.1 + n'; omega
          · show g.2.2.2.2.2.2.2.2.2.2.2.1 i ≤ g.2.2.2.2.2.2.2.2.2.2.2.2.1 + 1; omega
          · have z : g.2.2.2.2.2.2.2.2.2.1 i = g.1.1 + n' := z
            omega
          · have z : g.2.2.2.2.2.2.2.2.2.2.2.1 i = g.2.2.2.2.2.2.2.2.2.2.2.2.1 + 1 := z
            omega
      · show 0 ≤ g.2.2.2.2.2.2.2.2.2.2.2.2.1 + 1; have := h8.2.1; omega
      · show g.2.2.2.2.2.2.2.2.2.2.2.2.1 + 1 ≤ n + 1; have := G.2.2.2.2.2.2.2.1.2.2; omega
      · have z := h9.2.2 k k0 k1
        refine ⟨⟨z.1.1, ?_⟩, z.2⟩
        show g.2.2.2.2.2.2.2.2.2.2.2.2.2.2.1 k < g.1.1 + n'
        omega
